section
-- ===== PART A: goes FIRST, ahead of the names: the tables' words, and 'selects' of the private methods out of them =====
/-- a private method of a class that the tables say can be made, by its rows of tables_1 -/
def lw_okq (q : MethodName × Nat) : Prop := (q.1.cls ≠ "java/lang/invoke/MethodHandle" ∧ q.1.cls ≠ "java/lang/invoke/VarHandle") ∧ Cond.instantiable q.1.cls q.2 ∈ tables_1 ∧ Cond.privateMethod q.1 ∈ tables_1 ∧ Cond.instanceMethod q.1 ∈ tables_1
theorem lw_p0 : lw_okq (⟨"DeltaCodec", "exchangeRows", "()V"⟩, 7) := ⟨⟨by decide +kernel, by decide +kernel⟩, List.mem_of_getElem? (i := 16) (by decide +kernel), List.mem_of_getElem? (i := 158) (by decide +kernel), List.mem_of_getElem? (i := 159) (by decide +kernel)⟩
theorem lw_p1 : lw_okq (⟨"DeltaCodec$Planner", "offerLengths", "(IIII)V"⟩, 8) := ⟨⟨by decide +kernel, by decide +kernel⟩, List.mem_of_getElem? (i := 68) (by decide +kernel), List.mem_of_getElem? (i := 209) (by decide +kernel), List.mem_of_getElem? (i := 210) (by decide +kernel)⟩
theorem lw_p2 : lw_okq (⟨"DeltaCodec$Planner", "offer", "(IIII)V"⟩, 8) := ⟨⟨by decide +kernel, by decide +kernel⟩, List.mem_of_getElem? (i := 68) (by decide +kernel), List.mem_of_getElem? (i := 213) (by decide +kernel), List.mem_of_getElem? (i := 214) (by decide +kernel)⟩
theorem lw_p3 : lw_okq (⟨"DeltaCodec$Planner", "offerPlaces", "(IIII)V"⟩, 8) := ⟨⟨by decide +kernel, by decide +kernel⟩, List.mem_of_getElem? (i := 68) (by decide +kernel), List.mem_of_getElem? (i := 223) (by decide +kernel), List.mem_of_getElem? (i := 224) (by decide +kernel)⟩
theorem lw_p4 : lw_okq (⟨"DeltaCodec$Planner", "listInstructions", "(ILDeltaCodec$Plan;)V"⟩, 8) := ⟨⟨by decide +kernel, by decide +kernel⟩, List.mem_of_getElem? (i := 68) (by decide +kernel), List.mem_of_getElem? (i := 227) (by decide +kernel), List.mem_of_getElem? (i := 228) (by decide +kernel)⟩
theorem lw_p5 : lw_okq (⟨"DeltaCodec$Decoder", "tell", "(II)V"⟩, 8) := ⟨⟨by decide +kernel, by decide +kernel⟩, List.mem_of_getElem? (i := 99) (by decide +kernel), List.mem_of_getElem? (i := 267) (by decide +kernel), List.mem_of_getElem? (i := 268) (by decide +kernel)⟩
theorem lw_p6 : lw_okq (⟨"DeltaCodec$Decoder", "readInstruction", "(LDeltaCodec$Row;)V"⟩, 8) := ⟨⟨by decide +kernel, by decide +kernel⟩, List.mem_of_getElem? (i := 99) (by decide +kernel), List.mem_of_getElem? (i := 271) (by decide +kernel), List.mem_of_getElem? (i := 272) (by decide +kernel)⟩
theorem lw_p7 : lw_okq (⟨"DeltaCodec$Decoder", "nextByte", "(LDeltaCodec$Row;)I"⟩, 8) := ⟨⟨by decide +kernel, by decide +kernel⟩, List.mem_of_getElem? (i := 99) (by decide +kernel), List.mem_of_getElem? (i := 275) (by decide +kernel), List.mem_of_getElem? (i := 276) (by decide +kernel)⟩
theorem lw_p8 : lw_okq (⟨"DeltaCodec$Decoder", "passBytes", "(I)V"⟩, 8) := ⟨⟨by decide +kernel, by decide +kernel⟩, List.mem_of_getElem? (i := 99) (by decide +kernel), List.mem_of_getElem? (i := 279) (by decide +kernel), List.mem_of_getElem? (i := 280) (by decide +kernel)⟩
theorem lw_p9 : lw_okq (⟨"DeltaCodec$Decoder", "nextNumber", "(LDeltaCodec$Row;)I"⟩, 8) := ⟨⟨by decide +kernel, by decide +kernel⟩, List.mem_of_getElem? (i := 99) (by decide +kernel), List.mem_of_getElem? (i := 284) (by decide +kernel), List.mem_of_getElem? (i := 285) (by decide +kernel)⟩
theorem lw_p10 : lw_okq (⟨"DeltaCodec$Decoder", "judgeInstruction", "(ILDeltaCodec$Row;)V"⟩, 8) := ⟨⟨by decide +kernel, by decide +kernel⟩, List.mem_of_getElem? (i := 99) (by decide +kernel), List.mem_of_getElem? (i := 288) (by decide +kernel), List.mem_of_getElem? (i := 289) (by decide +kernel)⟩
theorem lw_p11 : lw_okq (⟨"DeltaCodec$Decoder", "makeBytes", "(LDeltaCodec$Row;LDeltaCodec$Row;)V"⟩, 8) := ⟨⟨by decide +kernel, by decide +kernel⟩, List.mem_of_getElem? (i := 99) (by decide +kernel), List.mem_of_getElem? (i := 296) (by decide +kernel), List.mem_of_getElem? (i := 297) (by decide +kernel)⟩
theorem lw_p12 : lw_okq (⟨"DeltaCodec$Decoder", "byteToMake", "(ILDeltaCodec$Row;LDeltaCodec$Row;)I"⟩, 8) := ⟨⟨by decide +kernel, by decide +kernel⟩, List.mem_of_getElem? (i := 99) (by decide +kernel), List.mem_of_getElem? (i := 300) (by decide +kernel), List.mem_of_getElem? (i := 301) (by decide +kernel)⟩
theorem lw_p13 : lw_okq (⟨"DeltaCodec$Decoder", "judgeCheck", "(LDeltaCodec$Row;)V"⟩, 8) := ⟨⟨by decide +kernel, by decide +kernel⟩, List.mem_of_getElem? (i := 99) (by decide +kernel), List.mem_of_getElem? (i := 305) (by decide +kernel), List.mem_of_getElem? (i := 306) (by decide +kernel)⟩
theorem lw_p14 : lw_okq (⟨"DeltaCodec", "digestPlan", "(J)J"⟩, 7) := ⟨⟨by decide +kernel, by decide +kernel⟩, List.mem_of_getElem? (i := 16) (by decide +kernel), List.mem_of_getElem? (i := 347) (by decide +kernel), List.mem_of_getElem? (i := 348) (by decide +kernel)⟩
theorem lw_p15 : lw_okq (⟨"java/lang/Throwable", "fillInStackTrace", "(I)Ljava/lang/Throwable;"⟩, 6) := ⟨⟨by decide +kernel, by decide +kernel⟩, List.mem_of_getElem? (i := 415) (by decide +kernel), List.mem_of_getElem? (i := 413) (by decide +kernel), List.mem_of_getElem? (i := 414) (by decide +kernel)⟩
def lw_privs_1 : List (MethodName × Nat) := [(⟨"DeltaCodec", "exchangeRows", "()V"⟩, 7), (⟨"DeltaCodec$Planner", "offerLengths", "(IIII)V"⟩, 8), (⟨"DeltaCodec$Planner", "offer", "(IIII)V"⟩, 8), (⟨"DeltaCodec$Planner", "offerPlaces", "(IIII)V"⟩, 8), (⟨"DeltaCodec$Planner", "listInstructions", "(ILDeltaCodec$Plan;)V"⟩, 8), (⟨"DeltaCodec$Decoder", "tell", "(II)V"⟩, 8), (⟨"DeltaCodec$Decoder", "readInstruction", "(LDeltaCodec$Row;)V"⟩, 8), (⟨"DeltaCodec$Decoder", "nextByte", "(LDeltaCodec$Row;)I"⟩, 8), (⟨"DeltaCodec$Decoder", "passBytes", "(I)V"⟩, 8), (⟨"DeltaCodec$Decoder", "nextNumber", "(LDeltaCodec$Row;)I"⟩, 8), (⟨"DeltaCodec$Decoder", "judgeInstruction", "(ILDeltaCodec$Row;)V"⟩, 8), (⟨"DeltaCodec$Decoder", "makeBytes", "(LDeltaCodec$Row;LDeltaCodec$Row;)V"⟩, 8), (⟨"DeltaCodec$Decoder", "byteToMake", "(ILDeltaCodec$Row;LDeltaCodec$Row;)I"⟩, 8), (⟨"DeltaCodec$Decoder", "judgeCheck", "(LDeltaCodec$Row;)V"⟩, 8), (⟨"DeltaCodec", "digestPlan", "(J)J"⟩, 7), (⟨"java/lang/Throwable", "fillInStackTrace", "(I)Ljava/lang/Throwable;"⟩, 6)]
theorem lw_r1 : ∀ q ∈ lw_privs_1, lw_okq q := List.forall_mem_cons.mpr ⟨lw_p0, List.forall_mem_cons.mpr ⟨lw_p1, List.forall_mem_cons.mpr ⟨lw_p2, List.forall_mem_cons.mpr ⟨lw_p3, List.forall_mem_cons.mpr ⟨lw_p4, List.forall_mem_cons.mpr ⟨lw_p5, List.forall_mem_cons.mpr ⟨lw_p6, List.forall_mem_cons.mpr ⟨lw_p7, List.forall_mem_cons.mpr ⟨lw_p8, List.forall_mem_cons.mpr ⟨lw_p9, List.forall_mem_cons.mpr ⟨lw_p10, List.forall_mem_cons.mpr ⟨lw_p11, List.forall_mem_cons.mpr ⟨lw_p12, List.forall_mem_cons.mpr ⟨lw_p13, List.forall_mem_cons.mpr ⟨lw_p14, List.forall_mem_cons.mpr ⟨lw_p15, fun _ h => absurd h List.not_mem_nil⟩⟩⟩⟩⟩⟩⟩⟩⟩⟩⟩⟩⟩⟩⟩⟩
theorem lw_p16 : lw_okq (⟨"DeltaCodec", "rowOf", "(I)LDeltaCodec$Row;"⟩, 7) := ⟨⟨by decide +kernel, by decide +kernel⟩, List.mem_of_getElem? (i := 16) (by decide +kernel), List.mem_of_getElem? (i := 464) (by decide +kernel), List.mem_of_getElem? (i := 465) (by decide +kernel)⟩
theorem lw_p17 : lw_okq (⟨"DeltaCodec", "bestMatchPlace", "(II)I"⟩, 7) := ⟨⟨by decide +kernel, by decide +kernel⟩, List.mem_of_getElem? (i := 16) (by decide +kernel), List.mem_of_getElem? (i := 552) (by decide +kernel), List.mem_of_getElem? (i := 553) (by decide +kernel)⟩
theorem lw_p18 : lw_okq (⟨"DeltaCodec", "commonLength", "(LDeltaCodec$Row;II)I"⟩, 7) := ⟨⟨by decide +kernel, by decide +kernel⟩, List.mem_of_getElem? (i := 16) (by decide +kernel), List.mem_of_getElem? (i := 556) (by decide +kernel), List.mem_of_getElem? (i := 557) (by decide +kernel)⟩
theorem lw_p19 : lw_okq (⟨"DeltaCodec", "isBlockAt", "(II)Z"⟩, 7) := ⟨⟨by decide +kernel, by decide +kernel⟩, List.mem_of_getElem? (i := 16) (by decide +kernel), List.mem_of_getElem? (i := 575) (by decide +kernel), List.mem_of_getElem? (i := 576) (by decide +kernel)⟩
theorem lw_p20 : lw_okq (⟨"DeltaCodec", "needPlan", "()V"⟩, 7) := ⟨⟨by decide +kernel, by decide +kernel⟩, List.mem_of_getElem? (i := 16) (by decide +kernel), List.mem_of_getElem? (i := 593) (by decide +kernel), List.mem_of_getElem? (i := 594) (by decide +kernel)⟩
theorem lw_p21 : lw_okq (⟨"DeltaCodec", "needInstruction", "(I)V"⟩, 7) := ⟨⟨by decide +kernel, by decide +kernel⟩, List.mem_of_getElem? (i := 16) (by decide +kernel), List.mem_of_getElem? (i := 609) (by decide +kernel), List.mem_of_getElem? (i := 610) (by decide +kernel)⟩
theorem lw_p22 : lw_okq (⟨"DeltaCodec", "writeInstruction", "(I)V"⟩, 7) := ⟨⟨by decide +kernel, by decide +kernel⟩, List.mem_of_getElem? (i := 16) (by decide +kernel), List.mem_of_getElem? (i := 661) (by decide +kernel), List.mem_of_getElem? (i := 662) (by decide +kernel)⟩
theorem lw_p23 : lw_okq (⟨"DeltaCodec", "writeNumber", "(I)V"⟩, 7) := ⟨⟨by decide +kernel, by decide +kernel⟩, List.mem_of_getElem? (i := 16) (by decide +kernel), List.mem_of_getElem? (i := 665) (by decide +kernel), List.mem_of_getElem? (i := 666) (by decide +kernel)⟩
theorem lw_p24 : lw_okq (⟨"DeltaCodec", "writeTargetBytes", "(II)V"⟩, 7) := ⟨⟨by decide +kernel, by decide +kernel⟩, List.mem_of_getElem? (i := 16) (by decide +kernel), List.mem_of_getElem? (i := 669) (by decide +kernel), List.mem_of_getElem? (i := 670) (by decide +kernel)⟩
theorem lw_p25 : lw_okq (⟨"DeltaCodecModel", "no", "(I)I"⟩, 25) := ⟨⟨by decide +kernel, by decide +kernel⟩, List.mem_of_getElem? (i := 708) (by decide +kernel), List.mem_of_getElem? (i := 801) (by decide +kernel), List.mem_of_getElem? (i := 802) (by decide +kernel)⟩
theorem lw_p26 : lw_okq (⟨"DeltaCodecModel", "sizeOf", "(I)I"⟩, 25) := ⟨⟨by decide +kernel, by decide +kernel⟩, List.mem_of_getElem? (i := 708) (by decide +kernel), List.mem_of_getElem? (i := 808) (by decide +kernel), List.mem_of_getElem? (i := 809) (by decide +kernel)⟩
theorem lw_p27 : lw_okq (⟨"DeltaCodecModel", "stringOf", "(I)[I"⟩, 25) := ⟨⟨by decide +kernel, by decide +kernel⟩, List.mem_of_getElem? (i := 708) (by decide +kernel), List.mem_of_getElem? (i := 812) (by decide +kernel), List.mem_of_getElem? (i := 813) (by decide +kernel)⟩
theorem lw_p28 : lw_okq (⟨"DeltaCodecModel", "setSize", "(II)V"⟩, 25) := ⟨⟨by decide +kernel, by decide +kernel⟩, List.mem_of_getElem? (i := 708) (by decide +kernel), List.mem_of_getElem? (i := 817) (by decide +kernel), List.mem_of_getElem? (i := 818) (by decide +kernel)⟩
theorem lw_p29 : lw_okq (⟨"DeltaCodecModel", "isAsked", "(II)Z"⟩, 25) := ⟨⟨by decide +kernel, by decide +kernel⟩, List.mem_of_getElem? (i := 708) (by decide +kernel), List.mem_of_getElem? (i := 860) (by decide +kernel), List.mem_of_getElem? (i := 861) (by decide +kernel)⟩
theorem lw_p30 : lw_okq (⟨"DeltaCodecModel", "longest", "(II)I"⟩, 25) := ⟨⟨by decide +kernel, by decide +kernel⟩, List.mem_of_getElem? (i := 708) (by decide +kernel), List.mem_of_getElem? (i := 864) (by decide +kernel), List.mem_of_getElem? (i := 865) (by decide +kernel)⟩
theorem lw_p31 : lw_okq (⟨"DeltaCodecModel", "places", "(II)I"⟩, 25) := ⟨⟨by decide +kernel, by decide +kernel⟩, List.mem_of_getElem? (i := 708) (by decide +kernel), List.mem_of_getElem? (i := 868) (by decide +kernel), List.mem_of_getElem? (i := 869) (by decide +kernel)⟩
def lw_privs_2 : List (MethodName × Nat) := [(⟨"DeltaCodec", "rowOf", "(I)LDeltaCodec$Row;"⟩, 7), (⟨"DeltaCodec", "bestMatchPlace", "(II)I"⟩, 7), (⟨"DeltaCodec", "commonLength", "(LDeltaCodec$Row;II)I"⟩, 7), (⟨"DeltaCodec", "isBlockAt", "(II)Z"⟩, 7), (⟨"DeltaCodec", "needPlan", "()V"⟩, 7), (⟨"DeltaCodec", "needInstruction", "(I)V"⟩, 7), (⟨"DeltaCodec", "writeInstruction", "(I)V"⟩, 7), (⟨"DeltaCodec", "writeNumber", "(I)V"⟩, 7), (⟨"DeltaCodec", "writeTargetBytes", "(II)V"⟩, 7), (⟨"DeltaCodecModel", "no", "(I)I"⟩, 25), (⟨"DeltaCodecModel", "sizeOf", "(I)I"⟩, 25), (⟨"DeltaCodecModel", "stringOf", "(I)[I"⟩, 25), (⟨"DeltaCodecModel", "setSize", "(II)V"⟩, 25), (⟨"DeltaCodecModel", "isAsked", "(II)Z"⟩, 25), (⟨"DeltaCodecModel", "longest", "(II)I"⟩, 25), (⟨"DeltaCodecModel", "places", "(II)I"⟩, 25)]
theorem lw_r2 : ∀ q ∈ lw_privs_2, lw_okq q := List.forall_mem_cons.mpr ⟨lw_p16, List.forall_mem_cons.mpr ⟨lw_p17, List.forall_mem_cons.mpr ⟨lw_p18, List.forall_mem_cons.mpr ⟨lw_p19, List.forall_mem_cons.mpr ⟨lw_p20, List.forall_mem_cons.mpr ⟨lw_p21, List.forall_mem_cons.mpr ⟨lw_p22, List.forall_mem_cons.mpr ⟨lw_p23, List.forall_mem_cons.mpr ⟨lw_p24, List.forall_mem_cons.mpr ⟨lw_p25, List.forall_mem_cons.mpr ⟨lw_p26, List.forall_mem_cons.mpr ⟨lw_p27, List.forall_mem_cons.mpr ⟨lw_p28, List.forall_mem_cons.mpr ⟨lw_p29, List.forall_mem_cons.mpr ⟨lw_p30, List.forall_mem_cons.mpr ⟨lw_p31, fun _ h => absurd h List.not_mem_nil⟩⟩⟩⟩⟩⟩⟩⟩⟩⟩⟩⟩⟩⟩⟩⟩
theorem lw_p32 : lw_okq (⟨"DeltaCodecModel", "common", "(III)I"⟩, 25) := ⟨⟨by decide +kernel, by decide +kernel⟩, List.mem_of_getElem? (i := 708) (by decide +kernel), List.mem_of_getElem? (i := 872) (by decide +kernel), List.mem_of_getElem? (i := 873) (by decide +kernel)⟩
theorem lw_p33 : lw_okq (⟨"DeltaCodecModel", "isBlock", "(III)Z"⟩, 25) := ⟨⟨by decide +kernel, by decide +kernel⟩, List.mem_of_getElem? (i := 708) (by decide +kernel), List.mem_of_getElem? (i := 885) (by decide +kernel), List.mem_of_getElem? (i := 886) (by decide +kernel)⟩
theorem lw_p34 : lw_okq (⟨"DeltaCodecModel", "look", "(I)V"⟩, 25) := ⟨⟨by decide +kernel, by decide +kernel⟩, List.mem_of_getElem? (i := 708) (by decide +kernel), List.mem_of_getElem? (i := 897) (by decide +kernel), List.mem_of_getElem? (i := 898) (by decide +kernel)⟩
theorem lw_p35 : lw_okq (⟨"DeltaCodecModel", "offer", "(IIIII)V"⟩, 25) := ⟨⟨by decide +kernel, by decide +kernel⟩, List.mem_of_getElem? (i := 708) (by decide +kernel), List.mem_of_getElem? (i := 907) (by decide +kernel), List.mem_of_getElem? (i := 908) (by decide +kernel)⟩
theorem lw_p36 : lw_okq (⟨"DeltaCodecModel", "smallest", "(II)[I"⟩, 25) := ⟨⟨by decide +kernel, by decide +kernel⟩, List.mem_of_getElem? (i := 708) (by decide +kernel), List.mem_of_getElem? (i := 911) (by decide +kernel), List.mem_of_getElem? (i := 912) (by decide +kernel)⟩
theorem lw_p37 : lw_okq (⟨"DeltaCodecModel", "isAsked", "(I)Z"⟩, 25) := ⟨⟨by decide +kernel, by decide +kernel⟩, List.mem_of_getElem? (i := 708) (by decide +kernel), List.mem_of_getElem? (i := 927) (by decide +kernel), List.mem_of_getElem? (i := 928) (by decide +kernel)⟩
theorem lw_p38 : lw_okq (⟨"DeltaCodecModel", "put", "(I)V"⟩, 25) := ⟨⟨by decide +kernel, by decide +kernel⟩, List.mem_of_getElem? (i := 708) (by decide +kernel), List.mem_of_getElem? (i := 957) (by decide +kernel), List.mem_of_getElem? (i := 958) (by decide +kernel)⟩
theorem lw_p39 : lw_okq (⟨"DeltaCodecModel", "putNumber", "(I)V"⟩, 25) := ⟨⟨by decide +kernel, by decide +kernel⟩, List.mem_of_getElem? (i := 708) (by decide +kernel), List.mem_of_getElem? (i := 961) (by decide +kernel), List.mem_of_getElem? (i := 962) (by decide +kernel)⟩
theorem lw_p40 : lw_okq (⟨"DeltaCodecModel", "fail", "(II)I"⟩, 25) := ⟨⟨by decide +kernel, by decide +kernel⟩, List.mem_of_getElem? (i := 708) (by decide +kernel), List.mem_of_getElem? (i := 989) (by decide +kernel), List.mem_of_getElem? (i := 990) (by decide +kernel)⟩
theorem lw_p41 : lw_okq (⟨"DeltaCodecModel", "takeInstruction", "()V"⟩, 25) := ⟨⟨by decide +kernel, by decide +kernel⟩, List.mem_of_getElem? (i := 708) (by decide +kernel), List.mem_of_getElem? (i := 993) (by decide +kernel), List.mem_of_getElem? (i := 994) (by decide +kernel)⟩
theorem lw_p42 : lw_okq (⟨"DeltaCodecModel", "take", "()I"⟩, 25) := ⟨⟨by decide +kernel, by decide +kernel⟩, List.mem_of_getElem? (i := 708) (by decide +kernel), List.mem_of_getElem? (i := 997) (by decide +kernel), List.mem_of_getElem? (i := 998) (by decide +kernel)⟩
theorem lw_p43 : lw_okq (⟨"DeltaCodecModel", "takeNumber", "()I"⟩, 25) := ⟨⟨by decide +kernel, by decide +kernel⟩, List.mem_of_getElem? (i := 708) (by decide +kernel), List.mem_of_getElem? (i := 1001) (by decide +kernel), List.mem_of_getElem? (i := 1002) (by decide +kernel)⟩
def lw_privs_3 : List (MethodName × Nat) := [(⟨"DeltaCodecModel", "common", "(III)I"⟩, 25), (⟨"DeltaCodecModel", "isBlock", "(III)Z"⟩, 25), (⟨"DeltaCodecModel", "look", "(I)V"⟩, 25), (⟨"DeltaCodecModel", "offer", "(IIIII)V"⟩, 25), (⟨"DeltaCodecModel", "smallest", "(II)[I"⟩, 25), (⟨"DeltaCodecModel", "isAsked", "(I)Z"⟩, 25), (⟨"DeltaCodecModel", "put", "(I)V"⟩, 25), (⟨"DeltaCodecModel", "putNumber", "(I)V"⟩, 25), (⟨"DeltaCodecModel", "fail", "(II)I"⟩, 25), (⟨"DeltaCodecModel", "takeInstruction", "()V"⟩, 25), (⟨"DeltaCodecModel", "take", "()I"⟩, 25), (⟨"DeltaCodecModel", "takeNumber", "()I"⟩, 25)]
theorem lw_r3 : ∀ q ∈ lw_privs_3, lw_okq q := List.forall_mem_cons.mpr ⟨lw_p32, List.forall_mem_cons.mpr ⟨lw_p33, List.forall_mem_cons.mpr ⟨lw_p34, List.forall_mem_cons.mpr ⟨lw_p35, List.forall_mem_cons.mpr ⟨lw_p36, List.forall_mem_cons.mpr ⟨lw_p37, List.forall_mem_cons.mpr ⟨lw_p38, List.forall_mem_cons.mpr ⟨lw_p39, List.forall_mem_cons.mpr ⟨lw_p40, List.forall_mem_cons.mpr ⟨lw_p41, List.forall_mem_cons.mpr ⟨lw_p42, List.forall_mem_cons.mpr ⟨lw_p43, fun _ h => absurd h List.not_mem_nil⟩⟩⟩⟩⟩⟩⟩⟩⟩⟩⟩⟩
def lw_privs : List (MethodName × Nat) := lw_privs_1 ++ (lw_privs_2 ++ (lw_privs_3))
def lw_tbl : List Cond := k2_sels lw_privs ++ tables_1
theorem lw_privs_ok : ∀ q ∈ lw_privs, lw_okq q := by
  show ∀ q ∈ lw_privs_1 ++ (lw_privs_2 ++ (lw_privs_3)), lw_okq q
  exact List.forall_mem_append.mpr ⟨lw_r1, List.forall_mem_append.mpr ⟨lw_r2, lw_r3⟩⟩
/-- the streams that the claim lets the run draw from -/
abbrev lw_cs : List Choice := [Jvm.Choice.named "NaN.bits"]
theorem lw_bits : nanBits ∈ lw_cs := by first | decide | exact List.mem_cons_self | simp [lw_cs, nanBits]
end
section
/-! ===== BEGIN words of one list among another's, by their places ===== -/
theorem goodIn_r {big : List Cond} (ws : List Cond) (ps : List Nat) (hp : ws = ps.filterMap (fun i => big[i]?)) (h : ws.all goodWord = true) : GoodIn big ws := by
  intro w hw
  have h1 := List.all_eq_true.mp h w hw
  rw [hp] at hw
  obtain ⟨i, -, hi⟩ := List.mem_filterMap.mp hw
  have hm : w ∈ big := by first | exact List.mem_of_getElem? hi | exact List.getElem?_mem hi
  exact ⟨hm, good_of_word h1⟩
theorem goodIn_app {big a b : List Cond} (ha : GoodIn big a) (hb : GoodIn big b) : GoodIn big (a ++ b) := fun w h => (List.mem_append.mp h).elim (ha w) (hb w)
theorem goodIn_ca {big a b : List Cond} {c : Cond} (ha : GoodIn big (c :: a)) (hb : GoodIn big b) : GoodIn big (c :: (a ++ b)) := fun w h => (List.mem_cons.mp h).elim (fun e => ha w (List.mem_cons.mpr (Or.inl e))) (fun h => (List.mem_append.mp h).elim (fun h => ha w (List.mem_cons.mpr (Or.inr h))) (hb w))
theorem goodIn_sub {big ws : List Cond} (hm : ∀ w ∈ ws, w ∈ big) (h : ws.all goodWord = true) : GoodIn big ws := fun w hw => ⟨hm w hw, good_of_word (List.all_eq_true.mp h w hw)⟩
/-! ===== END ===== -/

/-! ===== BEGIN exceptions that leave a method, and their catching by the caller (launches without stack traces) ===== -/
section VXA
/-! The laws vx_back, vx_callV, vx_callS, vx_callSW, vx_throw0, vx_throwS follow proofs of the library, with one case more: JvmDerived/Free/Laws.lean (Back.of_free), Shelf42/LK1.lean (callV, callS), Shelf/KitTraced.lean (throwNew0V, throwNewS). -/
/-- where a method has thrown q: the class by its name, the cell, what was written, the world -/
def vx_T (XC : String → State → State → Prop) (st : State) (q : Addr) (t : State) (mc ms : Nat) (free : Addr → Prop) : Prop :=
  ∃ (E : String) (ce : Cell) (L : List Loc), XC E st t ∧ t.heap[q]? = some ce ∧ ce.vm = .none ∧ st.vm.findClass E = some ce.cls ∧ st.WarmedH t.vm ∧ st.sameButNew ({ t with vm := st.vm } : State) L mc ms ∧ ∀ z ∈ L, free z.base
def vx_Q (Qc : Array Value → State → Outcome → State → Prop) (XC : String → State → State → Prop) (mc ms : Nat) (free : Addr → Prop) : Array Value → State → Outcome → State → Prop := fun a st o t =>
  (Qc a st o t ∧ ∃ L, FrameEnd st o t L mc ms ∧ ∀ q ∈ L, free q.base) ∨ ∃ q, o = .threw q ∧ vx_T XC st q t mc ms free
/-- a callee that returns or throws -/
def vx_Met (l : Launch) (y : MethodName) (ws : List Cond) (rm : Room) (Pc : Array Value → State → Prop) (Qc : Array Value → State → Outcome → State → Prop) (XC : String → State → State → Prop) (mc ms : Nat) (free : Addr → Prop) : Prop :=
  MetFree l y (headSpec ws rm) Pc (fun _ _ _ _ _ => True) (vx_Q Qc XC mc ms free)
def vx_Post (XC : String → State → State → Prop) (mc ms : Nat) (free : Addr → Prop) : Pt → Array Value → Addr → Pt → Prop := fun A a q B =>
  ∃ (g : JFrame) (mk : MethodId) (t : State) (L : List Loc) (E : String) (ce : Cell), B.U.heap = t.heap ∧ B.U.vm = t.vm ∧ XC E (A.U.calling g mk a) t ∧ t.heap[q]? = some ce ∧ ce.vm = .none ∧ A.U.vm.findClass E = some ce.cls ∧ B.locs = A.locs ++ L ∧ (∀ z ∈ L, free z.base) ∧ B.cells = A.cells + mc ∧ B.slots = A.slots + ms
def vx_Back (l : Launch) (R : Room) (p : Program) (e : Env) (below : List Frame) (s : State) (sargs : Array Value) (y : MethodName) (len W9 : Nat)
    (Pre : Pt → Array Value → Prop) (Post : Pt → Array Value → Option Value → Pt → Prop) (PostX : Pt → Array Value → Addr → Pt → Prop) : Prop :=
  ∀ (m : MethodId) (meth : Method) (c : Code) (A : Pt) (g : JFrame) (ig : Instr) (mk : MethodId) (a : Array Value),
    Stand p l e R s m sargs below meth c A.U A.locs A.cells A.slots → g.method = m → g.locals.size = c.maxLocals → decode c.code g.pc = .ok (ig, len) →
    2 * g.monitorRoom + (g.stack.map fun v => v.category).sum ≤ W9 → A.U.methodNamed? y = some mk → Pre A a →
    (∃ (v : Option Value) (B : Pt), Stand p l e R s m sargs below meth c B.U B.locs B.cells B.slots ∧ Post A a v B ∧
      Steps p.tables e below (doInvoke e (A.U.setTop g) [] mk a).1 (B.U.setTop { g with pc := g.pc + len, stack := v.toList ++ g.stack })) ∨
    (∃ (q : Addr) (B : Pt), Stand p l e R s m sargs below meth c B.U B.locs B.cells B.slots ∧ PostX A a q B ∧
      Steps p.tables e below (doInvoke e (A.U.setTop g) [] mk a).1 ((B.U.setTop g).pushFrame (.throwing q)))
section Payer
variable {l : Launch} {R : Room} {p : Program} {e : Env} {below : List Frame} {s : State} {sargs : Array Value} {y : MethodName} {len W9 : Nat}
theorem vx_back {ws : List Cond} {rm : Room} {Pc : Array Value → State → Prop} {Qc : Array Value → State → Outcome → State → Prop} {XC : String → State → State → Prop} {mc ms : Nat} {free : Addr → Prop} {bytes : ByteArray} {maxL : Nat} {ret : Option FieldType}
    (hM : vx_Met l y ws rm Pc Qc XC mc ms free) (hblind : FrameBlind Pc) (hrc : rm.cells = mc) (hrs : rm.slots = ms)
    (hframes : rm.frames + 1 ≤ R.frames) (hlocals : W9 + (maxL + 11) + rm.locals ≤ R.locals)
    (hws : ∀ w ∈ ws, ∀ a' U, s.WarmedH U.vm → w.before a' U = true) (hcode : Cond.code y bytes maxL ret ∈ ws) (hinit : ∀ a' U, s.WarmedH U.vm → (Cond.initialized y.cls).before a' U = true) :
    vx_Back l R p e below s sargs y len W9 (PreOf R mc ms Pc) (PostOf Qc mc ms free) (vx_Post XC mc ms free) := by
  intro m meth c A g ig mk a X hg hsize hdg hW hn hp
  have h1 : (headSpec ws rm).pre.before a A.U = true := atoms_intro fun w hw => hws w hw _ _ X.warmed
  have h2 : (Cond.code y bytes maxL ret).before a A.U = true := hws _ hcode _ _ X.warmed
  have h3 : (Cond.initialized y.cls).before a A.U = true := hinit _ _ X.warmed
  have h4 : A.cells + (headSpec ws rm).room.cells ≤ R.cells := by rw [show (headSpec ws rm).room.cells = mc from hrc]; exact hp.1
  have h5 : A.slots + (headSpec ws rm).room.slots ≤ R.slots := by rw [show (headSpec ws rm).room.slots = ms from hrs]; exact hp.2.1
  have hPc : Pc a (A.U.calling g mk a) := hblind _ _ _ _ hp.2.2
  obtain ⟨U, Ls, c0, s0⟩ := A
  dsimp only [Pt.U, Pt.locs, Pt.cells, Pt.slots] at h1 h2 h3 h4 h5 X hn hPc ⊢
  obtain ⟨methY, cY, hmY, hcY, -, hlY, -, -, -, -⟩ := Cond.code_spec hn h2
  obtain ⟨kY, hkY, -⟩ := className_of_methodNamed hn
  have hinitY : kY.init = .initialized := Cond.initialized_spec (findClass_of_methodNamed hn) hkY h3
  have h : At U g.method c below := by rw [hg]; exact X.here
  have hlocals9 : W9 + (maxL + 11) + (headSpec ws rm).room.locals ≤ R.locals := hlocals
  have happ : (headSpec ws rm).appliesLoose y e.platform (U.calling g mk a) = true :=
    Spec.appliesLoose_calling (g := g) h hdg hn hkY hinitY
      (X.room_calling (g := g) (R' := (headSpec ws rm).room) hsize hmY hcY hframes (by rw [hlY]; omega) h4 h5) h1
  obtain ⟨mid, hmid⟩ := h.above
  have hfr : (U.setTop g).frames = (.java g :: mid) ++ below := by rw [State.frames_setTop' g h.top, hmid]; rfl
  obtain ⟨o, s₂, hsteps, -, hend, hq⟩ := Steps.callFree hM p X.admits X.cas X.clock (acts := []) hfr happ hPc trivial
  have hq' : vx_Q Qc XC mc ms free a (U.calling g mk a) o s₂ := hq
  rw [State.frames_setTop' g h.top] at hend
  obtain ⟨g₀, hg0⟩ := Option.isSome_iff_exists.mp h.top
  obtain ⟨r, hr⟩ := State.topJava?_eq_some.mp hg0
  have hr' : (({ U with heap := s₂.heap, slotsUsed := s₂.slotsUsed } : State).setVm s₂.vm).frames = .java g₀ :: r := hr
  rcases hq' with ⟨hqc, L, hfe, hL⟩ | ⟨q, rfl, E, ce, L, hx, hce, hcv, hcl, hW₂, hsm, hL⟩
  · obtain ⟨⟨v, rfl⟩, hW₂, e2, q2, q3, q4, q5, q6⟩ := id hfe
    have e3 : s₂ = ({ (U.calling g mk a).setFrames s₂.frames with heap := s₂.heap, slotsUsed := s₂.slotsUsed } : State).setVm s₂.vm := by
      have : s₂ = ({ s₂ with vm := (U.calling g mk a).vm } : State).setVm s₂.vm := rfl
      rw [e2] at this
      exact this
    obtain ⟨c₂, i₂, len₂, hc₂, hd₂, hf₂⟩ := hend
    have hW' : U.WarmedH s₂.vm := hW₂
    have hcc : c₂ = c := by
      have h1 : s₂.code? g.method = U.code? g.method := by
        rw [State.code?_eq, State.code?_eq, hW'.alike.method?]
      exact Option.some.inj (hc₂.symm.trans (h1.trans h.code))
    subst hcc
    have hlen : len₂ = len := by rw [hdg] at hd₂; cases hd₂; rfl
    subst hlen
    have hs₂ : s₂ = (({ U with heap := s₂.heap, slotsUsed := s₂.slotsUsed } : State).setVm s₂.vm).setTop { g with pc := g.pc + len₂, stack := v.toList ++ g.stack } := by
      refine e3.trans ?_
      rw [hf₂, State.calling_eq h.top, State.setFrames_setFrames, State.setTop_of_frames _ hr', hr]
      rfl
    have hsame : U.sameButNew ({ U with heap := s₂.heap, slotsUsed := s₂.slotsUsed } : State) L mc ms := by
      refine ⟨?_, q2, q3, q4, q5, q6⟩
      obtain ⟨t, ht, -⟩ := State.frames_cons hr
      show ({ U with heap := s₂.heap, slotsUsed := s₂.slotsUsed } : State) = { U.setFrames U.frames with heap := s₂.heap, slotsUsed := s₂.slotsUsed }
      rw [State.setFrames_self ht]
    subst hg
    refine Or.inl ⟨v, ⟨(({ U with heap := s₂.heap, slotsUsed := s₂.slotsUsed } : State).setVm s₂.vm), Ls ++ L, c0 + mc, s0 + ms⟩,
      ⟨X.admits, X.cas, X.clock, X.frames, X.room, X.hears, X.method, X.code, (X.here.setHeapUsed s₂.heap s₂.slotsUsed).setVm hW'.alike, X.tail, State.WarmedH.trans X.warmed hW', X.limits, X.bytes, X.same.trans (hsame.setVm s.vm)⟩,
      ⟨g, mk, s₂, L, rfl, rfl, hqc, rfl, hL, rfl, rfl⟩, ?_⟩
    show Steps p.tables e below _ ((({ U with heap := s₂.heap, slotsUsed := s₂.slotsUsed } : State).setVm s₂.vm).setTop { g with pc := g.pc + len₂, stack := v.toList ++ g.stack })
    rw [← hs₂]
    exact hsteps
  · obtain ⟨e2, q2, q3, q4, q5, q6⟩ := id hsm
    have e3 : s₂ = ({ (U.calling g mk a).setFrames s₂.frames with heap := s₂.heap, slotsUsed := s₂.slotsUsed } : State).setVm s₂.vm := by
      have : s₂ = ({ s₂ with vm := (U.calling g mk a).vm } : State).setVm s₂.vm := rfl
      rw [e2] at this
      exact this
    have hf₂ : s₂.frames = .throwing q :: .java g :: U.frames.tail := hend
    have hW' : U.WarmedH s₂.vm := hW₂
    have hs₂ : s₂ = ((({ U with heap := s₂.heap, slotsUsed := s₂.slotsUsed } : State).setVm s₂.vm).setTop g).pushFrame (.throwing q) := by
      refine e3.trans ?_
      rw [hf₂, State.calling_eq h.top, State.setFrames_setFrames, State.pushFrame, State.frames_setTop _ hr', State.setTop_of_frames _ hr', State.setFrames_setFrames, hr]
      rfl
    have hsame : U.sameButNew ({ U with heap := s₂.heap, slotsUsed := s₂.slotsUsed } : State) L mc ms := by
      refine ⟨?_, q2, q3, q4, q5, q6⟩
      obtain ⟨t, ht, -⟩ := State.frames_cons hr
      show ({ U with heap := s₂.heap, slotsUsed := s₂.slotsUsed } : State) = { U.setFrames U.frames with heap := s₂.heap, slotsUsed := s₂.slotsUsed }
      rw [State.setFrames_self ht]
    subst hg
    refine Or.inr ⟨q, ⟨(({ U with heap := s₂.heap, slotsUsed := s₂.slotsUsed } : State).setVm s₂.vm), Ls ++ L, c0 + mc, s0 + ms⟩,
      ⟨X.admits, X.cas, X.clock, X.frames, X.room, X.hears, X.method, X.code, (X.here.setHeapUsed s₂.heap s₂.slotsUsed).setVm hW'.alike, X.tail, State.WarmedH.trans X.warmed hW', X.limits, X.bytes, X.same.trans (hsame.setVm s.vm)⟩,
      ⟨g, mk, s₂, L, E, ce, rfl, rfl, hx, hce, hcv, hcl, rfl, hL, rfl, rfl⟩, ?_⟩
    show Steps p.tables e below _ (((({ U with heap := s₂.heap, slotsUsed := s₂.slotsUsed } : State).setVm s₂.vm).setTop g).pushFrame (.throwing q))
    rw [← hs₂]
    exact hsteps
end Payer
section Calls
variable {p : Program} {l : Launch} {e : Env} {R : Room} {s : State} {m : MethodId} {args : Array Value} {below : List Frame} {meth : Method} {c : Code} {T : State} {locs : List Loc} {cells slots : Nat}
theorem vx_callV (X : Stand p l e R s m args below meth c T locs cells slots) (hexec : p.tables.exec = Jvm.exec) {own C : String} {index : Nat} {y : MethodName} {bytes : ByteArray} {maxL : Nat} {ret : Option FieldType}
    (hown : s.vm.findClass own = some m.cls) (hlink : (Cond.methodLink own index y).before args s = true) (hinst : (Cond.instanceMethod y).before args s = true) (hsel : (Cond.selects C y y).before args s = true)
    (hcode : (Cond.code y bytes maxL ret).before args s = true) (hy : y.cls ≠ "java/lang/invoke/MethodHandle" ∧ y.cls ≠ "java/lang/invoke/VarHandle")
    {W9 : Nat} {Pre : Pt → Array Value → Prop} {Post : Pt → Array Value → Option Value → Pt → Prop} {PostX : Pt → Array Value → Addr → Pt → Prop} (hK : vx_Back l R p e below s args y 3 W9 Pre Post PostX)
    {b : Addr} {cellB : Cell} (hcell : T.heap[b]? = some cellB) (hobj : cellB.vm.isStatics = false) (hcls : s.vm.findClass C = some cellB.cls)
    {g : JFrame} (hg : g.method = m) (hsize : g.locals.size = c.maxLocals) {argsL rest : List Value} (hlen : ∀ sig, parseMethodDescriptor y.desc = some sig → argsL.length = sig.parameters.length)
    (hstack : g.stack = argsL.reverse ++ .ref b :: rest) (hW : 2 * g.monitorRoom + (rest.map fun v => v.category).sum ≤ W9) (hdg : decode c.code g.pc = .ok (.invokevirtual index, 3))
    (hpre : ∀ vm₁, s.WarmedH vm₁ → Pre ⟨T.setVm vm₁, locs, cells, slots⟩ (Value.ref b :: argsL).toArray) :
    (∃ (v : Option Value) (vm₁ : Vm) (B : Pt), s.WarmedH vm₁ ∧ Stand p l e R s m args below meth c B.U B.locs B.cells B.slots ∧ Post ⟨T.setVm vm₁, locs, cells, slots⟩ (Value.ref b :: argsL).toArray v B ∧
      ∀ target, Steps p.tables e below (B.U.setTop { g with pc := g.pc + 3, stack := v.toList ++ rest }) target → Steps p.tables e below (T.setTop g) target) ∨
    (∃ (q : Addr) (vm₁ : Vm) (B : Pt), s.WarmedH vm₁ ∧ Stand p l e R s m args below meth c B.U B.locs B.cells B.slots ∧ PostX ⟨T.setVm vm₁, locs, cells, slots⟩ (Value.ref b :: argsL).toArray q B ∧
      Steps p.tables e below (T.setTop g) ((B.U.setTop { g with stack := rest }).pushFrame (.throwing q))) := by
  obtain ⟨mk, methM, hnamed, hmethM, hstM, habM⟩ := Cond.instanceMethod_spec hinst
  obtain ⟨methM', cM, hmethM', -, -, -, -, -, -, hsigM⟩ := Cond.code_spec hnamed hcode
  cases hmethM.symm.trans hmethM'
  obtain ⟨c2, r2, m2, q1, q2, q3, q4, kP, hkP, hkPi⟩ := Cond.selects_spec hsel
  cases hcls.symm.trans q1
  cases (State.methodFound?_of_named hnamed hy).symm.trans q2
  cases hnamed.symm.trans q3
  have hselP : selectMethod e.platform s.vm cellB.cls mk = .method mk := by rw [Launch.admits_selectMethod X.admits]; exact q4
  obtain ⟨vm₁, X₁, hstep₁⟩ := X.invokevirtual hexec hown hlink hnamed hmethM hstM hkP hkPi hy (a := b) (cell := cellB) hcell
    (fun z h => by rw [h] at hobj; cases hobj) hselP hmethM habM hkP hkPi (g := g) hg (argsL := argsL) (rest := rest) (hlen _ hsigM) hstack hdg
  rcases hK m meth c ⟨T.setVm vm₁, locs, cells, slots⟩ { g with stack := rest } (.invokevirtual index) mk (Value.ref b :: argsL).toArray X₁ hg hsize hdg hW (X₁.named hnamed) (hpre vm₁ X₁.warmed) with ⟨v, B, X', hpost, hsteps⟩ | ⟨q, B, X', hpost, hsteps⟩
  · exact Or.inl ⟨v, vm₁, B, X₁.warmed, X', hpost, fun target h => hstep₁ _ fun acts => by rw [doInvoke_state]; exact hsteps.trans h⟩
  · exact Or.inr ⟨q, vm₁, B, X₁.warmed, X', hpost, hstep₁ _ fun acts => by rw [doInvoke_state]; exact hsteps⟩
theorem vx_callS (X : Stand p l e R s m args below meth c T locs cells slots) (hexec : p.tables.exec = Jvm.exec) {own : String} {index : Nat} {y : MethodName} {bytes : ByteArray} {maxL : Nat} {ret : Option FieldType}
    (hown : s.vm.findClass own = some m.cls) (hlink : (Cond.methodLink own index y).before args s = true) (hstat : (Cond.static y).before args s = true) (hinit : (Cond.initialized y.cls).before args s = true)
    (hcode : (Cond.code y bytes maxL ret).before args s = true) (hy : y.cls ≠ "java/lang/invoke/MethodHandle" ∧ y.cls ≠ "java/lang/invoke/VarHandle")
    {W9 : Nat} {Pre : Pt → Array Value → Prop} {Post : Pt → Array Value → Option Value → Pt → Prop} {PostX : Pt → Array Value → Addr → Pt → Prop} (hK : vx_Back l R p e below s args y 3 W9 Pre Post PostX)
    {g : JFrame} (hg : g.method = m) (hsize : g.locals.size = c.maxLocals) {argsL rest : List Value} (hlen : ∀ sig, parseMethodDescriptor y.desc = some sig → argsL.length = sig.parameters.length)
    (hstack : g.stack = argsL.reverse ++ rest) (hW : 2 * g.monitorRoom + (rest.map fun v => v.category).sum ≤ W9) (hdg : decode c.code g.pc = .ok (.invokestatic index, 3))
    (hpre : ∀ vm₁, s.WarmedH vm₁ → Pre ⟨T.setVm vm₁, locs, cells, slots⟩ argsL.toArray) :
    (∃ (v : Option Value) (vm₁ : Vm) (B : Pt), s.WarmedH vm₁ ∧ Stand p l e R s m args below meth c B.U B.locs B.cells B.slots ∧ Post ⟨T.setVm vm₁, locs, cells, slots⟩ argsL.toArray v B ∧
      ∀ target, Steps p.tables e below (B.U.setTop { g with pc := g.pc + 3, stack := v.toList ++ rest }) target → Steps p.tables e below (T.setTop g) target) ∨
    (∃ (q : Addr) (vm₁ : Vm) (B : Pt), s.WarmedH vm₁ ∧ Stand p l e R s m args below meth c B.U B.locs B.cells B.slots ∧ PostX ⟨T.setVm vm₁, locs, cells, slots⟩ argsL.toArray q B ∧
      Steps p.tables e below (T.setTop g) ((B.U.setTop { g with stack := rest }).pushFrame (.throwing q))) := by
  obtain ⟨mk, hnamed⟩ := Cond.code_named hcode
  obtain ⟨methM, cM, hmethM, -, -, -, -, -, -, hsigM⟩ := Cond.code_spec hnamed hcode
  have hstatic : methM.isStatic = true := Cond.static_spec hnamed hmethM hstat
  obtain ⟨kP, hkP, -⟩ := className_of_methodNamed hnamed
  have hinitP : kP.init = .initialized := Cond.initialized_spec (findClass_of_methodNamed hnamed) hkP hinit
  obtain ⟨vm₁, X₁, hstep₁⟩ := X.invokestatic hexec hown hlink hnamed hmethM hstatic hkP hinitP hy (g := g) hg (argsL := argsL) (rest := rest) (hlen _ hsigM) hstack hdg
  rcases hK m meth c ⟨T.setVm vm₁, locs, cells, slots⟩ { g with stack := rest } (.invokestatic index) mk argsL.toArray X₁ hg hsize hdg hW (X₁.named hnamed) (hpre vm₁ X₁.warmed) with ⟨v, B, X', hpost, hsteps⟩ | ⟨q, B, X', hpost, hsteps⟩
  · exact Or.inl ⟨v, vm₁, B, X₁.warmed, X', hpost, fun target h => hstep₁ _ fun acts => by rw [doInvoke_state]; exact hsteps.trans h⟩
  · exact Or.inr ⟨q, vm₁, B, X₁.warmed, X', hpost, hstep₁ _ fun acts => by rw [doInvoke_state]; exact hsteps⟩
end Calls
theorem vx_cls {s : State} {T : State} {vm₁ : Vm} {E : String} {k : ClassId} (hW : s.WarmedH vm₁) (h : (T.setVm vm₁).vm.findClass E = some k) : s.vm.findClass E = some k := by
  have h1 : vm₁.findClass E = some k := h
  rw [hW.alike.findClass] at h1
  exact h1
/-- the method's frame g, with q thrown over it -/
def vx_W (p : Program) (l : Launch) (e : Env) (R : Room) (s : State) (m : MethodId) (args : Array Value) (below : List Frame) (meth : Method) (c : Code) (H : Heap) (locs : List Loc) (cells slots : Nat) (Q : State → Prop) (g : JFrame) (q : Addr) : Prop :=
  ∀ T : State, T.heap = H → Stand p l e R s m args below meth c T locs cells slots → ∃ t, Steps p.tables e below ((T.setTop g).pushFrame (.throwing q)) t ∧ Q t
def vx_Run (p : Program) (l : Launch) (e : Env) (R : Room) (s : State) (m : MethodId) (args : Array Value) (below : List Frame) (meth : Method) (c : Code) (H : Heap) (locs : List Loc) (cells slots mc ms : Nat) (g : JFrame) (rest : List Value) (Qa : State → Outcome → State → Prop) (XC : String → State → State → Prop) (free : Addr → Prop) : Prop :=
  ∀ T : State, T.heap = H → Stand p l e R s m args below meth c T locs cells slots →
    (∃ (v : Option Value) (st₀ t T' : State) (L : List Loc), st₀.heap = H ∧ Stand p l e R s m args below meth c T' (locs ++ L) (cells + mc) (slots + ms) ∧ (∀ q ∈ L, free q.base) ∧ T'.heap = t.heap ∧ T'.vm = t.vm ∧ Qa st₀ (.returned v) t ∧
      Goes p e below T g T' { g with pc := g.pc + 3, stack := v.toList ++ rest }) ∨
    (∃ (q : Addr) (st₀ t T' : State) (L : List Loc) (E : String) (ce : Cell), st₀.heap = H ∧ Stand p l e R s m args below meth c T' (locs ++ L) (cells + mc) (slots + ms) ∧ (∀ z ∈ L, free z.base) ∧ T'.heap = t.heap ∧ T'.vm = t.vm ∧ XC E st₀ t ∧ t.heap[q]? = some ce ∧ ce.vm = .none ∧ s.vm.findClass E = some ce.cls ∧
      Steps p.tables e below (T.setTop g) ((T'.setTop { g with stack := rest }).pushFrame (.throwing q)))
def vx_X {S : Type} (px : S → Prop) (B : String → S → State → Prop) (A : Nat → Prop) : String → State → State → Prop := fun E st t => ∃ u : S, px u ∧ B E u t ∧ va_F A st t
section Runs
variable {p : Program} {l : Launch} {e : Env} {R : Room} {s : State} {m : MethodId} {args : Array Value} {below : List Frame} {meth : Method} {c : Code} {H : Heap} {locs : List Loc} {cells slots : Nat}
variable {y : MethodName} {bytes cc : ByteArray} {maxL nL mc ms n index : Nat} {ret : Option FieldType} {ws : List Cond} {rm : Room} {Pc : Array Value → State → Prop} {Qc : Array Value → State → Outcome → State → Prop} {XC : String → State → State → Prop} {free : Addr → Prop} {Ts : List Cond} {own C : String} {b : Addr} {As rest : List Value} {g : JFrame}
theorem vx_callBack (cb : CallB R s args own index y bytes maxL ret ws rm mc ms n) (hM : vx_Met l y ws rm Pc Qc XC mc ms free) (hbl : FrameBlind Pc) : vx_Back l R p e below s args y 3 8 (PreOf R mc ms Pc) (PostOf Qc mc ms free) (vx_Post XC mc ms free) := by
  obtain ⟨hrc, hrs, hfr, hlo, hws, hcw, -, hini, -⟩ := cb
  exact vx_back (bytes := bytes) (maxL := maxL) (ret := ret) hM hbl hrc hrs hfr hlo hws hcw (fun a' U hW => word_at hW (Or.inl (by first | rfl | simp [Cond.onTables, Cond.keeps, Cond.steady])) hini)
theorem vx_runV (S : CallFix p m c cc nL s args Ts own) (hM : vx_Met l y ws rm Pc Qc XC mc ms free) (cw : CallW R s args own C index y bytes maxL ret ws rm mc ms n) (hp : PreV s H C b Pc As)
    (hg : g.method = m) (hn : As.length = n) (hsize : g.locals.size = nL) (hstack : g.stack = As.reverse ++ .ref b :: rest) (hW : 2 * g.monitorRoom + (rest.map fun v => v.category).sum ≤ 8) (hdg : decode cc g.pc = .ok (.invokevirtual index, 3)) (hf : cells + mc ≤ R.cells ∧ slots + ms ≤ R.slots) :
    vx_Run p l e R s m args below meth c H locs cells slots mc ms g rest (Qc (Value.ref b :: As).toArray) XC free := by
  have hK : vx_Back l R p e below s args y 3 8 (PreOf R mc ms Pc) (PostOf Qc mc ms free) (vx_Post XC mc ms free) := vx_callBack cw.1 hM hp.1
  obtain ⟨⟨-, -, -, -, -, -, hcode, -, hy, hlen, hl⟩, hin, hse⟩ := cw
  obtain ⟨hx, hb, hml, ho, -⟩ := S
  obtain ⟨-, ⟨cellB, hcB, hoB, hclB⟩, hPc⟩ := hp
  intro T hT X
  rcases vx_callV X hx (C := C) (bytes := bytes) (maxL := maxL) (ret := ret) ho hl hin hse hcode hy hK (by rw [hT]; exact hcB) hoB hclB hg (hsize.trans hml.symm) (argsL := As) (rest := rest) (fun sig h => hn.trans (hlen sig h)) hstack hW (by rw [hb]; exact hdg)
    (fun vm₁ hW₁ => ⟨hf.1, hf.2, hPc (T.setVm vm₁) hT hW₁⟩) with ⟨v, vm₁, ⟨U', l2, c2, s2⟩, hW₁, X', ⟨g', mk, t, L, e1, e2, hq, h1, hL, h2, h3⟩, st⟩ | ⟨q, vm₁, ⟨U', l2, c2, s2⟩, hW₁, X', ⟨g', mk, t, L, E, ce, e1, e2, hq, hce, hcv, hcl, h1, hL, h2, h3⟩, st⟩
  · dsimp only [Pt.U, Pt.locs, Pt.cells, Pt.slots] at X' e1 e2 h1 h2 h3 st
    subst h1; subst h2; subst h3
    exact Or.inl ⟨v, (T.setVm vm₁).calling g' mk (Value.ref b :: As).toArray, t, U', L, hT, X', hL, e1, e2, hq, st⟩
  · dsimp only [Pt.U, Pt.locs, Pt.cells, Pt.slots] at X' e1 e2 h1 h2 h3 st hcl
    subst h1; subst h2; subst h3
    exact Or.inr ⟨q, (T.setVm vm₁).calling g' mk (Value.ref b :: As).toArray, t, U', L, E, ce, hT, X', hL, e1, e2, hq, hce, hcv, vx_cls hW₁ hcl, st⟩
theorem vx_runS (S : CallFix p m c cc nL s args Ts own) (hM : vx_Met l y ws rm Pc Qc XC mc ms free) (cw : CallB R s args own index y bytes maxL ret ws rm mc ms n ∧ (Cond.static y).before args s = true) (hp : PreS s H Pc As)
    (hg : g.method = m) (hn : As.length = n) (hsize : g.locals.size = nL) (hstack : g.stack = As.reverse ++ rest) (hW : 2 * g.monitorRoom + (rest.map fun v => v.category).sum ≤ 8) (hdg : decode cc g.pc = .ok (.invokestatic index, 3)) (hf : cells + mc ≤ R.cells ∧ slots + ms ≤ R.slots) :
    vx_Run p l e R s m args below meth c H locs cells slots mc ms g rest (Qc As.toArray) XC free := by
  have hK : vx_Back l R p e below s args y 3 8 (PreOf R mc ms Pc) (PostOf Qc mc ms free) (vx_Post XC mc ms free) := vx_callBack cw.1 hM hp.1
  obtain ⟨⟨-, -, -, -, -, -, hcode, hini, hy, hlen, hl⟩, hstt⟩ := cw
  obtain ⟨hx, hb, hml, ho, -⟩ := S
  intro T hT X
  rcases vx_callS X hx (bytes := bytes) (maxL := maxL) (ret := ret) ho hl hstt hini hcode hy hK hg (hsize.trans hml.symm) (argsL := As) (rest := rest) (fun sig h => hn.trans (hlen sig h)) hstack hW (by rw [hb]; exact hdg)
    (fun vm₁ hW₁ => ⟨hf.1, hf.2, hp.2 (T.setVm vm₁) hT hW₁⟩) with ⟨v, vm₁, ⟨U', l2, c2, s2⟩, hW₁, X', ⟨g', mk, t, L, e1, e2, hq, h1, hL, h2, h3⟩, st⟩ | ⟨q, vm₁, ⟨U', l2, c2, s2⟩, hW₁, X', ⟨g', mk, t, L, E, ce, e1, e2, hq, hce, hcv, hcl, h1, hL, h2, h3⟩, st⟩
  · dsimp only [Pt.U, Pt.locs, Pt.cells, Pt.slots] at X' e1 e2 h1 h2 h3 st
    subst h1; subst h2; subst h3
    exact Or.inl ⟨v, (T.setVm vm₁).calling g' mk As.toArray, t, U', L, hT, X', hL, e1, e2, hq, st⟩
  · dsimp only [Pt.U, Pt.locs, Pt.cells, Pt.slots] at X' e1 e2 h1 h2 h3 st hcl
    subst h1; subst h2; subst h3
    exact Or.inr ⟨q, (T.setVm vm₁).calling g' mk As.toArray, t, U', L, E, ce, hT, X', hL, e1, e2, hq, hce, hcv, vx_cls hW₁ hcl, st⟩
end Runs
section Rows
variable {p : Program} {l : Launch} {e : Env} {R : Room} {s : State} {m : MethodId} {args : Array Value} {below : List Frame} {meth : Method} {c : Code} {H : Heap} {locs : List Loc} {cells slots : Nat} {Q : State → Prop}
variable {mc ms : Nat} {free : Addr → Prop} {A0 A1 : Nat → Prop} {H0 : Heap} {a : Array Value} {pc : Nat} {ls : Array Slot} {st0 rest : List Value}
theorem vx_keep {st₀ t T' : State} {L : List Loc} (h0 : st₀.heap = H) (e1 : T'.heap = t.heap) (hS : va_S A0 H0 H locs) (hA : ∀ q, q < H.size → A1 q → A0 q) (hf : ∀ q, free q → A0 q) (hL : ∀ q ∈ L, free q.base) (hF : va_F A1 st₀ t) :
    H.size ≤ T'.heap.size ∧ (∀ q : Nat, q < H.size → ¬ A1 q → T'.heap[q]? = H[q]?) ∧ va_S A0 H0 T'.heap (locs ++ L) := by
  obtain ⟨hz, hk⟩ := hF
  rw [h0] at hz hk
  exact ⟨by rw [e1]; exact hz, fun q h1 h2 => by rw [e1]; exact hk q h1 h2,
    ⟨Nat.le_trans hS.1 (by rw [e1]; exact hz), fun q h1 h2 => by rw [e1, hk q (Nat.lt_of_lt_of_le h1 hS.1) (fun z => h2 (hA q (Nat.lt_of_lt_of_le h1 hS.1) z))]; exact hS.2.1 q h1 h2, fun q hq => by
      rcases List.mem_append.mp hq with h | h
      · exact hS.2.2 q h
      · exact hf _ (hL q h)⟩⟩
theorem vx_calli {S SX : Type} {post : Int32 → S → Prop} {px : SX → Prop} {B : S → State → Prop} {BX : String → SX → State → Prop} {AX : Nat → Prop} (hr : vx_Run p l e R s m args below meth c H locs cells slots mc ms (F0 m pc ls st0) rest (va_Qi post B A1 a) (vx_X px BX AX) free) (hS : va_S A0 H0 H locs) (hA : ∀ q, q < H.size → A1 q → A0 q) (hf : ∀ q, free q → A0 q) (hAX : ∀ q, q < H.size → AX q → A0 q)
    (kx : ∀ (E : String) (ce : Cell) (q9 : Addr) (u : SX) (t : State) (H1 : Heap) (locs1 : List Loc), t.heap = H1 → s.vm.Alike t.vm → px u → BX E u t → H.size ≤ H1.size → (∀ q : Nat, q < H.size → ¬ AX q → H1[q]? = H[q]?) → va_S A0 H0 H1 locs1 → H1[q9]? = some ce → ce.vm = .none → s.vm.findClass E = some ce.cls → vx_W p l e R s m args below meth c H1 locs1 (cells + mc) (slots + ms) Q (F0 m pc ls rest) q9)
    (kk : ∀ (r : Int32) (u : S) (t : State) (H1 : Heap) (locs1 : List Loc), t.heap = H1 → s.vm.Alike t.vm → post r u → B u t → H.size ≤ H1.size → (∀ q : Nat, q < H.size → ¬ A1 q → H1[q]? = H[q]?) → va_S A0 H0 H1 locs1 → W p l e R s m args below meth c H1 locs1 (cells + mc) (slots + ms) Q (F0 m (pc + 3) ls (.int r :: rest))) : W p l e R s m args below meth c H locs cells slots Q (F0 m pc ls st0) := by
  intro T hT X
  rcases hr T hT X with ⟨v, st₀, t, T', L, h0, X', hL, e1, e2, ⟨⟨r, u, hv, hp, hb⟩, hF⟩, st⟩ | ⟨q, st₀, t, T', L, E, ce, h0, X', hL, e1, e2, ⟨u, hp, hb, hF⟩, hce, hcv, hcl, st⟩
  · cases hv
    obtain ⟨k1, k2, k3⟩ := vx_keep h0 e1 hS hA hf hL hF
    obtain ⟨t2, a1, b1⟩ := kk r u t T'.heap (locs ++ L) e1.symm (by rw [← e2]; exact X'.warmed.alike) hp hb k1 k2 k3 T' rfl X'
    exact ⟨t2, st t2 a1, b1⟩
  · obtain ⟨k1, k2, k3⟩ := vx_keep h0 e1 hS hAX hf hL hF
    obtain ⟨t2, a1, b1⟩ := kx E ce q u t T'.heap (locs ++ L) e1.symm (by rw [← e2]; exact X'.warmed.alike) hp hb k1 k2 k3 (by rw [e1]; exact hce) hcv hcl T' rfl X'
    exact ⟨t2, st.trans a1, b1⟩
theorem vx_calll {S SX : Type} {post : Int64 → S → Prop} {px : SX → Prop} {B : S → State → Prop} {BX : String → SX → State → Prop} {AX : Nat → Prop} (hr : vx_Run p l e R s m args below meth c H locs cells slots mc ms (F0 m pc ls st0) rest (va_Ql post B A1 a) (vx_X px BX AX) free) (hS : va_S A0 H0 H locs) (hA : ∀ q, q < H.size → A1 q → A0 q) (hf : ∀ q, free q → A0 q) (hAX : ∀ q, q < H.size → AX q → A0 q)
    (kx : ∀ (E : String) (ce : Cell) (q9 : Addr) (u : SX) (t : State) (H1 : Heap) (locs1 : List Loc), t.heap = H1 → s.vm.Alike t.vm → px u → BX E u t → H.size ≤ H1.size → (∀ q : Nat, q < H.size → ¬ AX q → H1[q]? = H[q]?) → va_S A0 H0 H1 locs1 → H1[q9]? = some ce → ce.vm = .none → s.vm.findClass E = some ce.cls → vx_W p l e R s m args below meth c H1 locs1 (cells + mc) (slots + ms) Q (F0 m pc ls rest) q9)
    (kk : ∀ (r : Int64) (u : S) (t : State) (H1 : Heap) (locs1 : List Loc), t.heap = H1 → s.vm.Alike t.vm → post r u → B u t → H.size ≤ H1.size → (∀ q : Nat, q < H.size → ¬ A1 q → H1[q]? = H[q]?) → va_S A0 H0 H1 locs1 → W p l e R s m args below meth c H1 locs1 (cells + mc) (slots + ms) Q (F0 m (pc + 3) ls (.long r :: rest))) : W p l e R s m args below meth c H locs cells slots Q (F0 m pc ls st0) := by
  intro T hT X
  rcases hr T hT X with ⟨v, st₀, t, T', L, h0, X', hL, e1, e2, ⟨⟨r, u, hv, hp, hb⟩, hF⟩, st⟩ | ⟨q, st₀, t, T', L, E, ce, h0, X', hL, e1, e2, ⟨u, hp, hb, hF⟩, hce, hcv, hcl, st⟩
  · cases hv
    obtain ⟨k1, k2, k3⟩ := vx_keep h0 e1 hS hA hf hL hF
    obtain ⟨t2, a1, b1⟩ := kk r u t T'.heap (locs ++ L) e1.symm (by rw [← e2]; exact X'.warmed.alike) hp hb k1 k2 k3 T' rfl X'
    exact ⟨t2, st t2 a1, b1⟩
  · obtain ⟨k1, k2, k3⟩ := vx_keep h0 e1 hS hAX hf hL hF
    obtain ⟨t2, a1, b1⟩ := kx E ce q u t T'.heap (locs ++ L) e1.symm (by rw [← e2]; exact X'.warmed.alike) hp hb k1 k2 k3 (by rw [e1]; exact hce) hcv hcl T' rfl X'
    exact ⟨t2, st.trans a1, b1⟩
theorem vx_callf {S SX : Type} {post : UInt32 → S → Prop} {px : SX → Prop} {B : S → State → Prop} {BX : String → SX → State → Prop} {AX : Nat → Prop} (hr : vx_Run p l e R s m args below meth c H locs cells slots mc ms (F0 m pc ls st0) rest (va_Qf post B A1 a) (vx_X px BX AX) free) (hS : va_S A0 H0 H locs) (hA : ∀ q, q < H.size → A1 q → A0 q) (hf : ∀ q, free q → A0 q) (hAX : ∀ q, q < H.size → AX q → A0 q)
    (kx : ∀ (E : String) (ce : Cell) (q9 : Addr) (u : SX) (t : State) (H1 : Heap) (locs1 : List Loc), t.heap = H1 → s.vm.Alike t.vm → px u → BX E u t → H.size ≤ H1.size → (∀ q : Nat, q < H.size → ¬ AX q → H1[q]? = H[q]?) → va_S A0 H0 H1 locs1 → H1[q9]? = some ce → ce.vm = .none → s.vm.findClass E = some ce.cls → vx_W p l e R s m args below meth c H1 locs1 (cells + mc) (slots + ms) Q (F0 m pc ls rest) q9)
    (kk : ∀ (r : UInt32) (u : S) (t : State) (H1 : Heap) (locs1 : List Loc), t.heap = H1 → s.vm.Alike t.vm → post r u → B u t → H.size ≤ H1.size → (∀ q : Nat, q < H.size → ¬ A1 q → H1[q]? = H[q]?) → va_S A0 H0 H1 locs1 → W p l e R s m args below meth c H1 locs1 (cells + mc) (slots + ms) Q (F0 m (pc + 3) ls (.float r :: rest))) : W p l e R s m args below meth c H locs cells slots Q (F0 m pc ls st0) := by
  intro T hT X
  rcases hr T hT X with ⟨v, st₀, t, T', L, h0, X', hL, e1, e2, ⟨⟨r, u, hv, hp, hb⟩, hF⟩, st⟩ | ⟨q, st₀, t, T', L, E, ce, h0, X', hL, e1, e2, ⟨u, hp, hb, hF⟩, hce, hcv, hcl, st⟩
  · cases hv
    obtain ⟨k1, k2, k3⟩ := vx_keep h0 e1 hS hA hf hL hF
    obtain ⟨t2, a1, b1⟩ := kk r u t T'.heap (locs ++ L) e1.symm (by rw [← e2]; exact X'.warmed.alike) hp hb k1 k2 k3 T' rfl X'
    exact ⟨t2, st t2 a1, b1⟩
  · obtain ⟨k1, k2, k3⟩ := vx_keep h0 e1 hS hAX hf hL hF
    obtain ⟨t2, a1, b1⟩ := kx E ce q u t T'.heap (locs ++ L) e1.symm (by rw [← e2]; exact X'.warmed.alike) hp hb k1 k2 k3 (by rw [e1]; exact hce) hcv hcl T' rfl X'
    exact ⟨t2, st.trans a1, b1⟩
theorem vx_calld {S SX : Type} {post : UInt64 → S → Prop} {px : SX → Prop} {B : S → State → Prop} {BX : String → SX → State → Prop} {AX : Nat → Prop} (hr : vx_Run p l e R s m args below meth c H locs cells slots mc ms (F0 m pc ls st0) rest (va_Qd post B A1 a) (vx_X px BX AX) free) (hS : va_S A0 H0 H locs) (hA : ∀ q, q < H.size → A1 q → A0 q) (hf : ∀ q, free q → A0 q) (hAX : ∀ q, q < H.size → AX q → A0 q)
    (kx : ∀ (E : String) (ce : Cell) (q9 : Addr) (u : SX) (t : State) (H1 : Heap) (locs1 : List Loc), t.heap = H1 → s.vm.Alike t.vm → px u → BX E u t → H.size ≤ H1.size → (∀ q : Nat, q < H.size → ¬ AX q → H1[q]? = H[q]?) → va_S A0 H0 H1 locs1 → H1[q9]? = some ce → ce.vm = .none → s.vm.findClass E = some ce.cls → vx_W p l e R s m args below meth c H1 locs1 (cells + mc) (slots + ms) Q (F0 m pc ls rest) q9)
    (kk : ∀ (r : UInt64) (u : S) (t : State) (H1 : Heap) (locs1 : List Loc), t.heap = H1 → s.vm.Alike t.vm → post r u → B u t → H.size ≤ H1.size → (∀ q : Nat, q < H.size → ¬ A1 q → H1[q]? = H[q]?) → va_S A0 H0 H1 locs1 → W p l e R s m args below meth c H1 locs1 (cells + mc) (slots + ms) Q (F0 m (pc + 3) ls (.double r :: rest))) : W p l e R s m args below meth c H locs cells slots Q (F0 m pc ls st0) := by
  intro T hT X
  rcases hr T hT X with ⟨v, st₀, t, T', L, h0, X', hL, e1, e2, ⟨⟨r, u, hv, hp, hb⟩, hF⟩, st⟩ | ⟨q, st₀, t, T', L, E, ce, h0, X', hL, e1, e2, ⟨u, hp, hb, hF⟩, hce, hcv, hcl, st⟩
  · cases hv
    obtain ⟨k1, k2, k3⟩ := vx_keep h0 e1 hS hA hf hL hF
    obtain ⟨t2, a1, b1⟩ := kk r u t T'.heap (locs ++ L) e1.symm (by rw [← e2]; exact X'.warmed.alike) hp hb k1 k2 k3 T' rfl X'
    exact ⟨t2, st t2 a1, b1⟩
  · obtain ⟨k1, k2, k3⟩ := vx_keep h0 e1 hS hAX hf hL hF
    obtain ⟨t2, a1, b1⟩ := kx E ce q u t T'.heap (locs ++ L) e1.symm (by rw [← e2]; exact X'.warmed.alike) hp hb k1 k2 k3 (by rw [e1]; exact hce) hcv hcl T' rfl X'
    exact ⟨t2, st.trans a1, b1⟩
theorem vx_callv {S SX : Type} {post : S → Prop} {px : SX → Prop} {B : S → State → Prop} {BX : String → SX → State → Prop} {AX : Nat → Prop} (hr : vx_Run p l e R s m args below meth c H locs cells slots mc ms (F0 m pc ls st0) rest (va_Qv post B A1 a) (vx_X px BX AX) free) (hS : va_S A0 H0 H locs) (hA : ∀ q, q < H.size → A1 q → A0 q) (hf : ∀ q, free q → A0 q) (hAX : ∀ q, q < H.size → AX q → A0 q)
    (kx : ∀ (E : String) (ce : Cell) (q9 : Addr) (u : SX) (t : State) (H1 : Heap) (locs1 : List Loc), t.heap = H1 → s.vm.Alike t.vm → px u → BX E u t → H.size ≤ H1.size → (∀ q : Nat, q < H.size → ¬ AX q → H1[q]? = H[q]?) → va_S A0 H0 H1 locs1 → H1[q9]? = some ce → ce.vm = .none → s.vm.findClass E = some ce.cls → vx_W p l e R s m args below meth c H1 locs1 (cells + mc) (slots + ms) Q (F0 m pc ls rest) q9)
    (kk : ∀ (u : S) (t : State) (H1 : Heap) (locs1 : List Loc), t.heap = H1 → s.vm.Alike t.vm → post u → B u t → H.size ≤ H1.size → (∀ q : Nat, q < H.size → ¬ A1 q → H1[q]? = H[q]?) → va_S A0 H0 H1 locs1 → W p l e R s m args below meth c H1 locs1 (cells + mc) (slots + ms) Q (F0 m (pc + 3) ls (rest))) : W p l e R s m args below meth c H locs cells slots Q (F0 m pc ls st0) := by
  intro T hT X
  rcases hr T hT X with ⟨v, st₀, t, T', L, h0, X', hL, e1, e2, ⟨⟨u, hv, hp, hb⟩, hF⟩, st⟩ | ⟨q, st₀, t, T', L, E, ce, h0, X', hL, e1, e2, ⟨u, hp, hb, hF⟩, hce, hcv, hcl, st⟩
  · cases hv
    obtain ⟨k1, k2, k3⟩ := vx_keep h0 e1 hS hA hf hL hF
    obtain ⟨t2, a1, b1⟩ := kk u t T'.heap (locs ++ L) e1.symm (by rw [← e2]; exact X'.warmed.alike) hp hb k1 k2 k3 T' rfl X'
    exact ⟨t2, st t2 a1, b1⟩
  · obtain ⟨k1, k2, k3⟩ := vx_keep h0 e1 hS hAX hf hL hF
    obtain ⟨t2, a1, b1⟩ := kx E ce q u t T'.heap (locs ++ L) e1.symm (by rw [← e2]; exact X'.warmed.alike) hp hb k1 k2 k3 (by rw [e1]; exact hce) hcv hcl T' rfl X'
    exact ⟨t2, st.trans a1, b1⟩
/-- caught by the row x of this method's table; the rows ahead don't take it -/
theorem vx_catch {own name : String} {E : String} {ce : Cell} {q : Addr} (hown : s.vm.findClass own = some m.cls) (pre : List ExceptionTableEntry) (x : ExceptionTableEntry) (suf : List ExceptionTableEntry) (hsplit : c.exceptionTable.toList = pre ++ x :: suf)
    (hpass : ∀ z ∈ pre, covers z pc = false ∨ (z.catchType ≠ 0 ∧ ∃ nm : String, (Cond.classLink own z.catchType nm).before args s = true ∧ va_Nc E nm s)) (hx : covers x pc = true) (h0 : x.catchType ≠ 0)
    (hlink : (Cond.classLink own x.catchType name).before args s = true) (hcast : (Cond.castable E name).before args s = true) (hcell : H[q]? = some ce) (hv : ce.vm = .none) (hcl : s.vm.findClass E = some ce.cls)
    (kk : W p l e R s m args below meth c H locs cells slots Q (F0 m x.handlerPc ls [.ref q])) : vx_W p l e R s m args below meth c H locs cells slots Q (F0 m pc ls rest) q := by
  intro T hT X
  have hpl : e.platform.magicAccessors = ({} : Platform).magicAccessors := by rw [X.admits.platform]
  obtain ⟨c3, c4, hc3, hc4, hasg⟩ := Cond.castable_spec hcast
  cases Option.some.inj (hc3.symm.trans hcl)
  obtain ⟨c5, hc5, hcl5⟩ := Cond.classLink_spec hown hlink e.platform hpl
  cases Option.some.inj (hc4.symm.trans hc5)
  obtain ⟨vm', X', st⟩ := X.thenCaughtThrough q (g := F0 m pc ls rest) rfl (Steps.refl _) (by rw [hT]; exact hcell) (by rw [hv]; rfl) (by obtain ⟨k9, h9, -⟩ := Vm.findClass_spec hcl; exact ⟨k9, h9⟩) pre x suf hsplit
    (fun z hz => by
      rcases hpass z hz with h | ⟨hz0, nm, hl1, hn1⟩
      · exact Or.inl h
      · obtain ⟨c6, hc6, hcl6⟩ := Cond.classLink_spec hown hl1 e.platform hpl
        obtain ⟨a8, b8, h1, h2, h3⟩ := hn1
        cases Option.some.inj (h1.symm.trans hcl)
        cases Option.some.inj (h2.symm.trans hc6)
        exact Or.inr ⟨hz0, _, hcl6, h3⟩) hx (Or.inr ⟨h0, c4, hcl5, hasg⟩)
  obtain ⟨t, a1, b1⟩ := kk (T.setVm vm') hT X'
  exact ⟨t, st.trans a1, b1⟩
end Rows
section Ends
variable {p : Program} {l : Launch} {e : Env} {R : Room} {s : State} {m : MethodId} {args : Array Value} {below : List Frame} {meth : Method} {c : Code} {H : Heap} {locs : List Loc} {cells slots : Nat} {Q : State → Prop}
variable {mc ms : Nat} {free : Addr → Prop} {A0 A1 : Nat → Prop} {H0 : Heap} {a : Array Value} {ls : Array Slot} {st0 rest : List Value}
variable {Qc : Array Value → State → Outcome → State → Prop} {XC : String → State → State → Prop}
/-- what a body that may throw owes at its end -/
def vx_MQ (below : List Frame) (Qc : Array Value → State → Outcome → State → Prop) (XC : String → State → State → Prop) (a : Array Value) (s : State) (mc ms : Nat) (free : Addr → Prop) : State → Prop := fun t =>
  ∃ o, t.status = .running ∧ Ended t below o ∧ vx_Q Qc XC mc ms free a s o t
theorem vx_ret {g : JFrame} {mc ms : Nat} (k : W p l e R s m args below meth c H locs cells slots (MQ below Qc args s mc ms free) g) : W p l e R s m args below meth c H locs cells slots (vx_MQ below Qc XC args s mc ms free) g := by
  intro T hT X
  obtain ⟨t, a1, o, b1, b2, b3, b4⟩ := k T hT X
  exact ⟨t, a1, o, b1, b2, Or.inl ⟨b3, b4⟩⟩
/-- not caught here: it goes on to the caller -/
theorem vx_widen {g : JFrame} {q : Addr} {k n : Nat} (h1 : cells ≤ k) (h2 : slots ≤ n) (kk : vx_W p l e R s m args below meth c H locs k n Q g q) : vx_W p l e R s m args below meth c H locs cells slots Q g q := fun T hT X => kk T hT (stand_widen X h1 h2)
theorem vx_out {pc : Nat} {E : String} {ce : Cell} {q : Addr} {mc ms : Nat} (hout : ∀ x ∈ c.exceptionTable.toList, covers x pc = false) (hlocks : meth.locks = false) (hcell : H[q]? = some ce) (hv : ce.vm = .none) (hcl : s.vm.findClass E = some ce.cls)
    (hx : ∀ t : State, t.heap = H → s.vm.Alike t.vm → XC E s t) (hf : ∀ z ∈ locs, free z.base) (hc : cells ≤ mc) (hs : slots ≤ ms) :
    vx_W p l e R s m args below meth c H locs cells slots (vx_MQ below Qc XC args s mc ms free) (F0 m pc ls rest) q := by
  intro T hT X
  obtain ⟨st1, hrun, hend, hW, hsm⟩ := X.leaveThrown q (g := F0 m pc ls rest) rfl rfl rfl hout hlocks
  have hcell9 : (T.setFrames (.throwing q :: below)).heap[q]? = some ce := by
    show T.heap[q]? = some ce
    rw [hT]; exact hcell
  exact ⟨_, st1, .threw q, hrun, hend, Or.inr ⟨q, rfl, E, ce, locs, hx _ hT hW.alike, hcell9, hv, hcl, hW, hsm.mono hc hs, hf⟩⟩
theorem vx_frame {U : State} {k n : Nat} (h : s.sameButNew ({ U with vm := s.vm } : State) locs k n) : s.heap.size ≤ U.heap.size ∧ ∀ q : Nat, q < s.heap.size → (∀ z ∈ locs, z.base ≠ q) → U.heap[q]? = s.heap[q]? := by
  obtain ⟨-, h2, -, -, -, h6⟩ := h
  refine ⟨h2, fun q hq hz => ?_⟩
  obtain ⟨c9, e1, e2, e3, e4⟩ := h6 q _ (Array.getElem?_eq_getElem hq)
  have hs : c9.slots = (s.heap[q]).slots := Array.ext_getElem? fun i => e4 i fun hm => hz _ hm rfl
  have h9 : c9 = s.heap[q] := by
    rw [hs] at e2
    exact e2
  have e5 : U.heap[q]? = some c9 := e1
  rw [e5, h9, Array.getElem?_eq_getElem hq]
/-- the words of a throw but the four that speak of the heap -/
def vx_no (w : Cond) : Bool := decide (w ≠ .isRef (.static Bundle.tN "UNASSIGNED_STACK" Bundle.steD)) && decide (w ≠ .isRef (.static Bundle.tN "SUPPRESSED_SENTINEL" Bundle.listD)) && decide (w ≠ .laysStatic Bundle.tN "UNASSIGNED_STACK" Bundle.steD) && decide (w ≠ .laysStatic Bundle.tN "SUPPRESSED_SENTINEL" Bundle.listD)
def vx_at0 (own : String) (ic : Nat) (X : String) (names : List String) : List Cond := (Bundle.ownAtoms0 own ic X names).filter vx_no
def vx_atS (own : String) (ic : Nat) (X : String) (names : List String) : List Cond := (Bundle.ownAtoms own ic X names).filter vx_no
/-- a word that the tables alone decide, or a good one -/
def vx_ot (w : Cond) : Bool := w.onTables || goodWord w
theorem vx_ot_at {args a' : Array Value} {s U : State} {w : Cond} (hW : s.WarmedH U.vm) (hvm : s.vm = U.vm) (hg : vx_ot w = true) (h : w.before args s = true) : w.before a' U = true := by
  simp only [vx_ot, Bool.or_eq_true] at hg
  rcases hg with hg | hg
  · exact va_tabs hg hvm h
  · exact word_at hW (good_of_word hg) h
/-- a list's words: the good ones out of the method's own list, the others by premises of their own -/
theorem vx_hat {args : Array Value} {s : State} {L B : List Cond} (h1 : ∀ w ∈ L.filter goodWord, w.before args s = true) (h2 : ∀ w ∈ L.filter (fun w => !goodWord w), w ∈ B) (h3 : ∀ w ∈ B, w.before args s = true) : ∀ w ∈ L, w.before args s = true := by
  intro w hw
  by_cases g : goodWord w = true
  · exact h1 w (List.mem_filter.mpr ⟨hw, g⟩)
  · refine h3 w (h2 w (List.mem_filter.mpr ⟨hw, ?_⟩))
    show (!goodWord w) = true
    cases hgw : goodWord w
    · rfl
    · exact absurd hgw g
theorem vx_c {args : Array Value} {s : State} {w : Cond} {B : List Cond} (h : w.before args s = true) (t : ∀ w ∈ B, w.before args s = true) : ∀ w' ∈ w :: B, w'.before args s = true := fun w' h' => (List.mem_cons.mp h').elim (fun e => by rw [e]; exact h) (t w')
theorem vx_n {args : Array Value} {s : State} : ∀ w ∈ ([] : List Cond), w.before args s = true := fun _ h => nomatch h
theorem vx_own {args : Array Value} {s : State} {L : List Cond} (h1 : ∀ w ∈ L.filter vx_no, w.before args s = true)
    (hU : (Cond.isRef (.static Bundle.tN "UNASSIGNED_STACK" Bundle.steD)).before args s = true) (hN : (Cond.isRef (.static Bundle.tN "SUPPRESSED_SENTINEL" Bundle.listD)).before args s = true)
    (lU : (Cond.laysStatic Bundle.tN "UNASSIGNED_STACK" Bundle.steD).before args s = true) (lN : (Cond.laysStatic Bundle.tN "SUPPRESSED_SENTINEL" Bundle.listD).before args s = true) : ∀ w ∈ L, w.before args s = true := by
  intro w hw
  by_cases e1 : w = .isRef (.static Bundle.tN "UNASSIGNED_STACK" Bundle.steD)
  · rw [e1]; exact hU
  · by_cases e2 : w = .isRef (.static Bundle.tN "SUPPRESSED_SENTINEL" Bundle.listD)
    · rw [e2]; exact hN
    · by_cases e3 : w = .laysStatic Bundle.tN "UNASSIGNED_STACK" Bundle.steD
      · rw [e3]; exact lU
      · by_cases e4 : w = .laysStatic Bundle.tN "SUPPRESSED_SENTINEL" Bundle.listD
        · rw [e4]; exact lN
        · exact h1 w (List.mem_filter.mpr ⟨hw, by unfold vx_no; rw [decide_eq_true e1, decide_eq_true e2, decide_eq_true e3, decide_eq_true e4]; rfl⟩)
/-- where a static field lies, its class's statics cell in H -/
def vx_L (C n d : String) (A : Nat → Prop) (U : State) (H : Heap) : Prop := ∃ (c : ClassId) (k : Class) (i : Nat) (f : Field) (a : Nat) (cell : Cell), U.vm.findClass C = some c ∧ U.fieldFound? C n d = some (c, k, i, f) ∧ f.isStatic = true ∧ k.statics = some a ∧ H[a]? = some cell ∧ cell.vm.isStatics = true ∧ cell.cls = c ∧ f.slot < cell.slots.size ∧ k.staticTypes[f.slot]? = some f.type ∧ ¬ A a
theorem vx_L.moved {C n d : String} {A : Nat → Prop} {u U : State} {H : Heap} (hvm : u.vm.Alike U.vm) (h : vx_L C n d A u H) : vx_L C n d A U H := by
  obtain ⟨c, k, i, f, a, cell, h1, h2, h3, h4, h5, h6, h7, h8, h9, h10⟩ := h
  obtain ⟨k', hi', he⟩ := State.fieldFound?_setVm hvm h2
  exact ⟨c, k', i, f, a, cell, by rw [hvm.findClass]; exact h1, hi', h3, by rw [he]; exact h4, h5, h6, h7, h8, by rw [he]; exact h9, h10⟩
theorem vx_L.kept {C n d : String} {A : Nat → Prop} {U : State} {H H1 : Heap} (h : vx_L C n d A U H) (hq : ∀ a : Nat, a < H.size → ¬ A a → H1[a]? = H[a]?) : vx_L C n d A U H1 := by
  obtain ⟨c, k, i, f, a, cell, h1, h2, h3, h4, h5, h6, h7, h8, h9, h10⟩ := h
  exact ⟨c, k, i, f, a, cell, h1, h2, h3, h4, by rw [hq a (Array.getElem?_eq_some_iff.mp h5).1 h10]; exact h5, h6, h7, h8, h9, h10⟩
theorem vx_L.narrow {C n d : String} {A B : Nat → Prop} {U : State} {H : Heap} (h : vx_L C n d A U H) (hAB : ∀ q, B q → A q) : vx_L C n d B U H := by
  obtain ⟨c, k, i, f, a, cell, h1, h2, h3, h4, h5, h6, h7, h8, h9, h10⟩ := h
  exact ⟨c, k, i, f, a, cell, h1, h2, h3, h4, h5, h6, h7, h8, h9, fun z => h10 (hAB _ z)⟩
theorem vx_L.word {C n d : String} {A : Nat → Prop} {s : State} {args : Array Value} (h : vx_L C n d A s s.heap) : (Cond.laysStatic C n d).before args s = true := by
  obtain ⟨c, k, i, f, a, cell, h1, h2, h3, h4, h5, h6, h7, h8, h9, -⟩ := h
  show (Cond.laysStatic C n d).holds args s none s [] = true
  exact Cond.laysStatic_of h1 h2 h3 h4 h5 h6 h7 h8 h9
/-- .. and what it holds: null or some reference -/
def vx_Zq (C n d : String) (A : Nat → Prop) (U : State) (H : Heap) : Prop := va_Zq C n d A U H ∧ vx_L C n d A U H
theorem vx_Zq.moved {C n d : String} {A : Nat → Prop} {u U : State} {H : Heap} (hvm : u.vm.Alike U.vm) (h : vx_Zq C n d A u H) : vx_Zq C n d A U H := ⟨va_Zq.moved hvm h.1, vx_L.moved hvm h.2⟩
theorem vx_Zq.kept {C n d : String} {A : Nat → Prop} {U : State} {H H1 : Heap} (h : vx_Zq C n d A U H) (hq : ∀ a : Nat, a < H.size → ¬ A a → H1[a]? = H[a]?) : vx_Zq C n d A U H1 := ⟨va_Zq.kept h.1 hq, vx_L.kept h.2 hq⟩
theorem vx_Zq.narrow {C n d : String} {A B : Nat → Prop} {U : State} {H : Heap} (h : vx_Zq C n d A U H) (hAB : ∀ q, B q → A q) : vx_Zq C n d B U H := ⟨va_Zq.narrow h.1 hAB, vx_L.narrow h.2 hAB⟩
theorem vx_Zqof {args : Array Value} {s : State} {C n d : String} {A : Nat → Prop} (hl : (Cond.laysStatic C n d).before args s = true) (hini : (Cond.initialized C).before args s = true) (h : (Cond.isRef (.static C n d)).before args s = true) (hA : ∀ a : Nat, a < s.heap.size → ¬ A a) : vx_Zq C n d A s s.heap := by
  refine ⟨va_Zqof hl hini h hA, ?_⟩
  obtain ⟨c, k, i, f, a, cell, h1, h2, h3, h4, h5, h6, h7, h8, h9⟩ := Cond.laysStatic_spec hl
  exact ⟨c, k, i, f, a, cell, h1, h2, h3, h4, h5, h6, h7, h8, h9, hA a (Array.getElem?_eq_some_iff.mp h5).1⟩
theorem vx_isRef {C n d : String} {v : Value} {A : Nat → Prop} {s : State} {args : Array Value} (h : va_Z C n d v A s s.heap) (hv : v.isRef = true) : (Cond.isRef (.static C n d)).before args s = true := by
  obtain ⟨cf, kf, fi, f, a, cell, h1, h2, h3, h4, h5, h6, h7, -⟩ := h
  have he : (Term.static C n d).eval args s none [] s = some v := by
    simp [Term.eval, State.fieldNamed?, h1, h2, h4, h5, h6, h7]
  simp only [Cond.before, Cond.holds, Cond.value, he]
  cases v <;> simp_all [Value.isRef]
theorem vx_isRefq {C n d : String} {A : Nat → Prop} {s : State} {args : Array Value} (h : va_Zq C n d A s s.heap) : (Cond.isRef (.static C n d)).before args s = true := by
  rcases h with h | ⟨t, h⟩
  · exact vx_isRef h rfl
  · exact vx_isRef h rfl
/-- the same frame, seen from here: as if the method were called anew in this heap -/
theorem vx_rebase {T : State} (X : Stand p l e R s m args below meth c T locs cells slots) {R' : Room} (hf : R'.frames ≤ R.frames) (hl : R'.locals ≤ R.locals) (hc : cells + R'.cells ≤ R.cells) (hs : slots + R'.slots ≤ R.slots) :
    Stand p l e R' ((T.setVm s.vm).setFrames (.invoking m args :: below)) m args below meth c T [] 0 0 := by
  have htop : (T.setVm s.vm).topJava?.isSome := X.here.top
  have hF : ((T.setVm s.vm).setFrames (.invoking m args :: below)).frames = .invoking m args :: below := State.frames_setFrames _ (State.cur_lt_of_top htop)
  obtain ⟨g₀, hg0⟩ := Option.isSome_iff_exists.mp htop
  obtain ⟨r, hr⟩ := State.topJava?_eq_some.mp hg0
  have hl9 : e.platform.stackLimits (T.setVm s.vm).me = e.platform.stackLimits s.me := X.limits
  have hb9 : (T.setVm s.vm).me.stackBytes = s.me.stackBytes := X.bytes
  refine ⟨X.admits, X.cas, X.clock, hF, ?_, X.hears, X.method, X.code, X.here, X.tail, X.warmed, ?_, ?_, ?_⟩
  · have h := X.room
    have hU : ((T.setVm s.vm).setFrames (.invoking m args :: below)).localsInUse = s.localsInUse := by
      rw [State.localsInUse_invoking hF (meth := meth) (c := c) X.method X.code, State.localsInUse_invoking X.frames X.method X.code]
    simp only [State.hasRoom, Bool.and_eq_true, decide_eq_true_eq] at h ⊢
    obtain ⟨⟨⟨⟨h1, h2, h3, h4, h5, h6⟩, h7⟩, h8⟩, h9⟩ := h
    rw [X.frames, List.length_cons] at h2 h3
    have q1 := X.heapSize
    have q2 := X.used
    simp only [hF, hU, List.length_cons, State.stackLimits_setFrames, State.stackBytes_setFrames, hl9, hb9]
    refine ⟨⟨⟨⟨by omega, by omega, by omega, by omega, by omega, h6⟩, ?_⟩, ?_⟩, X.book⟩
    · show T.heap.size + R'.cells ≤ e.platform.maxCells
      omega
    · show T.slotsUsed + R'.slots ≤ e.platform.maxSlots
      omega
  · rw [State.stackLimits_setFrames]; rfl
  · rw [State.stackBytes_setFrames]; rfl
  · refine ⟨?_, Nat.le_refl _, Nat.le_refl _, ?_, ?_, fun a c9 h9 => ⟨c9, h9, rfl, rfl, fun _ _ => rfl⟩⟩
    · obtain ⟨t, ht, -⟩ := State.frames_cons hr
      show T.setVm s.vm = { ((T.setVm s.vm).setFrames (.invoking m args :: below)).setFrames (T.setVm s.vm).frames with heap := T.heap, slotsUsed := T.slotsUsed }
      rw [State.setFrames_setFrames, State.setFrames_self ht]
      rfl
    · show T.slotsUsed = T.slotsUsed + ((T.heap.toList.drop T.heap.size).map (·.slots.size)).sum
      rw [List.drop_eq_nil_of_le (Nat.le_of_eq Array.length_toList)]
      rfl
    · show ((T.heap.toList.drop T.heap.size).map (·.slots.size)).sum ≤ 0
      rw [List.drop_eq_nil_of_le (Nat.le_of_eq Array.length_toList)]
      exact Nat.le_refl _
/-- 'throw new E()': new; dup; invokespecial; athrow -/
theorem vx_throw0 {cc : ByteArray} {pc : Nat} (hexec : p.tables.exec = Jvm.exec) (hb : c.code = cc) (hl : l.stackTraces = false) {own cls : String} {names : List String} {ik ic mc ms : Nat} {A : Nat → Prop}
    (hown : s.vm.findClass own = some m.cls) (hcls : Bundle.fit cls = true) (hnames : ∀ n ∈ names, Bundle.fit n = true)
    (hk : (Cond.classLink own ik cls).before args s = true) (hini : (Cond.initialized cls).before args s = true) (hat : ∀ w ∈ vx_at0 own ic cls names, w.before args s = true)
    (hgood : ∀ w ∈ Cond.classLink own ik cls :: Cond.initialized cls :: vx_at0 own ic cls names, vx_ot w = true)
    (hU : vx_Zq Bundle.tN "UNASSIGNED_STACK" Bundle.steD A s s.heap) (hN : vx_Zq Bundle.tN "SUPPRESSED_SENTINEL" Bundle.listD A s s.heap) (hS : va_S A s.heap H locs) (hsize : ls.size = c.maxLocals)
    (d0 : decode cc pc = .ok (.new ik, 3)) (d3 : decode cc (pc + 3) = .ok (.dup, 1)) (d4 : decode cc (pc + 4) = .ok (.invokespecial ic, 3)) (d7 : decode cc (pc + 7) = .ok (.athrow, 1))
    (hout : ∀ x ∈ c.exceptionTable.toList, covers x (pc + 7) = false)
    (hRframes : names.length + 3 < R.frames) (hRlocals : (rest.map fun v => v.category).sum + (13 * (names.length + 1) + 42) ≤ R.locals) (hRcells : cells + 1 ≤ R.cells) (hRslots : slots + 6 ≤ R.slots) (hlocks : meth.locks = false)
    (hx : ∀ t : State, s.vm.Alike t.vm → H.size ≤ t.heap.size → (∀ q : Nat, q < H.size → t.heap[q]? = H[q]?) → XC cls s t)
    (hf : ∀ z ∈ locs, free z.base) (hc : cells + 1 ≤ mc) (hs : slots + 6 ≤ ms) :
    W p l e R s m args below meth c H locs cells slots (vx_MQ below Qc XC args s mc ms free) (F0 m pc ls rest) := by
  intro T hT X
  have htr : e.platform.stackTraces = false := (show e.platform.stackTraces = l.stackTraces by rw [X.admits.platform]).trans hl
  have Y := vx_rebase X (R' := { frames := R.frames, locals := R.locals, cells := 1, slots := 6 }) (Nat.le_refl _) (Nat.le_refl _) hRcells hRslots
  obtain ⟨s', hA⟩ : ∃ z, z = (T.setVm s.vm).setFrames (.invoking m args :: below) := ⟨_, rfl⟩
  rw [← hA] at Y
  have hvm : s'.vm = s.vm := by rw [hA]; rfl
  have hhp : s'.heap = H := by rw [hA]; exact hT
  have hW0 : s.WarmedH s'.vm := by rw [hvm]; exact State.WarmedH.refl s
  have hat' : ∀ w ∈ vx_at0 own ic cls names, w.before args s' = true := fun w hw => vx_ot_at hW0 hvm.symm (hgood w (List.mem_cons_of_mem _ (List.mem_cons_of_mem _ hw))) (hat w hw)
  have hk' : (Cond.classLink own ik cls).before args s' = true := vx_ot_at hW0 hvm.symm (hgood _ List.mem_cons_self) hk
  have hini' : (Cond.initialized cls).before args s' = true := vx_ot_at hW0 hvm.symm (hgood _ (List.mem_cons_of_mem _ List.mem_cons_self)) hini
  have hU' : vx_Zq Bundle.tN "UNASSIGNED_STACK" Bundle.steD A s' s'.heap := by rw [hhp]; exact vx_Zq.moved hW0.alike (hU.kept hS.2.1)
  have hN' : vx_Zq Bundle.tN "SUPPRESSED_SENTINEL" Bundle.listD A s' s'.heap := by rw [hhp]; exact vx_Zq.moved hW0.alike (hN.kept hS.2.1)
  have h : ∀ w ∈ Bundle.ownAtoms0 own ic cls names, w.before args s' = true := vx_own hat' (vx_isRefq hU'.1) (vx_isRefq hN'.1) hU'.2.word hN'.2.word
  have hown' : s'.vm.findClass own = some m.cls := by rw [hvm]; exact hown
  have hins : (Cond.instantiable cls 6).before args s' = true := h _ (by simp [Bundle.ownAtoms0])
  obtain ⟨vm₁, cX, kX, hfX, hkX, -, -, X₁, st1⟩ := Y.newCold hexec (own := own) (C := cls) (index := ik) (n := 6) hown' hk' hins hini'
    (g := F0 m pc ls rest) rfl (by rw [hb]; exact d0) (Nat.le_refl _) (Nat.le_refl _)
  generalize hT1 : (T.setVm vm₁).pushCell { cls := cX, slots := kX.instanceTypes.map defaultValue, vm := .none } = T1 at X₁ st1
  have hcat : (Value.ref T.heap.size).category = 1 := rfl
  have hcellA : T1.heap[T.heap.size]? = some (freshCell cX kX) := by rw [← hT1]; exact State.heap_pushCell_size _ _
  have d3' : decode c.code (pc + 3) = .ok (.dup, 1) := by rw [hb]; exact d3
  obtain ⟨U, hsteps, hrun, hend, hW, hsame, ce, hce, hO⟩ := X₁.ctorThrow0 hexec htr (own := own) (cls := cls) (names := names) (ic := ic) hown' hcls hnames h (fun x hx => nomatch hx) hfX hkX hcellA (by rw [hhp, hT]; exact Nat.le_refl _)
    (g := { method := m, pc := pc + 4, locals := ls, stack := .ref T.heap.size :: .ref T.heap.size :: rest, locked := none }) rfl hsize rfl rfl (rest := rest) rfl
    (by rw [hb]; exact d4) (by rw [hb]; exact d7) hout hRframes (by simp only [List.map_cons, List.sum_cons, hcat]; omega) hlocks
  obtain ⟨f1, f2⟩ := vx_frame hsame
  rw [hhp] at f1 f2
  have hWs : s.WarmedH U.vm := State.WarmedH.trans hW0 hW
  have hcl : s.vm.findClass cls = some ce.cls := by
    have h9 := hO.cls
    rw [hvm] at h9
    exact h9
  have hall : s.sameButNew ({ U with vm := s.vm } : State) locs mc ms := by
    subst hA
    obtain ⟨e1, e2⟩ := hsame
    rw [State.setFrames_setFrames] at e1
    have h2 : (T.setVm s.vm).sameButNew ({ U with vm := s.vm } : State) [] (0 + 1) (0 + 6) := ⟨e1, e2⟩
    have h3 := X.same.trans h2
    rw [List.append_nil] at h3
    exact h3.mono hc hs
  refine ⟨U, ?_, .threw T.heap.size, hrun, hend, Or.inr ⟨T.heap.size, rfl, cls, ce, locs, hx U hWs.alike f1 (fun q hq => f2 q hq (fun z hz => nomatch hz)), hce, hO.vm, hcl, hWs, hall, hf⟩⟩
  refine st1 _ ?_
  show Steps p.tables e below (T1.setTop { method := m, pc := pc + 3, locals := ls, stack := .ref T.heap.size :: rest, locked := none }) _
  jvm_step X₁.here [X₁.here.top, hexec, d3', Value.category]
  exact hsteps
/-- 'throw new E("text")': new; dup; ldc; invokespecial; athrow -/
theorem vx_throwS {cc : ByteArray} {pc : Nat} (hexec : p.tables.exec = Jvm.exec) (hb : c.code = cc) (hl : l.stackTraces = false) {own cls text : String} {names : List String} {ik is ic mc ms sa : Nat} {A : Nat → Prop}
    (hown : s.vm.findClass own = some m.cls) (hcls : Bundle.fit cls = true) (hnames : ∀ n ∈ names, Bundle.fit n = true)
    (hk : (Cond.classLink own ik cls).before args s = true) (hini : (Cond.initialized cls).before args s = true) (hstr : vk_R own is text sa s) (hat : ∀ w ∈ vx_atS own ic cls names, w.before args s = true)
    (hgood : ∀ w ∈ Cond.classLink own ik cls :: Cond.initialized cls :: vx_atS own ic cls names, vx_ot w = true)
    (hU : vx_Zq Bundle.tN "UNASSIGNED_STACK" Bundle.steD A s s.heap) (hN : vx_Zq Bundle.tN "SUPPRESSED_SENTINEL" Bundle.listD A s s.heap) (hS : va_S A s.heap H locs) (hsize : ls.size = c.maxLocals)
    (d0 : decode cc pc = .ok (.new ik, 3)) (d3 : decode cc (pc + 3) = .ok (.dup, 1)) (d4 : decode cc (pc + 4) = .ok (.ldc is, 2)) (d6 : decode cc (pc + 6) = .ok (.invokespecial ic, 3)) (d9 : decode cc (pc + 9) = .ok (.athrow, 1))
    (hout : ∀ x ∈ c.exceptionTable.toList, covers x (pc + 9) = false)
    (hRframes : names.length + 3 < R.frames) (hRlocals : (rest.map fun v => v.category).sum + (13 * (names.length + 1) + 43) ≤ R.locals) (hRcells : cells + 1 ≤ R.cells) (hRslots : slots + 6 ≤ R.slots) (hlocks : meth.locks = false)
    (hx : ∀ t : State, s.vm.Alike t.vm → H.size ≤ t.heap.size → (∀ q : Nat, q < H.size → t.heap[q]? = H[q]?) → XC cls s t)
    (hf : ∀ z ∈ locs, free z.base) (hc : cells + 1 ≤ mc) (hs : slots + 6 ≤ ms) :
    W p l e R s m args below meth c H locs cells slots (vx_MQ below Qc XC args s mc ms free) (F0 m pc ls rest) := by
  intro T hT X
  have htr : e.platform.stackTraces = false := (show e.platform.stackTraces = l.stackTraces by rw [X.admits.platform]).trans hl
  have Y := vx_rebase X (R' := { frames := R.frames, locals := R.locals, cells := 1, slots := 6 }) (Nat.le_refl _) (Nat.le_refl _) hRcells hRslots
  obtain ⟨s', hA⟩ : ∃ z, z = (T.setVm s.vm).setFrames (.invoking m args :: below) := ⟨_, rfl⟩
  rw [← hA] at Y
  have hvm : s'.vm = s.vm := by rw [hA]; rfl
  have hhp : s'.heap = H := by rw [hA]; exact hT
  have hW0 : s.WarmedH s'.vm := by rw [hvm]; exact State.WarmedH.refl s
  have hat' : ∀ w ∈ vx_atS own ic cls names, w.before args s' = true := fun w hw => vx_ot_at hW0 hvm.symm (hgood w (List.mem_cons_of_mem _ (List.mem_cons_of_mem _ hw))) (hat w hw)
  have hk' : (Cond.classLink own ik cls).before args s' = true := vx_ot_at hW0 hvm.symm (hgood _ List.mem_cons_self) hk
  have hini' : (Cond.initialized cls).before args s' = true := vx_ot_at hW0 hvm.symm (hgood _ (List.mem_cons_of_mem _ List.mem_cons_self)) hini
  have hU' : vx_Zq Bundle.tN "UNASSIGNED_STACK" Bundle.steD A s' s'.heap := by rw [hhp]; exact vx_Zq.moved hW0.alike (hU.kept hS.2.1)
  have hN' : vx_Zq Bundle.tN "SUPPRESSED_SENTINEL" Bundle.listD A s' s'.heap := by rw [hhp]; exact vx_Zq.moved hW0.alike (hN.kept hS.2.1)
  have h : ∀ w ∈ Bundle.ownAtoms own ic cls names, w.before args s' = true := vx_own hat' (vx_isRefq hU'.1) (vx_isRefq hN'.1) hU'.2.word hN'.2.word
  have hown' : s'.vm.findClass own = some m.cls := by rw [hvm]; exact hown
  have hins : (Cond.instantiable cls 6).before args s' = true := h _ (by simp [Bundle.ownAtoms])
  obtain ⟨vm₁, cX, kX, hfX, hkX, -, -, X₁, st1⟩ := Y.newCold hexec (own := own) (C := cls) (index := ik) (n := 6) hown' hk' hins hini'
    (g := F0 m pc ls rest) rfl (by rw [hb]; exact d0) (Nat.le_refl _) (Nat.le_refl _)
  generalize hT1 : (T.setVm vm₁).pushCell { cls := cX, slots := kX.instanceTypes.map defaultValue, vm := .none } = T1 at X₁ st1
  have hcat : (Value.ref T.heap.size).category = 1 := rfl
  have hcellA : T1.heap[T.heap.size]? = some (freshCell cX kX) := by rw [← hT1]; exact State.heap_pushCell_size _ _
  have d3' : decode c.code (pc + 3) = .ok (.dup, 1) := by rw [hb]; exact d3
  have d4' : decode c.code (pc + 4) = .ok (.ldc is, 2) := by rw [hb]; exact d4
  have hstr' : vk_R own is text sa s' := vk_R.warm hW0 hstr
  obtain ⟨U, hsteps, hrun, hend, hW, hsame, ce, hce, hO⟩ := X₁.ctorThrowS hexec htr (own := own) (cls := cls) (names := names) (ic := ic) hown' hcls hnames h (fun x hx => nomatch hx) hfX hkX hcellA (by rw [hhp, hT]; exact Nat.le_refl _) (msg := .ref sa) rfl
    (g := { method := m, pc := pc + 6, locals := ls, stack := .ref sa :: .ref T.heap.size :: .ref T.heap.size :: rest, locked := none }) rfl hsize rfl rfl (rest := rest) rfl
    (by rw [hb]; exact d6) (by rw [hb]; exact d9) hout hRframes (by simp only [List.map_cons, List.sum_cons, hcat]; omega) hlocks
  obtain ⟨f1, f2⟩ := vx_frame hsame
  rw [hhp] at f1 f2
  have hWs : s.WarmedH U.vm := State.WarmedH.trans hW0 hW
  have hcl : s.vm.findClass cls = some ce.cls := by
    have h9 := hO.cls
    rw [hvm] at h9
    exact h9
  have hall : s.sameButNew ({ U with vm := s.vm } : State) locs mc ms := by
    subst hA
    obtain ⟨e1, e2⟩ := hsame
    rw [State.setFrames_setFrames] at e1
    have h2 : (T.setVm s.vm).sameButNew ({ U with vm := s.vm } : State) [] (0 + 1) (0 + 6) := ⟨e1, e2⟩
    have h3 := X.same.trans h2
    rw [List.append_nil] at h3
    exact h3.mono hc hs
  refine ⟨U, ?_, .threw T.heap.size, hrun, hend, Or.inr ⟨T.heap.size, rfl, cls, ce, locs, hx U hWs.alike f1 (fun q hq => f2 q hq (fun z hz => nomatch hz)), hce, hO.vm, hcl, hWs, hall, hf⟩⟩
  refine st1 _ ?_
  show Steps p.tables e below (T1.setTop { method := m, pc := pc + 3, locals := ls, stack := .ref T.heap.size :: rest, locked := none }) _
  jvm_step X₁.here [X₁.here.top, hexec, d3', Value.category]
  exact X₁.ldcString hexec (own := own) (text := text) (index := is) (a := sa) hown' hstr'.1 hstr'.2
    (g := { method := m, pc := pc + 4, locals := ls, stack := .ref T.heap.size :: .ref T.heap.size :: rest, locked := none }) rfl d4' _ hsteps
/-- 'throw new E("text")', the text by a wide index -/
theorem vx_throwSW {cc : ByteArray} {pc : Nat} (hexec : p.tables.exec = Jvm.exec) (hb : c.code = cc) (hl : l.stackTraces = false) {own cls text : String} {names : List String} {ik is ic mc ms sa : Nat} {A : Nat → Prop}
    (hown : s.vm.findClass own = some m.cls) (hcls : Bundle.fit cls = true) (hnames : ∀ n ∈ names, Bundle.fit n = true)
    (hk : (Cond.classLink own ik cls).before args s = true) (hini : (Cond.initialized cls).before args s = true) (hstr : vk_R own is text sa s) (hat : ∀ w ∈ vx_atS own ic cls names, w.before args s = true)
    (hgood : ∀ w ∈ Cond.classLink own ik cls :: Cond.initialized cls :: vx_atS own ic cls names, vx_ot w = true)
    (hU : vx_Zq Bundle.tN "UNASSIGNED_STACK" Bundle.steD A s s.heap) (hN : vx_Zq Bundle.tN "SUPPRESSED_SENTINEL" Bundle.listD A s s.heap) (hS : va_S A s.heap H locs) (hsize : ls.size = c.maxLocals)
    (d0 : decode cc pc = .ok (.new ik, 3)) (d3 : decode cc (pc + 3) = .ok (.dup, 1)) (d4 : decode cc (pc + 4) = .ok (.ldc_w is, 3)) (d7 : decode cc (pc + 7) = .ok (.invokespecial ic, 3)) (d10 : decode cc (pc + 10) = .ok (.athrow, 1))
    (hout : ∀ x ∈ c.exceptionTable.toList, covers x (pc + 10) = false)
    (hRframes : names.length + 3 < R.frames) (hRlocals : (rest.map fun v => v.category).sum + (13 * (names.length + 1) + 43) ≤ R.locals) (hRcells : cells + 1 ≤ R.cells) (hRslots : slots + 6 ≤ R.slots) (hlocks : meth.locks = false)
    (hx : ∀ t : State, s.vm.Alike t.vm → H.size ≤ t.heap.size → (∀ q : Nat, q < H.size → t.heap[q]? = H[q]?) → XC cls s t)
    (hf : ∀ z ∈ locs, free z.base) (hc : cells + 1 ≤ mc) (hs : slots + 6 ≤ ms) :
    W p l e R s m args below meth c H locs cells slots (vx_MQ below Qc XC args s mc ms free) (F0 m pc ls rest) := by
  intro T hT X
  have htr : e.platform.stackTraces = false := (show e.platform.stackTraces = l.stackTraces by rw [X.admits.platform]).trans hl
  have Y := vx_rebase X (R' := { frames := R.frames, locals := R.locals, cells := 1, slots := 6 }) (Nat.le_refl _) (Nat.le_refl _) hRcells hRslots
  obtain ⟨s', hA⟩ : ∃ z, z = (T.setVm s.vm).setFrames (.invoking m args :: below) := ⟨_, rfl⟩
  rw [← hA] at Y
  have hvm : s'.vm = s.vm := by rw [hA]; rfl
  have hhp : s'.heap = H := by rw [hA]; exact hT
  have hW0 : s.WarmedH s'.vm := by rw [hvm]; exact State.WarmedH.refl s
  have hat' : ∀ w ∈ vx_atS own ic cls names, w.before args s' = true := fun w hw => vx_ot_at hW0 hvm.symm (hgood w (List.mem_cons_of_mem _ (List.mem_cons_of_mem _ hw))) (hat w hw)
  have hk' : (Cond.classLink own ik cls).before args s' = true := vx_ot_at hW0 hvm.symm (hgood _ List.mem_cons_self) hk
  have hini' : (Cond.initialized cls).before args s' = true := vx_ot_at hW0 hvm.symm (hgood _ (List.mem_cons_of_mem _ List.mem_cons_self)) hini
  have hU' : vx_Zq Bundle.tN "UNASSIGNED_STACK" Bundle.steD A s' s'.heap := by rw [hhp]; exact vx_Zq.moved hW0.alike (hU.kept hS.2.1)
  have hN' : vx_Zq Bundle.tN "SUPPRESSED_SENTINEL" Bundle.listD A s' s'.heap := by rw [hhp]; exact vx_Zq.moved hW0.alike (hN.kept hS.2.1)
  have h : ∀ w ∈ Bundle.ownAtoms own ic cls names, w.before args s' = true := vx_own hat' (vx_isRefq hU'.1) (vx_isRefq hN'.1) hU'.2.word hN'.2.word
  have hown' : s'.vm.findClass own = some m.cls := by rw [hvm]; exact hown
  have hins : (Cond.instantiable cls 6).before args s' = true := h _ (by simp [Bundle.ownAtoms])
  obtain ⟨vm₁, cX, kX, hfX, hkX, -, -, X₁, st1⟩ := Y.newCold hexec (own := own) (C := cls) (index := ik) (n := 6) hown' hk' hins hini'
    (g := F0 m pc ls rest) rfl (by rw [hb]; exact d0) (Nat.le_refl _) (Nat.le_refl _)
  generalize hT1 : (T.setVm vm₁).pushCell { cls := cX, slots := kX.instanceTypes.map defaultValue, vm := .none } = T1 at X₁ st1
  have hcat : (Value.ref T.heap.size).category = 1 := rfl
  have hcellA : T1.heap[T.heap.size]? = some (freshCell cX kX) := by rw [← hT1]; exact State.heap_pushCell_size _ _
  have d3' : decode c.code (pc + 3) = .ok (.dup, 1) := by rw [hb]; exact d3
  have d4' : decode c.code (pc + 4) = .ok (.ldc_w is, 3) := by rw [hb]; exact d4
  have hstr' : vk_R own is text sa s' := vk_R.warm hW0 hstr
  obtain ⟨U, hsteps, hrun, hend, hW, hsame, ce, hce, hO⟩ := X₁.ctorThrowS hexec htr (own := own) (cls := cls) (names := names) (ic := ic) hown' hcls hnames h (fun x hx => nomatch hx) hfX hkX hcellA (by rw [hhp, hT]; exact Nat.le_refl _) (msg := .ref sa) rfl
    (g := { method := m, pc := pc + 7, locals := ls, stack := .ref sa :: .ref T.heap.size :: .ref T.heap.size :: rest, locked := none }) rfl hsize rfl rfl (rest := rest) rfl
    (by rw [hb]; exact d7) (by rw [hb]; exact d10) hout hRframes (by simp only [List.map_cons, List.sum_cons, hcat]; omega) hlocks
  obtain ⟨f1, f2⟩ := vx_frame hsame
  rw [hhp] at f1 f2
  have hWs : s.WarmedH U.vm := State.WarmedH.trans hW0 hW
  have hcl : s.vm.findClass cls = some ce.cls := by
    have h9 := hO.cls
    rw [hvm] at h9
    exact h9
  have hall : s.sameButNew ({ U with vm := s.vm } : State) locs mc ms := by
    subst hA
    obtain ⟨e1, e2⟩ := hsame
    rw [State.setFrames_setFrames] at e1
    have h2 : (T.setVm s.vm).sameButNew ({ U with vm := s.vm } : State) [] (0 + 1) (0 + 6) := ⟨e1, e2⟩
    have h3 := X.same.trans h2
    rw [List.append_nil] at h3
    exact h3.mono hc hs
  refine ⟨U, ?_, .threw T.heap.size, hrun, hend, Or.inr ⟨T.heap.size, rfl, cls, ce, locs, hx U hWs.alike f1 (fun q hq => f2 q hq (fun z hz => nomatch hz)), hce, hO.vm, hcl, hWs, hall, hf⟩⟩
  refine st1 _ ?_
  show Steps p.tables e below (T1.setTop { method := m, pc := pc + 3, locals := ls, stack := .ref T.heap.size :: rest, locked := none }) _
  jvm_step X₁.here [X₁.here.top, hexec, d3', Value.category]
  exact X₁.ldcStringW hexec (own := own) (text := text) (index := is) (a := sa) hown' hstr'.1 hstr'.2
    (g := { method := m, pc := pc + 4, locals := ls, stack := .ref T.heap.size :: .ref T.heap.size :: rest, locked := none }) rfl d4' _ hsteps
end Ends
section Bodies
variable {l : Launch}
theorem vx_ofW {y : MethodName} {ws ws' : List Cond} {rm : Room} {Pc : Array Value → State → Prop} {Qc : Array Value → State → Outcome → State → Prop} {XC : String → State → State → Prop} {mc ms : Nat} {free : Addr → Prop} {cc : ByteArray} {maxL : Nat} {ret : Option FieldType}
    (hy : plainName y.cls = true) (hw : ws = Cond.code y cc maxL ret :: ws')
    (body : ∀ p e s m args below meth c s₁, BodyLoose p l y (headSpec ws rm) cc maxL ret e s m args below meth c s₁ → c.maxLocals = maxL → (∀ x ∈ c.exceptionTable.toList, False) → Pc args s →
      W p l e (headSpec ws rm).room s m args below meth c s.heap [] 0 0 (vx_MQ below Qc XC args s mc ms free) (entryFrame m args maxL)) : vx_Met l y ws rm Pc Qc XC mc ms free := by
  refine MetFree.of_bodyS (code := cc) (maxLocals := maxL) (ret := ret) hy ?_ ?_
  · intro args s m h hn
    obtain ⟨meth, c, h1, h2, h3, h4, h5, h6, -, -⟩ := Cond.code_spec hn (atoms_spec (ws := ws) h _ (by rw [hw]; exact List.mem_cons_self))
    exact ⟨meth, c, h1, h2, h3, h4, h5, h6⟩
  · intro p e s m args below meth c s₁ B hml hP _
    have hh0 : s₁.heap = s.heap := by rw [B.state]; rfl
    have ht : ∀ x ∈ c.exceptionTable.toList, False := by
      obtain ⟨meth9, c9, h1, h2, -, -, -, -, h7, -⟩ := Cond.code_spec B.named (atoms_spec (ws := ws) B.pre _ (by rw [hw]; exact List.mem_cons_self))
      cases Option.some.inj (h1.symm.trans B.method)
      cases Option.some.inj (h2.symm.trans (Stand.of_body B).code)
      intro x hx
      rw [Array.isEmpty_iff.mp h7] at hx
      cases hx
    obtain ⟨t, a1, o, b1, b2, b3⟩ := body p e s m args below meth c s₁ B hml ht hP s₁ hh0 (Stand.of_body B)
    exact ⟨t, o, a1, b1, b2, b3⟩
/-- the table of a body with handlers -/
theorem vx_table {p : Program} {x y : MethodName} {S : Spec} {cc bytes : ByteArray} {maxL maxL' : Nat} {ret ret' : Option FieldType} {e : Env} {s s₁ : State} {m : MethodId} {args : Array Value} {below : List Frame} {meth : Method} {c : Code} {hh : List (Nat × Nat × Nat × Nat)}
    (B : BodyLoose p l y S cc maxL ret e s m args below meth c s₁) (h : (Cond.codeWith y bytes maxL' ret' hh).before args s = true) : c.exceptionTable.toList = tableOf hh := by
  obtain ⟨m9, meth9, c9, hn9, h1, h2, -, -, h6, -⟩ := Cond.codeWith_spec h
  cases Option.some.inj (hn9.symm.trans B.named)
  cases Option.some.inj (h1.symm.trans B.method)
  cases Option.some.inj (h2.symm.trans (Stand.of_body B).code)
  rw [← h6, table_eq]
end Bodies
end VXA
/-! ===== END ===== -/
/-! ===== BEGIN a static call of a method with an exception table ===== -/
section VXS
variable {p : Program} {l : Launch} {e : Env} {R : Room} {s : State} {m : MethodId} {args : Array Value} {below : List Frame} {meth : Method} {c : Code} {T : State} {H : Heap} {locs : List Loc} {cells slots : Nat}
abbrev vx_CSW (R : Room) (s : State) (args : Array Value) (own : String) (index : Nat) (y : MethodName) (bytes : ByteArray) (maxL : Nat) (ret : Option FieldType) (hh : List (Nat × Nat × Nat × Nat)) (ws : List Cond) (rm : Room) (mc ms n : Nat) : Prop :=
  (rm.cells = mc ∧ rm.slots = ms ∧ rm.frames + 1 ≤ R.frames ∧ 8 + (maxL + 11) + rm.locals ≤ R.locals ∧ (∀ w ∈ ws, ∀ (a' : Array Value) (U : State), s.WarmedH U.vm → w.before a' U = true) ∧ Cond.codeWith y bytes maxL ret hh ∈ ws) ∧
  (Cond.codeWith y bytes maxL ret hh).before args s = true ∧ (Cond.initialized y.cls).before args s = true ∧ (y.cls ≠ "java/lang/invoke/MethodHandle" ∧ y.cls ≠ "java/lang/invoke/VarHandle") ∧
  (∀ sig, parseMethodDescriptor y.desc = some sig → n = sig.parameters.length) ∧ (Cond.methodLink own index y).before args s = true ∧ (Cond.static y).before args s = true
theorem vx_cwSW {own : String} {index maxL mc ms : Nat} {y : MethodName} {bytes : ByteArray} {ret : Option FieldType} {hh : List (Nat × Nat × Nat × Nat)} {Ts ws ws' : List Cond} {rm : Room} (n : Nat) (ht : ∀ w ∈ Ts, w.before args s = true) (hT : GoodIn Ts (va_wsS own index y ws)) (hw : ws = Cond.codeWith y bytes maxL ret hh :: ws') (hrc : rm.cells = mc) (hrs : rm.slots = ms)
    (hd : y.cls ≠ "java/lang/invoke/MethodHandle" ∧ y.cls ≠ "java/lang/invoke/VarHandle" ∧ (parseMethodDescriptor y.desc).map (fun d => d.parameters.length) = some n) (hR : rm.frames + 1 ≤ R.frames ∧ 8 + (maxL + 11) + rm.locals ≤ R.locals) :
    vx_CSW R s args own index y bytes maxL ret hh ws rm mc ms n := by
  have ok : ∀ w ∈ va_wsS own index y ws, w.before args s = true := fun w h => ht w (hT w h).1
  have hG : GoodIn Ts ws := fun w h => hT w (by unfold va_wsS; exact List.mem_append_right _ h)
  have hc : Cond.codeWith y bytes maxL ret hh ∈ ws := by rw [hw]; exact List.mem_cons_self
  refine ⟨⟨hrc, hrs, hR.1, hR.2, pay_in ht hG, hc⟩, ht _ (hG _ hc).1, ok _ (by simp [va_wsS]), ⟨hd.1, hd.2.1⟩, fun sig h => ?_, ok _ (by simp [va_wsS]), ok _ (by simp [va_wsS])⟩
  have h2 := hd.2.2
  rw [h] at h2
  exact (Option.some.inj h2).symm
theorem vx_callSW (X : Stand p l e R s m args below meth c T locs cells slots) (hexec : p.tables.exec = Jvm.exec) {own : String} {index : Nat} {y : MethodName} {bytes : ByteArray} {maxL : Nat} {ret : Option FieldType} {hh : List (Nat × Nat × Nat × Nat)}
    (hown : s.vm.findClass own = some m.cls) (hlink : (Cond.methodLink own index y).before args s = true) (hstat : (Cond.static y).before args s = true) (hinit : (Cond.initialized y.cls).before args s = true)
    (hcode : (Cond.codeWith y bytes maxL ret hh).before args s = true) (hy : y.cls ≠ "java/lang/invoke/MethodHandle" ∧ y.cls ≠ "java/lang/invoke/VarHandle")
    {W9 : Nat} {Pre : Pt → Array Value → Prop} {Post : Pt → Array Value → Option Value → Pt → Prop} (hK : Back l R p e below s args y 3 W9 Pre Post)
    {g : JFrame} (hg : g.method = m) (hsize : g.locals.size = c.maxLocals) {argsL rest : List Value} (hlen : ∀ sig, parseMethodDescriptor y.desc = some sig → argsL.length = sig.parameters.length)
    (hstack : g.stack = argsL.reverse ++ rest) (hW : 2 * g.monitorRoom + (rest.map fun v => v.category).sum ≤ W9) (hdg : decode c.code g.pc = .ok (.invokestatic index, 3))
    (hpre : ∀ vm₁, s.WarmedH vm₁ → Pre ⟨T.setVm vm₁, locs, cells, slots⟩ argsL.toArray) :
    ∃ (v : Option Value) (vm₁ : Vm) (B : Pt), s.WarmedH vm₁ ∧ Stand p l e R s m args below meth c B.U B.locs B.cells B.slots ∧ Post ⟨T.setVm vm₁, locs, cells, slots⟩ argsL.toArray v B ∧
      ∀ target, Steps p.tables e below (B.U.setTop { g with pc := g.pc + 3, stack := v.toList ++ rest }) target → Steps p.tables e below (T.setTop g) target := by
  obtain ⟨mk, methM, cM, hnamed, hmethM, -, -, -, -, -, -, hsigM⟩ := Cond.codeWith_spec hcode
  have hstatic : methM.isStatic = true := Cond.static_spec hnamed hmethM hstat
  obtain ⟨kP, hkP, -⟩ := className_of_methodNamed hnamed
  have hinitP : kP.init = .initialized := Cond.initialized_spec (findClass_of_methodNamed hnamed) hkP hinit
  obtain ⟨vm₁, X₁, hstep₁⟩ := X.invokestatic hexec hown hlink hnamed hmethM hstatic hkP hinitP hy (g := g) hg (argsL := argsL) (rest := rest) (hlen _ hsigM) hstack hdg
  obtain ⟨v, B, X', hpost, hsteps⟩ := hK m meth c ⟨T.setVm vm₁, locs, cells, slots⟩ { g with stack := rest } (.invokestatic index) mk argsL.toArray X₁ hg hsize hdg hW (X₁.named hnamed) (hpre vm₁ X₁.warmed)
  exact ⟨v, vm₁, B, X₁.warmed, X', hpost, fun target h => hstep₁ _ fun acts => by rw [doInvoke_state]; exact hsteps.trans h⟩
theorem vx_runSW {y : MethodName} {bytes cc : ByteArray} {maxL nL mc ms n index : Nat} {ret : Option FieldType} {hh : List (Nat × Nat × Nat × Nat)} {ws : List Cond} {rm : Room} {Pc : Array Value → State → Prop} {Qc : Array Value → State → Outcome → State → Prop} {free : Addr → Prop} {Ts : List Cond} {own : String} {As rest : List Value} {g : JFrame}
    (S : CallFix p m c cc nL s args Ts own) (hM : Met l y ws rm Pc Qc mc ms free) (cw : vx_CSW R s args own index y bytes maxL ret hh ws rm mc ms n) (hp : PreS s H Pc As)
    (hg : g.method = m) (hn : As.length = n) (hsize : g.locals.size = nL) (hstack : g.stack = As.reverse ++ rest) (hW : 2 * g.monitorRoom + (rest.map fun v => v.category).sum ≤ 8) (hdg : decode cc g.pc = .ok (.invokestatic index, 3)) (hf : cells + mc ≤ R.cells ∧ slots + ms ≤ R.slots) :
    va_Run p l e R s m args below meth c H locs cells slots mc ms g rest (Qc As.toArray) (free) := by
  obtain ⟨⟨hrc, hrs, hfr, hlo, hws, hcw⟩, hcode, hini, hy, hlen, hl, hstt⟩ := cw
  have hK : Back l R p e below s args y 3 8 (PreOf R mc ms Pc) (PostOf Qc mc ms free) := va_backW (hh := hh) (bytes := bytes) (maxL := maxL) (ret := ret) hM hp.1 hrc hrs hfr hlo hws hcw (fun a' U hW => word_at hW (Or.inl (by first | rfl | simp [Cond.onTables, Cond.keeps, Cond.steady])) hini)
  obtain ⟨hx, hb, hml, ho, -⟩ := S
  intro T hT X
  obtain ⟨v, vm₁, ⟨U', l2, c2, s2⟩, hW₁, X', ⟨g', mk, t, L, e1, e2, hq, h1, hL, h2, h3⟩, st⟩ := vx_callSW X hx (hh := hh) (bytes := bytes) (maxL := maxL) (ret := ret) ho hl hstt hini hcode hy hK hg (hsize.trans hml.symm) (argsL := As) (rest := rest) (fun sig h => hn.trans (hlen sig h)) hstack hW (by rw [hb]; exact hdg)
    (fun vm₁ hW₁ => ⟨hf.1, hf.2, hp.2 (T.setVm vm₁) hT hW₁⟩)
  dsimp only [Pt.U, Pt.locs, Pt.cells, Pt.slots] at X' e1 e2 h1 h2 h3 st
  subst h1; subst h2; subst h3
  exact ⟨v, (T.setVm vm₁).calling g' mk As.toArray, t, U', L, hT, X', hL, e1, e2, hq, st⟩
/-- not caught here, past rows that name other classes: it goes on to the caller -/
theorem vx_outP {p : Program} {l : Launch} {e : Env} {R : Room} {s : State} {m : MethodId} {args : Array Value} {below : List Frame} {meth : Method} {c : Code} {H : Heap} {locs : List Loc} {cells slots : Nat} {free : Addr → Prop} {ls : Array Slot} {rest : List Value} {Qc : Array Value → State → Outcome → State → Prop} {XC : String → State → State → Prop}
    {pc : Nat} {own E : String} {ce : Cell} {q : Addr} {mc ms : Nat} (hown : s.vm.findClass own = some m.cls) (hlocks : meth.locks = false)
    (hpass : ∀ z ∈ c.exceptionTable.toList, covers z pc = false ∨ (z.catchType ≠ 0 ∧ ∃ nm : String, (Cond.classLink own z.catchType nm).before args s = true ∧ va_Nc E nm s)) (hcell : H[q]? = some ce) (hv : ce.vm = .none) (hcl : s.vm.findClass E = some ce.cls)
    (hx : ∀ t : State, t.heap = H → s.vm.Alike t.vm → XC E s t) (hf : ∀ z ∈ locs, free z.base) (hc : cells ≤ mc) (hs : slots ≤ ms) :
    vx_W p l e R s m args below meth c H locs cells slots (vx_MQ below Qc XC args s mc ms free) (F0 m pc ls rest) q := by
  intro T hT X
  have hpl : e.platform.magicAccessors = ({} : Platform).magicAccessors := by rw [X.admits.platform]
  obtain ⟨vm', hW', X', st⟩ := X.outThrough hlocks q (g := F0 m pc ls rest) rfl rfl rfl (cell := ce) (by rw [hT]; exact hcell) (by rw [hv]; rfl)
    (by obtain ⟨k9, h9, -⟩ := Vm.findClass_spec hcl; exact ⟨k9, h9⟩) (fun z hz => by
      rcases hpass z hz with h | ⟨hz0, nm, hl1, hn1⟩
      · exact Or.inl h
      · obtain ⟨c6, hc6, hcl6⟩ := Cond.classLink_spec hown hl1 e.platform hpl
        obtain ⟨a8, b8, h1, h2, h3⟩ := hn1
        cases Option.some.inj (h1.symm.trans hcl)
        cases Option.some.inj (h2.symm.trans hc6)
        exact Or.inr ⟨hz0, _, hcl6, h3⟩)
  obtain ⟨g₀, hfr⟩ := X'.frames_eq
  have hcell9 : ((T.setVm vm').setFrames (.throwing q :: below)).heap[q]? = some ce := by
    show T.heap[q]? = some ce
    rw [hT]; exact hcell
  have hend : Ended ((T.setVm vm').setFrames (.throwing q :: below)) below (.threw q) := State.frames_setFrames _ (State.cur_lt_of_frames hfr)
  refine ⟨(T.setVm vm').setFrames (.throwing q :: below), ?_, .threw q, X'.here.running, hend, Or.inr ⟨q, rfl, E, ce, locs, hx _ hT (X'.ends _).1.alike, hcell9, hv, hcl, (X'.ends _).1, (X'.ends _).2.mono hc hs, hf⟩⟩
  rw [X.pushThrowing_eq]
  exact st
/-- a thing of a world lies in the heap -/
theorem vx_lt {D : va_G} {cl : List vw_C} {ws : va_W} {H1 : Heap} (h : va_P D cl ws H1) {k : Nat} {q : Nat × va_E} (hk : ws[k]? = some q) : q.1 < H1.size := (h k q hk).lt
end VXS
/-! ===== END ===== -/
/-! ===== BEGIN methods with a table of their own: called by a name, returning or throwing ===== -/
section VXH
/-! vx_backW, vx_callVX, vx_callSX, vx_callVW, vx_runVW, vx_runVX, vx_runSX, vx_ofWH follow the same proofs as their sisters above (Free/Laws.lean, Shelf42/LK1.lean); vx_outP calls Shelf42/NT130.lean (outThrough). -/
section
variable {l : Launch} {R : Room} {p : Program} {e : Env} {below : List Frame} {s : State} {sargs : Array Value} {y : MethodName} {len W9 : Nat}
theorem vx_backW {ws : List Cond} {rm : Room} {Pc : Array Value → State → Prop} {Qc : Array Value → State → Outcome → State → Prop} {XC : String → State → State → Prop} {mc ms : Nat} {free : Addr → Prop} {bytes : ByteArray} {maxL : Nat} {ret : Option FieldType} {hh : List (Nat × Nat × Nat × Nat)}
    (hM : vx_Met l y ws rm Pc Qc XC mc ms free) (hblind : FrameBlind Pc) (hrc : rm.cells = mc) (hrs : rm.slots = ms)
    (hframes : rm.frames + 1 ≤ R.frames) (hlocals : W9 + (maxL + 11) + rm.locals ≤ R.locals)
    (hws : ∀ w ∈ ws, ∀ a' U, s.WarmedH U.vm → w.before a' U = true) (hcode : Cond.codeWith y bytes maxL ret hh ∈ ws) (hinit : ∀ a' U, s.WarmedH U.vm → (Cond.initialized y.cls).before a' U = true) :
    vx_Back l R p e below s sargs y len W9 (PreOf R mc ms Pc) (PostOf Qc mc ms free) (vx_Post XC mc ms free) := by
  intro m meth c A g ig mk a X hg hsize hdg hW hn hp
  have h1 : (headSpec ws rm).pre.before a A.U = true := atoms_intro fun w hw => hws w hw _ _ X.warmed
  have h2 : (Cond.codeWith y bytes maxL ret hh).before a A.U = true := hws _ hcode _ _ X.warmed
  have h3 : (Cond.initialized y.cls).before a A.U = true := hinit _ _ X.warmed
  have h4 : A.cells + (headSpec ws rm).room.cells ≤ R.cells := by rw [show (headSpec ws rm).room.cells = mc from hrc]; exact hp.1
  have h5 : A.slots + (headSpec ws rm).room.slots ≤ R.slots := by rw [show (headSpec ws rm).room.slots = ms from hrs]; exact hp.2.1
  have hPc : Pc a (A.U.calling g mk a) := hblind _ _ _ _ hp.2.2
  obtain ⟨U, Ls, c0, s0⟩ := A
  dsimp only [Pt.U, Pt.locs, Pt.cells, Pt.slots] at h1 h2 h3 h4 h5 X hn hPc ⊢
  obtain ⟨m9, methY, cY, hn9, hmY, hcY, -, hlY, -⟩ := Cond.codeWith_spec h2
  cases Option.some.inj (hn9.symm.trans hn)
  obtain ⟨kY, hkY, -⟩ := className_of_methodNamed hn
  have hinitY : kY.init = .initialized := Cond.initialized_spec (findClass_of_methodNamed hn) hkY h3
  have h : At U g.method c below := by rw [hg]; exact X.here
  have hlocals9 : W9 + (maxL + 11) + (headSpec ws rm).room.locals ≤ R.locals := hlocals
  have happ : (headSpec ws rm).appliesLoose y e.platform (U.calling g mk a) = true :=
    Spec.appliesLoose_calling (g := g) h hdg hn hkY hinitY
      (X.room_calling (g := g) (R' := (headSpec ws rm).room) hsize hmY hcY hframes (by rw [hlY]; omega) h4 h5) h1
  obtain ⟨mid, hmid⟩ := h.above
  have hfr : (U.setTop g).frames = (.java g :: mid) ++ below := by rw [State.frames_setTop' g h.top, hmid]; rfl
  obtain ⟨o, s₂, hsteps, -, hend, hq⟩ := Steps.callFree hM p X.admits X.cas X.clock (acts := []) hfr happ hPc trivial
  have hq' : vx_Q Qc XC mc ms free a (U.calling g mk a) o s₂ := hq
  rw [State.frames_setTop' g h.top] at hend
  obtain ⟨g₀, hg0⟩ := Option.isSome_iff_exists.mp h.top
  obtain ⟨r, hr⟩ := State.topJava?_eq_some.mp hg0
  have hr' : (({ U with heap := s₂.heap, slotsUsed := s₂.slotsUsed } : State).setVm s₂.vm).frames = .java g₀ :: r := hr
  rcases hq' with ⟨hqc, L, hfe, hL⟩ | ⟨q, rfl, E, ce, L, hx, hce, hcv, hcl, hW₂, hsm, hL⟩
  · obtain ⟨⟨v, rfl⟩, hW₂, e2, q2, q3, q4, q5, q6⟩ := id hfe
    have e3 : s₂ = ({ (U.calling g mk a).setFrames s₂.frames with heap := s₂.heap, slotsUsed := s₂.slotsUsed } : State).setVm s₂.vm := by
      have : s₂ = ({ s₂ with vm := (U.calling g mk a).vm } : State).setVm s₂.vm := rfl
      rw [e2] at this
      exact this
    obtain ⟨c₂, i₂, len₂, hc₂, hd₂, hf₂⟩ := hend
    have hW' : U.WarmedH s₂.vm := hW₂
    have hcc : c₂ = c := by
      have h1 : s₂.code? g.method = U.code? g.method := by
        rw [State.code?_eq, State.code?_eq, hW'.alike.method?]
      exact Option.some.inj (hc₂.symm.trans (h1.trans h.code))
    subst hcc
    have hlen : len₂ = len := by rw [hdg] at hd₂; cases hd₂; rfl
    subst hlen
    have hs₂ : s₂ = (({ U with heap := s₂.heap, slotsUsed := s₂.slotsUsed } : State).setVm s₂.vm).setTop { g with pc := g.pc + len₂, stack := v.toList ++ g.stack } := by
      refine e3.trans ?_
      rw [hf₂, State.calling_eq h.top, State.setFrames_setFrames, State.setTop_of_frames _ hr', hr]
      rfl
    have hsame : U.sameButNew ({ U with heap := s₂.heap, slotsUsed := s₂.slotsUsed } : State) L mc ms := by
      refine ⟨?_, q2, q3, q4, q5, q6⟩
      obtain ⟨t, ht, -⟩ := State.frames_cons hr
      show ({ U with heap := s₂.heap, slotsUsed := s₂.slotsUsed } : State) = { U.setFrames U.frames with heap := s₂.heap, slotsUsed := s₂.slotsUsed }
      rw [State.setFrames_self ht]
    subst hg
    refine Or.inl ⟨v, ⟨(({ U with heap := s₂.heap, slotsUsed := s₂.slotsUsed } : State).setVm s₂.vm), Ls ++ L, c0 + mc, s0 + ms⟩,
      ⟨X.admits, X.cas, X.clock, X.frames, X.room, X.hears, X.method, X.code, (X.here.setHeapUsed s₂.heap s₂.slotsUsed).setVm hW'.alike, X.tail, State.WarmedH.trans X.warmed hW', X.limits, X.bytes, X.same.trans (hsame.setVm s.vm)⟩,
      ⟨g, mk, s₂, L, rfl, rfl, hqc, rfl, hL, rfl, rfl⟩, ?_⟩
    show Steps p.tables e below _ ((({ U with heap := s₂.heap, slotsUsed := s₂.slotsUsed } : State).setVm s₂.vm).setTop { g with pc := g.pc + len₂, stack := v.toList ++ g.stack })
    rw [← hs₂]
    exact hsteps
  · obtain ⟨e2, q2, q3, q4, q5, q6⟩ := id hsm
    have e3 : s₂ = ({ (U.calling g mk a).setFrames s₂.frames with heap := s₂.heap, slotsUsed := s₂.slotsUsed } : State).setVm s₂.vm := by
      have : s₂ = ({ s₂ with vm := (U.calling g mk a).vm } : State).setVm s₂.vm := rfl
      rw [e2] at this
      exact this
    have hf₂ : s₂.frames = .throwing q :: .java g :: U.frames.tail := hend
    have hW' : U.WarmedH s₂.vm := hW₂
    have hs₂ : s₂ = ((({ U with heap := s₂.heap, slotsUsed := s₂.slotsUsed } : State).setVm s₂.vm).setTop g).pushFrame (.throwing q) := by
      refine e3.trans ?_
      rw [hf₂, State.calling_eq h.top, State.setFrames_setFrames, State.pushFrame, State.frames_setTop _ hr', State.setTop_of_frames _ hr', State.setFrames_setFrames, hr]
      rfl
    have hsame : U.sameButNew ({ U with heap := s₂.heap, slotsUsed := s₂.slotsUsed } : State) L mc ms := by
      refine ⟨?_, q2, q3, q4, q5, q6⟩
      obtain ⟨t, ht, -⟩ := State.frames_cons hr
      show ({ U with heap := s₂.heap, slotsUsed := s₂.slotsUsed } : State) = { U.setFrames U.frames with heap := s₂.heap, slotsUsed := s₂.slotsUsed }
      rw [State.setFrames_self ht]
    subst hg
    refine Or.inr ⟨q, ⟨(({ U with heap := s₂.heap, slotsUsed := s₂.slotsUsed } : State).setVm s₂.vm), Ls ++ L, c0 + mc, s0 + ms⟩,
      ⟨X.admits, X.cas, X.clock, X.frames, X.room, X.hears, X.method, X.code, (X.here.setHeapUsed s₂.heap s₂.slotsUsed).setVm hW'.alike, X.tail, State.WarmedH.trans X.warmed hW', X.limits, X.bytes, X.same.trans (hsame.setVm s.vm)⟩,
      ⟨g, mk, s₂, L, E, ce, rfl, rfl, hx, hce, hcv, hcl, rfl, hL, rfl, rfl⟩, ?_⟩
    show Steps p.tables e below _ (((({ U with heap := s₂.heap, slotsUsed := s₂.slotsUsed } : State).setVm s₂.vm).setTop g).pushFrame (.throwing q))
    rw [← hs₂]
    exact hsteps
end
variable {p : Program} {l : Launch} {e : Env} {R : Room} {s : State} {m : MethodId} {args : Array Value} {below : List Frame} {meth : Method} {c : Code} {T : State} {H : Heap} {locs : List Loc} {cells slots : Nat}
theorem vx_callVX (X : Stand p l e R s m args below meth c T locs cells slots) (hexec : p.tables.exec = Jvm.exec) {own C : String} {index : Nat} {y : MethodName} {bytes : ByteArray} {maxL : Nat} {ret : Option FieldType} {hh : List (Nat × Nat × Nat × Nat)}
    (hown : s.vm.findClass own = some m.cls) (hlink : (Cond.methodLink own index y).before args s = true) (hinst : (Cond.instanceMethod y).before args s = true) (hsel : (Cond.selects C y y).before args s = true)
    (hcode : (Cond.codeWith y bytes maxL ret hh).before args s = true) (hy : y.cls ≠ "java/lang/invoke/MethodHandle" ∧ y.cls ≠ "java/lang/invoke/VarHandle")
    {W9 : Nat} {Pre : Pt → Array Value → Prop} {Post : Pt → Array Value → Option Value → Pt → Prop} {PostX : Pt → Array Value → Addr → Pt → Prop} (hK : vx_Back l R p e below s args y 3 W9 Pre Post PostX)
    {b : Addr} {cellB : Cell} (hcell : T.heap[b]? = some cellB) (hobj : cellB.vm.isStatics = false) (hcls : s.vm.findClass C = some cellB.cls)
    {g : JFrame} (hg : g.method = m) (hsize : g.locals.size = c.maxLocals) {argsL rest : List Value} (hlen : ∀ sig, parseMethodDescriptor y.desc = some sig → argsL.length = sig.parameters.length)
    (hstack : g.stack = argsL.reverse ++ .ref b :: rest) (hW : 2 * g.monitorRoom + (rest.map fun v => v.category).sum ≤ W9) (hdg : decode c.code g.pc = .ok (.invokevirtual index, 3))
    (hpre : ∀ vm₁, s.WarmedH vm₁ → Pre ⟨T.setVm vm₁, locs, cells, slots⟩ (Value.ref b :: argsL).toArray) :
    (∃ (v : Option Value) (vm₁ : Vm) (B : Pt), s.WarmedH vm₁ ∧ Stand p l e R s m args below meth c B.U B.locs B.cells B.slots ∧ Post ⟨T.setVm vm₁, locs, cells, slots⟩ (Value.ref b :: argsL).toArray v B ∧
      ∀ target, Steps p.tables e below (B.U.setTop { g with pc := g.pc + 3, stack := v.toList ++ rest }) target → Steps p.tables e below (T.setTop g) target) ∨
    (∃ (q : Addr) (vm₁ : Vm) (B : Pt), s.WarmedH vm₁ ∧ Stand p l e R s m args below meth c B.U B.locs B.cells B.slots ∧ PostX ⟨T.setVm vm₁, locs, cells, slots⟩ (Value.ref b :: argsL).toArray q B ∧
      Steps p.tables e below (T.setTop g) ((B.U.setTop { g with stack := rest }).pushFrame (.throwing q))) := by
  obtain ⟨mk, methM, hnamed, hmethM, hstM, habM⟩ := Cond.instanceMethod_spec hinst
  obtain ⟨m8, methM', cM, hn8, hmethM', -, -, -, -, -, -, hsigM⟩ := Cond.codeWith_spec hcode
  cases Option.some.inj (hn8.symm.trans hnamed)
  cases hmethM.symm.trans hmethM'
  obtain ⟨c2, r2, m2, q1, q2, q3, q4, kP, hkP, hkPi⟩ := Cond.selects_spec hsel
  cases hcls.symm.trans q1
  cases (State.methodFound?_of_named hnamed hy).symm.trans q2
  cases hnamed.symm.trans q3
  have hselP : selectMethod e.platform s.vm cellB.cls mk = .method mk := by rw [Launch.admits_selectMethod X.admits]; exact q4
  obtain ⟨vm₁, X₁, hstep₁⟩ := X.invokevirtual hexec hown hlink hnamed hmethM hstM hkP hkPi hy (a := b) (cell := cellB) hcell
    (fun z h => by rw [h] at hobj; cases hobj) hselP hmethM habM hkP hkPi (g := g) hg (argsL := argsL) (rest := rest) (hlen _ hsigM) hstack hdg
  rcases hK m meth c ⟨T.setVm vm₁, locs, cells, slots⟩ { g with stack := rest } (.invokevirtual index) mk (Value.ref b :: argsL).toArray X₁ hg hsize hdg hW (X₁.named hnamed) (hpre vm₁ X₁.warmed) with ⟨v, B, X', hpost, hsteps⟩ | ⟨q, B, X', hpost, hsteps⟩
  · exact Or.inl ⟨v, vm₁, B, X₁.warmed, X', hpost, fun target h => hstep₁ _ fun acts => by rw [doInvoke_state]; exact hsteps.trans h⟩
  · exact Or.inr ⟨q, vm₁, B, X₁.warmed, X', hpost, hstep₁ _ fun acts => by rw [doInvoke_state]; exact hsteps⟩
theorem vx_callSX (X : Stand p l e R s m args below meth c T locs cells slots) (hexec : p.tables.exec = Jvm.exec) {own : String} {index : Nat} {y : MethodName} {bytes : ByteArray} {maxL : Nat} {ret : Option FieldType} {hh : List (Nat × Nat × Nat × Nat)}
    (hown : s.vm.findClass own = some m.cls) (hlink : (Cond.methodLink own index y).before args s = true) (hstat : (Cond.static y).before args s = true) (hinit : (Cond.initialized y.cls).before args s = true)
    (hcode : (Cond.codeWith y bytes maxL ret hh).before args s = true) (hy : y.cls ≠ "java/lang/invoke/MethodHandle" ∧ y.cls ≠ "java/lang/invoke/VarHandle")
    {W9 : Nat} {Pre : Pt → Array Value → Prop} {Post : Pt → Array Value → Option Value → Pt → Prop} {PostX : Pt → Array Value → Addr → Pt → Prop} (hK : vx_Back l R p e below s args y 3 W9 Pre Post PostX)
    {g : JFrame} (hg : g.method = m) (hsize : g.locals.size = c.maxLocals) {argsL rest : List Value} (hlen : ∀ sig, parseMethodDescriptor y.desc = some sig → argsL.length = sig.parameters.length)
    (hstack : g.stack = argsL.reverse ++ rest) (hW : 2 * g.monitorRoom + (rest.map fun v => v.category).sum ≤ W9) (hdg : decode c.code g.pc = .ok (.invokestatic index, 3))
    (hpre : ∀ vm₁, s.WarmedH vm₁ → Pre ⟨T.setVm vm₁, locs, cells, slots⟩ argsL.toArray) :
    (∃ (v : Option Value) (vm₁ : Vm) (B : Pt), s.WarmedH vm₁ ∧ Stand p l e R s m args below meth c B.U B.locs B.cells B.slots ∧ Post ⟨T.setVm vm₁, locs, cells, slots⟩ argsL.toArray v B ∧
      ∀ target, Steps p.tables e below (B.U.setTop { g with pc := g.pc + 3, stack := v.toList ++ rest }) target → Steps p.tables e below (T.setTop g) target) ∨
    (∃ (q : Addr) (vm₁ : Vm) (B : Pt), s.WarmedH vm₁ ∧ Stand p l e R s m args below meth c B.U B.locs B.cells B.slots ∧ PostX ⟨T.setVm vm₁, locs, cells, slots⟩ argsL.toArray q B ∧
      Steps p.tables e below (T.setTop g) ((B.U.setTop { g with stack := rest }).pushFrame (.throwing q))) := by
  obtain ⟨mk, methM, cM, hnamed, hmethM, -, -, -, -, -, -, hsigM⟩ := Cond.codeWith_spec hcode
  have hstatic : methM.isStatic = true := Cond.static_spec hnamed hmethM hstat
  obtain ⟨kP, hkP, -⟩ := className_of_methodNamed hnamed
  have hinitP : kP.init = .initialized := Cond.initialized_spec (findClass_of_methodNamed hnamed) hkP hinit
  obtain ⟨vm₁, X₁, hstep₁⟩ := X.invokestatic hexec hown hlink hnamed hmethM hstatic hkP hinitP hy (g := g) hg (argsL := argsL) (rest := rest) (hlen _ hsigM) hstack hdg
  rcases hK m meth c ⟨T.setVm vm₁, locs, cells, slots⟩ { g with stack := rest } (.invokestatic index) mk argsL.toArray X₁ hg hsize hdg hW (X₁.named hnamed) (hpre vm₁ X₁.warmed) with ⟨v, B, X', hpost, hsteps⟩ | ⟨q, B, X', hpost, hsteps⟩
  · exact Or.inl ⟨v, vm₁, B, X₁.warmed, X', hpost, fun target h => hstep₁ _ fun acts => by rw [doInvoke_state]; exact hsteps.trans h⟩
  · exact Or.inr ⟨q, vm₁, B, X₁.warmed, X', hpost, hstep₁ _ fun acts => by rw [doInvoke_state]; exact hsteps⟩
theorem vx_callVW (X : Stand p l e R s m args below meth c T locs cells slots) (hexec : p.tables.exec = Jvm.exec) {own C : String} {index : Nat} {y : MethodName} {bytes : ByteArray} {maxL : Nat} {ret : Option FieldType} {hh : List (Nat × Nat × Nat × Nat)}
    (hown : s.vm.findClass own = some m.cls) (hlink : (Cond.methodLink own index y).before args s = true) (hinst : (Cond.instanceMethod y).before args s = true) (hsel : (Cond.selects C y y).before args s = true)
    (hcode : (Cond.codeWith y bytes maxL ret hh).before args s = true) (hy : y.cls ≠ "java/lang/invoke/MethodHandle" ∧ y.cls ≠ "java/lang/invoke/VarHandle")
    {W9 : Nat} {Pre : Pt → Array Value → Prop} {Post : Pt → Array Value → Option Value → Pt → Prop} (hK : Back l R p e below s args y 3 W9 Pre Post)
    {b : Addr} {cellB : Cell} (hcell : T.heap[b]? = some cellB) (hobj : cellB.vm.isStatics = false) (hcls : s.vm.findClass C = some cellB.cls)
    {g : JFrame} (hg : g.method = m) (hsize : g.locals.size = c.maxLocals) {argsL rest : List Value} (hlen : ∀ sig, parseMethodDescriptor y.desc = some sig → argsL.length = sig.parameters.length)
    (hstack : g.stack = argsL.reverse ++ .ref b :: rest) (hW : 2 * g.monitorRoom + (rest.map fun v => v.category).sum ≤ W9) (hdg : decode c.code g.pc = .ok (.invokevirtual index, 3))
    (hpre : ∀ vm₁, s.WarmedH vm₁ → Pre ⟨T.setVm vm₁, locs, cells, slots⟩ (Value.ref b :: argsL).toArray) :
    ∃ (v : Option Value) (vm₁ : Vm) (B : Pt), s.WarmedH vm₁ ∧ Stand p l e R s m args below meth c B.U B.locs B.cells B.slots ∧ Post ⟨T.setVm vm₁, locs, cells, slots⟩ (Value.ref b :: argsL).toArray v B ∧
      ∀ target, Steps p.tables e below (B.U.setTop { g with pc := g.pc + 3, stack := v.toList ++ rest }) target → Steps p.tables e below (T.setTop g) target := by
  obtain ⟨mk, methM, hnamed, hmethM, hstM, habM⟩ := Cond.instanceMethod_spec hinst
  obtain ⟨m8, methM', cM, hn8, hmethM', -, -, -, -, -, -, hsigM⟩ := Cond.codeWith_spec hcode
  cases Option.some.inj (hn8.symm.trans hnamed)
  cases hmethM.symm.trans hmethM'
  obtain ⟨c2, r2, m2, q1, q2, q3, q4, kP, hkP, hkPi⟩ := Cond.selects_spec hsel
  cases hcls.symm.trans q1
  cases (State.methodFound?_of_named hnamed hy).symm.trans q2
  cases hnamed.symm.trans q3
  have hselP : selectMethod e.platform s.vm cellB.cls mk = .method mk := by rw [Launch.admits_selectMethod X.admits]; exact q4
  obtain ⟨vm₁, X₁, hstep₁⟩ := X.invokevirtual hexec hown hlink hnamed hmethM hstM hkP hkPi hy (a := b) (cell := cellB) hcell
    (fun z h => by rw [h] at hobj; cases hobj) hselP hmethM habM hkP hkPi (g := g) hg (argsL := argsL) (rest := rest) (hlen _ hsigM) hstack hdg
  obtain ⟨v, B, X', hpost, hsteps⟩ := hK m meth c ⟨T.setVm vm₁, locs, cells, slots⟩ { g with stack := rest } (.invokevirtual index) mk (Value.ref b :: argsL).toArray X₁ hg hsize hdg hW (X₁.named hnamed) (hpre vm₁ X₁.warmed)
  exact ⟨v, vm₁, B, X₁.warmed, X', hpost, fun target h => hstep₁ _ fun acts => by rw [doInvoke_state]; exact hsteps.trans h⟩
abbrev vx_CVW (R : Room) (s : State) (args : Array Value) (own C : String) (index : Nat) (y : MethodName) (bytes : ByteArray) (maxL : Nat) (ret : Option FieldType) (hh : List (Nat × Nat × Nat × Nat)) (ws : List Cond) (rm : Room) (mc ms n : Nat) : Prop :=
  (rm.cells = mc ∧ rm.slots = ms ∧ rm.frames + 1 ≤ R.frames ∧ 8 + (maxL + 11) + rm.locals ≤ R.locals ∧ (∀ w ∈ ws, ∀ (a' : Array Value) (U : State), s.WarmedH U.vm → w.before a' U = true) ∧ Cond.codeWith y bytes maxL ret hh ∈ ws) ∧
  (Cond.codeWith y bytes maxL ret hh).before args s = true ∧ (Cond.initialized y.cls).before args s = true ∧ (y.cls ≠ "java/lang/invoke/MethodHandle" ∧ y.cls ≠ "java/lang/invoke/VarHandle") ∧
  (∀ sig, parseMethodDescriptor y.desc = some sig → n = sig.parameters.length) ∧ (Cond.methodLink own index y).before args s = true ∧ (Cond.instanceMethod y).before args s = true ∧ (Cond.selects C y y).before args s = true
theorem vx_cwVW {own C : String} {index maxL mc ms : Nat} {y : MethodName} {bytes : ByteArray} {ret : Option FieldType} {hh : List (Nat × Nat × Nat × Nat)} {Ts ws ws' : List Cond} {rm : Room} (n : Nat) (ht : ∀ w ∈ Ts, w.before args s = true) (hT : GoodIn Ts (wsV own index C y ws)) (hw : ws = Cond.codeWith y bytes maxL ret hh :: ws') (hrc : rm.cells = mc) (hrs : rm.slots = ms)
    (hd : y.cls = C ∧ y.cls ≠ "java/lang/invoke/MethodHandle" ∧ y.cls ≠ "java/lang/invoke/VarHandle" ∧ (parseMethodDescriptor y.desc).map (fun d => d.parameters.length) = some n) (hR : rm.frames + 1 ≤ R.frames ∧ 8 + (maxL + 11) + rm.locals ≤ R.locals) :
    vx_CVW R s args own C index y bytes maxL ret hh ws rm mc ms n := by
  obtain ⟨hC, hd⟩ := hd
  subst hC
  have ok : ∀ w ∈ wsV own index y.cls y ws, w.before args s = true := fun w h => ht w (hT w h).1
  have hG : GoodIn Ts ws := fun w h => hT w (by unfold wsV; exact List.mem_append_right _ h)
  have hc : Cond.codeWith y bytes maxL ret hh ∈ ws := by rw [hw]; exact List.mem_cons_self
  refine ⟨⟨hrc, hrs, hR.1, hR.2, pay_in ht hG, hc⟩, ht _ (hG _ hc).1, ok _ (by simp [wsV]), ⟨hd.1, hd.2.1⟩, fun sig h => ?_, ok _ (by simp [wsV]), ok _ (by simp [wsV]), ok _ (by simp [wsV])⟩
  have h2 := hd.2.2
  rw [h] at h2
  exact (Option.some.inj h2).symm
theorem vx_runVW {y : MethodName} {bytes cc : ByteArray} {maxL nL mc ms n index : Nat} {ret : Option FieldType} {hh : List (Nat × Nat × Nat × Nat)} {ws : List Cond} {rm : Room} {Pc : Array Value → State → Prop} {Qc : Array Value → State → Outcome → State → Prop} {free : Addr → Prop} {Ts : List Cond} {own C : String} {b : Addr} {As rest : List Value} {g : JFrame}
    (S : CallFix p m c cc nL s args Ts own) (hM : Met l y ws rm Pc Qc mc ms free) (cw : vx_CVW R s args own C index y bytes maxL ret hh ws rm mc ms n) (hp : PreV s H C b Pc As)
    (hg : g.method = m) (hn : As.length = n) (hsize : g.locals.size = nL) (hstack : g.stack = As.reverse ++ .ref b :: rest) (hW : 2 * g.monitorRoom + (rest.map fun v => v.category).sum ≤ 8) (hdg : decode cc g.pc = .ok (.invokevirtual index, 3)) (hf : cells + mc ≤ R.cells ∧ slots + ms ≤ R.slots) :
    va_Run p l e R s m args below meth c H locs cells slots mc ms g rest (Qc (Value.ref b :: As).toArray) free := by
  obtain ⟨⟨hrc, hrs, hfr, hlo, hws, hcw⟩, hcode, hini, hy, hlen, hl, hin, hse⟩ := cw
  have hK : Back l R p e below s args y 3 8 (PreOf R mc ms Pc) (PostOf Qc mc ms free) := va_backW (hh := hh) (bytes := bytes) (maxL := maxL) (ret := ret) hM hp.1 hrc hrs hfr hlo hws hcw (fun a' U hW => word_at hW (Or.inl (by first | rfl | simp [Cond.onTables, Cond.keeps, Cond.steady])) hini)
  obtain ⟨hx, hb, hml, ho, -⟩ := S
  obtain ⟨-, ⟨cellB, hcB, hoB, hclB⟩, hPc⟩ := hp
  intro T hT X
  obtain ⟨v, vm₁, ⟨U', l2, c2, s2⟩, hW₁, X', ⟨g', mk, t, L, e1, e2, hq, h1, hL, h2, h3⟩, st⟩ := vx_callVW X hx (C := C) (hh := hh) (bytes := bytes) (maxL := maxL) (ret := ret) ho hl hin hse hcode hy hK (by rw [hT]; exact hcB) hoB hclB hg (hsize.trans hml.symm) (argsL := As) (rest := rest) (fun sig h => hn.trans (hlen sig h)) hstack hW (by rw [hb]; exact hdg)
    (fun vm₁ hW₁ => ⟨hf.1, hf.2, hPc (T.setVm vm₁) hT hW₁⟩)
  dsimp only [Pt.U, Pt.locs, Pt.cells, Pt.slots] at X' e1 e2 h1 h2 h3 st
  subst h1; subst h2; subst h3
  exact ⟨v, (T.setVm vm₁).calling g' mk (Value.ref b :: As).toArray, t, U', L, hT, X', hL, e1, e2, hq, st⟩
section
variable {y : MethodName} {bytes cc : ByteArray} {maxL nL mc ms n index : Nat} {ret : Option FieldType} {ws : List Cond} {rm : Room} {Pc : Array Value → State → Prop} {Qc : Array Value → State → Outcome → State → Prop} {XC : String → State → State → Prop} {free : Addr → Prop} {Ts : List Cond} {own C : String} {b : Addr} {As rest : List Value} {g : JFrame}
theorem vx_runVX {hh : List (Nat × Nat × Nat × Nat)} (S : CallFix p m c cc nL s args Ts own) (hM : vx_Met l y ws rm Pc Qc XC mc ms free) (cw : vx_CVW R s args own C index y bytes maxL ret hh ws rm mc ms n) (hp : PreV s H C b Pc As)
    (hg : g.method = m) (hn : As.length = n) (hsize : g.locals.size = nL) (hstack : g.stack = As.reverse ++ .ref b :: rest) (hW : 2 * g.monitorRoom + (rest.map fun v => v.category).sum ≤ 8) (hdg : decode cc g.pc = .ok (.invokevirtual index, 3)) (hf : cells + mc ≤ R.cells ∧ slots + ms ≤ R.slots) :
    vx_Run p l e R s m args below meth c H locs cells slots mc ms g rest (Qc (Value.ref b :: As).toArray) XC free := by
  obtain ⟨⟨hrc, hrs, hfr, hlo, hws, hcw⟩, hcode, hini, hy, hlen, hl, hin, hse⟩ := cw
  have hK : vx_Back l R p e below s args y 3 8 (PreOf R mc ms Pc) (PostOf Qc mc ms free) (vx_Post XC mc ms free) := vx_backW (hh := hh) (bytes := bytes) (maxL := maxL) (ret := ret) hM hp.1 hrc hrs hfr hlo hws hcw (fun a' U hW => word_at hW (Or.inl (by first | rfl | simp [Cond.onTables, Cond.keeps, Cond.steady])) hini)
  obtain ⟨hx, hb, hml, ho, -⟩ := S
  obtain ⟨-, ⟨cellB, hcB, hoB, hclB⟩, hPc⟩ := hp
  intro T hT X
  rcases vx_callVX X hx (C := C) (hh := hh) (bytes := bytes) (maxL := maxL) (ret := ret) ho hl hin hse hcode hy hK (by rw [hT]; exact hcB) hoB hclB hg (hsize.trans hml.symm) (argsL := As) (rest := rest) (fun sig h => hn.trans (hlen sig h)) hstack hW (by rw [hb]; exact hdg)
    (fun vm₁ hW₁ => ⟨hf.1, hf.2, hPc (T.setVm vm₁) hT hW₁⟩) with ⟨v, vm₁, ⟨U', l2, c2, s2⟩, hW₁, X', ⟨g', mk, t, L, e1, e2, hq, h1, hL, h2, h3⟩, st⟩ | ⟨q, vm₁, ⟨U', l2, c2, s2⟩, hW₁, X', ⟨g', mk, t, L, E, ce, e1, e2, hq, hce, hcv, hcl, h1, hL, h2, h3⟩, st⟩
  · dsimp only [Pt.U, Pt.locs, Pt.cells, Pt.slots] at X' e1 e2 h1 h2 h3 st
    subst h1; subst h2; subst h3
    exact Or.inl ⟨v, (T.setVm vm₁).calling g' mk (Value.ref b :: As).toArray, t, U', L, hT, X', hL, e1, e2, hq, st⟩
  · dsimp only [Pt.U, Pt.locs, Pt.cells, Pt.slots] at X' e1 e2 h1 h2 h3 st hcl
    subst h1; subst h2; subst h3
    exact Or.inr ⟨q, (T.setVm vm₁).calling g' mk (Value.ref b :: As).toArray, t, U', L, E, ce, hT, X', hL, e1, e2, hq, hce, hcv, vx_cls hW₁ hcl, st⟩
theorem vx_runSX {hh : List (Nat × Nat × Nat × Nat)} (S : CallFix p m c cc nL s args Ts own) (hM : vx_Met l y ws rm Pc Qc XC mc ms free) (cw : vx_CSW R s args own index y bytes maxL ret hh ws rm mc ms n) (hp : PreS s H Pc As)
    (hg : g.method = m) (hn : As.length = n) (hsize : g.locals.size = nL) (hstack : g.stack = As.reverse ++ rest) (hW : 2 * g.monitorRoom + (rest.map fun v => v.category).sum ≤ 8) (hdg : decode cc g.pc = .ok (.invokestatic index, 3)) (hf : cells + mc ≤ R.cells ∧ slots + ms ≤ R.slots) :
    vx_Run p l e R s m args below meth c H locs cells slots mc ms g rest (Qc As.toArray) XC free := by
  obtain ⟨⟨hrc, hrs, hfr, hlo, hws, hcw⟩, hcode, hini, hy, hlen, hl, hstt⟩ := cw
  have hK : vx_Back l R p e below s args y 3 8 (PreOf R mc ms Pc) (PostOf Qc mc ms free) (vx_Post XC mc ms free) := vx_backW (hh := hh) (bytes := bytes) (maxL := maxL) (ret := ret) hM hp.1 hrc hrs hfr hlo hws hcw (fun a' U hW => word_at hW (Or.inl (by first | rfl | simp [Cond.onTables, Cond.keeps, Cond.steady])) hini)
  obtain ⟨hx, hb, hml, ho, -⟩ := S
  intro T hT X
  rcases vx_callSX X hx (hh := hh) (bytes := bytes) (maxL := maxL) (ret := ret) ho hl hstt hini hcode hy hK hg (hsize.trans hml.symm) (argsL := As) (rest := rest) (fun sig h => hn.trans (hlen sig h)) hstack hW (by rw [hb]; exact hdg)
    (fun vm₁ hW₁ => ⟨hf.1, hf.2, hp.2 (T.setVm vm₁) hT hW₁⟩) with ⟨v, vm₁, ⟨U', l2, c2, s2⟩, hW₁, X', ⟨g', mk, t, L, e1, e2, hq, h1, hL, h2, h3⟩, st⟩ | ⟨q, vm₁, ⟨U', l2, c2, s2⟩, hW₁, X', ⟨g', mk, t, L, E, ce, e1, e2, hq, hce, hcv, hcl, h1, hL, h2, h3⟩, st⟩
  · dsimp only [Pt.U, Pt.locs, Pt.cells, Pt.slots] at X' e1 e2 h1 h2 h3 st
    subst h1; subst h2; subst h3
    exact Or.inl ⟨v, (T.setVm vm₁).calling g' mk As.toArray, t, U', L, hT, X', hL, e1, e2, hq, st⟩
  · dsimp only [Pt.U, Pt.locs, Pt.cells, Pt.slots] at X' e1 e2 h1 h2 h3 st hcl
    subst h1; subst h2; subst h3
    exact Or.inr ⟨q, (T.setVm vm₁).calling g' mk As.toArray, t, U', L, E, ce, hT, X', hL, e1, e2, hq, hce, hcv, vx_cls hW₁ hcl, st⟩
end
end VXH
theorem vx_ofWH {l : Launch} {y : MethodName} {ws ws' : List Cond} {rm : Room} {Pc : Array Value → State → Prop} {Qc : Array Value → State → Outcome → State → Prop} {XC : String → State → State → Prop} {mc ms : Nat} {free : Addr → Prop} {cc : ByteArray} {maxL : Nat} {ret : Option FieldType} {hh : List (Nat × Nat × Nat × Nat)}
    (hy : plainName y.cls = true) (hw : ws = Cond.codeWith y cc maxL ret hh :: ws')
    (body : ∀ p e s m args below meth c s₁, BodyLoose p l y (headSpec ws rm) cc maxL ret e s m args below meth c s₁ → c.maxLocals = maxL → Pc args s →
      W p l e (headSpec ws rm).room s m args below meth c s.heap [] 0 0 (vx_MQ below Qc XC args s mc ms free) (entryFrame m args maxL)) : vx_Met l y ws rm Pc Qc XC mc ms free := by
  refine MetFree.of_bodyS (code := cc) (maxLocals := maxL) (ret := ret) hy ?_ ?_
  · intro args s m h hn
    obtain ⟨m9, meth, c, hn9, h1, h2, h3, h4, -, h5, h6, -⟩ := Cond.codeWith_spec (atoms_spec (ws := ws) h _ (by rw [hw]; exact List.mem_cons_self))
    cases hn.symm.trans hn9
    exact ⟨meth, c, h1, h2, h3, h4, h5, h6⟩
  · intro p e s m args below meth c s₁ B hml hP _
    have hh0 : s₁.heap = s.heap := by rw [B.state]; rfl
    obtain ⟨t, a1, o, b1, b2, b3⟩ := body p e s m args below meth c s₁ B hml hP s₁ hh0 (Stand.of_body B)
    exact ⟨t, o, a1, b1, b2, b3⟩
/-! ===== END ===== -/
end
section
/-! ===== BEGIN printed: names, fields, word lists, decode rows ===== -/
def RX0 : String := "DeltaCodec$Decoder"
def TX0 : u_T := fun k => match k with
  | 0 => ("DeltaCodec$Decoder", "product", "LDeltaCodec$Row;", true)
  | 1 => ("DeltaCodec$Decoder", "position", "I", false)
  | 2 => ("DeltaCodec$Decoder", "limit", "I", false)
  | 3 => ("DeltaCodec$Decoder", "error", "I", false)
  | 4 => ("DeltaCodec$Decoder", "errorAt", "I", false)
  | 5 => ("DeltaCodec$Decoder", "kind", "I", false)
  | 6 => ("DeltaCodec$Decoder", "n", "I", false)
  | _ => ("DeltaCodec$Decoder", "operand", "I", false)
def tyX0 : Nat → FieldType := fun k => match k with
  | 0 => .object "DeltaCodec$Row"
  | 1 => .int
  | 2 => .int
  | 3 => .int
  | 4 => .int
  | 5 => .int
  | 6 => .int
  | _ => .int
abbrev wsX00 : List Cond := u_ws RX0 TX0 8
theorem nmX0 : ∀ a, a < 8 → ∀ b, b < 8 → a ≠ b → (TX0 a).2.1 ≠ (TX0 b).2.1 := by decide +kernel
theorem tyX0_ok : ∀ k, k < 8 → parseFieldDescriptor (TX0 k).2.2.1 = some (tyX0 k) := by decide +kernel
abbrev cX0_init : ByteArray := prog_2_method_1_code
def yX0_init : MethodName := ⟨RX0, "<init>", "()V"⟩
abbrev cX0_product : ByteArray := prog_2_method_2_code
def yX0_product : MethodName := ⟨RX0, "product", "()LDeltaCodec$Row;"⟩
abbrev cX0_errorAt : ByteArray := prog_2_method_3_code
def yX0_errorAt : MethodName := ⟨RX0, "errorAt", "()I"⟩
abbrev cX0_readCode : ByteArray := prog_2_method_4_code
def yX0_readCode : MethodName := ⟨RX0, "readCode", "(LDeltaCodec$Row;LDeltaCodec$Row;)I"⟩
abbrev cX0_tell : ByteArray := prog_2_method_5_code
def yX0_tell : MethodName := ⟨RX0, "tell", "(II)V"⟩
abbrev cX0_readInstruction : ByteArray := prog_2_method_6_code
def yX0_readInstruction : MethodName := ⟨RX0, "readInstruction", "(LDeltaCodec$Row;)V"⟩
abbrev cX0_nextByte : ByteArray := prog_2_method_7_code
def yX0_nextByte : MethodName := ⟨RX0, "nextByte", "(LDeltaCodec$Row;)I"⟩
abbrev cX0_nextNumber : ByteArray := prog_2_method_8_code
def yX0_nextNumber : MethodName := ⟨RX0, "nextNumber", "(LDeltaCodec$Row;)I"⟩
abbrev cX0_passBytes : ByteArray := prog_2_method_9_code
def yX0_passBytes : MethodName := ⟨RX0, "passBytes", "(I)V"⟩
abbrev cX0_judgeInstruction : ByteArray := prog_2_method_10_code
def yX0_judgeInstruction : MethodName := ⟨RX0, "judgeInstruction", "(ILDeltaCodec$Row;)V"⟩
abbrev cX0_makeBytes : ByteArray := prog_2_method_11_code
def yX0_makeBytes : MethodName := ⟨RX0, "makeBytes", "(LDeltaCodec$Row;LDeltaCodec$Row;)V"⟩
abbrev cX0_byteToMake : ByteArray := prog_2_method_12_code
def yX0_byteToMake : MethodName := ⟨RX0, "byteToMake", "(ILDeltaCodec$Row;LDeltaCodec$Row;)I"⟩
abbrev cX0_judgeCheck : ByteArray := prog_2_method_13_code
def yX0_judgeCheck : MethodName := ⟨RX0, "judgeCheck", "(LDeltaCodec$Row;)V"⟩
def RX1 : String := "DeltaCodec$Plan"
def TX1 : u_T := fun k => match k with
  | 0 => ("DeltaCodec$Plan", "kinds", "LDeltaCodec$Row;", true)
  | 1 => ("DeltaCodec$Plan", "lengths", "LDeltaCodec$Row;", true)
  | 2 => ("DeltaCodec$Plan", "operands", "LDeltaCodec$Row;", true)
  | 3 => ("DeltaCodec$Plan", "starts", "LDeltaCodec$Row;", true)
  | 4 => ("DeltaCodec$Plan", "codeBytes", "I", false)
  | _ => ("DeltaCodec$Plan", "isMade", "Z", false)
def tyX1 : Nat → FieldType := fun k => match k with
  | 0 => .object "DeltaCodec$Row"
  | 1 => .object "DeltaCodec$Row"
  | 2 => .object "DeltaCodec$Row"
  | 3 => .object "DeltaCodec$Row"
  | 4 => .int
  | _ => .boolean
abbrev wsX10 : List Cond := u_ws RX1 TX1 6
theorem nmX1 : ∀ a, a < 6 → ∀ b, b < 6 → a ≠ b → (TX1 a).2.1 ≠ (TX1 b).2.1 := by decide +kernel
theorem tyX1_ok : ∀ k, k < 6 → parseFieldDescriptor (TX1 k).2.2.1 = some (tyX1 k) := by decide +kernel
abbrev cX1_init : ByteArray := prog_3_method_1_code
def yX1_init : MethodName := ⟨RX1, "<init>", "()V"⟩
abbrev cX1_begin : ByteArray := prog_3_method_2_code
def yX1_begin : MethodName := ⟨RX1, "begin", "(I)V"⟩
abbrev cX1_add : ByteArray := prog_3_method_3_code
def yX1_add : MethodName := ⟨RX1, "add", "(IIII)V"⟩
abbrev cX1_forget : ByteArray := prog_3_method_4_code
def yX1_forget : MethodName := ⟨RX1, "forget", "()V"⟩
abbrev cX1_isMade : ByteArray := prog_3_method_5_code
def yX1_isMade : MethodName := ⟨RX1, "isMade", "()Z"⟩
abbrev cX1_codeBytes : ByteArray := prog_3_method_6_code
def yX1_codeBytes : MethodName := ⟨RX1, "codeBytes", "()I"⟩
abbrev cX1_count : ByteArray := prog_3_method_7_code
def yX1_count : MethodName := ⟨RX1, "count", "()I"⟩
abbrev cX1_kindOf : ByteArray := prog_3_method_8_code
def yX1_kindOf : MethodName := ⟨RX1, "kindOf", "(I)I"⟩
abbrev cX1_lengthOf : ByteArray := prog_3_method_9_code
def yX1_lengthOf : MethodName := ⟨RX1, "lengthOf", "(I)I"⟩
abbrev cX1_operandOf : ByteArray := prog_3_method_10_code
def yX1_operandOf : MethodName := ⟨RX1, "operandOf", "(I)I"⟩
abbrev cX1_startOf : ByteArray := prog_3_method_11_code
def yX1_startOf : MethodName := ⟨RX1, "startOf", "(I)I"⟩
def RX2 : String := "DeltaCodec$Planner"
def TX2 : u_T := fun k => match k with
  | 0 => ("DeltaCodec$Planner", "bytesLeft", "[I", true)
  | 1 => ("DeltaCodec$Planner", "stepsLeft", "[I", true)
  | 2 => ("DeltaCodec$Planner", "kinds", "[I", true)
  | 3 => ("DeltaCodec$Planner", "lengths", "[I", true)
  | 4 => ("DeltaCodec$Planner", "operands", "[I", true)
  | 5 => ("DeltaCodec$Planner", "copyCommon", "[I", true)
  | 6 => ("DeltaCodec$Planner", "repeatCommon", "[I", true)
  | _ => ("DeltaCodec$Planner", "firstPlaces", "[I", true)
def tyX2 : Nat → FieldType := fun k => match k with
  | 0 => .array .int
  | 1 => .array .int
  | 2 => .array .int
  | 3 => .array .int
  | 4 => .array .int
  | 5 => .array .int
  | 6 => .array .int
  | _ => .array .int
abbrev wsX20 : List Cond := u_ws RX2 TX2 8
theorem nmX2 : ∀ a, a < 8 → ∀ b, b < 8 → a ≠ b → (TX2 a).2.1 ≠ (TX2 b).2.1 := by decide +kernel
theorem tyX2_ok : ∀ k, k < 8 → parseFieldDescriptor (TX2 k).2.2.1 = some (tyX2 k) := by decide +kernel
abbrev cX2_init : ByteArray := prog_4_method_1_code
def yX2_init : MethodName := ⟨RX2, "<init>", "()V"⟩
abbrev cX2_makePlan : ByteArray := prog_4_method_2_code
def yX2_makePlan : MethodName := ⟨RX2, "makePlan", "(LDeltaCodec$Row;LDeltaCodec$Row;ILDeltaCodec$Plan;)V"⟩
abbrev cX2_lengthenCommon : ByteArray := prog_4_method_3_code
def yX2_lengthenCommon : MethodName := ⟨RX2, "lengthenCommon", "([ILDeltaCodec$Row;II)V"⟩
abbrev cX2_offerLengths : ByteArray := prog_4_method_4_code
def yX2_offerLengths : MethodName := ⟨RX2, "offerLengths", "(IIII)V"⟩
abbrev cX2_offerPlaces : ByteArray := prog_4_method_5_code
def yX2_offerPlaces : MethodName := ⟨RX2, "offerPlaces", "(IIII)V"⟩
abbrev cX2_offer : ByteArray := prog_4_method_6_code
def yX2_offer : MethodName := ⟨RX2, "offer", "(IIII)V"⟩
abbrev cX2_bytesOf : ByteArray := prog_4_method_7_code
def yX2_bytesOf : MethodName := ⟨RX2, "bytesOf", "(III)I"⟩
abbrev cX2_bytesOfNumber : ByteArray := prog_4_method_8_code
def yX2_bytesOfNumber : MethodName := ⟨RX2, "bytesOfNumber", "(I)I"⟩
abbrev cX2_listInstructions : ByteArray := prog_4_method_9_code
def yX2_listInstructions : MethodName := ⟨RX2, "listInstructions", "(ILDeltaCodec$Plan;)V"⟩
def RX3 : String := "DeltaCodec$Row"
def TX3 : u_T := fun k => match k with
  | 0 => ("DeltaCodec$Row", "bytes", "[I", true)
  | _ => ("DeltaCodec$Row", "count", "I", false)
def tyX3 : Nat → FieldType := fun k => match k with
  | 0 => .array .int
  | _ => .int
abbrev wsX30 : List Cond := u_ws RX3 TX3 2
theorem nmX3 : ∀ a, a < 2 → ∀ b, b < 2 → a ≠ b → (TX3 a).2.1 ≠ (TX3 b).2.1 := by decide +kernel
theorem tyX3_ok : ∀ k, k < 2 → parseFieldDescriptor (TX3 k).2.2.1 = some (tyX3 k) := by decide +kernel
abbrev cX3_init : ByteArray := prog_5_method_1_code
def yX3_init : MethodName := ⟨RX3, "<init>", "(I)V"⟩
abbrev cX3_count : ByteArray := prog_5_method_2_code
def yX3_count : MethodName := ⟨RX3, "count", "()I"⟩
abbrev cX3_holds : ByteArray := prog_5_method_3_code
def yX3_holds : MethodName := ⟨RX3, "holds", "(I)Z"⟩
abbrev cX3_hasRoom : ByteArray := prog_5_method_4_code
def yX3_hasRoom : MethodName := ⟨RX3, "hasRoom", "(I)Z"⟩
abbrev cX3_at : ByteArray := prog_5_method_5_code
def yX3_at : MethodName := ⟨RX3, "at", "(I)I"⟩
abbrev cX3_put : ByteArray := prog_5_method_6_code
def yX3_put : MethodName := ⟨RX3, "put", "(II)V"⟩
abbrev cX3_append : ByteArray := prog_5_method_7_code
def yX3_append : MethodName := ⟨RX3, "append", "(I)V"⟩
abbrev cX3_drop : ByteArray := prog_5_method_8_code
def yX3_drop : MethodName := ⟨RX3, "drop", "(I)V"⟩
abbrev cX3_clear : ByteArray := prog_5_method_9_code
def yX3_clear : MethodName := ⟨RX3, "clear", "()V"⟩
def RX4 : String := "DeltaCodec"
def TX4 : u_T := fun k => match k with
  | 0 => ("DeltaCodec", "source", "LDeltaCodec$Row;", false)
  | 1 => ("DeltaCodec", "target", "LDeltaCodec$Row;", false)
  | 2 => ("DeltaCodec", "code", "LDeltaCodec$Row;", true)
  | 3 => ("DeltaCodec", "plan", "LDeltaCodec$Plan;", true)
  | 4 => ("DeltaCodec", "planner", "LDeltaCodec$Planner;", true)
  | 5 => ("DeltaCodec", "decoder", "LDeltaCodec$Decoder;", true)
  | _ => ("DeltaCodec", "least", "I", false)
def tyX4 : Nat → FieldType := fun k => match k with
  | 0 => .object "DeltaCodec$Row"
  | 1 => .object "DeltaCodec$Row"
  | 2 => .object "DeltaCodec$Row"
  | 3 => .object "DeltaCodec$Plan"
  | 4 => .object "DeltaCodec$Planner"
  | 5 => .object "DeltaCodec$Decoder"
  | _ => .int
abbrev wsX40 : List Cond := u_ws RX4 TX4 7
theorem nmX4 : ∀ a, a < 7 → ∀ b, b < 7 → a ≠ b → (TX4 a).2.1 ≠ (TX4 b).2.1 := by decide +kernel
theorem tyX4_ok : ∀ k, k < 7 → parseFieldDescriptor (TX4 k).2.2.1 = some (tyX4 k) := by decide +kernel
abbrev cX4_init : ByteArray := prog_1_method_1_code
def yX4_init : MethodName := ⟨RX4, "<init>", "()V"⟩
abbrev cX4_feed : ByteArray := prog_1_method_2_code
def yX4_feed : MethodName := ⟨RX4, "feed", "(IJI)I"⟩
abbrev cX4_fill : ByteArray := prog_1_method_3_code
def yX4_fill : MethodName := ⟨RX4, "fill", "(III)I"⟩
abbrev cX4_cut : ByteArray := prog_1_method_4_code
def yX4_cut : MethodName := ⟨RX4, "cut", "(II)I"⟩
abbrev cX4_set : ByteArray := prog_1_method_5_code
def yX4_set : MethodName := ⟨RX4, "set", "(III)I"⟩
abbrev cX4_size : ByteArray := prog_1_method_6_code
def yX4_size : MethodName := ⟨RX4, "size", "(I)I"⟩
abbrev cX4_byteAt : ByteArray := prog_1_method_7_code
def yX4_byteAt : MethodName := ⟨RX4, "byteAt", "(II)I"⟩
abbrev cX4_turn : ByteArray := prog_1_method_8_code
def yX4_turn : MethodName := ⟨RX4, "turn", "()I"⟩
abbrev cX4_advance : ByteArray := prog_1_method_9_code
def yX4_advance : MethodName := ⟨RX4, "advance", "()I"⟩
abbrev cX4_check : ByteArray := prog_1_method_10_code
def yX4_check : MethodName := ⟨RX4, "check", "(III)I"⟩
abbrev cX4_match : ByteArray := prog_1_method_11_code
def yX4_match : MethodName := ⟨RX4, "match", "(II)I"⟩
abbrev cX4_matchPlace : ByteArray := prog_1_method_12_code
def yX4_matchPlace : MethodName := ⟨RX4, "matchPlace", "(II)I"⟩
abbrev cX4_blocks : ByteArray := prog_1_method_13_code
def yX4_blocks : MethodName := ⟨RX4, "blocks", "(I)I"⟩
abbrev cX4_setLeast : ByteArray := prog_1_method_14_code
def yX4_setLeast : MethodName := ⟨RX4, "setLeast", "(I)I"⟩
abbrev cX4_plan : ByteArray := prog_1_method_15_code
def yX4_plan : MethodName := ⟨RX4, "plan", "()I"⟩
abbrev cX4_hasPlan : ByteArray := prog_1_method_16_code
def yX4_hasPlan : MethodName := ⟨RX4, "hasPlan", "()Z"⟩
abbrev cX4_cost : ByteArray := prog_1_method_17_code
def yX4_cost : MethodName := ⟨RX4, "cost", "()I"⟩
abbrev cX4_kind : ByteArray := prog_1_method_18_code
def yX4_kind : MethodName := ⟨RX4, "kind", "(I)I"⟩
abbrev cX4_length : ByteArray := prog_1_method_19_code
def yX4_length : MethodName := ⟨RX4, "length", "(I)I"⟩
abbrev cX4_operand : ByteArray := prog_1_method_20_code
def yX4_operand : MethodName := ⟨RX4, "operand", "(I)I"⟩
abbrev cX4_start : ByteArray := prog_1_method_21_code
def yX4_start : MethodName := ⟨RX4, "start", "(I)I"⟩
abbrev cX4_made : ByteArray := prog_1_method_22_code
def yX4_made : MethodName := ⟨RX4, "made", "(I)I"⟩
abbrev cX4_ratio : ByteArray := prog_1_method_23_code
def yX4_ratio : MethodName := ⟨RX4, "ratio", "()D"⟩
abbrev cX4_encode : ByteArray := prog_1_method_24_code
def yX4_encode : MethodName := ⟨RX4, "encode", "()I"⟩
abbrev cX4_codeSize : ByteArray := prog_1_method_25_code
def yX4_codeSize : MethodName := ⟨RX4, "codeSize", "()I"⟩
abbrev cX4_code : ByteArray := prog_1_method_26_code
def yX4_code : MethodName := ⟨RX4, "code", "(I)I"⟩
abbrev cX4_setCode : ByteArray := prog_1_method_27_code
def yX4_setCode : MethodName := ⟨RX4, "setCode", "(II)I"⟩
abbrev cX4_cutCode : ByteArray := prog_1_method_28_code
def yX4_cutCode : MethodName := ⟨RX4, "cutCode", "(I)I"⟩
abbrev cX4_appendCode : ByteArray := prog_1_method_29_code
def yX4_appendCode : MethodName := ⟨RX4, "appendCode", "(I)I"⟩
abbrev cX4_decode : ByteArray := prog_1_method_30_code
def yX4_decode : MethodName := ⟨RX4, "decode", "()I"⟩
abbrev cX4_errorPosition : ByteArray := prog_1_method_31_code
def yX4_errorPosition : MethodName := ⟨RX4, "errorPosition", "()I"⟩
abbrev cX4_outputSize : ByteArray := prog_1_method_32_code
def yX4_outputSize : MethodName := ⟨RX4, "outputSize", "()I"⟩
abbrev cX4_output : ByteArray := prog_1_method_33_code
def yX4_output : MethodName := ⟨RX4, "output", "(I)I"⟩
abbrev cX4_differences : ByteArray := prog_1_method_34_code
def yX4_differences : MethodName := ⟨RX4, "differences", "()I"⟩
abbrev cX4_digest : ByteArray := prog_1_method_35_code
def yX4_digest : MethodName := ⟨RX4, "digest", "()J"⟩
abbrev cX4_needSide : ByteArray := prog_1_method_36_code
def yX4_needSide : MethodName := ⟨RX4, "needSide", "(I)V"⟩
abbrev cX4_needWithin : ByteArray := prog_1_method_37_code
def yX4_needWithin : MethodName := ⟨RX4, "needWithin", "(III)V"⟩
abbrev cX4_needPlace : ByteArray := prog_1_method_38_code
def yX4_needPlace : MethodName := ⟨RX4, "needPlace", "(LDeltaCodec$Row;I)V"⟩
abbrev cX4_needRoom : ByteArray := prog_1_method_39_code
def yX4_needRoom : MethodName := ⟨RX4, "needRoom", "(LDeltaCodec$Row;I)V"⟩
abbrev cX4_needPlan : ByteArray := prog_1_method_40_code
def yX4_needPlan : MethodName := ⟨RX4, "needPlan", "()V"⟩
abbrev cX4_needInstruction : ByteArray := prog_1_method_41_code
def yX4_needInstruction : MethodName := ⟨RX4, "needInstruction", "(I)V"⟩
abbrev cX4_rowOf : ByteArray := prog_1_method_42_code
def yX4_rowOf : MethodName := ⟨RX4, "rowOf", "(I)LDeltaCodec$Row;"⟩
abbrev cX4_exchangeRows : ByteArray := prog_1_method_43_code
def yX4_exchangeRows : MethodName := ⟨RX4, "exchangeRows", "()V"⟩
abbrev cX4_checkOf : ByteArray := prog_1_method_44_code
def yX4_checkOf : MethodName := ⟨RX4, "checkOf", "(LDeltaCodec$Row;II)I"⟩
abbrev cX4_bestMatchPlace : ByteArray := prog_1_method_45_code
def yX4_bestMatchPlace : MethodName := ⟨RX4, "bestMatchPlace", "(II)I"⟩
abbrev cX4_commonLength : ByteArray := prog_1_method_46_code
def yX4_commonLength : MethodName := ⟨RX4, "commonLength", "(LDeltaCodec$Row;II)I"⟩
abbrev cX4_isBlockAt : ByteArray := prog_1_method_47_code
def yX4_isBlockAt : MethodName := ⟨RX4, "isBlockAt", "(II)Z"⟩
abbrev cX4_writeInstruction : ByteArray := prog_1_method_48_code
def yX4_writeInstruction : MethodName := ⟨RX4, "writeInstruction", "(I)V"⟩
abbrev cX4_writeTargetBytes : ByteArray := prog_1_method_49_code
def yX4_writeTargetBytes : MethodName := ⟨RX4, "writeTargetBytes", "(II)V"⟩
abbrev cX4_writeNumber : ByteArray := prog_1_method_50_code
def yX4_writeNumber : MethodName := ⟨RX4, "writeNumber", "(I)V"⟩
abbrev cX4_digestStep : ByteArray := prog_1_method_51_code
def yX4_digestStep : MethodName := ⟨RX4, "digestStep", "(JI)J"⟩
abbrev cX4_digestRow : ByteArray := prog_1_method_52_code
def yX4_digestRow : MethodName := ⟨RX4, "digestRow", "(JLDeltaCodec$Row;)J"⟩
abbrev cX4_digestPlan : ByteArray := prog_1_method_53_code
def yX4_digestPlan : MethodName := ⟨RX4, "digestPlan", "(J)J"⟩
def RX5 : String := "DeltaCodecModel"
def TX5 : u_T := fun k => match k with
  | 0 => ("DeltaCodecModel", "thrown", "I", false)
  | 1 => ("DeltaCodecModel", "source", "[I", false)
  | 2 => ("DeltaCodecModel", "sourceSize", "I", false)
  | 3 => ("DeltaCodecModel", "target", "[I", false)
  | 4 => ("DeltaCodecModel", "size", "I", false)
  | 5 => ("DeltaCodecModel", "least", "I", false)
  | 6 => ("DeltaCodecModel", "hasPlan", "Z", false)
  | 7 => ("DeltaCodecModel", "instructions", "I", false)
  | 8 => ("DeltaCodecModel", "kinds", "[I", true)
  | 9 => ("DeltaCodecModel", "lengths", "[I", true)
  | 10 => ("DeltaCodecModel", "operands", "[I", true)
  | 11 => ("DeltaCodecModel", "starts", "[I", true)
  | 12 => ("DeltaCodecModel", "cost", "I", false)
  | 13 => ("DeltaCodecModel", "codeSize", "I", false)
  | 14 => ("DeltaCodecModel", "code", "[I", true)
  | 15 => ("DeltaCodecModel", "made", "I", false)
  | 16 => ("DeltaCodecModel", "output", "[I", true)
  | 17 => ("DeltaCodecModel", "errorPosition", "I", false)
  | 18 => ("DeltaCodecModel", "costs", "[I", true)
  | 19 => ("DeltaCodecModel", "counts", "[I", true)
  | 20 => ("DeltaCodecModel", "bestKinds", "[I", true)
  | 21 => ("DeltaCodecModel", "bestLengths", "[I", true)
  | 22 => ("DeltaCodecModel", "bestOperands", "[I", true)
  | 23 => ("DeltaCodecModel", "at", "I", false)
  | _ => ("DeltaCodecModel", "error", "I", false)
def tyX5 : Nat → FieldType := fun k => match k with
  | 0 => .int
  | 1 => .array .int
  | 2 => .int
  | 3 => .array .int
  | 4 => .int
  | 5 => .int
  | 6 => .boolean
  | 7 => .int
  | 8 => .array .int
  | 9 => .array .int
  | 10 => .array .int
  | 11 => .array .int
  | 12 => .int
  | 13 => .int
  | 14 => .array .int
  | 15 => .int
  | 16 => .array .int
  | 17 => .int
  | 18 => .array .int
  | 19 => .array .int
  | 20 => .array .int
  | 21 => .array .int
  | 22 => .array .int
  | 23 => .int
  | _ => .int
abbrev wsX50 : List Cond := u_ws RX5 TX5 25
theorem nmX5 : ∀ a, a < 25 → ∀ b, b < 25 → a ≠ b → (TX5 a).2.1 ≠ (TX5 b).2.1 := by decide +kernel
theorem tyX5_ok : ∀ k, k < 25 → parseFieldDescriptor (TX5 k).2.2.1 = some (tyX5 k) := by decide +kernel
abbrev cX5_init : ByteArray := prog_7_method_1_code
def yX5_init : MethodName := ⟨RX5, "<init>", "()V"⟩
abbrev cX5_thrown : ByteArray := prog_7_method_2_code
def yX5_thrown : MethodName := ⟨RX5, "thrown", "()I"⟩
abbrev cX5_no : ByteArray := prog_7_method_3_code
def yX5_no : MethodName := ⟨RX5, "no", "(I)I"⟩
abbrev cX5_isIn : ByteArray := prog_7_method_4_code
def yX5_isIn : MethodName := ⟨RX5, "isIn", "(III)Z"⟩
abbrev cX5_isSide : ByteArray := prog_7_method_5_code
def yX5_isSide : MethodName := ⟨RX5, "isSide", "(I)Z"⟩
abbrev cX5_sizeOf : ByteArray := prog_7_method_6_code
def yX5_sizeOf : MethodName := ⟨RX5, "sizeOf", "(I)I"⟩
abbrev cX5_stringOf : ByteArray := prog_7_method_7_code
def yX5_stringOf : MethodName := ⟨RX5, "stringOf", "(I)[I"⟩
abbrev cX5_setSize : ByteArray := prog_7_method_8_code
def yX5_setSize : MethodName := ⟨RX5, "setSize", "(II)V"⟩
abbrev cX5_feed : ByteArray := prog_7_method_9_code
def yX5_feed : MethodName := ⟨RX5, "feed", "(IJI)I"⟩
abbrev cX5_fill : ByteArray := prog_7_method_10_code
def yX5_fill : MethodName := ⟨RX5, "fill", "(III)I"⟩
abbrev cX5_cut : ByteArray := prog_7_method_11_code
def yX5_cut : MethodName := ⟨RX5, "cut", "(II)I"⟩
abbrev cX5_set : ByteArray := prog_7_method_12_code
def yX5_set : MethodName := ⟨RX5, "set", "(III)I"⟩
abbrev cX5_size : ByteArray := prog_7_method_13_code
def yX5_size : MethodName := ⟨RX5, "size", "(I)I"⟩
abbrev cX5_byteAt : ByteArray := prog_7_method_14_code
def yX5_byteAt : MethodName := ⟨RX5, "byteAt", "(II)I"⟩
abbrev cX5_turn : ByteArray := prog_7_method_15_code
def yX5_turn : MethodName := ⟨RX5, "turn", "()I"⟩
abbrev cX5_advance : ByteArray := prog_7_method_16_code
def yX5_advance : MethodName := ⟨RX5, "advance", "()I"⟩
abbrev cX5_checkOf : ByteArray := prog_7_method_17_code
def yX5_checkOf : MethodName := ⟨RX5, "checkOf", "([III)I"⟩
abbrev cX5_check : ByteArray := prog_7_method_18_code
def yX5_check : MethodName := ⟨RX5, "check", "(III)I"⟩
abbrev cX5_common : ByteArray := prog_7_method_19_code
def yX5_common : MethodName := ⟨RX5, "common", "(III)I"⟩
abbrev cX5_places : ByteArray := prog_7_method_20_code
def yX5_places : MethodName := ⟨RX5, "places", "(II)I"⟩
abbrev cX5_longest : ByteArray := prog_7_method_21_code
def yX5_longest : MethodName := ⟨RX5, "longest", "(II)I"⟩
abbrev cX5_isAsked : ByteArray := prog_7_method_22_code
def yX5_isAsked : MethodName := ⟨RX5, "isAsked", "(II)Z"⟩
abbrev cX5_match : ByteArray := prog_7_method_23_code
def yX5_match : MethodName := ⟨RX5, "match", "(II)I"⟩
abbrev cX5_matchPlace : ByteArray := prog_7_method_24_code
def yX5_matchPlace : MethodName := ⟨RX5, "matchPlace", "(II)I"⟩
abbrev cX5_isBlock : ByteArray := prog_7_method_25_code
def yX5_isBlock : MethodName := ⟨RX5, "isBlock", "(III)Z"⟩
abbrev cX5_blocks : ByteArray := prog_7_method_26_code
def yX5_blocks : MethodName := ⟨RX5, "blocks", "(I)I"⟩
abbrev cX5_setLeast : ByteArray := prog_7_method_27_code
def yX5_setLeast : MethodName := ⟨RX5, "setLeast", "(I)I"⟩
abbrev cX5_numberSize : ByteArray := prog_7_method_28_code
def yX5_numberSize : MethodName := ⟨RX5, "numberSize", "(I)I"⟩
abbrev cX5_headSize : ByteArray := prog_7_method_29_code
def yX5_headSize : MethodName := ⟨RX5, "headSize", "(I)I"⟩
abbrev cX5_offer : ByteArray := prog_7_method_30_code
def yX5_offer : MethodName := ⟨RX5, "offer", "(IIIII)V"⟩
abbrev cX5_smallest : ByteArray := prog_7_method_31_code
def yX5_smallest : MethodName := ⟨RX5, "smallest", "(II)[I"⟩
abbrev cX5_look : ByteArray := prog_7_method_32_code
def yX5_look : MethodName := ⟨RX5, "look", "(I)V"⟩
abbrev cX5_plan : ByteArray := prog_7_method_33_code
def yX5_plan : MethodName := ⟨RX5, "plan", "()I"⟩
abbrev cX5_hasPlan : ByteArray := prog_7_method_34_code
def yX5_hasPlan : MethodName := ⟨RX5, "hasPlan", "()Z"⟩
abbrev cX5_cost : ByteArray := prog_7_method_35_code
def yX5_cost : MethodName := ⟨RX5, "cost", "()I"⟩
abbrev cX5_isAsked_ : ByteArray := prog_7_method_36_code
def yX5_isAsked_ : MethodName := ⟨RX5, "isAsked", "(I)Z"⟩
abbrev cX5_kind : ByteArray := prog_7_method_37_code
def yX5_kind : MethodName := ⟨RX5, "kind", "(I)I"⟩
abbrev cX5_length : ByteArray := prog_7_method_38_code
def yX5_length : MethodName := ⟨RX5, "length", "(I)I"⟩
abbrev cX5_operand : ByteArray := prog_7_method_39_code
def yX5_operand : MethodName := ⟨RX5, "operand", "(I)I"⟩
abbrev cX5_start : ByteArray := prog_7_method_40_code
def yX5_start : MethodName := ⟨RX5, "start", "(I)I"⟩
abbrev cX5_made : ByteArray := prog_7_method_41_code
def yX5_made : MethodName := ⟨RX5, "made", "(I)I"⟩
abbrev cX5_ratio : ByteArray := prog_7_method_42_code
def yX5_ratio : MethodName := ⟨RX5, "ratio", "()D"⟩
abbrev cX5_put : ByteArray := prog_7_method_43_code
def yX5_put : MethodName := ⟨RX5, "put", "(I)V"⟩
abbrev cX5_putNumber : ByteArray := prog_7_method_44_code
def yX5_putNumber : MethodName := ⟨RX5, "putNumber", "(I)V"⟩
abbrev cX5_encode : ByteArray := prog_7_method_45_code
def yX5_encode : MethodName := ⟨RX5, "encode", "()I"⟩
abbrev cX5_codeSize : ByteArray := prog_7_method_46_code
def yX5_codeSize : MethodName := ⟨RX5, "codeSize", "()I"⟩
abbrev cX5_code : ByteArray := prog_7_method_47_code
def yX5_code : MethodName := ⟨RX5, "code", "(I)I"⟩
abbrev cX5_setCode : ByteArray := prog_7_method_48_code
def yX5_setCode : MethodName := ⟨RX5, "setCode", "(II)I"⟩
abbrev cX5_cutCode : ByteArray := prog_7_method_49_code
def yX5_cutCode : MethodName := ⟨RX5, "cutCode", "(I)I"⟩
abbrev cX5_appendCode : ByteArray := prog_7_method_50_code
def yX5_appendCode : MethodName := ⟨RX5, "appendCode", "(I)I"⟩
abbrev cX5_fail : ByteArray := prog_7_method_51_code
def yX5_fail : MethodName := ⟨RX5, "fail", "(II)I"⟩
abbrev cX5_take : ByteArray := prog_7_method_52_code
def yX5_take : MethodName := ⟨RX5, "take", "()I"⟩
abbrev cX5_takeNumber : ByteArray := prog_7_method_53_code
def yX5_takeNumber : MethodName := ⟨RX5, "takeNumber", "()I"⟩
abbrev cX5_takeInstruction : ByteArray := prog_7_method_54_code
def yX5_takeInstruction : MethodName := ⟨RX5, "takeInstruction", "()V"⟩
abbrev cX5_decode : ByteArray := prog_7_method_55_code
def yX5_decode : MethodName := ⟨RX5, "decode", "()I"⟩
abbrev cX5_errorPosition : ByteArray := prog_7_method_56_code
def yX5_errorPosition : MethodName := ⟨RX5, "errorPosition", "()I"⟩
abbrev cX5_outputSize : ByteArray := prog_7_method_57_code
def yX5_outputSize : MethodName := ⟨RX5, "outputSize", "()I"⟩
abbrev cX5_output : ByteArray := prog_7_method_58_code
def yX5_output : MethodName := ⟨RX5, "output", "(I)I"⟩
abbrev cX5_differences : ByteArray := prog_7_method_59_code
def yX5_differences : MethodName := ⟨RX5, "differences", "()I"⟩
abbrev cX5_digest : ByteArray := prog_7_method_60_code
def yX5_digest : MethodName := ⟨RX5, "digest", "()J"⟩
def RJx145de : String := "java/io/Serializable"
def TJx145de : u_T := fun k => match k with
  | _ => ("", "", "", false)
def tyJx145de : Nat → FieldType := fun k => match k with
  | _ => .int
abbrev wsJx145de0 : List Cond := u_ws RJx145de TJx145de 0
theorem nmJx145de : ∀ a, a < 0 → ∀ b, b < 0 → a ≠ b → (TJx145de a).2.1 ≠ (TJx145de b).2.1 := by decide +kernel
theorem tyJx145de_ok : ∀ k, k < 0 → parseFieldDescriptor (TJx145de k).2.2.1 = some (tyJx145de k) := by decide +kernel
def RJ9 : String := "java/lang/Math"
def TJ9 : u_T := fun k => match k with
  | _ => ("", "", "", false)
def tyJ9 : Nat → FieldType := fun k => match k with
  | _ => .int
abbrev wsJ90 : List Cond := u_ws RJ9 TJ9 0
theorem nmJ9 : ∀ a, a < 0 → ∀ b, b < 0 → a ≠ b → (TJ9 a).2.1 ≠ (TJ9 b).2.1 := by decide +kernel
theorem tyJ9_ok : ∀ k, k < 0 → parseFieldDescriptor (TJ9 k).2.2.1 = some (tyJ9 k) := by decide +kernel
abbrev cJ9_abs_0f7a4 : ByteArray := prog_12_method_59_code
def yJ9_abs_0f7a4 : MethodName := ⟨RJ9, "abs", "(I)I"⟩
abbrev cJ9_max_7cf53 : ByteArray := prog_12_method_65_code
def yJ9_max_7cf53 : MethodName := ⟨RJ9, "max", "(II)I"⟩
abbrev cJ9_min_7cf53 : ByteArray := prog_12_method_69_code
def yJ9_min_7cf53 : MethodName := ⟨RJ9, "min", "(II)I"⟩
def RJ0 : String := "java/lang/String"
def TJ0 : u_T := fun k => match k with
  | _ => ("", "", "", false)
def tyJ0 : Nat → FieldType := fun k => match k with
  | _ => .int
abbrev wsJ00 : List Cond := u_ws RJ0 TJ0 0
theorem nmJ0 : ∀ a, a < 0 → ∀ b, b < 0 → a ≠ b → (TJ0 a).2.1 ≠ (TJ0 b).2.1 := by decide +kernel
theorem tyJ0_ok : ∀ k, k < 0 → parseFieldDescriptor (TJ0 k).2.2.1 = some (tyJ0 k) := by decide +kernel
def RJ7 : String := "java/util/Arrays"
def TJ7 : u_T := fun k => match k with
  | _ => ("", "", "", false)
def tyJ7 : Nat → FieldType := fun k => match k with
  | _ => .int
abbrev wsJ70 : List Cond := u_ws RJ7 TJ7 0
theorem nmJ7 : ∀ a, a < 0 → ∀ b, b < 0 → a ≠ b → (TJ7 a).2.1 ≠ (TJ7 b).2.1 := by decide +kernel
theorem tyJ7_ok : ∀ k, k < 0 → parseFieldDescriptor (TJ7 k).2.2.1 = some (tyJ7 k) := by decide +kernel
abbrev cJ7_fill_53178 : ByteArray := prog_16_method_103_code
def yJ7_fill_53178 : MethodName := ⟨RJ7, "fill", "([II)V"⟩
def RL : String := "DeltaCodecLaw"
abbrev cL_feed : ByteArray := method_3_code
def yL_feed : MethodName := ⟨RL, "feed", "(LDeltaCodec;IJI[J)I"⟩
abbrev cL_fill : ByteArray := method_4_code
def yL_fill : MethodName := ⟨RL, "fill", "(LDeltaCodec;III[J)I"⟩
abbrev cL_cut : ByteArray := method_5_code
def yL_cut : MethodName := ⟨RL, "cut", "(LDeltaCodec;II[J)I"⟩
abbrev cL_set : ByteArray := method_6_code
def yL_set : MethodName := ⟨RL, "set", "(LDeltaCodec;III[J)I"⟩
abbrev cL_size : ByteArray := method_7_code
def yL_size : MethodName := ⟨RL, "size", "(LDeltaCodec;I[J)I"⟩
abbrev cL_byteAt : ByteArray := method_8_code
def yL_byteAt : MethodName := ⟨RL, "byteAt", "(LDeltaCodec;II[J)I"⟩
abbrev cL_check : ByteArray := method_9_code
def yL_check : MethodName := ⟨RL, "check", "(LDeltaCodec;III[J)I"⟩
abbrev cL_match : ByteArray := method_10_code
def yL_match : MethodName := ⟨RL, "match", "(LDeltaCodec;II[J)I"⟩
abbrev cL_matchPlace : ByteArray := method_11_code
def yL_matchPlace : MethodName := ⟨RL, "matchPlace", "(LDeltaCodec;II[J)I"⟩
abbrev cL_blocks : ByteArray := method_12_code
def yL_blocks : MethodName := ⟨RL, "blocks", "(LDeltaCodec;I[J)I"⟩
abbrev cL_setLeast : ByteArray := method_13_code
def yL_setLeast : MethodName := ⟨RL, "setLeast", "(LDeltaCodec;I[J)I"⟩
abbrev cL_cost : ByteArray := method_14_code
def yL_cost : MethodName := ⟨RL, "cost", "(LDeltaCodec;[J)I"⟩
abbrev cL_kind : ByteArray := method_15_code
def yL_kind : MethodName := ⟨RL, "kind", "(LDeltaCodec;I[J)I"⟩
abbrev cL_length : ByteArray := method_16_code
def yL_length : MethodName := ⟨RL, "length", "(LDeltaCodec;I[J)I"⟩
abbrev cL_operand : ByteArray := method_17_code
def yL_operand : MethodName := ⟨RL, "operand", "(LDeltaCodec;I[J)I"⟩
abbrev cL_start : ByteArray := method_18_code
def yL_start : MethodName := ⟨RL, "start", "(LDeltaCodec;I[J)I"⟩
abbrev cL_made : ByteArray := method_19_code
def yL_made : MethodName := ⟨RL, "made", "(LDeltaCodec;I[J)I"⟩
abbrev cL_ratio : ByteArray := method_20_code
def yL_ratio : MethodName := ⟨RL, "ratio", "(LDeltaCodec;[D)I"⟩
abbrev cL_encode : ByteArray := method_21_code
def yL_encode : MethodName := ⟨RL, "encode", "(LDeltaCodec;[J)I"⟩
abbrev cL_code : ByteArray := method_22_code
def yL_code : MethodName := ⟨RL, "code", "(LDeltaCodec;I[J)I"⟩
abbrev cL_setCode : ByteArray := method_23_code
def yL_setCode : MethodName := ⟨RL, "setCode", "(LDeltaCodec;II[J)I"⟩
abbrev cL_cutCode : ByteArray := method_24_code
def yL_cutCode : MethodName := ⟨RL, "cutCode", "(LDeltaCodec;I[J)I"⟩
abbrev cL_appendCode : ByteArray := method_25_code
def yL_appendCode : MethodName := ⟨RL, "appendCode", "(LDeltaCodec;I[J)I"⟩
abbrev cL_output : ByteArray := method_26_code
def yL_output : MethodName := ⟨RL, "output", "(LDeltaCodec;I[J)I"⟩
abbrev cL_law : ByteArray := code
def yL_law : MethodName := ⟨RL, "law", "([I)Z"⟩
def wsX3_init : List Cond := .code yX3_init cX3_init 2 none :: ([.methodLink RX3 1 objectInit, .instanceMethod objectInit, .code objectInit ⟨#[0xb1]⟩ 1 none, .methodLink RX3 7 Lib.Math.max.name, .static Lib.Math.max.name, .initialized "java/lang/Math", .code Lib.Math.max.name Lib.Math.max.code 2 (some .int), .arrayClass .int, .fieldLink RX3 13 "DeltaCodec$Row" "bytes" "[I", .fieldLink RX3 19 "DeltaCodec$Row" "count" "I"] ++ wsX30)
def wsX0_init_r1 : List Cond := [Cond.methodLink RX0 3 objectInit, Cond.instanceMethod objectInit, Cond.code objectInit ⟨#[0xb1]⟩ 1 none, Cond.classLink RX0 9 RX3, Cond.instantiable RX3 2, Cond.initialized RX3, Cond.fieldLink RX0 14 "DeltaCodec$Decoder" "product" "LDeltaCodec$Row;", Cond.fieldLink RX0 20 "DeltaCodec$Decoder" "position" "I", Cond.fieldLink RX0 24 "DeltaCodec$Decoder" "limit" "I", Cond.fieldLink RX0 27 "DeltaCodec$Decoder" "error" "I", Cond.fieldLink RX0 30 "DeltaCodec$Decoder" "errorAt" "I", Cond.fieldLink RX0 33 "DeltaCodec$Decoder" "kind" "I", Cond.fieldLink RX0 36 "DeltaCodec$Decoder" "n" "I", Cond.fieldLink RX0 39 "DeltaCodec$Decoder" "operand" "I", Cond.methodLink RX0 11 yX3_init, Cond.instanceMethod yX3_init, Cond.code yX3_init cX3_init 2 none, Cond.methodLink RX3 1 objectInit, Cond.methodLink RX3 7 Lib.Math.max.name, Cond.static Lib.Math.max.name, Cond.initialized "java/lang/Math", Cond.code Lib.Math.max.name Lib.Math.max.code 2 (some .int), Cond.arrayClass .int, Cond.fieldLink RX3 13 "DeltaCodec$Row" "bytes" "[I"]
def wsX0_init_r2 : List Cond := [Cond.fieldLink RX3 19 "DeltaCodec$Row" "count" "I"]
def wsX0_init : List Cond := .code yX0_init cX0_init 1 none :: ((wsX0_init_r1 ++ wsX0_init_r2) ++ wsX30 ++ wsX00)
def wsX0_product : List Cond := .code yX0_product cX0_product 1 (some (.object "DeltaCodec$Row")) :: ([.fieldLink RX0 14 "DeltaCodec$Decoder" "product" "LDeltaCodec$Row;"] ++ wsX00)
def wsX0_errorAt : List Cond := .code yX0_errorAt cX0_errorAt 1 (some .int) :: ([.fieldLink RX0 30 "DeltaCodec$Decoder" "errorAt" "I"] ++ wsX00)
def wsX3_clear : List Cond := .code yX3_clear cX3_clear 1 none :: ([.fieldLink RX3 19 "DeltaCodec$Row" "count" "I"] ++ wsX30)
def wsX3_count : List Cond := .code yX3_count cX3_count 1 (some .int) :: ([.fieldLink RX3 19 "DeltaCodec$Row" "count" "I"] ++ wsX30)
def wsX0_tell : List Cond := .code yX0_tell cX0_tell 3 none :: ([.fieldLink RX0 27 "DeltaCodec$Decoder" "error" "I", .fieldLink RX0 30 "DeltaCodec$Decoder" "errorAt" "I"] ++ wsX00)
def wsX0_passBytes : List Cond := .code yX0_passBytes cX0_passBytes 2 none :: ([.fieldLink RX0 24 "DeltaCodec$Decoder" "limit" "I", .fieldLink RX0 20 "DeltaCodec$Decoder" "position" "I", .fieldLink RX0 27 "DeltaCodec$Decoder" "error" "I", .methodLink RX0 49 yX0_tell, .instanceMethod yX0_tell, .selects RX0 yX0_tell yX0_tell, .initialized RX0, .code yX0_tell cX0_tell 3 none, .fieldLink RX0 30 "DeltaCodec$Decoder" "errorAt" "I"] ++ wsX00)
def wsX3_holds : List Cond := .code yX3_holds cX3_holds 2 (some .boolean) :: ([.fieldLink RX3 19 "DeltaCodec$Row" "count" "I", .fieldLink RX3 13 "DeltaCodec$Row" "bytes" "[I"] ++ wsX30)
def wsX3_at : List Cond := .code yX3_at cX3_at 2 (some .int) :: ([.fieldLink RX3 13 "DeltaCodec$Row" "bytes" "[I", .methodLink RX3 23 yX3_holds, .instanceMethod yX3_holds, .selects RX3 yX3_holds yX3_holds, .initialized RX3, .code yX3_holds cX3_holds 2 (some .boolean), .fieldLink RX3 19 "DeltaCodec$Row" "count" "I"] ++ wsX30)
def wsX0_nextByte : List Cond := .code yX0_nextByte cX0_nextByte 3 (some .int) :: ([.fieldLink RX0 20 "DeltaCodec$Decoder" "position" "I", .fieldLink RX0 27 "DeltaCodec$Decoder" "error" "I", .methodLink RX0 75 yX0_passBytes, .instanceMethod yX0_passBytes, .selects RX0 yX0_passBytes yX0_passBytes, .initialized RX0, .code yX0_passBytes cX0_passBytes 2 none, .fieldLink RX0 24 "DeltaCodec$Decoder" "limit" "I", .methodLink RX0 49 yX0_tell, .instanceMethod yX0_tell, .selects RX0 yX0_tell yX0_tell, .code yX0_tell cX0_tell 3 none, .fieldLink RX0 30 "DeltaCodec$Decoder" "errorAt" "I", .methodLink RX0 78 yX3_at, .instanceMethod yX3_at, .selects RX3 yX3_at yX3_at, .initialized RX3, .code yX3_at cX3_at 2 (some .int), .fieldLink RX3 13 "DeltaCodec$Row" "bytes" "[I", .methodLink RX3 23 yX3_holds, .instanceMethod yX3_holds, .selects RX3 yX3_holds yX3_holds, .code yX3_holds cX3_holds 2 (some .boolean), .fieldLink RX3 19 "DeltaCodec$Row" "count" "I"] ++ wsX00 ++ wsX30)
def wsX0_nextNumber_r1 : List Cond := [Cond.fieldLink RX0 20 "DeltaCodec$Decoder" "position" "I", Cond.methodLink RX0 68 yX0_nextByte, Cond.instanceMethod yX0_nextByte, Cond.selects RX0 yX0_nextByte yX0_nextByte, Cond.initialized RX0, Cond.code yX0_nextByte cX0_nextByte 3 (some .int), Cond.fieldLink RX0 27 "DeltaCodec$Decoder" "error" "I", Cond.methodLink RX0 75 yX0_passBytes, Cond.instanceMethod yX0_passBytes, Cond.selects RX0 yX0_passBytes yX0_passBytes, Cond.code yX0_passBytes cX0_passBytes 2 none, Cond.fieldLink RX0 24 "DeltaCodec$Decoder" "limit" "I", Cond.methodLink RX0 49 yX0_tell, Cond.instanceMethod yX0_tell, Cond.selects RX0 yX0_tell yX0_tell, Cond.code yX0_tell cX0_tell 3 none, Cond.fieldLink RX0 30 "DeltaCodec$Decoder" "errorAt" "I", Cond.methodLink RX0 78 yX3_at, Cond.instanceMethod yX3_at, Cond.selects RX3 yX3_at yX3_at, Cond.initialized RX3, Cond.code yX3_at cX3_at 2 (some .int), Cond.fieldLink RX3 13 "DeltaCodec$Row" "bytes" "[I", Cond.methodLink RX3 23 yX3_holds]
def wsX0_nextNumber_r2 : List Cond := [Cond.instanceMethod yX3_holds, Cond.selects RX3 yX3_holds yX3_holds, Cond.code yX3_holds cX3_holds 2 (some .boolean), Cond.fieldLink RX3 19 "DeltaCodec$Row" "count" "I"]
def wsX0_nextNumber : List Cond := .code yX0_nextNumber cX0_nextNumber 5 (some .int) :: ((wsX0_nextNumber_r1 ++ wsX0_nextNumber_r2) ++ wsX00 ++ wsX30)
def wsX0_readInstruction_r1 : List Cond := [Cond.fieldLink RX0 20 "DeltaCodec$Decoder" "position" "I", Cond.fieldLink RX0 33 "DeltaCodec$Decoder" "kind" "I", Cond.fieldLink RX0 36 "DeltaCodec$Decoder" "n" "I", Cond.fieldLink RX0 39 "DeltaCodec$Decoder" "operand" "I", Cond.methodLink RX0 68 yX0_nextByte, Cond.instanceMethod yX0_nextByte, Cond.selects RX0 yX0_nextByte yX0_nextByte, Cond.initialized RX0, Cond.code yX0_nextByte cX0_nextByte 3 (some .int), Cond.fieldLink RX0 27 "DeltaCodec$Decoder" "error" "I", Cond.methodLink RX0 75 yX0_passBytes, Cond.instanceMethod yX0_passBytes, Cond.selects RX0 yX0_passBytes yX0_passBytes, Cond.code yX0_passBytes cX0_passBytes 2 none, Cond.fieldLink RX0 24 "DeltaCodec$Decoder" "limit" "I", Cond.methodLink RX0 49 yX0_tell, Cond.instanceMethod yX0_tell, Cond.selects RX0 yX0_tell yX0_tell, Cond.code yX0_tell cX0_tell 3 none, Cond.fieldLink RX0 30 "DeltaCodec$Decoder" "errorAt" "I", Cond.methodLink RX0 78 yX3_at, Cond.instanceMethod yX3_at, Cond.selects RX3 yX3_at yX3_at, Cond.initialized RX3]
def wsX0_readInstruction_r2 : List Cond := [Cond.code yX3_at cX3_at 2 (some .int), Cond.fieldLink RX3 13 "DeltaCodec$Row" "bytes" "[I", Cond.methodLink RX3 23 yX3_holds, Cond.instanceMethod yX3_holds, Cond.selects RX3 yX3_holds yX3_holds, Cond.code yX3_holds cX3_holds 2 (some .boolean), Cond.fieldLink RX3 19 "DeltaCodec$Row" "count" "I", Cond.methodLink RX0 72 yX0_nextNumber, Cond.instanceMethod yX0_nextNumber, Cond.selects RX0 yX0_nextNumber yX0_nextNumber, Cond.code yX0_nextNumber cX0_nextNumber 5 (some .int)]
def wsX0_readInstruction : List Cond := .code yX0_readInstruction cX0_readInstruction 4 none :: ((wsX0_readInstruction_r1 ++ wsX0_readInstruction_r2) ++ wsX00 ++ wsX30)
def wsX3_hasRoom : List Cond := .code yX3_hasRoom cX3_hasRoom 2 (some .boolean) :: ([.fieldLink RX3 13 "DeltaCodec$Row" "bytes" "[I", .fieldLink RX3 19 "DeltaCodec$Row" "count" "I"] ++ wsX30)
def wsX0_judgeInstruction : List Cond := .code yX0_judgeInstruction cX0_judgeInstruction 3 none :: ([.fieldLink RX0 33 "DeltaCodec$Decoder" "kind" "I", .fieldLink RX0 39 "DeltaCodec$Decoder" "operand" "I", .fieldLink RX0 36 "DeltaCodec$Decoder" "n" "I", .fieldLink RX0 14 "DeltaCodec$Decoder" "product" "LDeltaCodec$Row;", .methodLink RX0 45 yX3_count, .instanceMethod yX3_count, .selects RX3 yX3_count yX3_count, .initialized RX3, .code yX3_count cX3_count 1 (some .int), .fieldLink RX3 19 "DeltaCodec$Row" "count" "I", .methodLink RX0 49 yX0_tell, .instanceMethod yX0_tell, .selects RX0 yX0_tell yX0_tell, .initialized RX0, .code yX0_tell cX0_tell 3 none, .fieldLink RX0 27 "DeltaCodec$Decoder" "error" "I", .fieldLink RX0 30 "DeltaCodec$Decoder" "errorAt" "I", .methodLink RX0 82 yX3_hasRoom, .instanceMethod yX3_hasRoom, .selects RX3 yX3_hasRoom yX3_hasRoom, .code yX3_hasRoom cX3_hasRoom 2 (some .boolean), .fieldLink RX3 13 "DeltaCodec$Row" "bytes" "[I"] ++ wsX00 ++ wsX30)
def wsX0_byteToMake : List Cond := .code yX0_byteToMake cX0_byteToMake 4 (some .int) :: ([.fieldLink RX0 33 "DeltaCodec$Decoder" "kind" "I", .fieldLink RX0 39 "DeltaCodec$Decoder" "operand" "I", .fieldLink RX0 14 "DeltaCodec$Decoder" "product" "LDeltaCodec$Row;", .methodLink RX0 78 yX3_at, .instanceMethod yX3_at, .selects RX3 yX3_at yX3_at, .initialized RX3, .code yX3_at cX3_at 2 (some .int), .fieldLink RX3 13 "DeltaCodec$Row" "bytes" "[I", .methodLink RX3 23 yX3_holds, .instanceMethod yX3_holds, .selects RX3 yX3_holds yX3_holds, .code yX3_holds cX3_holds 2 (some .boolean), .fieldLink RX3 19 "DeltaCodec$Row" "count" "I"] ++ wsX00 ++ wsX30)
def wsX3_append : List Cond := .code yX3_append cX3_append 2 none :: ([.fieldLink RX3 19 "DeltaCodec$Row" "count" "I", .fieldLink RX3 13 "DeltaCodec$Row" "bytes" "[I"] ++ wsX30)
def wsX0_makeBytes_r1 : List Cond := [Cond.fieldLink RX0 36 "DeltaCodec$Decoder" "n" "I", Cond.fieldLink RX0 27 "DeltaCodec$Decoder" "error" "I", Cond.fieldLink RX0 14 "DeltaCodec$Decoder" "product" "LDeltaCodec$Row;", Cond.methodLink RX0 86 yX0_byteToMake, Cond.instanceMethod yX0_byteToMake, Cond.selects RX0 yX0_byteToMake yX0_byteToMake, Cond.initialized RX0, Cond.code yX0_byteToMake cX0_byteToMake 4 (some .int), Cond.fieldLink RX0 33 "DeltaCodec$Decoder" "kind" "I", Cond.fieldLink RX0 39 "DeltaCodec$Decoder" "operand" "I", Cond.methodLink RX0 78 yX3_at, Cond.instanceMethod yX3_at, Cond.selects RX3 yX3_at yX3_at, Cond.initialized RX3, Cond.code yX3_at cX3_at 2 (some .int), Cond.fieldLink RX3 13 "DeltaCodec$Row" "bytes" "[I", Cond.methodLink RX3 23 yX3_holds, Cond.instanceMethod yX3_holds, Cond.selects RX3 yX3_holds yX3_holds, Cond.code yX3_holds cX3_holds 2 (some .boolean), Cond.fieldLink RX3 19 "DeltaCodec$Row" "count" "I", Cond.methodLink RX0 90 yX3_append, Cond.instanceMethod yX3_append, Cond.selects RX3 yX3_append yX3_append]
def wsX0_makeBytes_r2 : List Cond := [Cond.code yX3_append cX3_append 2 none]
def wsX0_makeBytes : List Cond := .code yX0_makeBytes cX0_makeBytes 4 none :: ((wsX0_makeBytes_r1 ++ wsX0_makeBytes_r2) ++ wsX00 ++ wsX30)
def wsX4_checkOf : List Cond := .code yX4_checkOf cX4_checkOf 6 (some .int) :: ([.methodLink RX4 80 yX3_at, .instanceMethod yX3_at, .selects RX3 yX3_at yX3_at, .initialized RX3, .code yX3_at cX3_at 2 (some .int), .fieldLink RX3 13 "DeltaCodec$Row" "bytes" "[I", .methodLink RX3 23 yX3_holds, .instanceMethod yX3_holds, .selects RX3 yX3_holds yX3_holds, .code yX3_holds cX3_holds 2 (some .boolean), .fieldLink RX3 19 "DeltaCodec$Row" "count" "I"] ++ wsX30)
def wsX0_judgeCheck_r1 : List Cond := [Cond.fieldLink RX0 14 "DeltaCodec$Decoder" "product" "LDeltaCodec$Row;", Cond.fieldLink RX0 24 "DeltaCodec$Decoder" "limit" "I", Cond.methodLink RX0 45 yX3_count, Cond.instanceMethod yX3_count, Cond.selects RX3 yX3_count yX3_count, Cond.initialized RX3, Cond.code yX3_count cX3_count 1 (some .int), Cond.fieldLink RX3 19 "DeltaCodec$Row" "count" "I", Cond.static yX4_checkOf, Cond.initialized RX4, Cond.code yX4_checkOf cX4_checkOf 6 (some .int), Cond.methodLink RX4 80 yX3_at, Cond.instanceMethod yX3_at, Cond.selects RX3 yX3_at yX3_at, Cond.code yX3_at cX3_at 2 (some .int), Cond.fieldLink RX3 13 "DeltaCodec$Row" "bytes" "[I", Cond.methodLink RX3 23 yX3_holds, Cond.instanceMethod yX3_holds, Cond.selects RX3 yX3_holds yX3_holds, Cond.code yX3_holds cX3_holds 2 (some .boolean), Cond.methodLink RX0 78 yX3_at, Cond.methodLink RX0 49 yX0_tell, Cond.instanceMethod yX0_tell, Cond.selects RX0 yX0_tell yX0_tell]
def wsX0_judgeCheck_r2 : List Cond := [Cond.initialized RX0, Cond.code yX0_tell cX0_tell 3 none, Cond.fieldLink RX0 27 "DeltaCodec$Decoder" "error" "I", Cond.fieldLink RX0 30 "DeltaCodec$Decoder" "errorAt" "I"]
def wsX0_judgeCheck : List Cond := .code yX0_judgeCheck cX0_judgeCheck 4 none :: ((wsX0_judgeCheck_r1 ++ wsX0_judgeCheck_r2) ++ wsX00 ++ wsX30)
def wsX0_readCode_r1 : List Cond := [Cond.fieldLink RX0 14 "DeltaCodec$Decoder" "product" "LDeltaCodec$Row;", Cond.fieldLink RX0 20 "DeltaCodec$Decoder" "position" "I", Cond.fieldLink RX0 24 "DeltaCodec$Decoder" "limit" "I", Cond.fieldLink RX0 27 "DeltaCodec$Decoder" "error" "I", Cond.fieldLink RX0 30 "DeltaCodec$Decoder" "errorAt" "I", Cond.methodLink RX0 42 yX3_clear, Cond.instanceMethod yX3_clear, Cond.selects RX3 yX3_clear yX3_clear, Cond.initialized RX3, Cond.code yX3_clear cX3_clear 1 none, Cond.fieldLink RX3 19 "DeltaCodec$Row" "count" "I", Cond.methodLink RX0 45 yX3_count, Cond.instanceMethod yX3_count, Cond.selects RX3 yX3_count yX3_count, Cond.code yX3_count cX3_count 1 (some .int), Cond.methodLink RX0 49 yX0_tell, Cond.instanceMethod yX0_tell, Cond.selects RX0 yX0_tell yX0_tell, Cond.initialized RX0, Cond.code yX0_tell cX0_tell 3 none, Cond.methodLink RX0 53 yX0_readInstruction, Cond.instanceMethod yX0_readInstruction, Cond.selects RX0 yX0_readInstruction yX0_readInstruction, Cond.code yX0_readInstruction cX0_readInstruction 4 none]
def wsX0_readCode_r2 : List Cond := [Cond.fieldLink RX0 33 "DeltaCodec$Decoder" "kind" "I", Cond.fieldLink RX0 36 "DeltaCodec$Decoder" "n" "I", Cond.fieldLink RX0 39 "DeltaCodec$Decoder" "operand" "I", Cond.methodLink RX0 68 yX0_nextByte, Cond.instanceMethod yX0_nextByte, Cond.selects RX0 yX0_nextByte yX0_nextByte, Cond.code yX0_nextByte cX0_nextByte 3 (some .int), Cond.methodLink RX0 75 yX0_passBytes, Cond.instanceMethod yX0_passBytes, Cond.selects RX0 yX0_passBytes yX0_passBytes, Cond.code yX0_passBytes cX0_passBytes 2 none, Cond.methodLink RX0 78 yX3_at, Cond.instanceMethod yX3_at, Cond.selects RX3 yX3_at yX3_at, Cond.code yX3_at cX3_at 2 (some .int), Cond.fieldLink RX3 13 "DeltaCodec$Row" "bytes" "[I", Cond.methodLink RX3 23 yX3_holds, Cond.instanceMethod yX3_holds, Cond.selects RX3 yX3_holds yX3_holds, Cond.code yX3_holds cX3_holds 2 (some .boolean), Cond.methodLink RX0 72 yX0_nextNumber, Cond.instanceMethod yX0_nextNumber, Cond.selects RX0 yX0_nextNumber yX0_nextNumber, Cond.code yX0_nextNumber cX0_nextNumber 5 (some .int)]
def wsX0_readCode_r3 : List Cond := [Cond.methodLink RX0 57 yX0_judgeInstruction, Cond.instanceMethod yX0_judgeInstruction, Cond.selects RX0 yX0_judgeInstruction yX0_judgeInstruction, Cond.code yX0_judgeInstruction cX0_judgeInstruction 3 none, Cond.methodLink RX0 82 yX3_hasRoom, Cond.instanceMethod yX3_hasRoom, Cond.selects RX3 yX3_hasRoom yX3_hasRoom, Cond.code yX3_hasRoom cX3_hasRoom 2 (some .boolean), Cond.methodLink RX0 61 yX0_makeBytes, Cond.instanceMethod yX0_makeBytes, Cond.selects RX0 yX0_makeBytes yX0_makeBytes, Cond.code yX0_makeBytes cX0_makeBytes 4 none, Cond.methodLink RX0 86 yX0_byteToMake, Cond.instanceMethod yX0_byteToMake, Cond.selects RX0 yX0_byteToMake yX0_byteToMake, Cond.code yX0_byteToMake cX0_byteToMake 4 (some .int), Cond.methodLink RX0 90 yX3_append, Cond.instanceMethod yX3_append, Cond.selects RX3 yX3_append yX3_append, Cond.code yX3_append cX3_append 2 none, Cond.methodLink RX0 65 yX0_judgeCheck, Cond.instanceMethod yX0_judgeCheck, Cond.selects RX0 yX0_judgeCheck yX0_judgeCheck, Cond.code yX0_judgeCheck cX0_judgeCheck 4 none]
def wsX0_readCode_r4 : List Cond := [Cond.static yX4_checkOf, Cond.initialized RX4, Cond.code yX4_checkOf cX4_checkOf 6 (some .int), Cond.methodLink RX4 80 yX3_at]
def wsX0_readCode : List Cond := .code yX0_readCode cX0_readCode 5 (some .int) :: ((wsX0_readCode_r1 ++ (wsX0_readCode_r2 ++ (wsX0_readCode_r3 ++ wsX0_readCode_r4))) ++ wsX00 ++ wsX30)
def wsX1_init : List Cond := .code yX1_init cX1_init 1 none :: ([.methodLink RX1 3 objectInit, .instanceMethod objectInit, .code objectInit ⟨#[0xb1]⟩ 1 none, .classLink RX1 9 RX3, .instantiable RX3 2, .initialized RX3, .fieldLink RX1 14 "DeltaCodec$Plan" "kinds" "LDeltaCodec$Row;", .fieldLink RX1 20 "DeltaCodec$Plan" "lengths" "LDeltaCodec$Row;", .fieldLink RX1 23 "DeltaCodec$Plan" "operands" "LDeltaCodec$Row;", .fieldLink RX1 26 "DeltaCodec$Plan" "starts" "LDeltaCodec$Row;", .fieldLink RX1 29 "DeltaCodec$Plan" "codeBytes" "I", .fieldLink RX1 33 "DeltaCodec$Plan" "isMade" "Z", .methodLink RX1 11 yX3_init, .instanceMethod yX3_init, .code yX3_init cX3_init 2 none, .methodLink RX3 1 objectInit, .methodLink RX3 7 Lib.Math.max.name, .static Lib.Math.max.name, .initialized "java/lang/Math", .code Lib.Math.max.name Lib.Math.max.code 2 (some .int), .arrayClass .int, .fieldLink RX3 13 "DeltaCodec$Row" "bytes" "[I", .fieldLink RX3 19 "DeltaCodec$Row" "count" "I"] ++ wsX30 ++ wsX10)
def wsX1_begin : List Cond := .code yX1_begin cX1_begin 2 none :: ([.fieldLink RX1 14 "DeltaCodec$Plan" "kinds" "LDeltaCodec$Row;", .fieldLink RX1 20 "DeltaCodec$Plan" "lengths" "LDeltaCodec$Row;", .fieldLink RX1 23 "DeltaCodec$Plan" "operands" "LDeltaCodec$Row;", .fieldLink RX1 26 "DeltaCodec$Plan" "starts" "LDeltaCodec$Row;", .fieldLink RX1 29 "DeltaCodec$Plan" "codeBytes" "I", .fieldLink RX1 33 "DeltaCodec$Plan" "isMade" "Z", .methodLink RX1 37 yX3_clear, .instanceMethod yX3_clear, .selects RX3 yX3_clear yX3_clear, .initialized RX3, .code yX3_clear cX3_clear 1 none, .fieldLink RX3 19 "DeltaCodec$Row" "count" "I"] ++ wsX10 ++ wsX30)
def wsX1_add : List Cond := .code yX1_add cX1_add 5 none :: ([.fieldLink RX1 14 "DeltaCodec$Plan" "kinds" "LDeltaCodec$Row;", .fieldLink RX1 20 "DeltaCodec$Plan" "lengths" "LDeltaCodec$Row;", .fieldLink RX1 23 "DeltaCodec$Plan" "operands" "LDeltaCodec$Row;", .fieldLink RX1 26 "DeltaCodec$Plan" "starts" "LDeltaCodec$Row;", .methodLink RX1 40 yX3_append, .instanceMethod yX3_append, .selects RX3 yX3_append yX3_append, .initialized RX3, .code yX3_append cX3_append 2 none, .fieldLink RX3 19 "DeltaCodec$Row" "count" "I", .fieldLink RX3 13 "DeltaCodec$Row" "bytes" "[I"] ++ wsX10 ++ wsX30)
def wsX1_forget : List Cond := .code yX1_forget cX1_forget 1 none :: ([.fieldLink RX1 33 "DeltaCodec$Plan" "isMade" "Z"] ++ wsX10)
def wsX1_isMade : List Cond := .code yX1_isMade cX1_isMade 1 (some .boolean) :: ([.fieldLink RX1 33 "DeltaCodec$Plan" "isMade" "Z"] ++ wsX10)
def wsX1_codeBytes : List Cond := .code yX1_codeBytes cX1_codeBytes 1 (some .int) :: ([.fieldLink RX1 29 "DeltaCodec$Plan" "codeBytes" "I"] ++ wsX10)
def wsX1_count : List Cond := .code yX1_count cX1_count 1 (some .int) :: ([.fieldLink RX1 14 "DeltaCodec$Plan" "kinds" "LDeltaCodec$Row;", .methodLink RX1 43 yX3_count, .instanceMethod yX3_count, .selects RX3 yX3_count yX3_count, .initialized RX3, .code yX3_count cX3_count 1 (some .int), .fieldLink RX3 19 "DeltaCodec$Row" "count" "I"] ++ wsX10 ++ wsX30)
def wsX1_kindOf : List Cond := .code yX1_kindOf cX1_kindOf 2 (some .int) :: ([.fieldLink RX1 14 "DeltaCodec$Plan" "kinds" "LDeltaCodec$Row;", .methodLink RX1 47 yX3_at, .instanceMethod yX3_at, .selects RX3 yX3_at yX3_at, .initialized RX3, .code yX3_at cX3_at 2 (some .int), .fieldLink RX3 13 "DeltaCodec$Row" "bytes" "[I", .methodLink RX3 23 yX3_holds, .instanceMethod yX3_holds, .selects RX3 yX3_holds yX3_holds, .code yX3_holds cX3_holds 2 (some .boolean), .fieldLink RX3 19 "DeltaCodec$Row" "count" "I"] ++ wsX10 ++ wsX30)
def wsX1_lengthOf : List Cond := .code yX1_lengthOf cX1_lengthOf 2 (some .int) :: ([.fieldLink RX1 20 "DeltaCodec$Plan" "lengths" "LDeltaCodec$Row;", .methodLink RX1 47 yX3_at, .instanceMethod yX3_at, .selects RX3 yX3_at yX3_at, .initialized RX3, .code yX3_at cX3_at 2 (some .int), .fieldLink RX3 13 "DeltaCodec$Row" "bytes" "[I", .methodLink RX3 23 yX3_holds, .instanceMethod yX3_holds, .selects RX3 yX3_holds yX3_holds, .code yX3_holds cX3_holds 2 (some .boolean), .fieldLink RX3 19 "DeltaCodec$Row" "count" "I"] ++ wsX10 ++ wsX30)
def wsX1_operandOf : List Cond := .code yX1_operandOf cX1_operandOf 2 (some .int) :: ([.fieldLink RX1 23 "DeltaCodec$Plan" "operands" "LDeltaCodec$Row;", .methodLink RX1 47 yX3_at, .instanceMethod yX3_at, .selects RX3 yX3_at yX3_at, .initialized RX3, .code yX3_at cX3_at 2 (some .int), .fieldLink RX3 13 "DeltaCodec$Row" "bytes" "[I", .methodLink RX3 23 yX3_holds, .instanceMethod yX3_holds, .selects RX3 yX3_holds yX3_holds, .code yX3_holds cX3_holds 2 (some .boolean), .fieldLink RX3 19 "DeltaCodec$Row" "count" "I"] ++ wsX10 ++ wsX30)
def wsX1_startOf : List Cond := .code yX1_startOf cX1_startOf 2 (some .int) :: ([.fieldLink RX1 26 "DeltaCodec$Plan" "starts" "LDeltaCodec$Row;", .methodLink RX1 47 yX3_at, .instanceMethod yX3_at, .selects RX3 yX3_at yX3_at, .initialized RX3, .code yX3_at cX3_at 2 (some .int), .fieldLink RX3 13 "DeltaCodec$Row" "bytes" "[I", .methodLink RX3 23 yX3_holds, .instanceMethod yX3_holds, .selects RX3 yX3_holds yX3_holds, .code yX3_holds cX3_holds 2 (some .boolean), .fieldLink RX3 19 "DeltaCodec$Row" "count" "I"] ++ wsX10 ++ wsX30)
def wsX2_init : List Cond := .code yX2_init cX2_init 1 none :: ([.methodLink RX2 3 objectInit, .instanceMethod objectInit, .code objectInit ⟨#[0xb1]⟩ 1 none, .arrayClass .int, .fieldLink RX2 11 "DeltaCodec$Planner" "bytesLeft" "[I", .fieldLink RX2 15 "DeltaCodec$Planner" "stepsLeft" "[I", .fieldLink RX2 18 "DeltaCodec$Planner" "kinds" "[I", .fieldLink RX2 21 "DeltaCodec$Planner" "lengths" "[I", .fieldLink RX2 24 "DeltaCodec$Planner" "operands" "[I", .fieldLink RX2 27 "DeltaCodec$Planner" "copyCommon" "[I", .fieldLink RX2 30 "DeltaCodec$Planner" "repeatCommon" "[I", .fieldLink RX2 33 "DeltaCodec$Planner" "firstPlaces" "[I"] ++ wsX20)
def wsJ7_fill_53178 : List Cond := .code yJ7_fill_53178 cJ7_fill_53178 4 none :: ([])
def wsX2_lengthenCommon : List Cond := .code yX2_lengthenCommon cX2_lengthenCommon 5 none :: ([.methodLink RX2 54 yX3_at, .instanceMethod yX3_at, .selects RX3 yX3_at yX3_at, .initialized RX3, .code yX3_at cX3_at 2 (some .int), .fieldLink RX3 13 "DeltaCodec$Row" "bytes" "[I", .methodLink RX3 23 yX3_holds, .instanceMethod yX3_holds, .selects RX3 yX3_holds yX3_holds, .code yX3_holds cX3_holds 2 (some .boolean), .fieldLink RX3 19 "DeltaCodec$Row" "count" "I"] ++ wsX30)
def wsX2_bytesOfNumber : List Cond := .code yX2_bytesOfNumber cX2_bytesOfNumber 1 (some .int) :: ([])
def wsX2_bytesOf : List Cond := .code yX2_bytesOf cX2_bytesOf 4 (some .int) :: ([.methodLink RX2 81 yX2_bytesOfNumber, .static yX2_bytesOfNumber, .initialized RX2, .code yX2_bytesOfNumber cX2_bytesOfNumber 1 (some .int)])
def wsX2_offer : List Cond := .code yX2_offer cX2_offer 10 none :: ([.fieldLink RX2 11 "DeltaCodec$Planner" "bytesLeft" "[I", .fieldLink RX2 15 "DeltaCodec$Planner" "stepsLeft" "[I", .fieldLink RX2 18 "DeltaCodec$Planner" "kinds" "[I", .fieldLink RX2 21 "DeltaCodec$Planner" "lengths" "[I", .fieldLink RX2 24 "DeltaCodec$Planner" "operands" "[I", .methodLink RX2 77 yX2_bytesOf, .static yX2_bytesOf, .initialized RX2, .code yX2_bytesOf cX2_bytesOf 4 (some .int), .methodLink RX2 81 yX2_bytesOfNumber, .static yX2_bytesOfNumber, .code yX2_bytesOfNumber cX2_bytesOfNumber 1 (some .int)] ++ wsX20)
def wsX2_offerLengths : List Cond := .code yX2_offerLengths cX2_offerLengths 6 none :: ([.methodLink RX2 74 yX2_offer, .instanceMethod yX2_offer, .selects RX2 yX2_offer yX2_offer, .initialized RX2, .code yX2_offer cX2_offer 10 none, .fieldLink RX2 11 "DeltaCodec$Planner" "bytesLeft" "[I", .fieldLink RX2 15 "DeltaCodec$Planner" "stepsLeft" "[I", .fieldLink RX2 18 "DeltaCodec$Planner" "kinds" "[I", .fieldLink RX2 21 "DeltaCodec$Planner" "lengths" "[I", .fieldLink RX2 24 "DeltaCodec$Planner" "operands" "[I", .methodLink RX2 77 yX2_bytesOf, .static yX2_bytesOf, .code yX2_bytesOf cX2_bytesOf 4 (some .int), .methodLink RX2 81 yX2_bytesOfNumber, .static yX2_bytesOfNumber, .code yX2_bytesOfNumber cX2_bytesOfNumber 1 (some .int)] ++ wsX20)
def wsX2_offerPlaces : List Cond := .code yX2_offerPlaces cX2_offerPlaces 9 none :: ([.fieldLink RX2 27 "DeltaCodec$Planner" "copyCommon" "[I", .fieldLink RX2 30 "DeltaCodec$Planner" "repeatCommon" "[I", .fieldLink RX2 33 "DeltaCodec$Planner" "firstPlaces" "[I", .methodLink RX2 74 yX2_offer, .instanceMethod yX2_offer, .selects RX2 yX2_offer yX2_offer, .initialized RX2, .code yX2_offer cX2_offer 10 none, .fieldLink RX2 11 "DeltaCodec$Planner" "bytesLeft" "[I", .fieldLink RX2 15 "DeltaCodec$Planner" "stepsLeft" "[I", .fieldLink RX2 18 "DeltaCodec$Planner" "kinds" "[I", .fieldLink RX2 21 "DeltaCodec$Planner" "lengths" "[I", .fieldLink RX2 24 "DeltaCodec$Planner" "operands" "[I", .methodLink RX2 77 yX2_bytesOf, .static yX2_bytesOf, .code yX2_bytesOf cX2_bytesOf 4 (some .int), .methodLink RX2 81 yX2_bytesOfNumber, .static yX2_bytesOfNumber, .code yX2_bytesOfNumber cX2_bytesOfNumber 1 (some .int)] ++ wsX20)
def wsX2_listInstructions_r1 : List Cond := [Cond.fieldLink RX2 11 "DeltaCodec$Planner" "bytesLeft" "[I", Cond.fieldLink RX2 18 "DeltaCodec$Planner" "kinds" "[I", Cond.fieldLink RX2 21 "DeltaCodec$Planner" "lengths" "[I", Cond.fieldLink RX2 24 "DeltaCodec$Planner" "operands" "[I", Cond.methodLink RX2 84 yX1_begin, Cond.instanceMethod yX1_begin, Cond.selects RX1 yX1_begin yX1_begin, Cond.initialized RX1, Cond.code yX1_begin cX1_begin 2 none, Cond.fieldLink RX1 14 "DeltaCodec$Plan" "kinds" "LDeltaCodec$Row;", Cond.fieldLink RX1 20 "DeltaCodec$Plan" "lengths" "LDeltaCodec$Row;", Cond.fieldLink RX1 23 "DeltaCodec$Plan" "operands" "LDeltaCodec$Row;", Cond.fieldLink RX1 26 "DeltaCodec$Plan" "starts" "LDeltaCodec$Row;", Cond.fieldLink RX1 29 "DeltaCodec$Plan" "codeBytes" "I", Cond.fieldLink RX1 33 "DeltaCodec$Plan" "isMade" "Z", Cond.methodLink RX1 37 yX3_clear, Cond.instanceMethod yX3_clear, Cond.selects RX3 yX3_clear yX3_clear, Cond.initialized RX3, Cond.code yX3_clear cX3_clear 1 none, Cond.fieldLink RX3 19 "DeltaCodec$Row" "count" "I", Cond.methodLink RX2 90 yX1_add, Cond.instanceMethod yX1_add, Cond.selects RX1 yX1_add yX1_add]
def wsX2_listInstructions_r2 : List Cond := [Cond.code yX1_add cX1_add 5 none, Cond.methodLink RX1 40 yX3_append, Cond.instanceMethod yX3_append, Cond.selects RX3 yX3_append yX3_append, Cond.code yX3_append cX3_append 2 none, Cond.fieldLink RX3 13 "DeltaCodec$Row" "bytes" "[I"]
def wsX2_listInstructions : List Cond := .code yX2_listInstructions cX2_listInstructions 5 none :: ((wsX2_listInstructions_r1 ++ wsX2_listInstructions_r2) ++ wsX20 ++ wsX10 ++ wsX30)
def wsX2_makePlan_r1 : List Cond := [Cond.methodLink RX2 42 Lib.Math.min.name, Cond.static Lib.Math.min.name, Cond.initialized "java/lang/Math", Cond.code Lib.Math.min.name Lib.Math.min.code 2 (some .int), Cond.fieldLink RX2 27 "DeltaCodec$Planner" "copyCommon" "[I", Cond.fieldLink RX2 30 "DeltaCodec$Planner" "repeatCommon" "[I", Cond.fieldLink RX2 11 "DeltaCodec$Planner" "bytesLeft" "[I", Cond.fieldLink RX2 15 "DeltaCodec$Planner" "stepsLeft" "[I", Cond.constant RX2 62 (1000000), Cond.methodLink RX2 36 yX3_count, Cond.instanceMethod yX3_count, Cond.selects RX3 yX3_count yX3_count, Cond.initialized RX3, Cond.code yX3_count cX3_count 1 (some .int), Cond.fieldLink RX3 19 "DeltaCodec$Row" "count" "I", Cond.methodLink RX2 48 yJ7_fill_53178, Cond.static yJ7_fill_53178, Cond.initialized RJ7, Cond.code yJ7_fill_53178 cJ7_fill_53178 4 none, Cond.methodLink RX2 54 yX3_at, Cond.instanceMethod yX3_at, Cond.selects RX3 yX3_at yX3_at, Cond.code yX3_at cX3_at 2 (some .int), Cond.fieldLink RX3 13 "DeltaCodec$Row" "bytes" "[I"]
def wsX2_makePlan_r2 : List Cond := [Cond.methodLink RX3 23 yX3_holds, Cond.instanceMethod yX3_holds, Cond.selects RX3 yX3_holds yX3_holds, Cond.code yX3_holds cX3_holds 2 (some .boolean), Cond.methodLink RX2 58 yX2_lengthenCommon, Cond.static yX2_lengthenCommon, Cond.initialized RX2, Cond.code yX2_lengthenCommon cX2_lengthenCommon 5 none, Cond.methodLink RX2 63 yX2_offerLengths, Cond.instanceMethod yX2_offerLengths, Cond.selects RX2 yX2_offerLengths yX2_offerLengths, Cond.code yX2_offerLengths cX2_offerLengths 6 none, Cond.methodLink RX2 74 yX2_offer, Cond.instanceMethod yX2_offer, Cond.selects RX2 yX2_offer yX2_offer, Cond.code yX2_offer cX2_offer 10 none, Cond.fieldLink RX2 18 "DeltaCodec$Planner" "kinds" "[I", Cond.fieldLink RX2 21 "DeltaCodec$Planner" "lengths" "[I", Cond.fieldLink RX2 24 "DeltaCodec$Planner" "operands" "[I", Cond.methodLink RX2 77 yX2_bytesOf, Cond.static yX2_bytesOf, Cond.code yX2_bytesOf cX2_bytesOf 4 (some .int), Cond.methodLink RX2 81 yX2_bytesOfNumber, Cond.static yX2_bytesOfNumber]
def wsX2_makePlan_r3 : List Cond := [Cond.code yX2_bytesOfNumber cX2_bytesOfNumber 1 (some .int), Cond.methodLink RX2 67 yX2_offerPlaces, Cond.instanceMethod yX2_offerPlaces, Cond.selects RX2 yX2_offerPlaces yX2_offerPlaces, Cond.code yX2_offerPlaces cX2_offerPlaces 9 none, Cond.fieldLink RX2 33 "DeltaCodec$Planner" "firstPlaces" "[I", Cond.methodLink RX2 70 yX2_listInstructions, Cond.instanceMethod yX2_listInstructions, Cond.selects RX2 yX2_listInstructions yX2_listInstructions, Cond.code yX2_listInstructions cX2_listInstructions 5 none, Cond.methodLink RX2 84 yX1_begin, Cond.instanceMethod yX1_begin, Cond.selects RX1 yX1_begin yX1_begin, Cond.initialized RX1, Cond.code yX1_begin cX1_begin 2 none, Cond.fieldLink RX1 14 "DeltaCodec$Plan" "kinds" "LDeltaCodec$Row;", Cond.fieldLink RX1 20 "DeltaCodec$Plan" "lengths" "LDeltaCodec$Row;", Cond.fieldLink RX1 23 "DeltaCodec$Plan" "operands" "LDeltaCodec$Row;", Cond.fieldLink RX1 26 "DeltaCodec$Plan" "starts" "LDeltaCodec$Row;", Cond.fieldLink RX1 29 "DeltaCodec$Plan" "codeBytes" "I", Cond.fieldLink RX1 33 "DeltaCodec$Plan" "isMade" "Z", Cond.methodLink RX1 37 yX3_clear, Cond.instanceMethod yX3_clear, Cond.selects RX3 yX3_clear yX3_clear]
def wsX2_makePlan_r4 : List Cond := [Cond.code yX3_clear cX3_clear 1 none, Cond.methodLink RX2 90 yX1_add, Cond.instanceMethod yX1_add, Cond.selects RX1 yX1_add yX1_add, Cond.code yX1_add cX1_add 5 none, Cond.methodLink RX1 40 yX3_append, Cond.instanceMethod yX3_append, Cond.selects RX3 yX3_append yX3_append, Cond.code yX3_append cX3_append 2 none]
def wsX2_makePlan : List Cond := .code yX2_makePlan cX2_makePlan 9 none :: ((wsX2_makePlan_r1 ++ (wsX2_makePlan_r2 ++ (wsX2_makePlan_r3 ++ wsX2_makePlan_r4))) ++ wsX20 ++ wsX30 ++ wsX10)
def wsX3_put : List Cond := .code yX3_put cX3_put 3 none :: ([.fieldLink RX3 13 "DeltaCodec$Row" "bytes" "[I", .methodLink RX3 23 yX3_holds, .instanceMethod yX3_holds, .selects RX3 yX3_holds yX3_holds, .initialized RX3, .code yX3_holds cX3_holds 2 (some .boolean), .fieldLink RX3 19 "DeltaCodec$Row" "count" "I"] ++ wsX30)
def wsX3_drop : List Cond := .code yX3_drop cX3_drop 2 none :: ([.fieldLink RX3 19 "DeltaCodec$Row" "count" "I"] ++ wsX30)
def wsX4_init_r1 : List Cond := [Cond.methodLink RX4 1 objectInit, Cond.instanceMethod objectInit, Cond.code objectInit ⟨#[0xb1]⟩ 1 none, Cond.classLink RX4 7 RX3, Cond.instantiable RX3 2, Cond.initialized RX3, Cond.fieldLink RX4 14 "DeltaCodec" "source" "LDeltaCodec$Row;", Cond.fieldLink RX4 18 "DeltaCodec" "target" "LDeltaCodec$Row;", Cond.fieldLink RX4 21 "DeltaCodec" "code" "LDeltaCodec$Row;", Cond.classLink RX4 24 RX1, Cond.instantiable RX1 6, Cond.initialized RX1, Cond.fieldLink RX4 27 "DeltaCodec" "plan" "LDeltaCodec$Plan;", Cond.classLink RX4 31 RX2, Cond.instantiable RX2 8, Cond.initialized RX2, Cond.fieldLink RX4 34 "DeltaCodec" "planner" "LDeltaCodec$Planner;", Cond.classLink RX4 38 RX0, Cond.instantiable RX0 8, Cond.initialized RX0, Cond.fieldLink RX4 41 "DeltaCodec" "decoder" "LDeltaCodec$Decoder;", Cond.fieldLink RX4 45 "DeltaCodec" "least" "I", Cond.methodLink RX4 11 yX3_init, Cond.instanceMethod yX3_init]
def wsX4_init_r2 : List Cond := [Cond.code yX3_init cX3_init 2 none, Cond.methodLink RX3 1 objectInit, Cond.methodLink RX3 7 Lib.Math.max.name, Cond.static Lib.Math.max.name, Cond.initialized "java/lang/Math", Cond.code Lib.Math.max.name Lib.Math.max.code 2 (some .int), Cond.arrayClass .int, Cond.fieldLink RX3 13 "DeltaCodec$Row" "bytes" "[I", Cond.fieldLink RX3 19 "DeltaCodec$Row" "count" "I", Cond.methodLink RX4 26 yX1_init, Cond.instanceMethod yX1_init, Cond.code yX1_init cX1_init 1 none, Cond.methodLink RX1 3 objectInit, Cond.classLink RX1 9 RX3, Cond.fieldLink RX1 14 "DeltaCodec$Plan" "kinds" "LDeltaCodec$Row;", Cond.fieldLink RX1 20 "DeltaCodec$Plan" "lengths" "LDeltaCodec$Row;", Cond.fieldLink RX1 23 "DeltaCodec$Plan" "operands" "LDeltaCodec$Row;", Cond.fieldLink RX1 26 "DeltaCodec$Plan" "starts" "LDeltaCodec$Row;", Cond.fieldLink RX1 29 "DeltaCodec$Plan" "codeBytes" "I", Cond.fieldLink RX1 33 "DeltaCodec$Plan" "isMade" "Z", Cond.methodLink RX1 11 yX3_init, Cond.methodLink RX4 33 yX2_init, Cond.instanceMethod yX2_init, Cond.code yX2_init cX2_init 1 none]
def wsX4_init_r3 : List Cond := [Cond.methodLink RX2 3 objectInit, Cond.fieldLink RX2 11 "DeltaCodec$Planner" "bytesLeft" "[I", Cond.fieldLink RX2 15 "DeltaCodec$Planner" "stepsLeft" "[I", Cond.fieldLink RX2 18 "DeltaCodec$Planner" "kinds" "[I", Cond.fieldLink RX2 21 "DeltaCodec$Planner" "lengths" "[I", Cond.fieldLink RX2 24 "DeltaCodec$Planner" "operands" "[I", Cond.fieldLink RX2 27 "DeltaCodec$Planner" "copyCommon" "[I", Cond.fieldLink RX2 30 "DeltaCodec$Planner" "repeatCommon" "[I", Cond.fieldLink RX2 33 "DeltaCodec$Planner" "firstPlaces" "[I", Cond.methodLink RX4 40 yX0_init, Cond.instanceMethod yX0_init, Cond.code yX0_init cX0_init 1 none, Cond.methodLink RX0 3 objectInit, Cond.classLink RX0 9 RX3, Cond.fieldLink RX0 14 "DeltaCodec$Decoder" "product" "LDeltaCodec$Row;", Cond.fieldLink RX0 20 "DeltaCodec$Decoder" "position" "I", Cond.fieldLink RX0 24 "DeltaCodec$Decoder" "limit" "I", Cond.fieldLink RX0 27 "DeltaCodec$Decoder" "error" "I", Cond.fieldLink RX0 30 "DeltaCodec$Decoder" "errorAt" "I", Cond.fieldLink RX0 33 "DeltaCodec$Decoder" "kind" "I", Cond.fieldLink RX0 36 "DeltaCodec$Decoder" "n" "I", Cond.fieldLink RX0 39 "DeltaCodec$Decoder" "operand" "I", Cond.methodLink RX0 11 yX3_init]
def wsX4_init : List Cond := .code yX4_init cX4_init 1 none :: ((wsX4_init_r1 ++ (wsX4_init_r2 ++ wsX4_init_r3)) ++ wsX30 ++ wsX40 ++ wsX10 ++ wsX20 ++ wsX00)
def wsX4_needSide : List Cond := .code yX4_needSide cX4_needSide 1 none :: ([.classLink RX4 94 "java/lang/IndexOutOfBoundsException", .initialized "java/lang/IndexOutOfBoundsException"] ++ (vx_atS RX4 98 "java/lang/IndexOutOfBoundsException" ["java/lang/RuntimeException", "java/lang/Exception"]).filter goodWord)
def wsX4_needWithin : List Cond := .code yX4_needWithin cX4_needWithin 3 none :: ([.classLink RX4 187 "java/lang/IllegalArgumentException", .initialized "java/lang/IllegalArgumentException"] ++ (vx_atS RX4 191 "java/lang/IllegalArgumentException" ["java/lang/RuntimeException", "java/lang/Exception"]).filter goodWord)
def wsX4_rowOf : List Cond := .code yX4_rowOf cX4_rowOf 2 (some (.object "DeltaCodec$Row")) :: ([.fieldLink RX4 14 "DeltaCodec" "source" "LDeltaCodec$Row;", .fieldLink RX4 18 "DeltaCodec" "target" "LDeltaCodec$Row;"] ++ wsX40)
def wsX4_needRoom : List Cond := .code yX4_needRoom cX4_needRoom 2 none :: ([.classLink RX4 197 "java/lang/IllegalStateException", .initialized "java/lang/IllegalStateException", .methodLink RX4 194 yX3_hasRoom, .instanceMethod yX3_hasRoom, .selects RX3 yX3_hasRoom yX3_hasRoom, .initialized RX3, .code yX3_hasRoom cX3_hasRoom 2 (some .boolean), .fieldLink RX3 13 "DeltaCodec$Row" "bytes" "[I", .fieldLink RX3 19 "DeltaCodec$Row" "count" "I"] ++ wsX30 ++ (vx_atS RX4 201 "java/lang/IllegalStateException" ["java/lang/RuntimeException", "java/lang/Exception"]).filter goodWord)
def wsX4_feed_r1 : List Cond := [Cond.fieldLink RX4 27 "DeltaCodec" "plan" "LDeltaCodec$Plan;", Cond.methodLink RX4 49 yX4_needSide, Cond.static yX4_needSide, Cond.initialized RX4, Cond.code yX4_needSide cX4_needSide 1 none, Cond.classLink RX4 94 "java/lang/IndexOutOfBoundsException", Cond.initialized "java/lang/IndexOutOfBoundsException", Cond.methodLink RX4 52 yX4_needWithin, Cond.static yX4_needWithin, Cond.code yX4_needWithin cX4_needWithin 3 none, Cond.classLink RX4 187 "java/lang/IllegalArgumentException", Cond.initialized "java/lang/IllegalArgumentException", Cond.methodLink RX4 56 yX4_rowOf, Cond.instanceMethod yX4_rowOf, Cond.selects RX4 yX4_rowOf yX4_rowOf, Cond.code yX4_rowOf cX4_rowOf 2 (some (.object "DeltaCodec$Row")), Cond.fieldLink RX4 14 "DeltaCodec" "source" "LDeltaCodec$Row;", Cond.fieldLink RX4 18 "DeltaCodec" "target" "LDeltaCodec$Row;", Cond.methodLink RX4 60 yX4_needRoom, Cond.static yX4_needRoom, Cond.code yX4_needRoom cX4_needRoom 2 none, Cond.classLink RX4 197 "java/lang/IllegalStateException", Cond.initialized "java/lang/IllegalStateException", Cond.methodLink RX4 194 yX3_hasRoom]
def wsX4_feed_r2 : List Cond := [Cond.instanceMethod yX3_hasRoom, Cond.selects RX3 yX3_hasRoom yX3_hasRoom, Cond.initialized RX3, Cond.code yX3_hasRoom cX3_hasRoom 2 (some .boolean), Cond.fieldLink RX3 13 "DeltaCodec$Row" "bytes" "[I", Cond.fieldLink RX3 19 "DeltaCodec$Row" "count" "I", Cond.methodLink RX4 64 yX3_append, Cond.instanceMethod yX3_append, Cond.selects RX3 yX3_append yX3_append, Cond.code yX3_append cX3_append 2 none, Cond.methodLink RX4 67 yX1_forget, Cond.instanceMethod yX1_forget, Cond.selects RX1 yX1_forget yX1_forget, Cond.initialized RX1, Cond.code yX1_forget cX1_forget 1 none, Cond.fieldLink RX1 33 "DeltaCodec$Plan" "isMade" "Z", Cond.methodLink RX4 70 yX3_count, Cond.instanceMethod yX3_count, Cond.selects RX3 yX3_count yX3_count, Cond.code yX3_count cX3_count 1 (some .int)]
def wsX4_feed : List Cond := .code yX4_feed cX4_feed 7 (some .int) :: ((wsX4_feed_r1 ++ wsX4_feed_r2) ++ wsX40 ++ wsX30 ++ wsX10 ++ (vx_atS RX4 98 "java/lang/IndexOutOfBoundsException" ["java/lang/RuntimeException", "java/lang/Exception"]).filter goodWord ++ (vx_atS RX4 191 "java/lang/IllegalArgumentException" ["java/lang/RuntimeException", "java/lang/Exception"]).filter goodWord ++ (vx_atS RX4 201 "java/lang/IllegalStateException" ["java/lang/RuntimeException", "java/lang/Exception"]).filter goodWord)
def wsX4_fill_r1 : List Cond := [Cond.fieldLink RX4 27 "DeltaCodec" "plan" "LDeltaCodec$Plan;", Cond.methodLink RX4 49 yX4_needSide, Cond.static yX4_needSide, Cond.initialized RX4, Cond.code yX4_needSide cX4_needSide 1 none, Cond.classLink RX4 94 "java/lang/IndexOutOfBoundsException", Cond.initialized "java/lang/IndexOutOfBoundsException", Cond.methodLink RX4 52 yX4_needWithin, Cond.static yX4_needWithin, Cond.code yX4_needWithin cX4_needWithin 3 none, Cond.classLink RX4 187 "java/lang/IllegalArgumentException", Cond.initialized "java/lang/IllegalArgumentException", Cond.methodLink RX4 56 yX4_rowOf, Cond.instanceMethod yX4_rowOf, Cond.selects RX4 yX4_rowOf yX4_rowOf, Cond.code yX4_rowOf cX4_rowOf 2 (some (.object "DeltaCodec$Row")), Cond.fieldLink RX4 14 "DeltaCodec" "source" "LDeltaCodec$Row;", Cond.fieldLink RX4 18 "DeltaCodec" "target" "LDeltaCodec$Row;", Cond.methodLink RX4 60 yX4_needRoom, Cond.static yX4_needRoom, Cond.code yX4_needRoom cX4_needRoom 2 none, Cond.classLink RX4 197 "java/lang/IllegalStateException", Cond.initialized "java/lang/IllegalStateException", Cond.methodLink RX4 194 yX3_hasRoom]
def wsX4_fill_r2 : List Cond := [Cond.instanceMethod yX3_hasRoom, Cond.selects RX3 yX3_hasRoom yX3_hasRoom, Cond.initialized RX3, Cond.code yX3_hasRoom cX3_hasRoom 2 (some .boolean), Cond.fieldLink RX3 13 "DeltaCodec$Row" "bytes" "[I", Cond.fieldLink RX3 19 "DeltaCodec$Row" "count" "I", Cond.methodLink RX4 64 yX3_append, Cond.instanceMethod yX3_append, Cond.selects RX3 yX3_append yX3_append, Cond.code yX3_append cX3_append 2 none, Cond.methodLink RX4 67 yX1_forget, Cond.instanceMethod yX1_forget, Cond.selects RX1 yX1_forget yX1_forget, Cond.initialized RX1, Cond.code yX1_forget cX1_forget 1 none, Cond.fieldLink RX1 33 "DeltaCodec$Plan" "isMade" "Z", Cond.methodLink RX4 70 yX3_count, Cond.instanceMethod yX3_count, Cond.selects RX3 yX3_count yX3_count, Cond.code yX3_count cX3_count 1 (some .int)]
def wsX4_fill : List Cond := .code yX4_fill cX4_fill 6 (some .int) :: ((wsX4_fill_r1 ++ wsX4_fill_r2) ++ wsX40 ++ wsX30 ++ wsX10 ++ (vx_atS RX4 98 "java/lang/IndexOutOfBoundsException" ["java/lang/RuntimeException", "java/lang/Exception"]).filter goodWord ++ (vx_atS RX4 191 "java/lang/IllegalArgumentException" ["java/lang/RuntimeException", "java/lang/Exception"]).filter goodWord ++ (vx_atS RX4 201 "java/lang/IllegalStateException" ["java/lang/RuntimeException", "java/lang/Exception"]).filter goodWord)
def wsX4_cut_r1 : List Cond := [Cond.fieldLink RX4 27 "DeltaCodec" "plan" "LDeltaCodec$Plan;", Cond.methodLink RX4 49 yX4_needSide, Cond.static yX4_needSide, Cond.initialized RX4, Cond.code yX4_needSide cX4_needSide 1 none, Cond.classLink RX4 94 "java/lang/IndexOutOfBoundsException", Cond.initialized "java/lang/IndexOutOfBoundsException", Cond.methodLink RX4 56 yX4_rowOf, Cond.instanceMethod yX4_rowOf, Cond.selects RX4 yX4_rowOf yX4_rowOf, Cond.code yX4_rowOf cX4_rowOf 2 (some (.object "DeltaCodec$Row")), Cond.fieldLink RX4 14 "DeltaCodec" "source" "LDeltaCodec$Row;", Cond.fieldLink RX4 18 "DeltaCodec" "target" "LDeltaCodec$Row;", Cond.methodLink RX4 70 yX3_count, Cond.instanceMethod yX3_count, Cond.selects RX3 yX3_count yX3_count, Cond.initialized RX3, Cond.code yX3_count cX3_count 1 (some .int), Cond.fieldLink RX3 19 "DeltaCodec$Row" "count" "I", Cond.methodLink RX4 52 yX4_needWithin, Cond.static yX4_needWithin, Cond.code yX4_needWithin cX4_needWithin 3 none, Cond.classLink RX4 187 "java/lang/IllegalArgumentException", Cond.initialized "java/lang/IllegalArgumentException"]
def wsX4_cut_r2 : List Cond := [Cond.methodLink RX4 74 yX3_drop, Cond.instanceMethod yX3_drop, Cond.selects RX3 yX3_drop yX3_drop, Cond.code yX3_drop cX3_drop 2 none, Cond.methodLink RX4 67 yX1_forget, Cond.instanceMethod yX1_forget, Cond.selects RX1 yX1_forget yX1_forget, Cond.initialized RX1, Cond.code yX1_forget cX1_forget 1 none, Cond.fieldLink RX1 33 "DeltaCodec$Plan" "isMade" "Z"]
def wsX4_cut : List Cond := .code yX4_cut cX4_cut 4 (some .int) :: ((wsX4_cut_r1 ++ wsX4_cut_r2) ++ wsX40 ++ wsX30 ++ wsX10 ++ (vx_atS RX4 98 "java/lang/IndexOutOfBoundsException" ["java/lang/RuntimeException", "java/lang/Exception"]).filter goodWord ++ (vx_atS RX4 191 "java/lang/IllegalArgumentException" ["java/lang/RuntimeException", "java/lang/Exception"]).filter goodWord)
def wsX4_needPlace : List Cond := .code yX4_needPlace cX4_needPlace 2 none :: ([.classLink RX4 94 "java/lang/IndexOutOfBoundsException", .initialized "java/lang/IndexOutOfBoundsException", .methodLink RX4 167 yX3_holds, .instanceMethod yX3_holds, .selects RX3 yX3_holds yX3_holds, .initialized RX3, .code yX3_holds cX3_holds 2 (some .boolean), .fieldLink RX3 19 "DeltaCodec$Row" "count" "I", .fieldLink RX3 13 "DeltaCodec$Row" "bytes" "[I"] ++ wsX30 ++ (vx_atS RX4 98 "java/lang/IndexOutOfBoundsException" ["java/lang/RuntimeException", "java/lang/Exception"]).filter goodWord)
def wsX4_set_r1 : List Cond := [Cond.fieldLink RX4 27 "DeltaCodec" "plan" "LDeltaCodec$Plan;", Cond.methodLink RX4 49 yX4_needSide, Cond.static yX4_needSide, Cond.initialized RX4, Cond.code yX4_needSide cX4_needSide 1 none, Cond.classLink RX4 94 "java/lang/IndexOutOfBoundsException", Cond.initialized "java/lang/IndexOutOfBoundsException", Cond.methodLink RX4 56 yX4_rowOf, Cond.instanceMethod yX4_rowOf, Cond.selects RX4 yX4_rowOf yX4_rowOf, Cond.code yX4_rowOf cX4_rowOf 2 (some (.object "DeltaCodec$Row")), Cond.fieldLink RX4 14 "DeltaCodec" "source" "LDeltaCodec$Row;", Cond.fieldLink RX4 18 "DeltaCodec" "target" "LDeltaCodec$Row;", Cond.methodLink RX4 77 yX4_needPlace, Cond.static yX4_needPlace, Cond.code yX4_needPlace cX4_needPlace 2 none, Cond.methodLink RX4 167 yX3_holds, Cond.instanceMethod yX3_holds, Cond.selects RX3 yX3_holds yX3_holds, Cond.initialized RX3, Cond.code yX3_holds cX3_holds 2 (some .boolean), Cond.fieldLink RX3 19 "DeltaCodec$Row" "count" "I", Cond.fieldLink RX3 13 "DeltaCodec$Row" "bytes" "[I", Cond.methodLink RX4 52 yX4_needWithin]
def wsX4_set_r2 : List Cond := [Cond.static yX4_needWithin, Cond.code yX4_needWithin cX4_needWithin 3 none, Cond.classLink RX4 187 "java/lang/IllegalArgumentException", Cond.initialized "java/lang/IllegalArgumentException", Cond.methodLink RX4 80 yX3_at, Cond.instanceMethod yX3_at, Cond.selects RX3 yX3_at yX3_at, Cond.code yX3_at cX3_at 2 (some .int), Cond.methodLink RX3 23 yX3_holds, Cond.methodLink RX4 84 yX3_put, Cond.instanceMethod yX3_put, Cond.selects RX3 yX3_put yX3_put, Cond.code yX3_put cX3_put 3 none, Cond.methodLink RX4 67 yX1_forget, Cond.instanceMethod yX1_forget, Cond.selects RX1 yX1_forget yX1_forget, Cond.initialized RX1, Cond.code yX1_forget cX1_forget 1 none, Cond.fieldLink RX1 33 "DeltaCodec$Plan" "isMade" "Z"]
def wsX4_set : List Cond := .code yX4_set cX4_set 6 (some .int) :: ((wsX4_set_r1 ++ wsX4_set_r2) ++ wsX40 ++ wsX30 ++ wsX10 ++ (vx_atS RX4 98 "java/lang/IndexOutOfBoundsException" ["java/lang/RuntimeException", "java/lang/Exception"]).filter goodWord ++ (vx_atS RX4 191 "java/lang/IllegalArgumentException" ["java/lang/RuntimeException", "java/lang/Exception"]).filter goodWord)
def wsX4_size : List Cond := .code yX4_size cX4_size 2 (some .int) :: ([.methodLink RX4 49 yX4_needSide, .static yX4_needSide, .initialized RX4, .code yX4_needSide cX4_needSide 1 none, .classLink RX4 94 "java/lang/IndexOutOfBoundsException", .initialized "java/lang/IndexOutOfBoundsException", .methodLink RX4 56 yX4_rowOf, .instanceMethod yX4_rowOf, .selects RX4 yX4_rowOf yX4_rowOf, .code yX4_rowOf cX4_rowOf 2 (some (.object "DeltaCodec$Row")), .fieldLink RX4 14 "DeltaCodec" "source" "LDeltaCodec$Row;", .fieldLink RX4 18 "DeltaCodec" "target" "LDeltaCodec$Row;", .methodLink RX4 70 yX3_count, .instanceMethod yX3_count, .selects RX3 yX3_count yX3_count, .initialized RX3, .code yX3_count cX3_count 1 (some .int), .fieldLink RX3 19 "DeltaCodec$Row" "count" "I"] ++ wsX40 ++ wsX30 ++ (vx_atS RX4 98 "java/lang/IndexOutOfBoundsException" ["java/lang/RuntimeException", "java/lang/Exception"]).filter goodWord)
def wsX4_byteAt_r1 : List Cond := [Cond.methodLink RX4 49 yX4_needSide, Cond.static yX4_needSide, Cond.initialized RX4, Cond.code yX4_needSide cX4_needSide 1 none, Cond.classLink RX4 94 "java/lang/IndexOutOfBoundsException", Cond.initialized "java/lang/IndexOutOfBoundsException", Cond.methodLink RX4 56 yX4_rowOf, Cond.instanceMethod yX4_rowOf, Cond.selects RX4 yX4_rowOf yX4_rowOf, Cond.code yX4_rowOf cX4_rowOf 2 (some (.object "DeltaCodec$Row")), Cond.fieldLink RX4 14 "DeltaCodec" "source" "LDeltaCodec$Row;", Cond.fieldLink RX4 18 "DeltaCodec" "target" "LDeltaCodec$Row;", Cond.methodLink RX4 77 yX4_needPlace, Cond.static yX4_needPlace, Cond.code yX4_needPlace cX4_needPlace 2 none, Cond.methodLink RX4 167 yX3_holds, Cond.instanceMethod yX3_holds, Cond.selects RX3 yX3_holds yX3_holds, Cond.initialized RX3, Cond.code yX3_holds cX3_holds 2 (some .boolean), Cond.fieldLink RX3 19 "DeltaCodec$Row" "count" "I", Cond.fieldLink RX3 13 "DeltaCodec$Row" "bytes" "[I", Cond.methodLink RX4 80 yX3_at, Cond.instanceMethod yX3_at]
def wsX4_byteAt_r2 : List Cond := [Cond.selects RX3 yX3_at yX3_at, Cond.code yX3_at cX3_at 2 (some .int), Cond.methodLink RX3 23 yX3_holds]
def wsX4_byteAt : List Cond := .code yX4_byteAt cX4_byteAt 4 (some .int) :: ((wsX4_byteAt_r1 ++ wsX4_byteAt_r2) ++ wsX40 ++ wsX30 ++ (vx_atS RX4 98 "java/lang/IndexOutOfBoundsException" ["java/lang/RuntimeException", "java/lang/Exception"]).filter goodWord)
def wsX4_exchangeRows : List Cond := .code yX4_exchangeRows cX4_exchangeRows 2 none :: ([.fieldLink RX4 14 "DeltaCodec" "source" "LDeltaCodec$Row;", .fieldLink RX4 18 "DeltaCodec" "target" "LDeltaCodec$Row;"] ++ wsX40)
def wsX4_turn : List Cond := .code yX4_turn cX4_turn 1 (some .int) :: ([.fieldLink RX4 27 "DeltaCodec" "plan" "LDeltaCodec$Plan;", .fieldLink RX4 18 "DeltaCodec" "target" "LDeltaCodec$Row;", .methodLink RX4 88 yX4_exchangeRows, .instanceMethod yX4_exchangeRows, .selects RX4 yX4_exchangeRows yX4_exchangeRows, .initialized RX4, .code yX4_exchangeRows cX4_exchangeRows 2 none, .fieldLink RX4 14 "DeltaCodec" "source" "LDeltaCodec$Row;", .methodLink RX4 67 yX1_forget, .instanceMethod yX1_forget, .selects RX1 yX1_forget yX1_forget, .initialized RX1, .code yX1_forget cX1_forget 1 none, .fieldLink RX1 33 "DeltaCodec$Plan" "isMade" "Z", .methodLink RX4 70 yX3_count, .instanceMethod yX3_count, .selects RX3 yX3_count yX3_count, .initialized RX3, .code yX3_count cX3_count 1 (some .int), .fieldLink RX3 19 "DeltaCodec$Row" "count" "I"] ++ wsX40 ++ wsX10 ++ wsX30)
def wsX4_advance : List Cond := .code yX4_advance cX4_advance 1 (some .int) :: ([.fieldLink RX4 18 "DeltaCodec" "target" "LDeltaCodec$Row;", .fieldLink RX4 27 "DeltaCodec" "plan" "LDeltaCodec$Plan;", .fieldLink RX4 14 "DeltaCodec" "source" "LDeltaCodec$Row;", .methodLink RX4 88 yX4_exchangeRows, .instanceMethod yX4_exchangeRows, .selects RX4 yX4_exchangeRows yX4_exchangeRows, .initialized RX4, .code yX4_exchangeRows cX4_exchangeRows 2 none, .methodLink RX4 91 yX3_clear, .instanceMethod yX3_clear, .selects RX3 yX3_clear yX3_clear, .initialized RX3, .code yX3_clear cX3_clear 1 none, .fieldLink RX3 19 "DeltaCodec$Row" "count" "I", .methodLink RX4 67 yX1_forget, .instanceMethod yX1_forget, .selects RX1 yX1_forget yX1_forget, .initialized RX1, .code yX1_forget cX1_forget 1 none, .fieldLink RX1 33 "DeltaCodec$Plan" "isMade" "Z", .methodLink RX4 70 yX3_count, .instanceMethod yX3_count, .selects RX3 yX3_count yX3_count, .code yX3_count cX3_count 1 (some .int)] ++ wsX40 ++ wsX30 ++ wsX10)
def wsX4_check_r1 : List Cond := [Cond.classLink RX4 94 "java/lang/IndexOutOfBoundsException", Cond.initialized "java/lang/IndexOutOfBoundsException", Cond.methodLink RX4 49 yX4_needSide, Cond.static yX4_needSide, Cond.initialized RX4, Cond.code yX4_needSide cX4_needSide 1 none, Cond.methodLink RX4 56 yX4_rowOf, Cond.instanceMethod yX4_rowOf, Cond.selects RX4 yX4_rowOf yX4_rowOf, Cond.code yX4_rowOf cX4_rowOf 2 (some (.object "DeltaCodec$Row")), Cond.fieldLink RX4 14 "DeltaCodec" "source" "LDeltaCodec$Row;", Cond.fieldLink RX4 18 "DeltaCodec" "target" "LDeltaCodec$Row;", Cond.methodLink RX4 70 yX3_count, Cond.instanceMethod yX3_count, Cond.selects RX3 yX3_count yX3_count, Cond.initialized RX3, Cond.code yX3_count cX3_count 1 (some .int), Cond.fieldLink RX3 19 "DeltaCodec$Row" "count" "I", Cond.methodLink RX4 101 yX4_checkOf, Cond.static yX4_checkOf, Cond.code yX4_checkOf cX4_checkOf 6 (some .int), Cond.methodLink RX4 80 yX3_at, Cond.instanceMethod yX3_at, Cond.selects RX3 yX3_at yX3_at]
def wsX4_check_r2 : List Cond := [Cond.code yX3_at cX3_at 2 (some .int), Cond.fieldLink RX3 13 "DeltaCodec$Row" "bytes" "[I", Cond.methodLink RX3 23 yX3_holds, Cond.instanceMethod yX3_holds, Cond.selects RX3 yX3_holds yX3_holds, Cond.code yX3_holds cX3_holds 2 (some .boolean)]
def wsX4_check : List Cond := .code yX4_check cX4_check 5 (some .int) :: ((wsX4_check_r1 ++ wsX4_check_r2) ++ wsX40 ++ wsX30 ++ (vx_atS RX4 98 "java/lang/IndexOutOfBoundsException" ["java/lang/RuntimeException", "java/lang/Exception"]).filter goodWord)
def wsX4_commonLength : List Cond := .code yX4_commonLength cX4_commonLength 6 (some .int) :: ([.fieldLink RX4 18 "DeltaCodec" "target" "LDeltaCodec$Row;", .methodLink RX4 206 Lib.Math.min.name, .static Lib.Math.min.name, .initialized "java/lang/Math", .code Lib.Math.min.name Lib.Math.min.code 2 (some .int), .methodLink RX4 70 yX3_count, .instanceMethod yX3_count, .selects RX3 yX3_count yX3_count, .initialized RX3, .code yX3_count cX3_count 1 (some .int), .fieldLink RX3 19 "DeltaCodec$Row" "count" "I", .methodLink RX4 80 yX3_at, .instanceMethod yX3_at, .selects RX3 yX3_at yX3_at, .code yX3_at cX3_at 2 (some .int), .fieldLink RX3 13 "DeltaCodec$Row" "bytes" "[I", .methodLink RX3 23 yX3_holds, .instanceMethod yX3_holds, .selects RX3 yX3_holds yX3_holds, .code yX3_holds cX3_holds 2 (some .boolean)] ++ wsX40 ++ wsX30)
def wsX4_bestMatchPlace_r1 : List Cond := [Cond.fieldLink RX4 14 "DeltaCodec" "source" "LDeltaCodec$Row;", Cond.methodLink RX4 70 yX3_count, Cond.instanceMethod yX3_count, Cond.selects RX3 yX3_count yX3_count, Cond.initialized RX3, Cond.code yX3_count cX3_count 1 (some .int), Cond.fieldLink RX3 19 "DeltaCodec$Row" "count" "I", Cond.methodLink RX4 56 yX4_rowOf, Cond.instanceMethod yX4_rowOf, Cond.selects RX4 yX4_rowOf yX4_rowOf, Cond.initialized RX4, Cond.code yX4_rowOf cX4_rowOf 2 (some (.object "DeltaCodec$Row")), Cond.fieldLink RX4 18 "DeltaCodec" "target" "LDeltaCodec$Row;", Cond.methodLink RX4 109 yX4_commonLength, Cond.instanceMethod yX4_commonLength, Cond.selects RX4 yX4_commonLength yX4_commonLength, Cond.code yX4_commonLength cX4_commonLength 6 (some .int), Cond.methodLink RX4 206 Lib.Math.min.name, Cond.static Lib.Math.min.name, Cond.initialized "java/lang/Math", Cond.code Lib.Math.min.name Lib.Math.min.code 2 (some .int), Cond.methodLink RX4 80 yX3_at, Cond.instanceMethod yX3_at, Cond.selects RX3 yX3_at yX3_at]
def wsX4_bestMatchPlace_r2 : List Cond := [Cond.code yX3_at cX3_at 2 (some .int), Cond.fieldLink RX3 13 "DeltaCodec$Row" "bytes" "[I", Cond.methodLink RX3 23 yX3_holds, Cond.instanceMethod yX3_holds, Cond.selects RX3 yX3_holds yX3_holds, Cond.code yX3_holds cX3_holds 2 (some .boolean)]
def wsX4_bestMatchPlace : List Cond := .code yX4_bestMatchPlace cX4_bestMatchPlace 8 (some .int) :: ((wsX4_bestMatchPlace_r1 ++ wsX4_bestMatchPlace_r2) ++ wsX40 ++ wsX30)
def wsX4_match_r1 : List Cond := [Cond.fieldLink RX4 18 "DeltaCodec" "target" "LDeltaCodec$Row;", Cond.methodLink RX4 77 yX4_needPlace, Cond.static yX4_needPlace, Cond.initialized RX4, Cond.code yX4_needPlace cX4_needPlace 2 none, Cond.classLink RX4 94 "java/lang/IndexOutOfBoundsException", Cond.initialized "java/lang/IndexOutOfBoundsException", Cond.methodLink RX4 167 yX3_holds, Cond.instanceMethod yX3_holds, Cond.selects RX3 yX3_holds yX3_holds, Cond.initialized RX3, Cond.code yX3_holds cX3_holds 2 (some .boolean), Cond.fieldLink RX3 19 "DeltaCodec$Row" "count" "I", Cond.fieldLink RX3 13 "DeltaCodec$Row" "bytes" "[I", Cond.methodLink RX4 49 yX4_needSide, Cond.static yX4_needSide, Cond.code yX4_needSide cX4_needSide 1 none, Cond.methodLink RX4 105 yX4_bestMatchPlace, Cond.instanceMethod yX4_bestMatchPlace, Cond.selects RX4 yX4_bestMatchPlace yX4_bestMatchPlace, Cond.code yX4_bestMatchPlace cX4_bestMatchPlace 8 (some .int), Cond.fieldLink RX4 14 "DeltaCodec" "source" "LDeltaCodec$Row;", Cond.methodLink RX4 70 yX3_count, Cond.instanceMethod yX3_count]
def wsX4_match_r2 : List Cond := [Cond.selects RX3 yX3_count yX3_count, Cond.code yX3_count cX3_count 1 (some .int), Cond.methodLink RX4 56 yX4_rowOf, Cond.instanceMethod yX4_rowOf, Cond.selects RX4 yX4_rowOf yX4_rowOf, Cond.code yX4_rowOf cX4_rowOf 2 (some (.object "DeltaCodec$Row")), Cond.methodLink RX4 109 yX4_commonLength, Cond.instanceMethod yX4_commonLength, Cond.selects RX4 yX4_commonLength yX4_commonLength, Cond.code yX4_commonLength cX4_commonLength 6 (some .int), Cond.methodLink RX4 206 Lib.Math.min.name, Cond.static Lib.Math.min.name, Cond.initialized "java/lang/Math", Cond.code Lib.Math.min.name Lib.Math.min.code 2 (some .int), Cond.methodLink RX4 80 yX3_at, Cond.instanceMethod yX3_at, Cond.selects RX3 yX3_at yX3_at, Cond.code yX3_at cX3_at 2 (some .int), Cond.methodLink RX3 23 yX3_holds]
def wsX4_match : List Cond := .code yX4_match cX4_match 4 (some .int) :: ((wsX4_match_r1 ++ wsX4_match_r2) ++ wsX40 ++ wsX30 ++ (vx_atS RX4 98 "java/lang/IndexOutOfBoundsException" ["java/lang/RuntimeException", "java/lang/Exception"]).filter goodWord)
def wsX4_matchPlace_r1 : List Cond := [Cond.fieldLink RX4 18 "DeltaCodec" "target" "LDeltaCodec$Row;", Cond.methodLink RX4 77 yX4_needPlace, Cond.static yX4_needPlace, Cond.initialized RX4, Cond.code yX4_needPlace cX4_needPlace 2 none, Cond.classLink RX4 94 "java/lang/IndexOutOfBoundsException", Cond.initialized "java/lang/IndexOutOfBoundsException", Cond.methodLink RX4 167 yX3_holds, Cond.instanceMethod yX3_holds, Cond.selects RX3 yX3_holds yX3_holds, Cond.initialized RX3, Cond.code yX3_holds cX3_holds 2 (some .boolean), Cond.fieldLink RX3 19 "DeltaCodec$Row" "count" "I", Cond.fieldLink RX3 13 "DeltaCodec$Row" "bytes" "[I", Cond.methodLink RX4 49 yX4_needSide, Cond.static yX4_needSide, Cond.code yX4_needSide cX4_needSide 1 none, Cond.methodLink RX4 105 yX4_bestMatchPlace, Cond.instanceMethod yX4_bestMatchPlace, Cond.selects RX4 yX4_bestMatchPlace yX4_bestMatchPlace, Cond.code yX4_bestMatchPlace cX4_bestMatchPlace 8 (some .int), Cond.fieldLink RX4 14 "DeltaCodec" "source" "LDeltaCodec$Row;", Cond.methodLink RX4 70 yX3_count, Cond.instanceMethod yX3_count]
def wsX4_matchPlace_r2 : List Cond := [Cond.selects RX3 yX3_count yX3_count, Cond.code yX3_count cX3_count 1 (some .int), Cond.methodLink RX4 56 yX4_rowOf, Cond.instanceMethod yX4_rowOf, Cond.selects RX4 yX4_rowOf yX4_rowOf, Cond.code yX4_rowOf cX4_rowOf 2 (some (.object "DeltaCodec$Row")), Cond.methodLink RX4 109 yX4_commonLength, Cond.instanceMethod yX4_commonLength, Cond.selects RX4 yX4_commonLength yX4_commonLength, Cond.code yX4_commonLength cX4_commonLength 6 (some .int), Cond.methodLink RX4 206 Lib.Math.min.name, Cond.static Lib.Math.min.name, Cond.initialized "java/lang/Math", Cond.code Lib.Math.min.name Lib.Math.min.code 2 (some .int), Cond.methodLink RX4 80 yX3_at, Cond.instanceMethod yX3_at, Cond.selects RX3 yX3_at yX3_at, Cond.code yX3_at cX3_at 2 (some .int), Cond.methodLink RX3 23 yX3_holds]
def wsX4_matchPlace : List Cond := .code yX4_matchPlace cX4_matchPlace 3 (some .int) :: ((wsX4_matchPlace_r1 ++ wsX4_matchPlace_r2) ++ wsX40 ++ wsX30 ++ (vx_atS RX4 98 "java/lang/IndexOutOfBoundsException" ["java/lang/RuntimeException", "java/lang/Exception"]).filter goodWord)
def wsX4_isBlockAt_r1 : List Cond := [Cond.fieldLink RX4 14 "DeltaCodec" "source" "LDeltaCodec$Row;", Cond.methodLink RX4 162 Lib.Math.max.name, Cond.static Lib.Math.max.name, Cond.initialized "java/lang/Math", Cond.code Lib.Math.max.name Lib.Math.max.code 2 (some .int), Cond.methodLink RX4 70 yX3_count, Cond.instanceMethod yX3_count, Cond.selects RX3 yX3_count yX3_count, Cond.initialized RX3, Cond.code yX3_count cX3_count 1 (some .int), Cond.fieldLink RX3 19 "DeltaCodec$Row" "count" "I", Cond.methodLink RX4 109 yX4_commonLength, Cond.instanceMethod yX4_commonLength, Cond.selects RX4 yX4_commonLength yX4_commonLength, Cond.initialized RX4, Cond.code yX4_commonLength cX4_commonLength 6 (some .int), Cond.fieldLink RX4 18 "DeltaCodec" "target" "LDeltaCodec$Row;", Cond.methodLink RX4 206 Lib.Math.min.name, Cond.static Lib.Math.min.name, Cond.code Lib.Math.min.name Lib.Math.min.code 2 (some .int), Cond.methodLink RX4 80 yX3_at, Cond.instanceMethod yX3_at, Cond.selects RX3 yX3_at yX3_at, Cond.code yX3_at cX3_at 2 (some .int)]
def wsX4_isBlockAt_r2 : List Cond := [Cond.fieldLink RX3 13 "DeltaCodec$Row" "bytes" "[I", Cond.methodLink RX3 23 yX3_holds, Cond.instanceMethod yX3_holds, Cond.selects RX3 yX3_holds yX3_holds, Cond.code yX3_holds cX3_holds 2 (some .boolean)]
def wsX4_isBlockAt : List Cond := .code yX4_isBlockAt cX4_isBlockAt 4 (some .boolean) :: ((wsX4_isBlockAt_r1 ++ wsX4_isBlockAt_r2) ++ wsX40 ++ wsX30)
def wsX4_blocks_r1 : List Cond := [Cond.fieldLink RX4 18 "DeltaCodec" "target" "LDeltaCodec$Row;", Cond.methodLink RX4 52 yX4_needWithin, Cond.static yX4_needWithin, Cond.initialized RX4, Cond.code yX4_needWithin cX4_needWithin 3 none, Cond.classLink RX4 187 "java/lang/IllegalArgumentException", Cond.initialized "java/lang/IllegalArgumentException", Cond.methodLink RX4 70 yX3_count, Cond.instanceMethod yX3_count, Cond.selects RX3 yX3_count yX3_count, Cond.initialized RX3, Cond.code yX3_count cX3_count 1 (some .int), Cond.fieldLink RX3 19 "DeltaCodec$Row" "count" "I", Cond.methodLink RX4 112 yX4_isBlockAt, Cond.instanceMethod yX4_isBlockAt, Cond.selects RX4 yX4_isBlockAt yX4_isBlockAt, Cond.code yX4_isBlockAt cX4_isBlockAt 4 (some .boolean), Cond.fieldLink RX4 14 "DeltaCodec" "source" "LDeltaCodec$Row;", Cond.methodLink RX4 162 Lib.Math.max.name, Cond.static Lib.Math.max.name, Cond.initialized "java/lang/Math", Cond.code Lib.Math.max.name Lib.Math.max.code 2 (some .int), Cond.methodLink RX4 109 yX4_commonLength, Cond.instanceMethod yX4_commonLength]
def wsX4_blocks_r2 : List Cond := [Cond.selects RX4 yX4_commonLength yX4_commonLength, Cond.code yX4_commonLength cX4_commonLength 6 (some .int), Cond.methodLink RX4 206 Lib.Math.min.name, Cond.static Lib.Math.min.name, Cond.code Lib.Math.min.name Lib.Math.min.code 2 (some .int), Cond.methodLink RX4 80 yX3_at, Cond.instanceMethod yX3_at, Cond.selects RX3 yX3_at yX3_at, Cond.code yX3_at cX3_at 2 (some .int), Cond.fieldLink RX3 13 "DeltaCodec$Row" "bytes" "[I", Cond.methodLink RX3 23 yX3_holds, Cond.instanceMethod yX3_holds, Cond.selects RX3 yX3_holds yX3_holds, Cond.code yX3_holds cX3_holds 2 (some .boolean)]
def wsX4_blocks : List Cond := .code yX4_blocks cX4_blocks 5 (some .int) :: ((wsX4_blocks_r1 ++ wsX4_blocks_r2) ++ wsX40 ++ wsX30 ++ (vx_atS RX4 191 "java/lang/IllegalArgumentException" ["java/lang/RuntimeException", "java/lang/Exception"]).filter goodWord)
def wsX4_setLeast : List Cond := .code yX4_setLeast cX4_setLeast 3 (some .int) :: ([.fieldLink RX4 45 "DeltaCodec" "least" "I", .fieldLink RX4 27 "DeltaCodec" "plan" "LDeltaCodec$Plan;", .methodLink RX4 52 yX4_needWithin, .static yX4_needWithin, .initialized RX4, .code yX4_needWithin cX4_needWithin 3 none, .classLink RX4 187 "java/lang/IllegalArgumentException", .initialized "java/lang/IllegalArgumentException", .methodLink RX4 67 yX1_forget, .instanceMethod yX1_forget, .selects RX1 yX1_forget yX1_forget, .initialized RX1, .code yX1_forget cX1_forget 1 none, .fieldLink RX1 33 "DeltaCodec$Plan" "isMade" "Z"] ++ wsX40 ++ wsX10 ++ (vx_atS RX4 191 "java/lang/IllegalArgumentException" ["java/lang/RuntimeException", "java/lang/Exception"]).filter goodWord)
def wsX4_plan_r1 : List Cond := [Cond.fieldLink RX4 27 "DeltaCodec" "plan" "LDeltaCodec$Plan;", Cond.fieldLink RX4 34 "DeltaCodec" "planner" "LDeltaCodec$Planner;", Cond.fieldLink RX4 14 "DeltaCodec" "source" "LDeltaCodec$Row;", Cond.fieldLink RX4 18 "DeltaCodec" "target" "LDeltaCodec$Row;", Cond.fieldLink RX4 45 "DeltaCodec" "least" "I", Cond.methodLink RX4 116 yX1_isMade, Cond.instanceMethod yX1_isMade, Cond.selects RX1 yX1_isMade yX1_isMade, Cond.initialized RX1, Cond.code yX1_isMade cX1_isMade 1 (some .boolean), Cond.fieldLink RX1 33 "DeltaCodec$Plan" "isMade" "Z", Cond.methodLink RX4 120 yX2_makePlan, Cond.instanceMethod yX2_makePlan, Cond.selects RX2 yX2_makePlan yX2_makePlan, Cond.initialized RX2, Cond.code yX2_makePlan cX2_makePlan 9 none, Cond.methodLink RX2 42 Lib.Math.min.name, Cond.static Lib.Math.min.name, Cond.initialized "java/lang/Math", Cond.code Lib.Math.min.name Lib.Math.min.code 2 (some .int), Cond.fieldLink RX2 27 "DeltaCodec$Planner" "copyCommon" "[I", Cond.fieldLink RX2 30 "DeltaCodec$Planner" "repeatCommon" "[I", Cond.fieldLink RX2 11 "DeltaCodec$Planner" "bytesLeft" "[I", Cond.fieldLink RX2 15 "DeltaCodec$Planner" "stepsLeft" "[I"]
def wsX4_plan_r2 : List Cond := [Cond.constant RX2 62 (1000000), Cond.methodLink RX2 36 yX3_count, Cond.instanceMethod yX3_count, Cond.selects RX3 yX3_count yX3_count, Cond.initialized RX3, Cond.code yX3_count cX3_count 1 (some .int), Cond.fieldLink RX3 19 "DeltaCodec$Row" "count" "I", Cond.methodLink RX2 48 yJ7_fill_53178, Cond.static yJ7_fill_53178, Cond.initialized RJ7, Cond.code yJ7_fill_53178 cJ7_fill_53178 4 none, Cond.methodLink RX2 54 yX3_at, Cond.instanceMethod yX3_at, Cond.selects RX3 yX3_at yX3_at, Cond.code yX3_at cX3_at 2 (some .int), Cond.fieldLink RX3 13 "DeltaCodec$Row" "bytes" "[I", Cond.methodLink RX3 23 yX3_holds, Cond.instanceMethod yX3_holds, Cond.selects RX3 yX3_holds yX3_holds, Cond.code yX3_holds cX3_holds 2 (some .boolean), Cond.methodLink RX2 58 yX2_lengthenCommon, Cond.static yX2_lengthenCommon, Cond.code yX2_lengthenCommon cX2_lengthenCommon 5 none, Cond.methodLink RX2 63 yX2_offerLengths]
def wsX4_plan_r3 : List Cond := [Cond.instanceMethod yX2_offerLengths, Cond.selects RX2 yX2_offerLengths yX2_offerLengths, Cond.code yX2_offerLengths cX2_offerLengths 6 none, Cond.methodLink RX2 74 yX2_offer, Cond.instanceMethod yX2_offer, Cond.selects RX2 yX2_offer yX2_offer, Cond.code yX2_offer cX2_offer 10 none, Cond.fieldLink RX2 18 "DeltaCodec$Planner" "kinds" "[I", Cond.fieldLink RX2 21 "DeltaCodec$Planner" "lengths" "[I", Cond.fieldLink RX2 24 "DeltaCodec$Planner" "operands" "[I", Cond.methodLink RX2 77 yX2_bytesOf, Cond.static yX2_bytesOf, Cond.code yX2_bytesOf cX2_bytesOf 4 (some .int), Cond.methodLink RX2 81 yX2_bytesOfNumber, Cond.static yX2_bytesOfNumber, Cond.code yX2_bytesOfNumber cX2_bytesOfNumber 1 (some .int), Cond.methodLink RX2 67 yX2_offerPlaces, Cond.instanceMethod yX2_offerPlaces, Cond.selects RX2 yX2_offerPlaces yX2_offerPlaces, Cond.code yX2_offerPlaces cX2_offerPlaces 9 none, Cond.fieldLink RX2 33 "DeltaCodec$Planner" "firstPlaces" "[I", Cond.methodLink RX2 70 yX2_listInstructions, Cond.instanceMethod yX2_listInstructions, Cond.selects RX2 yX2_listInstructions yX2_listInstructions]
def wsX4_plan_r4 : List Cond := [Cond.code yX2_listInstructions cX2_listInstructions 5 none, Cond.methodLink RX2 84 yX1_begin, Cond.instanceMethod yX1_begin, Cond.selects RX1 yX1_begin yX1_begin, Cond.code yX1_begin cX1_begin 2 none, Cond.fieldLink RX1 14 "DeltaCodec$Plan" "kinds" "LDeltaCodec$Row;", Cond.fieldLink RX1 20 "DeltaCodec$Plan" "lengths" "LDeltaCodec$Row;", Cond.fieldLink RX1 23 "DeltaCodec$Plan" "operands" "LDeltaCodec$Row;", Cond.fieldLink RX1 26 "DeltaCodec$Plan" "starts" "LDeltaCodec$Row;", Cond.fieldLink RX1 29 "DeltaCodec$Plan" "codeBytes" "I", Cond.methodLink RX1 37 yX3_clear, Cond.instanceMethod yX3_clear, Cond.selects RX3 yX3_clear yX3_clear, Cond.code yX3_clear cX3_clear 1 none, Cond.methodLink RX2 90 yX1_add, Cond.instanceMethod yX1_add, Cond.selects RX1 yX1_add yX1_add, Cond.code yX1_add cX1_add 5 none, Cond.methodLink RX1 40 yX3_append, Cond.instanceMethod yX3_append, Cond.selects RX3 yX3_append yX3_append, Cond.code yX3_append cX3_append 2 none, Cond.methodLink RX4 124 yX1_count, Cond.instanceMethod yX1_count]
def wsX4_plan_r5 : List Cond := [Cond.selects RX1 yX1_count yX1_count, Cond.code yX1_count cX1_count 1 (some .int), Cond.methodLink RX1 43 yX3_count]
def wsX4_plan : List Cond := .code yX4_plan cX4_plan 1 (some .int) :: ((wsX4_plan_r1 ++ (wsX4_plan_r2 ++ (wsX4_plan_r3 ++ (wsX4_plan_r4 ++ wsX4_plan_r5)))) ++ wsX40 ++ wsX10 ++ wsX20 ++ wsX30)
def wsX4_hasPlan : List Cond := .code yX4_hasPlan cX4_hasPlan 1 (some .boolean) :: ([.fieldLink RX4 27 "DeltaCodec" "plan" "LDeltaCodec$Plan;", .methodLink RX4 116 yX1_isMade, .instanceMethod yX1_isMade, .selects RX1 yX1_isMade yX1_isMade, .initialized RX1, .code yX1_isMade cX1_isMade 1 (some .boolean), .fieldLink RX1 33 "DeltaCodec$Plan" "isMade" "Z"] ++ wsX40 ++ wsX10)
def wsX4_needPlan : List Cond := .code yX4_needPlan cX4_needPlan 1 none :: ([.classLink RX4 197 "java/lang/IllegalStateException", .initialized "java/lang/IllegalStateException", .fieldLink RX4 27 "DeltaCodec" "plan" "LDeltaCodec$Plan;", .methodLink RX4 116 yX1_isMade, .instanceMethod yX1_isMade, .selects RX1 yX1_isMade yX1_isMade, .initialized RX1, .code yX1_isMade cX1_isMade 1 (some .boolean), .fieldLink RX1 33 "DeltaCodec$Plan" "isMade" "Z"] ++ wsX40 ++ wsX10 ++ (vx_atS RX4 201 "java/lang/IllegalStateException" ["java/lang/RuntimeException", "java/lang/Exception"]).filter goodWord)
def wsX4_cost : List Cond := .code yX4_cost cX4_cost 1 (some .int) :: ([.fieldLink RX4 27 "DeltaCodec" "plan" "LDeltaCodec$Plan;", .methodLink RX4 125 yX4_needPlan, .instanceMethod yX4_needPlan, .selects RX4 yX4_needPlan yX4_needPlan, .initialized RX4, .code yX4_needPlan cX4_needPlan 1 none, .classLink RX4 197 "java/lang/IllegalStateException", .initialized "java/lang/IllegalStateException", .methodLink RX4 116 yX1_isMade, .instanceMethod yX1_isMade, .selects RX1 yX1_isMade yX1_isMade, .initialized RX1, .code yX1_isMade cX1_isMade 1 (some .boolean), .fieldLink RX1 33 "DeltaCodec$Plan" "isMade" "Z", .methodLink RX4 128 yX1_codeBytes, .instanceMethod yX1_codeBytes, .selects RX1 yX1_codeBytes yX1_codeBytes, .code yX1_codeBytes cX1_codeBytes 1 (some .int), .fieldLink RX1 29 "DeltaCodec$Plan" "codeBytes" "I"] ++ wsX40 ++ wsX10 ++ (vx_atS RX4 201 "java/lang/IllegalStateException" ["java/lang/RuntimeException", "java/lang/Exception"]).filter goodWord)
def wsX4_needInstruction_r1 : List Cond := [Cond.classLink RX4 94 "java/lang/IndexOutOfBoundsException", Cond.initialized "java/lang/IndexOutOfBoundsException", Cond.fieldLink RX4 27 "DeltaCodec" "plan" "LDeltaCodec$Plan;", Cond.methodLink RX4 125 yX4_needPlan, Cond.instanceMethod yX4_needPlan, Cond.selects RX4 yX4_needPlan yX4_needPlan, Cond.initialized RX4, Cond.code yX4_needPlan cX4_needPlan 1 none, Cond.classLink RX4 197 "java/lang/IllegalStateException", Cond.initialized "java/lang/IllegalStateException", Cond.methodLink RX4 116 yX1_isMade, Cond.instanceMethod yX1_isMade, Cond.selects RX1 yX1_isMade yX1_isMade, Cond.initialized RX1, Cond.code yX1_isMade cX1_isMade 1 (some .boolean), Cond.fieldLink RX1 33 "DeltaCodec$Plan" "isMade" "Z", Cond.methodLink RX4 124 yX1_count, Cond.instanceMethod yX1_count, Cond.selects RX1 yX1_count yX1_count, Cond.code yX1_count cX1_count 1 (some .int), Cond.fieldLink RX1 14 "DeltaCodec$Plan" "kinds" "LDeltaCodec$Row;", Cond.methodLink RX1 43 yX3_count, Cond.instanceMethod yX3_count, Cond.selects RX3 yX3_count yX3_count]
def wsX4_needInstruction_r2 : List Cond := [Cond.initialized RX3, Cond.code yX3_count cX3_count 1 (some .int), Cond.fieldLink RX3 19 "DeltaCodec$Row" "count" "I"]
def wsX4_needInstruction : List Cond := .code yX4_needInstruction cX4_needInstruction 2 none :: ((wsX4_needInstruction_r1 ++ wsX4_needInstruction_r2) ++ wsX40 ++ wsX10 ++ wsX30 ++ (vx_atS RX4 98 "java/lang/IndexOutOfBoundsException" ["java/lang/RuntimeException", "java/lang/Exception"]).filter goodWord ++ (vx_atS RX4 201 "java/lang/IllegalStateException" ["java/lang/RuntimeException", "java/lang/Exception"]).filter goodWord)
def wsX4_kind_r1 : List Cond := [Cond.fieldLink RX4 27 "DeltaCodec" "plan" "LDeltaCodec$Plan;", Cond.methodLink RX4 131 yX4_needInstruction, Cond.instanceMethod yX4_needInstruction, Cond.selects RX4 yX4_needInstruction yX4_needInstruction, Cond.initialized RX4, Cond.code yX4_needInstruction cX4_needInstruction 2 none, Cond.classLink RX4 94 "java/lang/IndexOutOfBoundsException", Cond.initialized "java/lang/IndexOutOfBoundsException", Cond.methodLink RX4 125 yX4_needPlan, Cond.instanceMethod yX4_needPlan, Cond.selects RX4 yX4_needPlan yX4_needPlan, Cond.code yX4_needPlan cX4_needPlan 1 none, Cond.classLink RX4 197 "java/lang/IllegalStateException", Cond.initialized "java/lang/IllegalStateException", Cond.methodLink RX4 116 yX1_isMade, Cond.instanceMethod yX1_isMade, Cond.selects RX1 yX1_isMade yX1_isMade, Cond.initialized RX1, Cond.code yX1_isMade cX1_isMade 1 (some .boolean), Cond.fieldLink RX1 33 "DeltaCodec$Plan" "isMade" "Z", Cond.methodLink RX4 124 yX1_count, Cond.instanceMethod yX1_count, Cond.selects RX1 yX1_count yX1_count, Cond.code yX1_count cX1_count 1 (some .int)]
def wsX4_kind_r2 : List Cond := [Cond.fieldLink RX1 14 "DeltaCodec$Plan" "kinds" "LDeltaCodec$Row;", Cond.methodLink RX1 43 yX3_count, Cond.instanceMethod yX3_count, Cond.selects RX3 yX3_count yX3_count, Cond.initialized RX3, Cond.code yX3_count cX3_count 1 (some .int), Cond.fieldLink RX3 19 "DeltaCodec$Row" "count" "I", Cond.methodLink RX4 134 yX1_kindOf, Cond.instanceMethod yX1_kindOf, Cond.selects RX1 yX1_kindOf yX1_kindOf, Cond.code yX1_kindOf cX1_kindOf 2 (some .int), Cond.methodLink RX1 47 yX3_at, Cond.instanceMethod yX3_at, Cond.selects RX3 yX3_at yX3_at, Cond.code yX3_at cX3_at 2 (some .int), Cond.fieldLink RX3 13 "DeltaCodec$Row" "bytes" "[I", Cond.methodLink RX3 23 yX3_holds, Cond.instanceMethod yX3_holds, Cond.selects RX3 yX3_holds yX3_holds, Cond.code yX3_holds cX3_holds 2 (some .boolean)]
def wsX4_kind : List Cond := .code yX4_kind cX4_kind 2 (some .int) :: ((wsX4_kind_r1 ++ wsX4_kind_r2) ++ wsX40 ++ wsX10 ++ wsX30 ++ (vx_atS RX4 98 "java/lang/IndexOutOfBoundsException" ["java/lang/RuntimeException", "java/lang/Exception"]).filter goodWord ++ (vx_atS RX4 201 "java/lang/IllegalStateException" ["java/lang/RuntimeException", "java/lang/Exception"]).filter goodWord)
def wsX4_length_r1 : List Cond := [Cond.fieldLink RX4 27 "DeltaCodec" "plan" "LDeltaCodec$Plan;", Cond.methodLink RX4 131 yX4_needInstruction, Cond.instanceMethod yX4_needInstruction, Cond.selects RX4 yX4_needInstruction yX4_needInstruction, Cond.initialized RX4, Cond.code yX4_needInstruction cX4_needInstruction 2 none, Cond.classLink RX4 94 "java/lang/IndexOutOfBoundsException", Cond.initialized "java/lang/IndexOutOfBoundsException", Cond.methodLink RX4 125 yX4_needPlan, Cond.instanceMethod yX4_needPlan, Cond.selects RX4 yX4_needPlan yX4_needPlan, Cond.code yX4_needPlan cX4_needPlan 1 none, Cond.classLink RX4 197 "java/lang/IllegalStateException", Cond.initialized "java/lang/IllegalStateException", Cond.methodLink RX4 116 yX1_isMade, Cond.instanceMethod yX1_isMade, Cond.selects RX1 yX1_isMade yX1_isMade, Cond.initialized RX1, Cond.code yX1_isMade cX1_isMade 1 (some .boolean), Cond.fieldLink RX1 33 "DeltaCodec$Plan" "isMade" "Z", Cond.methodLink RX4 124 yX1_count, Cond.instanceMethod yX1_count, Cond.selects RX1 yX1_count yX1_count, Cond.code yX1_count cX1_count 1 (some .int)]
def wsX4_length_r2 : List Cond := [Cond.fieldLink RX1 14 "DeltaCodec$Plan" "kinds" "LDeltaCodec$Row;", Cond.methodLink RX1 43 yX3_count, Cond.instanceMethod yX3_count, Cond.selects RX3 yX3_count yX3_count, Cond.initialized RX3, Cond.code yX3_count cX3_count 1 (some .int), Cond.fieldLink RX3 19 "DeltaCodec$Row" "count" "I", Cond.methodLink RX4 137 yX1_lengthOf, Cond.instanceMethod yX1_lengthOf, Cond.selects RX1 yX1_lengthOf yX1_lengthOf, Cond.code yX1_lengthOf cX1_lengthOf 2 (some .int), Cond.fieldLink RX1 20 "DeltaCodec$Plan" "lengths" "LDeltaCodec$Row;", Cond.methodLink RX1 47 yX3_at, Cond.instanceMethod yX3_at, Cond.selects RX3 yX3_at yX3_at, Cond.code yX3_at cX3_at 2 (some .int), Cond.fieldLink RX3 13 "DeltaCodec$Row" "bytes" "[I", Cond.methodLink RX3 23 yX3_holds, Cond.instanceMethod yX3_holds, Cond.selects RX3 yX3_holds yX3_holds, Cond.code yX3_holds cX3_holds 2 (some .boolean)]
def wsX4_length : List Cond := .code yX4_length cX4_length 2 (some .int) :: ((wsX4_length_r1 ++ wsX4_length_r2) ++ wsX40 ++ wsX10 ++ wsX30 ++ (vx_atS RX4 98 "java/lang/IndexOutOfBoundsException" ["java/lang/RuntimeException", "java/lang/Exception"]).filter goodWord ++ (vx_atS RX4 201 "java/lang/IllegalStateException" ["java/lang/RuntimeException", "java/lang/Exception"]).filter goodWord)
def wsX4_operand_r1 : List Cond := [Cond.fieldLink RX4 27 "DeltaCodec" "plan" "LDeltaCodec$Plan;", Cond.methodLink RX4 131 yX4_needInstruction, Cond.instanceMethod yX4_needInstruction, Cond.selects RX4 yX4_needInstruction yX4_needInstruction, Cond.initialized RX4, Cond.code yX4_needInstruction cX4_needInstruction 2 none, Cond.classLink RX4 94 "java/lang/IndexOutOfBoundsException", Cond.initialized "java/lang/IndexOutOfBoundsException", Cond.methodLink RX4 125 yX4_needPlan, Cond.instanceMethod yX4_needPlan, Cond.selects RX4 yX4_needPlan yX4_needPlan, Cond.code yX4_needPlan cX4_needPlan 1 none, Cond.classLink RX4 197 "java/lang/IllegalStateException", Cond.initialized "java/lang/IllegalStateException", Cond.methodLink RX4 116 yX1_isMade, Cond.instanceMethod yX1_isMade, Cond.selects RX1 yX1_isMade yX1_isMade, Cond.initialized RX1, Cond.code yX1_isMade cX1_isMade 1 (some .boolean), Cond.fieldLink RX1 33 "DeltaCodec$Plan" "isMade" "Z", Cond.methodLink RX4 124 yX1_count, Cond.instanceMethod yX1_count, Cond.selects RX1 yX1_count yX1_count, Cond.code yX1_count cX1_count 1 (some .int)]
def wsX4_operand_r2 : List Cond := [Cond.fieldLink RX1 14 "DeltaCodec$Plan" "kinds" "LDeltaCodec$Row;", Cond.methodLink RX1 43 yX3_count, Cond.instanceMethod yX3_count, Cond.selects RX3 yX3_count yX3_count, Cond.initialized RX3, Cond.code yX3_count cX3_count 1 (some .int), Cond.fieldLink RX3 19 "DeltaCodec$Row" "count" "I", Cond.methodLink RX4 140 yX1_operandOf, Cond.instanceMethod yX1_operandOf, Cond.selects RX1 yX1_operandOf yX1_operandOf, Cond.code yX1_operandOf cX1_operandOf 2 (some .int), Cond.fieldLink RX1 23 "DeltaCodec$Plan" "operands" "LDeltaCodec$Row;", Cond.methodLink RX1 47 yX3_at, Cond.instanceMethod yX3_at, Cond.selects RX3 yX3_at yX3_at, Cond.code yX3_at cX3_at 2 (some .int), Cond.fieldLink RX3 13 "DeltaCodec$Row" "bytes" "[I", Cond.methodLink RX3 23 yX3_holds, Cond.instanceMethod yX3_holds, Cond.selects RX3 yX3_holds yX3_holds, Cond.code yX3_holds cX3_holds 2 (some .boolean)]
def wsX4_operand : List Cond := .code yX4_operand cX4_operand 2 (some .int) :: ((wsX4_operand_r1 ++ wsX4_operand_r2) ++ wsX40 ++ wsX10 ++ wsX30 ++ (vx_atS RX4 98 "java/lang/IndexOutOfBoundsException" ["java/lang/RuntimeException", "java/lang/Exception"]).filter goodWord ++ (vx_atS RX4 201 "java/lang/IllegalStateException" ["java/lang/RuntimeException", "java/lang/Exception"]).filter goodWord)
def wsX4_start_r1 : List Cond := [Cond.fieldLink RX4 27 "DeltaCodec" "plan" "LDeltaCodec$Plan;", Cond.methodLink RX4 131 yX4_needInstruction, Cond.instanceMethod yX4_needInstruction, Cond.selects RX4 yX4_needInstruction yX4_needInstruction, Cond.initialized RX4, Cond.code yX4_needInstruction cX4_needInstruction 2 none, Cond.classLink RX4 94 "java/lang/IndexOutOfBoundsException", Cond.initialized "java/lang/IndexOutOfBoundsException", Cond.methodLink RX4 125 yX4_needPlan, Cond.instanceMethod yX4_needPlan, Cond.selects RX4 yX4_needPlan yX4_needPlan, Cond.code yX4_needPlan cX4_needPlan 1 none, Cond.classLink RX4 197 "java/lang/IllegalStateException", Cond.initialized "java/lang/IllegalStateException", Cond.methodLink RX4 116 yX1_isMade, Cond.instanceMethod yX1_isMade, Cond.selects RX1 yX1_isMade yX1_isMade, Cond.initialized RX1, Cond.code yX1_isMade cX1_isMade 1 (some .boolean), Cond.fieldLink RX1 33 "DeltaCodec$Plan" "isMade" "Z", Cond.methodLink RX4 124 yX1_count, Cond.instanceMethod yX1_count, Cond.selects RX1 yX1_count yX1_count, Cond.code yX1_count cX1_count 1 (some .int)]
def wsX4_start_r2 : List Cond := [Cond.fieldLink RX1 14 "DeltaCodec$Plan" "kinds" "LDeltaCodec$Row;", Cond.methodLink RX1 43 yX3_count, Cond.instanceMethod yX3_count, Cond.selects RX3 yX3_count yX3_count, Cond.initialized RX3, Cond.code yX3_count cX3_count 1 (some .int), Cond.fieldLink RX3 19 "DeltaCodec$Row" "count" "I", Cond.methodLink RX4 143 yX1_startOf, Cond.instanceMethod yX1_startOf, Cond.selects RX1 yX1_startOf yX1_startOf, Cond.code yX1_startOf cX1_startOf 2 (some .int), Cond.fieldLink RX1 26 "DeltaCodec$Plan" "starts" "LDeltaCodec$Row;", Cond.methodLink RX1 47 yX3_at, Cond.instanceMethod yX3_at, Cond.selects RX3 yX3_at yX3_at, Cond.code yX3_at cX3_at 2 (some .int), Cond.fieldLink RX3 13 "DeltaCodec$Row" "bytes" "[I", Cond.methodLink RX3 23 yX3_holds, Cond.instanceMethod yX3_holds, Cond.selects RX3 yX3_holds yX3_holds, Cond.code yX3_holds cX3_holds 2 (some .boolean)]
def wsX4_start : List Cond := .code yX4_start cX4_start 2 (some .int) :: ((wsX4_start_r1 ++ wsX4_start_r2) ++ wsX40 ++ wsX10 ++ wsX30 ++ (vx_atS RX4 98 "java/lang/IndexOutOfBoundsException" ["java/lang/RuntimeException", "java/lang/Exception"]).filter goodWord ++ (vx_atS RX4 201 "java/lang/IllegalStateException" ["java/lang/RuntimeException", "java/lang/Exception"]).filter goodWord)
def wsX4_made_r1 : List Cond := [Cond.classLink RX4 94 "java/lang/IndexOutOfBoundsException", Cond.initialized "java/lang/IndexOutOfBoundsException", Cond.fieldLink RX4 27 "DeltaCodec" "plan" "LDeltaCodec$Plan;", Cond.methodLink RX4 125 yX4_needPlan, Cond.instanceMethod yX4_needPlan, Cond.selects RX4 yX4_needPlan yX4_needPlan, Cond.initialized RX4, Cond.code yX4_needPlan cX4_needPlan 1 none, Cond.classLink RX4 197 "java/lang/IllegalStateException", Cond.initialized "java/lang/IllegalStateException", Cond.methodLink RX4 116 yX1_isMade, Cond.instanceMethod yX1_isMade, Cond.selects RX1 yX1_isMade yX1_isMade, Cond.initialized RX1, Cond.code yX1_isMade cX1_isMade 1 (some .boolean), Cond.fieldLink RX1 33 "DeltaCodec$Plan" "isMade" "Z", Cond.methodLink RX4 124 yX1_count, Cond.instanceMethod yX1_count, Cond.selects RX1 yX1_count yX1_count, Cond.code yX1_count cX1_count 1 (some .int), Cond.fieldLink RX1 14 "DeltaCodec$Plan" "kinds" "LDeltaCodec$Row;", Cond.methodLink RX1 43 yX3_count, Cond.instanceMethod yX3_count, Cond.selects RX3 yX3_count yX3_count]
def wsX4_made_r2 : List Cond := [Cond.initialized RX3, Cond.code yX3_count cX3_count 1 (some .int), Cond.fieldLink RX3 19 "DeltaCodec$Row" "count" "I", Cond.methodLink RX4 134 yX1_kindOf, Cond.instanceMethod yX1_kindOf, Cond.selects RX1 yX1_kindOf yX1_kindOf, Cond.code yX1_kindOf cX1_kindOf 2 (some .int), Cond.methodLink RX1 47 yX3_at, Cond.instanceMethod yX3_at, Cond.selects RX3 yX3_at yX3_at, Cond.code yX3_at cX3_at 2 (some .int), Cond.fieldLink RX3 13 "DeltaCodec$Row" "bytes" "[I", Cond.methodLink RX3 23 yX3_holds, Cond.instanceMethod yX3_holds, Cond.selects RX3 yX3_holds yX3_holds, Cond.code yX3_holds cX3_holds 2 (some .boolean), Cond.methodLink RX4 137 yX1_lengthOf, Cond.instanceMethod yX1_lengthOf, Cond.selects RX1 yX1_lengthOf yX1_lengthOf, Cond.code yX1_lengthOf cX1_lengthOf 2 (some .int), Cond.fieldLink RX1 20 "DeltaCodec$Plan" "lengths" "LDeltaCodec$Row;"]
def wsX4_made : List Cond := .code yX4_made cX4_made 4 (some .int) :: ((wsX4_made_r1 ++ wsX4_made_r2) ++ wsX40 ++ wsX10 ++ wsX30 ++ (vx_atS RX4 98 "java/lang/IndexOutOfBoundsException" ["java/lang/RuntimeException", "java/lang/Exception"]).filter goodWord ++ (vx_atS RX4 201 "java/lang/IllegalStateException" ["java/lang/RuntimeException", "java/lang/Exception"]).filter goodWord)
def wsX4_ratio_r1 : List Cond := [Cond.fieldLink RX4 18 "DeltaCodec" "target" "LDeltaCodec$Row;", Cond.fieldLink RX4 27 "DeltaCodec" "plan" "LDeltaCodec$Plan;", Cond.methodLink RX4 125 yX4_needPlan, Cond.instanceMethod yX4_needPlan, Cond.selects RX4 yX4_needPlan yX4_needPlan, Cond.initialized RX4, Cond.code yX4_needPlan cX4_needPlan 1 none, Cond.classLink RX4 197 "java/lang/IllegalStateException", Cond.initialized "java/lang/IllegalStateException", Cond.methodLink RX4 116 yX1_isMade, Cond.instanceMethod yX1_isMade, Cond.selects RX1 yX1_isMade yX1_isMade, Cond.initialized RX1, Cond.code yX1_isMade cX1_isMade 1 (some .boolean), Cond.fieldLink RX1 33 "DeltaCodec$Plan" "isMade" "Z", Cond.methodLink RX4 70 yX3_count, Cond.instanceMethod yX3_count, Cond.selects RX3 yX3_count yX3_count, Cond.initialized RX3, Cond.code yX3_count cX3_count 1 (some .int), Cond.fieldLink RX3 19 "DeltaCodec$Row" "count" "I", Cond.methodLink RX4 128 yX1_codeBytes, Cond.instanceMethod yX1_codeBytes, Cond.selects RX1 yX1_codeBytes yX1_codeBytes]
def wsX4_ratio_r2 : List Cond := [Cond.code yX1_codeBytes cX1_codeBytes 1 (some .int), Cond.fieldLink RX1 29 "DeltaCodec$Plan" "codeBytes" "I"]
def wsX4_ratio : List Cond := .code yX4_ratio cX4_ratio 2 (some .double) :: ((wsX4_ratio_r1 ++ wsX4_ratio_r2) ++ wsX40 ++ wsX10 ++ wsX30 ++ (vx_atS RX4 201 "java/lang/IllegalStateException" ["java/lang/RuntimeException", "java/lang/Exception"]).filter goodWord)
def wsX4_writeNumber : List Cond := .code yX4_writeNumber cX4_writeNumber 2 none :: ([.fieldLink RX4 21 "DeltaCodec" "code" "LDeltaCodec$Row;", .methodLink RX4 64 yX3_append, .instanceMethod yX3_append, .selects RX3 yX3_append yX3_append, .initialized RX3, .code yX3_append cX3_append 2 none, .fieldLink RX3 19 "DeltaCodec$Row" "count" "I", .fieldLink RX3 13 "DeltaCodec$Row" "bytes" "[I"] ++ wsX40 ++ wsX30)
def wsX4_writeTargetBytes : List Cond := .code yX4_writeTargetBytes cX4_writeTargetBytes 4 none :: ([.fieldLink RX4 21 "DeltaCodec" "code" "LDeltaCodec$Row;", .fieldLink RX4 18 "DeltaCodec" "target" "LDeltaCodec$Row;", .methodLink RX4 80 yX3_at, .instanceMethod yX3_at, .selects RX3 yX3_at yX3_at, .initialized RX3, .code yX3_at cX3_at 2 (some .int), .fieldLink RX3 13 "DeltaCodec$Row" "bytes" "[I", .methodLink RX3 23 yX3_holds, .instanceMethod yX3_holds, .selects RX3 yX3_holds yX3_holds, .code yX3_holds cX3_holds 2 (some .boolean), .fieldLink RX3 19 "DeltaCodec$Row" "count" "I", .methodLink RX4 64 yX3_append, .instanceMethod yX3_append, .selects RX3 yX3_append yX3_append, .code yX3_append cX3_append 2 none] ++ wsX40 ++ wsX30)
def wsX4_writeInstruction_r1 : List Cond := [Cond.fieldLink RX4 27 "DeltaCodec" "plan" "LDeltaCodec$Plan;", Cond.fieldLink RX4 21 "DeltaCodec" "code" "LDeltaCodec$Row;", Cond.methodLink RX4 206 Lib.Math.min.name, Cond.static Lib.Math.min.name, Cond.initialized "java/lang/Math", Cond.code Lib.Math.min.name Lib.Math.min.code 2 (some .int), Cond.methodLink RX4 134 yX1_kindOf, Cond.instanceMethod yX1_kindOf, Cond.selects RX1 yX1_kindOf yX1_kindOf, Cond.initialized RX1, Cond.code yX1_kindOf cX1_kindOf 2 (some .int), Cond.fieldLink RX1 14 "DeltaCodec$Plan" "kinds" "LDeltaCodec$Row;", Cond.methodLink RX1 47 yX3_at, Cond.instanceMethod yX3_at, Cond.selects RX3 yX3_at yX3_at, Cond.initialized RX3, Cond.code yX3_at cX3_at 2 (some .int), Cond.fieldLink RX3 13 "DeltaCodec$Row" "bytes" "[I", Cond.methodLink RX3 23 yX3_holds, Cond.instanceMethod yX3_holds, Cond.selects RX3 yX3_holds yX3_holds, Cond.code yX3_holds cX3_holds 2 (some .boolean), Cond.fieldLink RX3 19 "DeltaCodec$Row" "count" "I", Cond.methodLink RX4 137 yX1_lengthOf]
def wsX4_writeInstruction_r2 : List Cond := [Cond.instanceMethod yX1_lengthOf, Cond.selects RX1 yX1_lengthOf yX1_lengthOf, Cond.code yX1_lengthOf cX1_lengthOf 2 (some .int), Cond.fieldLink RX1 20 "DeltaCodec$Plan" "lengths" "LDeltaCodec$Row;", Cond.methodLink RX4 64 yX3_append, Cond.instanceMethod yX3_append, Cond.selects RX3 yX3_append yX3_append, Cond.code yX3_append cX3_append 2 none, Cond.methodLink RX4 209 yX4_writeNumber, Cond.instanceMethod yX4_writeNumber, Cond.selects RX4 yX4_writeNumber yX4_writeNumber, Cond.initialized RX4, Cond.code yX4_writeNumber cX4_writeNumber 2 none, Cond.methodLink RX4 143 yX1_startOf, Cond.instanceMethod yX1_startOf, Cond.selects RX1 yX1_startOf yX1_startOf, Cond.code yX1_startOf cX1_startOf 2 (some .int), Cond.fieldLink RX1 26 "DeltaCodec$Plan" "starts" "LDeltaCodec$Row;", Cond.methodLink RX4 212 yX4_writeTargetBytes, Cond.instanceMethod yX4_writeTargetBytes, Cond.selects RX4 yX4_writeTargetBytes yX4_writeTargetBytes, Cond.code yX4_writeTargetBytes cX4_writeTargetBytes 4 none, Cond.fieldLink RX4 18 "DeltaCodec" "target" "LDeltaCodec$Row;", Cond.methodLink RX4 80 yX3_at]
def wsX4_writeInstruction_r3 : List Cond := [Cond.methodLink RX4 140 yX1_operandOf, Cond.instanceMethod yX1_operandOf, Cond.selects RX1 yX1_operandOf yX1_operandOf, Cond.code yX1_operandOf cX1_operandOf 2 (some .int), Cond.fieldLink RX1 23 "DeltaCodec$Plan" "operands" "LDeltaCodec$Row;"]
def wsX4_writeInstruction : List Cond := .code yX4_writeInstruction cX4_writeInstruction 4 none :: ((wsX4_writeInstruction_r1 ++ (wsX4_writeInstruction_r2 ++ wsX4_writeInstruction_r3)) ++ wsX40 ++ wsX10 ++ wsX30)
def wsX4_encode_r1 : List Cond := [Cond.fieldLink RX4 21 "DeltaCodec" "code" "LDeltaCodec$Row;", Cond.fieldLink RX4 27 "DeltaCodec" "plan" "LDeltaCodec$Plan;", Cond.fieldLink RX4 18 "DeltaCodec" "target" "LDeltaCodec$Row;", Cond.methodLink RX4 125 yX4_needPlan, Cond.instanceMethod yX4_needPlan, Cond.selects RX4 yX4_needPlan yX4_needPlan, Cond.initialized RX4, Cond.code yX4_needPlan cX4_needPlan 1 none, Cond.classLink RX4 197 "java/lang/IllegalStateException", Cond.initialized "java/lang/IllegalStateException", Cond.methodLink RX4 116 yX1_isMade, Cond.instanceMethod yX1_isMade, Cond.selects RX1 yX1_isMade yX1_isMade, Cond.initialized RX1, Cond.code yX1_isMade cX1_isMade 1 (some .boolean), Cond.fieldLink RX1 33 "DeltaCodec$Plan" "isMade" "Z", Cond.methodLink RX4 91 yX3_clear, Cond.instanceMethod yX3_clear, Cond.selects RX3 yX3_clear yX3_clear, Cond.initialized RX3, Cond.code yX3_clear cX3_clear 1 none, Cond.fieldLink RX3 19 "DeltaCodec$Row" "count" "I", Cond.methodLink RX4 124 yX1_count, Cond.instanceMethod yX1_count]
def wsX4_encode_r2 : List Cond := [Cond.selects RX1 yX1_count yX1_count, Cond.code yX1_count cX1_count 1 (some .int), Cond.fieldLink RX1 14 "DeltaCodec$Plan" "kinds" "LDeltaCodec$Row;", Cond.methodLink RX1 43 yX3_count, Cond.instanceMethod yX3_count, Cond.selects RX3 yX3_count yX3_count, Cond.code yX3_count cX3_count 1 (some .int), Cond.methodLink RX4 148 yX4_writeInstruction, Cond.instanceMethod yX4_writeInstruction, Cond.selects RX4 yX4_writeInstruction yX4_writeInstruction, Cond.code yX4_writeInstruction cX4_writeInstruction 4 none, Cond.methodLink RX4 206 Lib.Math.min.name, Cond.static Lib.Math.min.name, Cond.initialized "java/lang/Math", Cond.code Lib.Math.min.name Lib.Math.min.code 2 (some .int), Cond.methodLink RX4 134 yX1_kindOf, Cond.instanceMethod yX1_kindOf, Cond.selects RX1 yX1_kindOf yX1_kindOf, Cond.code yX1_kindOf cX1_kindOf 2 (some .int), Cond.methodLink RX1 47 yX3_at, Cond.instanceMethod yX3_at, Cond.selects RX3 yX3_at yX3_at, Cond.code yX3_at cX3_at 2 (some .int), Cond.fieldLink RX3 13 "DeltaCodec$Row" "bytes" "[I"]
def wsX4_encode_r3 : List Cond := [Cond.methodLink RX3 23 yX3_holds, Cond.instanceMethod yX3_holds, Cond.selects RX3 yX3_holds yX3_holds, Cond.code yX3_holds cX3_holds 2 (some .boolean), Cond.methodLink RX4 137 yX1_lengthOf, Cond.instanceMethod yX1_lengthOf, Cond.selects RX1 yX1_lengthOf yX1_lengthOf, Cond.code yX1_lengthOf cX1_lengthOf 2 (some .int), Cond.fieldLink RX1 20 "DeltaCodec$Plan" "lengths" "LDeltaCodec$Row;", Cond.methodLink RX4 64 yX3_append, Cond.instanceMethod yX3_append, Cond.selects RX3 yX3_append yX3_append, Cond.code yX3_append cX3_append 2 none, Cond.methodLink RX4 209 yX4_writeNumber, Cond.instanceMethod yX4_writeNumber, Cond.selects RX4 yX4_writeNumber yX4_writeNumber, Cond.code yX4_writeNumber cX4_writeNumber 2 none, Cond.methodLink RX4 143 yX1_startOf, Cond.instanceMethod yX1_startOf, Cond.selects RX1 yX1_startOf yX1_startOf, Cond.code yX1_startOf cX1_startOf 2 (some .int), Cond.fieldLink RX1 26 "DeltaCodec$Plan" "starts" "LDeltaCodec$Row;", Cond.methodLink RX4 212 yX4_writeTargetBytes, Cond.instanceMethod yX4_writeTargetBytes]
def wsX4_encode_r4 : List Cond := [Cond.selects RX4 yX4_writeTargetBytes yX4_writeTargetBytes, Cond.code yX4_writeTargetBytes cX4_writeTargetBytes 4 none, Cond.methodLink RX4 80 yX3_at, Cond.methodLink RX4 140 yX1_operandOf, Cond.instanceMethod yX1_operandOf, Cond.selects RX1 yX1_operandOf yX1_operandOf, Cond.code yX1_operandOf cX1_operandOf 2 (some .int), Cond.fieldLink RX1 23 "DeltaCodec$Plan" "operands" "LDeltaCodec$Row;", Cond.methodLink RX4 70 yX3_count, Cond.methodLink RX4 101 yX4_checkOf, Cond.static yX4_checkOf, Cond.code yX4_checkOf cX4_checkOf 6 (some .int)]
def wsX4_encode : List Cond := .code yX4_encode cX4_encode 2 (some .int) :: ((wsX4_encode_r1 ++ (wsX4_encode_r2 ++ (wsX4_encode_r3 ++ wsX4_encode_r4))) ++ wsX40 ++ wsX10 ++ wsX30 ++ (vx_atS RX4 201 "java/lang/IllegalStateException" ["java/lang/RuntimeException", "java/lang/Exception"]).filter goodWord)
def wsX4_codeSize : List Cond := .code yX4_codeSize cX4_codeSize 1 (some .int) :: ([.fieldLink RX4 21 "DeltaCodec" "code" "LDeltaCodec$Row;", .methodLink RX4 70 yX3_count, .instanceMethod yX3_count, .selects RX3 yX3_count yX3_count, .initialized RX3, .code yX3_count cX3_count 1 (some .int), .fieldLink RX3 19 "DeltaCodec$Row" "count" "I"] ++ wsX40 ++ wsX30)
def wsX4_code : List Cond := .code yX4_code cX4_code 2 (some .int) :: ([.fieldLink RX4 21 "DeltaCodec" "code" "LDeltaCodec$Row;", .methodLink RX4 77 yX4_needPlace, .static yX4_needPlace, .initialized RX4, .code yX4_needPlace cX4_needPlace 2 none, .classLink RX4 94 "java/lang/IndexOutOfBoundsException", .initialized "java/lang/IndexOutOfBoundsException", .methodLink RX4 167 yX3_holds, .instanceMethod yX3_holds, .selects RX3 yX3_holds yX3_holds, .initialized RX3, .code yX3_holds cX3_holds 2 (some .boolean), .fieldLink RX3 19 "DeltaCodec$Row" "count" "I", .fieldLink RX3 13 "DeltaCodec$Row" "bytes" "[I", .methodLink RX4 80 yX3_at, .instanceMethod yX3_at, .selects RX3 yX3_at yX3_at, .code yX3_at cX3_at 2 (some .int), .methodLink RX3 23 yX3_holds] ++ wsX40 ++ wsX30 ++ (vx_atS RX4 98 "java/lang/IndexOutOfBoundsException" ["java/lang/RuntimeException", "java/lang/Exception"]).filter goodWord)
def wsX4_setCode_r1 : List Cond := [Cond.fieldLink RX4 21 "DeltaCodec" "code" "LDeltaCodec$Row;", Cond.methodLink RX4 77 yX4_needPlace, Cond.static yX4_needPlace, Cond.initialized RX4, Cond.code yX4_needPlace cX4_needPlace 2 none, Cond.classLink RX4 94 "java/lang/IndexOutOfBoundsException", Cond.initialized "java/lang/IndexOutOfBoundsException", Cond.methodLink RX4 167 yX3_holds, Cond.instanceMethod yX3_holds, Cond.selects RX3 yX3_holds yX3_holds, Cond.initialized RX3, Cond.code yX3_holds cX3_holds 2 (some .boolean), Cond.fieldLink RX3 19 "DeltaCodec$Row" "count" "I", Cond.fieldLink RX3 13 "DeltaCodec$Row" "bytes" "[I", Cond.methodLink RX4 52 yX4_needWithin, Cond.static yX4_needWithin, Cond.code yX4_needWithin cX4_needWithin 3 none, Cond.classLink RX4 187 "java/lang/IllegalArgumentException", Cond.initialized "java/lang/IllegalArgumentException", Cond.methodLink RX4 80 yX3_at, Cond.instanceMethod yX3_at, Cond.selects RX3 yX3_at yX3_at, Cond.code yX3_at cX3_at 2 (some .int), Cond.methodLink RX3 23 yX3_holds]
def wsX4_setCode_r2 : List Cond := [Cond.methodLink RX4 84 yX3_put, Cond.instanceMethod yX3_put, Cond.selects RX3 yX3_put yX3_put, Cond.code yX3_put cX3_put 3 none]
def wsX4_setCode : List Cond := .code yX4_setCode cX4_setCode 4 (some .int) :: ((wsX4_setCode_r1 ++ wsX4_setCode_r2) ++ wsX40 ++ wsX30 ++ (vx_atS RX4 98 "java/lang/IndexOutOfBoundsException" ["java/lang/RuntimeException", "java/lang/Exception"]).filter goodWord ++ (vx_atS RX4 191 "java/lang/IllegalArgumentException" ["java/lang/RuntimeException", "java/lang/Exception"]).filter goodWord)
def wsX4_cutCode : List Cond := .code yX4_cutCode cX4_cutCode 2 (some .int) :: ([.fieldLink RX4 21 "DeltaCodec" "code" "LDeltaCodec$Row;", .methodLink RX4 70 yX3_count, .instanceMethod yX3_count, .selects RX3 yX3_count yX3_count, .initialized RX3, .code yX3_count cX3_count 1 (some .int), .fieldLink RX3 19 "DeltaCodec$Row" "count" "I", .methodLink RX4 52 yX4_needWithin, .static yX4_needWithin, .initialized RX4, .code yX4_needWithin cX4_needWithin 3 none, .classLink RX4 187 "java/lang/IllegalArgumentException", .initialized "java/lang/IllegalArgumentException", .methodLink RX4 74 yX3_drop, .instanceMethod yX3_drop, .selects RX3 yX3_drop yX3_drop, .code yX3_drop cX3_drop 2 none] ++ wsX40 ++ wsX30 ++ (vx_atS RX4 191 "java/lang/IllegalArgumentException" ["java/lang/RuntimeException", "java/lang/Exception"]).filter goodWord)
def wsX4_appendCode_r1 : List Cond := [Cond.fieldLink RX4 21 "DeltaCodec" "code" "LDeltaCodec$Row;", Cond.methodLink RX4 52 yX4_needWithin, Cond.static yX4_needWithin, Cond.initialized RX4, Cond.code yX4_needWithin cX4_needWithin 3 none, Cond.classLink RX4 187 "java/lang/IllegalArgumentException", Cond.initialized "java/lang/IllegalArgumentException", Cond.methodLink RX4 60 yX4_needRoom, Cond.static yX4_needRoom, Cond.code yX4_needRoom cX4_needRoom 2 none, Cond.classLink RX4 197 "java/lang/IllegalStateException", Cond.initialized "java/lang/IllegalStateException", Cond.methodLink RX4 194 yX3_hasRoom, Cond.instanceMethod yX3_hasRoom, Cond.selects RX3 yX3_hasRoom yX3_hasRoom, Cond.initialized RX3, Cond.code yX3_hasRoom cX3_hasRoom 2 (some .boolean), Cond.fieldLink RX3 13 "DeltaCodec$Row" "bytes" "[I", Cond.fieldLink RX3 19 "DeltaCodec$Row" "count" "I", Cond.methodLink RX4 64 yX3_append, Cond.instanceMethod yX3_append, Cond.selects RX3 yX3_append yX3_append, Cond.code yX3_append cX3_append 2 none, Cond.methodLink RX4 70 yX3_count]
def wsX4_appendCode_r2 : List Cond := [Cond.instanceMethod yX3_count, Cond.selects RX3 yX3_count yX3_count, Cond.code yX3_count cX3_count 1 (some .int)]
def wsX4_appendCode : List Cond := .code yX4_appendCode cX4_appendCode 2 (some .int) :: ((wsX4_appendCode_r1 ++ wsX4_appendCode_r2) ++ wsX40 ++ wsX30 ++ (vx_atS RX4 191 "java/lang/IllegalArgumentException" ["java/lang/RuntimeException", "java/lang/Exception"]).filter goodWord ++ (vx_atS RX4 201 "java/lang/IllegalStateException" ["java/lang/RuntimeException", "java/lang/Exception"]).filter goodWord)
def wsX4_decode_r1 : List Cond := [Cond.fieldLink RX4 41 "DeltaCodec" "decoder" "LDeltaCodec$Decoder;", Cond.fieldLink RX4 21 "DeltaCodec" "code" "LDeltaCodec$Row;", Cond.fieldLink RX4 14 "DeltaCodec" "source" "LDeltaCodec$Row;", Cond.methodLink RX4 151 yX0_readCode, Cond.instanceMethod yX0_readCode, Cond.selects RX0 yX0_readCode yX0_readCode, Cond.initialized RX0, Cond.code yX0_readCode cX0_readCode 5 (some .int), Cond.fieldLink RX0 14 "DeltaCodec$Decoder" "product" "LDeltaCodec$Row;", Cond.fieldLink RX0 20 "DeltaCodec$Decoder" "position" "I", Cond.fieldLink RX0 24 "DeltaCodec$Decoder" "limit" "I", Cond.fieldLink RX0 27 "DeltaCodec$Decoder" "error" "I", Cond.fieldLink RX0 30 "DeltaCodec$Decoder" "errorAt" "I", Cond.methodLink RX0 42 yX3_clear, Cond.instanceMethod yX3_clear, Cond.selects RX3 yX3_clear yX3_clear, Cond.initialized RX3, Cond.code yX3_clear cX3_clear 1 none, Cond.fieldLink RX3 19 "DeltaCodec$Row" "count" "I", Cond.methodLink RX0 45 yX3_count, Cond.instanceMethod yX3_count, Cond.selects RX3 yX3_count yX3_count, Cond.code yX3_count cX3_count 1 (some .int), Cond.methodLink RX0 49 yX0_tell]
def wsX4_decode_r2 : List Cond := [Cond.instanceMethod yX0_tell, Cond.selects RX0 yX0_tell yX0_tell, Cond.code yX0_tell cX0_tell 3 none, Cond.methodLink RX0 53 yX0_readInstruction, Cond.instanceMethod yX0_readInstruction, Cond.selects RX0 yX0_readInstruction yX0_readInstruction, Cond.code yX0_readInstruction cX0_readInstruction 4 none, Cond.fieldLink RX0 33 "DeltaCodec$Decoder" "kind" "I", Cond.fieldLink RX0 36 "DeltaCodec$Decoder" "n" "I", Cond.fieldLink RX0 39 "DeltaCodec$Decoder" "operand" "I", Cond.methodLink RX0 68 yX0_nextByte, Cond.instanceMethod yX0_nextByte, Cond.selects RX0 yX0_nextByte yX0_nextByte, Cond.code yX0_nextByte cX0_nextByte 3 (some .int), Cond.methodLink RX0 75 yX0_passBytes, Cond.instanceMethod yX0_passBytes, Cond.selects RX0 yX0_passBytes yX0_passBytes, Cond.code yX0_passBytes cX0_passBytes 2 none, Cond.methodLink RX0 78 yX3_at, Cond.instanceMethod yX3_at, Cond.selects RX3 yX3_at yX3_at, Cond.code yX3_at cX3_at 2 (some .int), Cond.fieldLink RX3 13 "DeltaCodec$Row" "bytes" "[I", Cond.methodLink RX3 23 yX3_holds]
def wsX4_decode_r3 : List Cond := [Cond.instanceMethod yX3_holds, Cond.selects RX3 yX3_holds yX3_holds, Cond.code yX3_holds cX3_holds 2 (some .boolean), Cond.methodLink RX0 72 yX0_nextNumber, Cond.instanceMethod yX0_nextNumber, Cond.selects RX0 yX0_nextNumber yX0_nextNumber, Cond.code yX0_nextNumber cX0_nextNumber 5 (some .int), Cond.methodLink RX0 57 yX0_judgeInstruction, Cond.instanceMethod yX0_judgeInstruction, Cond.selects RX0 yX0_judgeInstruction yX0_judgeInstruction, Cond.code yX0_judgeInstruction cX0_judgeInstruction 3 none, Cond.methodLink RX0 82 yX3_hasRoom, Cond.instanceMethod yX3_hasRoom, Cond.selects RX3 yX3_hasRoom yX3_hasRoom, Cond.code yX3_hasRoom cX3_hasRoom 2 (some .boolean), Cond.methodLink RX0 61 yX0_makeBytes, Cond.instanceMethod yX0_makeBytes, Cond.selects RX0 yX0_makeBytes yX0_makeBytes, Cond.code yX0_makeBytes cX0_makeBytes 4 none, Cond.methodLink RX0 86 yX0_byteToMake, Cond.instanceMethod yX0_byteToMake, Cond.selects RX0 yX0_byteToMake yX0_byteToMake, Cond.code yX0_byteToMake cX0_byteToMake 4 (some .int), Cond.methodLink RX0 90 yX3_append]
def wsX4_decode_r4 : List Cond := [Cond.instanceMethod yX3_append, Cond.selects RX3 yX3_append yX3_append, Cond.code yX3_append cX3_append 2 none, Cond.methodLink RX0 65 yX0_judgeCheck, Cond.instanceMethod yX0_judgeCheck, Cond.selects RX0 yX0_judgeCheck yX0_judgeCheck, Cond.code yX0_judgeCheck cX0_judgeCheck 4 none, Cond.static yX4_checkOf, Cond.initialized RX4, Cond.code yX4_checkOf cX4_checkOf 6 (some .int), Cond.methodLink RX4 80 yX3_at]
def wsX4_decode : List Cond := .code yX4_decode cX4_decode 1 (some .int) :: ((wsX4_decode_r1 ++ (wsX4_decode_r2 ++ (wsX4_decode_r3 ++ wsX4_decode_r4))) ++ wsX40 ++ wsX00 ++ wsX30)
def wsX4_errorPosition : List Cond := .code yX4_errorPosition cX4_errorPosition 1 (some .int) :: ([.fieldLink RX4 41 "DeltaCodec" "decoder" "LDeltaCodec$Decoder;", .methodLink RX4 155 yX0_errorAt, .instanceMethod yX0_errorAt, .selects RX0 yX0_errorAt yX0_errorAt, .initialized RX0, .code yX0_errorAt cX0_errorAt 1 (some .int), .fieldLink RX0 30 "DeltaCodec$Decoder" "errorAt" "I"] ++ wsX40 ++ wsX00)
def wsX4_outputSize : List Cond := .code yX4_outputSize cX4_outputSize 1 (some .int) :: ([.fieldLink RX4 41 "DeltaCodec" "decoder" "LDeltaCodec$Decoder;", .methodLink RX4 158 yX0_product, .instanceMethod yX0_product, .selects RX0 yX0_product yX0_product, .initialized RX0, .code yX0_product cX0_product 1 (some (.object "DeltaCodec$Row")), .fieldLink RX0 14 "DeltaCodec$Decoder" "product" "LDeltaCodec$Row;", .methodLink RX4 70 yX3_count, .instanceMethod yX3_count, .selects RX3 yX3_count yX3_count, .initialized RX3, .code yX3_count cX3_count 1 (some .int), .fieldLink RX3 19 "DeltaCodec$Row" "count" "I"] ++ wsX40 ++ wsX00 ++ wsX30)
def wsX4_output_r1 : List Cond := [Cond.fieldLink RX4 41 "DeltaCodec" "decoder" "LDeltaCodec$Decoder;", Cond.methodLink RX4 158 yX0_product, Cond.instanceMethod yX0_product, Cond.selects RX0 yX0_product yX0_product, Cond.initialized RX0, Cond.code yX0_product cX0_product 1 (some (.object "DeltaCodec$Row")), Cond.fieldLink RX0 14 "DeltaCodec$Decoder" "product" "LDeltaCodec$Row;", Cond.methodLink RX4 77 yX4_needPlace, Cond.static yX4_needPlace, Cond.initialized RX4, Cond.code yX4_needPlace cX4_needPlace 2 none, Cond.classLink RX4 94 "java/lang/IndexOutOfBoundsException", Cond.initialized "java/lang/IndexOutOfBoundsException", Cond.methodLink RX4 167 yX3_holds, Cond.instanceMethod yX3_holds, Cond.selects RX3 yX3_holds yX3_holds, Cond.initialized RX3, Cond.code yX3_holds cX3_holds 2 (some .boolean), Cond.fieldLink RX3 19 "DeltaCodec$Row" "count" "I", Cond.fieldLink RX3 13 "DeltaCodec$Row" "bytes" "[I", Cond.methodLink RX4 80 yX3_at, Cond.instanceMethod yX3_at, Cond.selects RX3 yX3_at yX3_at, Cond.code yX3_at cX3_at 2 (some .int)]
def wsX4_output_r2 : List Cond := [Cond.methodLink RX3 23 yX3_holds]
def wsX4_output : List Cond := .code yX4_output cX4_output 2 (some .int) :: ((wsX4_output_r1 ++ wsX4_output_r2) ++ wsX40 ++ wsX00 ++ wsX30 ++ (vx_atS RX4 98 "java/lang/IndexOutOfBoundsException" ["java/lang/RuntimeException", "java/lang/Exception"]).filter goodWord)
def wsX4_differences_r1 : List Cond := [Cond.fieldLink RX4 41 "DeltaCodec" "decoder" "LDeltaCodec$Decoder;", Cond.fieldLink RX4 18 "DeltaCodec" "target" "LDeltaCodec$Row;", Cond.methodLink RX4 162 Lib.Math.max.name, Cond.static Lib.Math.max.name, Cond.initialized "java/lang/Math", Cond.code Lib.Math.max.name Lib.Math.max.code 2 (some .int), Cond.methodLink RX4 158 yX0_product, Cond.instanceMethod yX0_product, Cond.selects RX0 yX0_product yX0_product, Cond.initialized RX0, Cond.code yX0_product cX0_product 1 (some (.object "DeltaCodec$Row")), Cond.fieldLink RX0 14 "DeltaCodec$Decoder" "product" "LDeltaCodec$Row;", Cond.methodLink RX4 70 yX3_count, Cond.instanceMethod yX3_count, Cond.selects RX3 yX3_count yX3_count, Cond.initialized RX3, Cond.code yX3_count cX3_count 1 (some .int), Cond.fieldLink RX3 19 "DeltaCodec$Row" "count" "I", Cond.methodLink RX4 167 yX3_holds, Cond.instanceMethod yX3_holds, Cond.selects RX3 yX3_holds yX3_holds, Cond.code yX3_holds cX3_holds 2 (some .boolean), Cond.fieldLink RX3 13 "DeltaCodec$Row" "bytes" "[I", Cond.methodLink RX4 80 yX3_at]
def wsX4_differences_r2 : List Cond := [Cond.instanceMethod yX3_at, Cond.selects RX3 yX3_at yX3_at, Cond.code yX3_at cX3_at 2 (some .int), Cond.methodLink RX3 23 yX3_holds]
def wsX4_differences : List Cond := .code yX4_differences cX4_differences 6 (some .int) :: ((wsX4_differences_r1 ++ wsX4_differences_r2) ++ wsX40 ++ wsX00 ++ wsX30)
def wsX4_digestStep : List Cond := .code yX4_digestStep cX4_digestStep 3 (some .long) :: ([.constantLong RX4 215 (31)])
def wsX4_digestRow : List Cond := .code yX4_digestRow cX4_digestRow 6 (some .long) :: ([.methodLink RX4 70 yX3_count, .instanceMethod yX3_count, .selects RX3 yX3_count yX3_count, .initialized RX3, .code yX3_count cX3_count 1 (some .int), .fieldLink RX3 19 "DeltaCodec$Row" "count" "I", .methodLink RX4 177 yX4_digestStep, .static yX4_digestStep, .initialized RX4, .code yX4_digestStep cX4_digestStep 3 (some .long), .constantLong RX4 215 (31), .methodLink RX4 80 yX3_at, .instanceMethod yX3_at, .selects RX3 yX3_at yX3_at, .code yX3_at cX3_at 2 (some .int), .fieldLink RX3 13 "DeltaCodec$Row" "bytes" "[I", .methodLink RX3 23 yX3_holds, .instanceMethod yX3_holds, .selects RX3 yX3_holds yX3_holds, .code yX3_holds cX3_holds 2 (some .boolean)] ++ wsX30)
def wsX4_digestPlan_r1 : List Cond := [Cond.fieldLink RX4 27 "DeltaCodec" "plan" "LDeltaCodec$Plan;", Cond.methodLink RX4 124 yX1_count, Cond.instanceMethod yX1_count, Cond.selects RX1 yX1_count yX1_count, Cond.initialized RX1, Cond.code yX1_count cX1_count 1 (some .int), Cond.fieldLink RX1 14 "DeltaCodec$Plan" "kinds" "LDeltaCodec$Row;", Cond.methodLink RX1 43 yX3_count, Cond.instanceMethod yX3_count, Cond.selects RX3 yX3_count yX3_count, Cond.initialized RX3, Cond.code yX3_count cX3_count 1 (some .int), Cond.fieldLink RX3 19 "DeltaCodec$Row" "count" "I", Cond.methodLink RX4 177 yX4_digestStep, Cond.static yX4_digestStep, Cond.initialized RX4, Cond.code yX4_digestStep cX4_digestStep 3 (some .long), Cond.constantLong RX4 215 (31), Cond.methodLink RX4 134 yX1_kindOf, Cond.instanceMethod yX1_kindOf, Cond.selects RX1 yX1_kindOf yX1_kindOf, Cond.code yX1_kindOf cX1_kindOf 2 (some .int), Cond.methodLink RX1 47 yX3_at, Cond.instanceMethod yX3_at]
def wsX4_digestPlan_r2 : List Cond := [Cond.selects RX3 yX3_at yX3_at, Cond.code yX3_at cX3_at 2 (some .int), Cond.fieldLink RX3 13 "DeltaCodec$Row" "bytes" "[I", Cond.methodLink RX3 23 yX3_holds, Cond.instanceMethod yX3_holds, Cond.selects RX3 yX3_holds yX3_holds, Cond.code yX3_holds cX3_holds 2 (some .boolean), Cond.methodLink RX4 137 yX1_lengthOf, Cond.instanceMethod yX1_lengthOf, Cond.selects RX1 yX1_lengthOf yX1_lengthOf, Cond.code yX1_lengthOf cX1_lengthOf 2 (some .int), Cond.fieldLink RX1 20 "DeltaCodec$Plan" "lengths" "LDeltaCodec$Row;", Cond.methodLink RX4 140 yX1_operandOf, Cond.instanceMethod yX1_operandOf, Cond.selects RX1 yX1_operandOf yX1_operandOf, Cond.code yX1_operandOf cX1_operandOf 2 (some .int), Cond.fieldLink RX1 23 "DeltaCodec$Plan" "operands" "LDeltaCodec$Row;"]
def wsX4_digestPlan : List Cond := .code yX4_digestPlan cX4_digestPlan 6 (some .long) :: ((wsX4_digestPlan_r1 ++ wsX4_digestPlan_r2) ++ wsX40 ++ wsX10 ++ wsX30)
def wsX4_digest_r1 : List Cond := [Cond.constantLong RX4 171 (101), Cond.fieldLink RX4 14 "DeltaCodec" "source" "LDeltaCodec$Row;", Cond.fieldLink RX4 18 "DeltaCodec" "target" "LDeltaCodec$Row;", Cond.fieldLink RX4 45 "DeltaCodec" "least" "I", Cond.fieldLink RX4 27 "DeltaCodec" "plan" "LDeltaCodec$Plan;", Cond.fieldLink RX4 21 "DeltaCodec" "code" "LDeltaCodec$Row;", Cond.fieldLink RX4 41 "DeltaCodec" "decoder" "LDeltaCodec$Decoder;", Cond.methodLink RX4 173 yX4_digestRow, Cond.static yX4_digestRow, Cond.initialized RX4, Cond.code yX4_digestRow cX4_digestRow 6 (some .long), Cond.methodLink RX4 70 yX3_count, Cond.instanceMethod yX3_count, Cond.selects RX3 yX3_count yX3_count, Cond.initialized RX3, Cond.code yX3_count cX3_count 1 (some .int), Cond.fieldLink RX3 19 "DeltaCodec$Row" "count" "I", Cond.methodLink RX4 177 yX4_digestStep, Cond.static yX4_digestStep, Cond.code yX4_digestStep cX4_digestStep 3 (some .long), Cond.constantLong RX4 215 (31), Cond.methodLink RX4 80 yX3_at, Cond.instanceMethod yX3_at, Cond.selects RX3 yX3_at yX3_at]
def wsX4_digest_r2 : List Cond := [Cond.code yX3_at cX3_at 2 (some .int), Cond.fieldLink RX3 13 "DeltaCodec$Row" "bytes" "[I", Cond.methodLink RX3 23 yX3_holds, Cond.instanceMethod yX3_holds, Cond.selects RX3 yX3_holds yX3_holds, Cond.code yX3_holds cX3_holds 2 (some .boolean), Cond.methodLink RX4 116 yX1_isMade, Cond.instanceMethod yX1_isMade, Cond.selects RX1 yX1_isMade yX1_isMade, Cond.initialized RX1, Cond.code yX1_isMade cX1_isMade 1 (some .boolean), Cond.fieldLink RX1 33 "DeltaCodec$Plan" "isMade" "Z", Cond.methodLink RX4 181 yX4_digestPlan, Cond.instanceMethod yX4_digestPlan, Cond.selects RX4 yX4_digestPlan yX4_digestPlan, Cond.code yX4_digestPlan cX4_digestPlan 6 (some .long), Cond.methodLink RX4 124 yX1_count, Cond.instanceMethod yX1_count, Cond.selects RX1 yX1_count yX1_count, Cond.code yX1_count cX1_count 1 (some .int), Cond.fieldLink RX1 14 "DeltaCodec$Plan" "kinds" "LDeltaCodec$Row;", Cond.methodLink RX1 43 yX3_count, Cond.methodLink RX4 134 yX1_kindOf, Cond.instanceMethod yX1_kindOf]
def wsX4_digest_r3 : List Cond := [Cond.selects RX1 yX1_kindOf yX1_kindOf, Cond.code yX1_kindOf cX1_kindOf 2 (some .int), Cond.methodLink RX1 47 yX3_at, Cond.methodLink RX4 137 yX1_lengthOf, Cond.instanceMethod yX1_lengthOf, Cond.selects RX1 yX1_lengthOf yX1_lengthOf, Cond.code yX1_lengthOf cX1_lengthOf 2 (some .int), Cond.fieldLink RX1 20 "DeltaCodec$Plan" "lengths" "LDeltaCodec$Row;", Cond.methodLink RX4 140 yX1_operandOf, Cond.instanceMethod yX1_operandOf, Cond.selects RX1 yX1_operandOf yX1_operandOf, Cond.code yX1_operandOf cX1_operandOf 2 (some .int), Cond.fieldLink RX1 23 "DeltaCodec$Plan" "operands" "LDeltaCodec$Row;", Cond.methodLink RX4 158 yX0_product, Cond.instanceMethod yX0_product, Cond.selects RX0 yX0_product yX0_product, Cond.initialized RX0, Cond.code yX0_product cX0_product 1 (some (.object "DeltaCodec$Row")), Cond.fieldLink RX0 14 "DeltaCodec$Decoder" "product" "LDeltaCodec$Row;"]
def wsX4_digest : List Cond := .code yX4_digest cX4_digest 3 (some .long) :: ((wsX4_digest_r1 ++ (wsX4_digest_r2 ++ wsX4_digest_r3)) ++ wsX40 ++ wsX30 ++ wsX10 ++ wsX00)
def wsX5_init : List Cond := .code yX5_init cX5_init 1 none :: ([.methodLink RX5 1 objectInit, .instanceMethod objectInit, .code objectInit ⟨#[0xb1]⟩ 1 none, .arrayClass .int, .fieldLink RX5 9 "DeltaCodecModel" "source" "[I", .fieldLink RX5 13 "DeltaCodecModel" "target" "[I", .fieldLink RX5 16 "DeltaCodecModel" "least" "I", .fieldLink RX5 20 "DeltaCodecModel" "kinds" "[I", .fieldLink RX5 23 "DeltaCodecModel" "lengths" "[I", .fieldLink RX5 26 "DeltaCodecModel" "operands" "[I", .fieldLink RX5 29 "DeltaCodecModel" "starts" "[I", .fieldLink RX5 32 "DeltaCodecModel" "code" "[I", .fieldLink RX5 35 "DeltaCodecModel" "output" "[I", .fieldLink RX5 38 "DeltaCodecModel" "errorPosition" "I", .fieldLink RX5 41 "DeltaCodecModel" "costs" "[I", .fieldLink RX5 44 "DeltaCodecModel" "counts" "[I", .fieldLink RX5 47 "DeltaCodecModel" "bestKinds" "[I", .fieldLink RX5 50 "DeltaCodecModel" "bestLengths" "[I", .fieldLink RX5 53 "DeltaCodecModel" "bestOperands" "[I"] ++ wsX50)
def wsX5_thrown : List Cond := .code yX5_thrown cX5_thrown 1 (some .int) :: ([.fieldLink RX5 56 "DeltaCodecModel" "thrown" "I"] ++ wsX50)
def wsX5_no : List Cond := .code yX5_no cX5_no 2 (some .int) :: ([.fieldLink RX5 56 "DeltaCodecModel" "thrown" "I"] ++ wsX50)
def wsX5_isIn : List Cond := .code yX5_isIn cX5_isIn 3 (some .boolean) :: ([])
def wsX5_isSide : List Cond := .code yX5_isSide cX5_isSide 1 (some .boolean) :: ([])
def wsX5_sizeOf : List Cond := .code yX5_sizeOf cX5_sizeOf 2 (some .int) :: ([.fieldLink RX5 59 "DeltaCodecModel" "sourceSize" "I", .fieldLink RX5 62 "DeltaCodecModel" "size" "I"] ++ wsX50)
def wsX5_stringOf : List Cond := .code yX5_stringOf cX5_stringOf 2 (some (.array .int)) :: ([.fieldLink RX5 9 "DeltaCodecModel" "source" "[I", .fieldLink RX5 13 "DeltaCodecModel" "target" "[I"] ++ wsX50)
def wsX5_setSize : List Cond := .code yX5_setSize cX5_setSize 3 none :: ([.fieldLink RX5 59 "DeltaCodecModel" "sourceSize" "I", .fieldLink RX5 62 "DeltaCodecModel" "size" "I", .fieldLink RX5 65 "DeltaCodecModel" "hasPlan" "Z"] ++ wsX50)
def wsX5_feed_r1 : List Cond := [Cond.fieldLink RX5 56 "DeltaCodecModel" "thrown" "I", Cond.constantLong RX5 88 (255), Cond.methodLink RX5 69 yX5_isSide, Cond.static yX5_isSide, Cond.initialized RX5, Cond.code yX5_isSide cX5_isSide 1 (some .boolean), Cond.methodLink RX5 73 yX5_no, Cond.instanceMethod yX5_no, Cond.selects RX5 yX5_no yX5_no, Cond.code yX5_no cX5_no 2 (some .int), Cond.methodLink RX5 77 yX5_isIn, Cond.static yX5_isIn, Cond.code yX5_isIn cX5_isIn 3 (some .boolean), Cond.methodLink RX5 81 yX5_sizeOf, Cond.instanceMethod yX5_sizeOf, Cond.selects RX5 yX5_sizeOf yX5_sizeOf, Cond.code yX5_sizeOf cX5_sizeOf 2 (some .int), Cond.fieldLink RX5 59 "DeltaCodecModel" "sourceSize" "I", Cond.fieldLink RX5 62 "DeltaCodecModel" "size" "I", Cond.methodLink RX5 84 yX5_stringOf, Cond.instanceMethod yX5_stringOf, Cond.selects RX5 yX5_stringOf yX5_stringOf, Cond.code yX5_stringOf cX5_stringOf 2 (some (.array .int)), Cond.fieldLink RX5 9 "DeltaCodecModel" "source" "[I"]
def wsX5_feed_r2 : List Cond := [Cond.fieldLink RX5 13 "DeltaCodecModel" "target" "[I", Cond.methodLink RX5 90 yX5_setSize, Cond.instanceMethod yX5_setSize, Cond.selects RX5 yX5_setSize yX5_setSize, Cond.code yX5_setSize cX5_setSize 3 none, Cond.fieldLink RX5 65 "DeltaCodecModel" "hasPlan" "Z"]
def wsX5_feed : List Cond := .code yX5_feed cX5_feed 7 (some .int) :: ((wsX5_feed_r1 ++ wsX5_feed_r2) ++ wsX50)
def wsX5_fill_r1 : List Cond := [Cond.fieldLink RX5 56 "DeltaCodecModel" "thrown" "I", Cond.methodLink RX5 69 yX5_isSide, Cond.static yX5_isSide, Cond.initialized RX5, Cond.code yX5_isSide cX5_isSide 1 (some .boolean), Cond.methodLink RX5 73 yX5_no, Cond.instanceMethod yX5_no, Cond.selects RX5 yX5_no yX5_no, Cond.code yX5_no cX5_no 2 (some .int), Cond.methodLink RX5 77 yX5_isIn, Cond.static yX5_isIn, Cond.code yX5_isIn cX5_isIn 3 (some .boolean), Cond.methodLink RX5 81 yX5_sizeOf, Cond.instanceMethod yX5_sizeOf, Cond.selects RX5 yX5_sizeOf yX5_sizeOf, Cond.code yX5_sizeOf cX5_sizeOf 2 (some .int), Cond.fieldLink RX5 59 "DeltaCodecModel" "sourceSize" "I", Cond.fieldLink RX5 62 "DeltaCodecModel" "size" "I", Cond.methodLink RX5 84 yX5_stringOf, Cond.instanceMethod yX5_stringOf, Cond.selects RX5 yX5_stringOf yX5_stringOf, Cond.code yX5_stringOf cX5_stringOf 2 (some (.array .int)), Cond.fieldLink RX5 9 "DeltaCodecModel" "source" "[I", Cond.fieldLink RX5 13 "DeltaCodecModel" "target" "[I"]
def wsX5_fill_r2 : List Cond := [Cond.methodLink RX5 90 yX5_setSize, Cond.instanceMethod yX5_setSize, Cond.selects RX5 yX5_setSize yX5_setSize, Cond.code yX5_setSize cX5_setSize 3 none, Cond.fieldLink RX5 65 "DeltaCodecModel" "hasPlan" "Z"]
def wsX5_fill : List Cond := .code yX5_fill cX5_fill 6 (some .int) :: ((wsX5_fill_r1 ++ wsX5_fill_r2) ++ wsX50)
def wsX5_cut : List Cond := .code yX5_cut cX5_cut 3 (some .int) :: ([.fieldLink RX5 56 "DeltaCodecModel" "thrown" "I", .methodLink RX5 69 yX5_isSide, .static yX5_isSide, .initialized RX5, .code yX5_isSide cX5_isSide 1 (some .boolean), .methodLink RX5 73 yX5_no, .instanceMethod yX5_no, .selects RX5 yX5_no yX5_no, .code yX5_no cX5_no 2 (some .int), .methodLink RX5 81 yX5_sizeOf, .instanceMethod yX5_sizeOf, .selects RX5 yX5_sizeOf yX5_sizeOf, .code yX5_sizeOf cX5_sizeOf 2 (some .int), .fieldLink RX5 59 "DeltaCodecModel" "sourceSize" "I", .fieldLink RX5 62 "DeltaCodecModel" "size" "I", .methodLink RX5 77 yX5_isIn, .static yX5_isIn, .code yX5_isIn cX5_isIn 3 (some .boolean), .methodLink RX5 90 yX5_setSize, .instanceMethod yX5_setSize, .selects RX5 yX5_setSize yX5_setSize, .code yX5_setSize cX5_setSize 3 none, .fieldLink RX5 65 "DeltaCodecModel" "hasPlan" "Z"] ++ wsX50)
def wsX5_set_r1 : List Cond := [Cond.fieldLink RX5 56 "DeltaCodecModel" "thrown" "I", Cond.fieldLink RX5 65 "DeltaCodecModel" "hasPlan" "Z", Cond.methodLink RX5 69 yX5_isSide, Cond.static yX5_isSide, Cond.initialized RX5, Cond.code yX5_isSide cX5_isSide 1 (some .boolean), Cond.methodLink RX5 81 yX5_sizeOf, Cond.instanceMethod yX5_sizeOf, Cond.selects RX5 yX5_sizeOf yX5_sizeOf, Cond.code yX5_sizeOf cX5_sizeOf 2 (some .int), Cond.fieldLink RX5 59 "DeltaCodecModel" "sourceSize" "I", Cond.fieldLink RX5 62 "DeltaCodecModel" "size" "I", Cond.methodLink RX5 73 yX5_no, Cond.instanceMethod yX5_no, Cond.selects RX5 yX5_no yX5_no, Cond.code yX5_no cX5_no 2 (some .int), Cond.methodLink RX5 77 yX5_isIn, Cond.static yX5_isIn, Cond.code yX5_isIn cX5_isIn 3 (some .boolean), Cond.methodLink RX5 84 yX5_stringOf, Cond.instanceMethod yX5_stringOf, Cond.selects RX5 yX5_stringOf yX5_stringOf, Cond.code yX5_stringOf cX5_stringOf 2 (some (.array .int)), Cond.fieldLink RX5 9 "DeltaCodecModel" "source" "[I"]
def wsX5_set_r2 : List Cond := [Cond.fieldLink RX5 13 "DeltaCodecModel" "target" "[I"]
def wsX5_set : List Cond := .code yX5_set cX5_set 5 (some .int) :: ((wsX5_set_r1 ++ wsX5_set_r2) ++ wsX50)
def wsX5_size : List Cond := .code yX5_size cX5_size 2 (some .int) :: ([.fieldLink RX5 56 "DeltaCodecModel" "thrown" "I", .methodLink RX5 69 yX5_isSide, .static yX5_isSide, .initialized RX5, .code yX5_isSide cX5_isSide 1 (some .boolean), .methodLink RX5 81 yX5_sizeOf, .instanceMethod yX5_sizeOf, .selects RX5 yX5_sizeOf yX5_sizeOf, .code yX5_sizeOf cX5_sizeOf 2 (some .int), .fieldLink RX5 59 "DeltaCodecModel" "sourceSize" "I", .fieldLink RX5 62 "DeltaCodecModel" "size" "I", .methodLink RX5 73 yX5_no, .instanceMethod yX5_no, .selects RX5 yX5_no yX5_no, .code yX5_no cX5_no 2 (some .int)] ++ wsX50)
def wsX5_byteAt : List Cond := .code yX5_byteAt cX5_byteAt 3 (some .int) :: ([.fieldLink RX5 56 "DeltaCodecModel" "thrown" "I", .methodLink RX5 69 yX5_isSide, .static yX5_isSide, .initialized RX5, .code yX5_isSide cX5_isSide 1 (some .boolean), .methodLink RX5 81 yX5_sizeOf, .instanceMethod yX5_sizeOf, .selects RX5 yX5_sizeOf yX5_sizeOf, .code yX5_sizeOf cX5_sizeOf 2 (some .int), .fieldLink RX5 59 "DeltaCodecModel" "sourceSize" "I", .fieldLink RX5 62 "DeltaCodecModel" "size" "I", .methodLink RX5 84 yX5_stringOf, .instanceMethod yX5_stringOf, .selects RX5 yX5_stringOf yX5_stringOf, .code yX5_stringOf cX5_stringOf 2 (some (.array .int)), .fieldLink RX5 9 "DeltaCodecModel" "source" "[I", .fieldLink RX5 13 "DeltaCodecModel" "target" "[I", .methodLink RX5 73 yX5_no, .instanceMethod yX5_no, .selects RX5 yX5_no yX5_no, .code yX5_no cX5_no 2 (some .int)] ++ wsX50)
def wsX5_turn : List Cond := .code yX5_turn cX5_turn 3 (some .int) :: ([.fieldLink RX5 56 "DeltaCodecModel" "thrown" "I", .fieldLink RX5 9 "DeltaCodecModel" "source" "[I", .fieldLink RX5 13 "DeltaCodecModel" "target" "[I", .fieldLink RX5 59 "DeltaCodecModel" "sourceSize" "I", .fieldLink RX5 62 "DeltaCodecModel" "size" "I", .fieldLink RX5 65 "DeltaCodecModel" "hasPlan" "Z"] ++ wsX50)
def wsX5_advance : List Cond := .code yX5_advance cX5_advance 2 (some .int) :: ([.fieldLink RX5 56 "DeltaCodecModel" "thrown" "I", .fieldLink RX5 9 "DeltaCodecModel" "source" "[I", .fieldLink RX5 13 "DeltaCodecModel" "target" "[I", .fieldLink RX5 62 "DeltaCodecModel" "size" "I", .fieldLink RX5 59 "DeltaCodecModel" "sourceSize" "I", .fieldLink RX5 65 "DeltaCodecModel" "hasPlan" "Z"] ++ wsX50)
def wsX5_checkOf : List Cond := .code yX5_checkOf cX5_checkOf 6 (some .int) :: ([])
def wsX5_check : List Cond := .code yX5_check cX5_check 4 (some .int) :: ([.fieldLink RX5 56 "DeltaCodecModel" "thrown" "I", .methodLink RX5 69 yX5_isSide, .static yX5_isSide, .initialized RX5, .code yX5_isSide cX5_isSide 1 (some .boolean), .methodLink RX5 81 yX5_sizeOf, .instanceMethod yX5_sizeOf, .selects RX5 yX5_sizeOf yX5_sizeOf, .code yX5_sizeOf cX5_sizeOf 2 (some .int), .fieldLink RX5 59 "DeltaCodecModel" "sourceSize" "I", .fieldLink RX5 62 "DeltaCodecModel" "size" "I", .methodLink RX5 73 yX5_no, .instanceMethod yX5_no, .selects RX5 yX5_no yX5_no, .code yX5_no cX5_no 2 (some .int), .methodLink RX5 84 yX5_stringOf, .instanceMethod yX5_stringOf, .selects RX5 yX5_stringOf yX5_stringOf, .code yX5_stringOf cX5_stringOf 2 (some (.array .int)), .fieldLink RX5 9 "DeltaCodecModel" "source" "[I", .fieldLink RX5 13 "DeltaCodecModel" "target" "[I", .methodLink RX5 94 yX5_checkOf, .static yX5_checkOf, .code yX5_checkOf cX5_checkOf 6 (some .int)] ++ wsX50)
def wsX5_common : List Cond := .code yX5_common cX5_common 5 (some .int) :: ([.fieldLink RX5 62 "DeltaCodecModel" "size" "I", .fieldLink RX5 59 "DeltaCodecModel" "sourceSize" "I", .fieldLink RX5 13 "DeltaCodecModel" "target" "[I", .fieldLink RX5 9 "DeltaCodecModel" "source" "[I"] ++ wsX50)
def wsX5_places : List Cond := .code yX5_places cX5_places 3 (some .int) :: ([.fieldLink RX5 59 "DeltaCodecModel" "sourceSize" "I"] ++ wsX50)
def wsX5_longest : List Cond := .code yX5_longest cX5_longest 5 (some .int) :: ([.methodLink RX5 106 Lib.Math.max.name, .static Lib.Math.max.name, .initialized "java/lang/Math", .code Lib.Math.max.name Lib.Math.max.code 2 (some .int), .methodLink RX5 98 yX5_places, .instanceMethod yX5_places, .selects RX5 yX5_places yX5_places, .initialized RX5, .code yX5_places cX5_places 3 (some .int), .fieldLink RX5 59 "DeltaCodecModel" "sourceSize" "I", .methodLink RX5 102 yX5_common, .instanceMethod yX5_common, .selects RX5 yX5_common yX5_common, .code yX5_common cX5_common 5 (some .int), .fieldLink RX5 62 "DeltaCodecModel" "size" "I", .fieldLink RX5 13 "DeltaCodecModel" "target" "[I", .fieldLink RX5 9 "DeltaCodecModel" "source" "[I"] ++ wsX50)
def wsX5_isAsked : List Cond := .code yX5_isAsked cX5_isAsked 3 (some .boolean) :: ([.fieldLink RX5 62 "DeltaCodecModel" "size" "I", .fieldLink RX5 56 "DeltaCodecModel" "thrown" "I", .methodLink RX5 69 yX5_isSide, .static yX5_isSide, .initialized RX5, .code yX5_isSide cX5_isSide 1 (some .boolean)] ++ wsX50)
def wsX5_match_r1 : List Cond := [Cond.methodLink RX5 111 yX5_isAsked, Cond.instanceMethod yX5_isAsked, Cond.selects RX5 yX5_isAsked yX5_isAsked, Cond.initialized RX5, Cond.code yX5_isAsked cX5_isAsked 3 (some .boolean), Cond.fieldLink RX5 62 "DeltaCodecModel" "size" "I", Cond.fieldLink RX5 56 "DeltaCodecModel" "thrown" "I", Cond.methodLink RX5 69 yX5_isSide, Cond.static yX5_isSide, Cond.code yX5_isSide cX5_isSide 1 (some .boolean), Cond.methodLink RX5 115 yX5_longest, Cond.instanceMethod yX5_longest, Cond.selects RX5 yX5_longest yX5_longest, Cond.code yX5_longest cX5_longest 5 (some .int), Cond.methodLink RX5 106 Lib.Math.max.name, Cond.static Lib.Math.max.name, Cond.initialized "java/lang/Math", Cond.code Lib.Math.max.name Lib.Math.max.code 2 (some .int), Cond.methodLink RX5 98 yX5_places, Cond.instanceMethod yX5_places, Cond.selects RX5 yX5_places yX5_places, Cond.code yX5_places cX5_places 3 (some .int), Cond.fieldLink RX5 59 "DeltaCodecModel" "sourceSize" "I", Cond.methodLink RX5 102 yX5_common]
def wsX5_match_r2 : List Cond := [Cond.instanceMethod yX5_common, Cond.selects RX5 yX5_common yX5_common, Cond.code yX5_common cX5_common 5 (some .int), Cond.fieldLink RX5 13 "DeltaCodecModel" "target" "[I", Cond.fieldLink RX5 9 "DeltaCodecModel" "source" "[I"]
def wsX5_match : List Cond := .code yX5_match cX5_match 3 (some .int) :: ((wsX5_match_r1 ++ wsX5_match_r2) ++ wsX50)
def wsX5_matchPlace_r1 : List Cond := [Cond.methodLink RX5 111 yX5_isAsked, Cond.instanceMethod yX5_isAsked, Cond.selects RX5 yX5_isAsked yX5_isAsked, Cond.initialized RX5, Cond.code yX5_isAsked cX5_isAsked 3 (some .boolean), Cond.fieldLink RX5 62 "DeltaCodecModel" "size" "I", Cond.fieldLink RX5 56 "DeltaCodecModel" "thrown" "I", Cond.methodLink RX5 69 yX5_isSide, Cond.static yX5_isSide, Cond.code yX5_isSide cX5_isSide 1 (some .boolean), Cond.methodLink RX5 115 yX5_longest, Cond.instanceMethod yX5_longest, Cond.selects RX5 yX5_longest yX5_longest, Cond.code yX5_longest cX5_longest 5 (some .int), Cond.methodLink RX5 106 Lib.Math.max.name, Cond.static Lib.Math.max.name, Cond.initialized "java/lang/Math", Cond.code Lib.Math.max.name Lib.Math.max.code 2 (some .int), Cond.methodLink RX5 98 yX5_places, Cond.instanceMethod yX5_places, Cond.selects RX5 yX5_places yX5_places, Cond.code yX5_places cX5_places 3 (some .int), Cond.fieldLink RX5 59 "DeltaCodecModel" "sourceSize" "I", Cond.methodLink RX5 102 yX5_common]
def wsX5_matchPlace_r2 : List Cond := [Cond.instanceMethod yX5_common, Cond.selects RX5 yX5_common yX5_common, Cond.code yX5_common cX5_common 5 (some .int), Cond.fieldLink RX5 13 "DeltaCodecModel" "target" "[I", Cond.fieldLink RX5 9 "DeltaCodecModel" "source" "[I"]
def wsX5_matchPlace : List Cond := .code yX5_matchPlace cX5_matchPlace 5 (some .int) :: ((wsX5_matchPlace_r1 ++ wsX5_matchPlace_r2) ++ wsX50)
def wsX5_isBlock : List Cond := .code yX5_isBlock cX5_isBlock 5 (some .boolean) :: ([.fieldLink RX5 62 "DeltaCodecModel" "size" "I", .fieldLink RX5 13 "DeltaCodecModel" "target" "[I", .fieldLink RX5 9 "DeltaCodecModel" "source" "[I"] ++ wsX50)
def wsX5_blocks : List Cond := .code yX5_blocks cX5_blocks 6 (some .int) :: ([.fieldLink RX5 56 "DeltaCodecModel" "thrown" "I", .fieldLink RX5 62 "DeltaCodecModel" "size" "I", .fieldLink RX5 59 "DeltaCodecModel" "sourceSize" "I", .methodLink RX5 77 yX5_isIn, .static yX5_isIn, .initialized RX5, .code yX5_isIn cX5_isIn 3 (some .boolean), .methodLink RX5 73 yX5_no, .instanceMethod yX5_no, .selects RX5 yX5_no yX5_no, .code yX5_no cX5_no 2 (some .int), .methodLink RX5 118 yX5_isBlock, .instanceMethod yX5_isBlock, .selects RX5 yX5_isBlock yX5_isBlock, .code yX5_isBlock cX5_isBlock 5 (some .boolean), .fieldLink RX5 13 "DeltaCodecModel" "target" "[I", .fieldLink RX5 9 "DeltaCodecModel" "source" "[I"] ++ wsX50)
def wsX5_setLeast : List Cond := .code yX5_setLeast cX5_setLeast 3 (some .int) :: ([.fieldLink RX5 56 "DeltaCodecModel" "thrown" "I", .fieldLink RX5 16 "DeltaCodecModel" "least" "I", .fieldLink RX5 65 "DeltaCodecModel" "hasPlan" "Z", .methodLink RX5 77 yX5_isIn, .static yX5_isIn, .initialized RX5, .code yX5_isIn cX5_isIn 3 (some .boolean), .methodLink RX5 73 yX5_no, .instanceMethod yX5_no, .selects RX5 yX5_no yX5_no, .code yX5_no cX5_no 2 (some .int)] ++ wsX50)
def wsX5_numberSize : List Cond := .code yX5_numberSize cX5_numberSize 1 (some .int) :: ([])
def wsX5_headSize : List Cond := .code yX5_headSize cX5_headSize 1 (some .int) :: ([.methodLink RX5 121 yX5_numberSize, .static yX5_numberSize, .initialized RX5, .code yX5_numberSize cX5_numberSize 1 (some .int)])
def wsX5_offer : List Cond := .code yX5_offer cX5_offer 8 none :: ([.fieldLink RX5 41 "DeltaCodecModel" "costs" "[I", .fieldLink RX5 44 "DeltaCodecModel" "counts" "[I", .fieldLink RX5 47 "DeltaCodecModel" "bestKinds" "[I", .fieldLink RX5 50 "DeltaCodecModel" "bestLengths" "[I", .fieldLink RX5 53 "DeltaCodecModel" "bestOperands" "[I"] ++ wsX50)
def wsX5_smallest : List Cond := .code yX5_smallest cX5_smallest 7 (some (.array .int)) :: ([.arrayClass .int, .methodLink RX5 98 yX5_places, .instanceMethod yX5_places, .selects RX5 yX5_places yX5_places, .initialized RX5, .code yX5_places cX5_places 3 (some .int), .fieldLink RX5 59 "DeltaCodecModel" "sourceSize" "I", .methodLink RX5 102 yX5_common, .instanceMethod yX5_common, .selects RX5 yX5_common yX5_common, .code yX5_common cX5_common 5 (some .int), .fieldLink RX5 62 "DeltaCodecModel" "size" "I", .fieldLink RX5 13 "DeltaCodecModel" "target" "[I", .fieldLink RX5 9 "DeltaCodecModel" "source" "[I"] ++ wsX50)
def wsX5_look_r1 : List Cond := [Cond.fieldLink RX5 41 "DeltaCodecModel" "costs" "[I", Cond.fieldLink RX5 62 "DeltaCodecModel" "size" "I", Cond.fieldLink RX5 13 "DeltaCodecModel" "target" "[I", Cond.fieldLink RX5 16 "DeltaCodecModel" "least" "I", Cond.methodLink RX5 124 yX5_headSize, Cond.static yX5_headSize, Cond.initialized RX5, Cond.code yX5_headSize cX5_headSize 1 (some .int), Cond.methodLink RX5 121 yX5_numberSize, Cond.static yX5_numberSize, Cond.code yX5_numberSize cX5_numberSize 1 (some .int), Cond.methodLink RX5 127 yX5_offer, Cond.instanceMethod yX5_offer, Cond.selects RX5 yX5_offer yX5_offer, Cond.code yX5_offer cX5_offer 8 none, Cond.fieldLink RX5 44 "DeltaCodecModel" "counts" "[I", Cond.fieldLink RX5 47 "DeltaCodecModel" "bestKinds" "[I", Cond.fieldLink RX5 50 "DeltaCodecModel" "bestLengths" "[I", Cond.fieldLink RX5 53 "DeltaCodecModel" "bestOperands" "[I", Cond.methodLink RX5 131 yX5_smallest, Cond.instanceMethod yX5_smallest, Cond.selects RX5 yX5_smallest yX5_smallest, Cond.code yX5_smallest cX5_smallest 7 (some (.array .int)), Cond.arrayClass .int]
def wsX5_look_r2 : List Cond := [Cond.methodLink RX5 98 yX5_places, Cond.instanceMethod yX5_places, Cond.selects RX5 yX5_places yX5_places, Cond.code yX5_places cX5_places 3 (some .int), Cond.fieldLink RX5 59 "DeltaCodecModel" "sourceSize" "I", Cond.methodLink RX5 102 yX5_common, Cond.instanceMethod yX5_common, Cond.selects RX5 yX5_common yX5_common, Cond.code yX5_common cX5_common 5 (some .int), Cond.fieldLink RX5 9 "DeltaCodecModel" "source" "[I"]
def wsX5_look : List Cond := .code yX5_look cX5_look 5 none :: ((wsX5_look_r1 ++ wsX5_look_r2) ++ wsX50)
def wsX5_plan_r1 : List Cond := [Cond.fieldLink RX5 56 "DeltaCodecModel" "thrown" "I", Cond.fieldLink RX5 65 "DeltaCodecModel" "hasPlan" "Z", Cond.fieldLink RX5 135 "DeltaCodecModel" "instructions" "I", Cond.fieldLink RX5 41 "DeltaCodecModel" "costs" "[I", Cond.fieldLink RX5 62 "DeltaCodecModel" "size" "I", Cond.fieldLink RX5 44 "DeltaCodecModel" "counts" "[I", Cond.fieldLink RX5 20 "DeltaCodecModel" "kinds" "[I", Cond.fieldLink RX5 47 "DeltaCodecModel" "bestKinds" "[I", Cond.fieldLink RX5 23 "DeltaCodecModel" "lengths" "[I", Cond.fieldLink RX5 50 "DeltaCodecModel" "bestLengths" "[I", Cond.fieldLink RX5 26 "DeltaCodecModel" "operands" "[I", Cond.fieldLink RX5 53 "DeltaCodecModel" "bestOperands" "[I", Cond.fieldLink RX5 29 "DeltaCodecModel" "starts" "[I", Cond.fieldLink RX5 142 "DeltaCodecModel" "cost" "I", Cond.methodLink RX5 138 yX5_look, Cond.instanceMethod yX5_look, Cond.selects RX5 yX5_look yX5_look, Cond.initialized RX5, Cond.code yX5_look cX5_look 5 none, Cond.fieldLink RX5 13 "DeltaCodecModel" "target" "[I", Cond.fieldLink RX5 16 "DeltaCodecModel" "least" "I", Cond.methodLink RX5 124 yX5_headSize, Cond.static yX5_headSize, Cond.code yX5_headSize cX5_headSize 1 (some .int)]
def wsX5_plan_r2 : List Cond := [Cond.methodLink RX5 121 yX5_numberSize, Cond.static yX5_numberSize, Cond.code yX5_numberSize cX5_numberSize 1 (some .int), Cond.methodLink RX5 127 yX5_offer, Cond.instanceMethod yX5_offer, Cond.selects RX5 yX5_offer yX5_offer, Cond.code yX5_offer cX5_offer 8 none, Cond.methodLink RX5 131 yX5_smallest, Cond.instanceMethod yX5_smallest, Cond.selects RX5 yX5_smallest yX5_smallest, Cond.code yX5_smallest cX5_smallest 7 (some (.array .int)), Cond.arrayClass .int, Cond.methodLink RX5 98 yX5_places, Cond.instanceMethod yX5_places, Cond.selects RX5 yX5_places yX5_places, Cond.code yX5_places cX5_places 3 (some .int), Cond.fieldLink RX5 59 "DeltaCodecModel" "sourceSize" "I", Cond.methodLink RX5 102 yX5_common, Cond.instanceMethod yX5_common, Cond.selects RX5 yX5_common yX5_common, Cond.code yX5_common cX5_common 5 (some .int), Cond.fieldLink RX5 9 "DeltaCodecModel" "source" "[I"]
def wsX5_plan : List Cond := .code yX5_plan cX5_plan 2 (some .int) :: ((wsX5_plan_r1 ++ wsX5_plan_r2) ++ wsX50)
def wsX5_hasPlan : List Cond := .code yX5_hasPlan cX5_hasPlan 1 (some .boolean) :: ([.fieldLink RX5 56 "DeltaCodecModel" "thrown" "I", .fieldLink RX5 65 "DeltaCodecModel" "hasPlan" "Z"] ++ wsX50)
def wsX5_cost : List Cond := .code yX5_cost cX5_cost 1 (some .int) :: ([.fieldLink RX5 56 "DeltaCodecModel" "thrown" "I", .fieldLink RX5 65 "DeltaCodecModel" "hasPlan" "Z", .fieldLink RX5 142 "DeltaCodecModel" "cost" "I", .methodLink RX5 73 yX5_no, .instanceMethod yX5_no, .selects RX5 yX5_no yX5_no, .initialized RX5, .code yX5_no cX5_no 2 (some .int)] ++ wsX50)
def wsX5_isAsked_ : List Cond := .code yX5_isAsked_ cX5_isAsked_ 2 (some .boolean) :: ([.fieldLink RX5 65 "DeltaCodecModel" "hasPlan" "Z", .fieldLink RX5 135 "DeltaCodecModel" "instructions" "I", .fieldLink RX5 56 "DeltaCodecModel" "thrown" "I"] ++ wsX50)
def wsX5_kind : List Cond := .code yX5_kind cX5_kind 2 (some .int) :: ([.fieldLink RX5 20 "DeltaCodecModel" "kinds" "[I", .methodLink RX5 145 yX5_isAsked_, .instanceMethod yX5_isAsked_, .selects RX5 yX5_isAsked_ yX5_isAsked_, .initialized RX5, .code yX5_isAsked_ cX5_isAsked_ 2 (some .boolean), .fieldLink RX5 65 "DeltaCodecModel" "hasPlan" "Z", .fieldLink RX5 135 "DeltaCodecModel" "instructions" "I", .fieldLink RX5 56 "DeltaCodecModel" "thrown" "I"] ++ wsX50)
def wsX5_length : List Cond := .code yX5_length cX5_length 2 (some .int) :: ([.fieldLink RX5 23 "DeltaCodecModel" "lengths" "[I", .methodLink RX5 145 yX5_isAsked_, .instanceMethod yX5_isAsked_, .selects RX5 yX5_isAsked_ yX5_isAsked_, .initialized RX5, .code yX5_isAsked_ cX5_isAsked_ 2 (some .boolean), .fieldLink RX5 65 "DeltaCodecModel" "hasPlan" "Z", .fieldLink RX5 135 "DeltaCodecModel" "instructions" "I", .fieldLink RX5 56 "DeltaCodecModel" "thrown" "I"] ++ wsX50)
def wsX5_operand : List Cond := .code yX5_operand cX5_operand 2 (some .int) :: ([.fieldLink RX5 26 "DeltaCodecModel" "operands" "[I", .methodLink RX5 145 yX5_isAsked_, .instanceMethod yX5_isAsked_, .selects RX5 yX5_isAsked_ yX5_isAsked_, .initialized RX5, .code yX5_isAsked_ cX5_isAsked_ 2 (some .boolean), .fieldLink RX5 65 "DeltaCodecModel" "hasPlan" "Z", .fieldLink RX5 135 "DeltaCodecModel" "instructions" "I", .fieldLink RX5 56 "DeltaCodecModel" "thrown" "I"] ++ wsX50)
def wsX5_start : List Cond := .code yX5_start cX5_start 2 (some .int) :: ([.fieldLink RX5 29 "DeltaCodecModel" "starts" "[I", .methodLink RX5 145 yX5_isAsked_, .instanceMethod yX5_isAsked_, .selects RX5 yX5_isAsked_ yX5_isAsked_, .initialized RX5, .code yX5_isAsked_ cX5_isAsked_ 2 (some .boolean), .fieldLink RX5 65 "DeltaCodecModel" "hasPlan" "Z", .fieldLink RX5 135 "DeltaCodecModel" "instructions" "I", .fieldLink RX5 56 "DeltaCodecModel" "thrown" "I"] ++ wsX50)
def wsX5_made : List Cond := .code yX5_made cX5_made 4 (some .int) :: ([.fieldLink RX5 65 "DeltaCodecModel" "hasPlan" "Z", .fieldLink RX5 56 "DeltaCodecModel" "thrown" "I", .fieldLink RX5 135 "DeltaCodecModel" "instructions" "I", .fieldLink RX5 20 "DeltaCodecModel" "kinds" "[I", .fieldLink RX5 23 "DeltaCodecModel" "lengths" "[I", .methodLink RX5 77 yX5_isIn, .static yX5_isIn, .initialized RX5, .code yX5_isIn cX5_isIn 3 (some .boolean)] ++ wsX50)
def wsX5_ratio : List Cond := .code yX5_ratio cX5_ratio 1 (some .double) :: ([.fieldLink RX5 65 "DeltaCodecModel" "hasPlan" "Z", .fieldLink RX5 56 "DeltaCodecModel" "thrown" "I", .fieldLink RX5 62 "DeltaCodecModel" "size" "I", .fieldLink RX5 142 "DeltaCodecModel" "cost" "I", .constantDouble RX5 147 (4611686018427387904)] ++ wsX50)
def wsX5_put : List Cond := .code yX5_put cX5_put 2 none :: ([.fieldLink RX5 32 "DeltaCodecModel" "code" "[I", .fieldLink RX5 149 "DeltaCodecModel" "codeSize" "I"] ++ wsX50)
def wsX5_putNumber : List Cond := .code yX5_putNumber cX5_putNumber 2 none :: ([.methodLink RX5 152 yX5_put, .instanceMethod yX5_put, .selects RX5 yX5_put yX5_put, .initialized RX5, .code yX5_put cX5_put 2 none, .fieldLink RX5 32 "DeltaCodecModel" "code" "[I", .fieldLink RX5 149 "DeltaCodecModel" "codeSize" "I"] ++ wsX50)
def wsX5_encode_r1 : List Cond := [Cond.fieldLink RX5 56 "DeltaCodecModel" "thrown" "I", Cond.fieldLink RX5 65 "DeltaCodecModel" "hasPlan" "Z", Cond.fieldLink RX5 149 "DeltaCodecModel" "codeSize" "I", Cond.fieldLink RX5 135 "DeltaCodecModel" "instructions" "I", Cond.fieldLink RX5 20 "DeltaCodecModel" "kinds" "[I", Cond.fieldLink RX5 23 "DeltaCodecModel" "lengths" "[I", Cond.methodLink RX5 155 Lib.Math.min.name, Cond.static Lib.Math.min.name, Cond.initialized "java/lang/Math", Cond.code Lib.Math.min.name Lib.Math.min.code 2 (some .int), Cond.fieldLink RX5 13 "DeltaCodecModel" "target" "[I", Cond.fieldLink RX5 29 "DeltaCodecModel" "starts" "[I", Cond.fieldLink RX5 26 "DeltaCodecModel" "operands" "[I", Cond.fieldLink RX5 62 "DeltaCodecModel" "size" "I", Cond.methodLink RX5 73 yX5_no, Cond.instanceMethod yX5_no, Cond.selects RX5 yX5_no yX5_no, Cond.initialized RX5, Cond.code yX5_no cX5_no 2 (some .int), Cond.methodLink RX5 152 yX5_put, Cond.instanceMethod yX5_put, Cond.selects RX5 yX5_put yX5_put, Cond.code yX5_put cX5_put 2 none, Cond.fieldLink RX5 32 "DeltaCodecModel" "code" "[I"]
def wsX5_encode_r2 : List Cond := [Cond.methodLink RX5 158 yX5_putNumber, Cond.instanceMethod yX5_putNumber, Cond.selects RX5 yX5_putNumber yX5_putNumber, Cond.code yX5_putNumber cX5_putNumber 2 none, Cond.methodLink RX5 94 yX5_checkOf, Cond.static yX5_checkOf, Cond.code yX5_checkOf cX5_checkOf 6 (some .int)]
def wsX5_encode : List Cond := .code yX5_encode cX5_encode 3 (some .int) :: ((wsX5_encode_r1 ++ wsX5_encode_r2) ++ wsX50)
def wsX5_codeSize : List Cond := .code yX5_codeSize cX5_codeSize 1 (some .int) :: ([.fieldLink RX5 56 "DeltaCodecModel" "thrown" "I", .fieldLink RX5 149 "DeltaCodecModel" "codeSize" "I"] ++ wsX50)
def wsX5_code : List Cond := .code yX5_code cX5_code 2 (some .int) :: ([.fieldLink RX5 56 "DeltaCodecModel" "thrown" "I", .fieldLink RX5 149 "DeltaCodecModel" "codeSize" "I", .fieldLink RX5 32 "DeltaCodecModel" "code" "[I", .methodLink RX5 73 yX5_no, .instanceMethod yX5_no, .selects RX5 yX5_no yX5_no, .initialized RX5, .code yX5_no cX5_no 2 (some .int)] ++ wsX50)
def wsX5_setCode : List Cond := .code yX5_setCode cX5_setCode 4 (some .int) :: ([.fieldLink RX5 56 "DeltaCodecModel" "thrown" "I", .fieldLink RX5 149 "DeltaCodecModel" "codeSize" "I", .fieldLink RX5 32 "DeltaCodecModel" "code" "[I", .methodLink RX5 73 yX5_no, .instanceMethod yX5_no, .selects RX5 yX5_no yX5_no, .initialized RX5, .code yX5_no cX5_no 2 (some .int), .methodLink RX5 77 yX5_isIn, .static yX5_isIn, .code yX5_isIn cX5_isIn 3 (some .boolean)] ++ wsX50)
def wsX5_cutCode : List Cond := .code yX5_cutCode cX5_cutCode 2 (some .int) :: ([.fieldLink RX5 56 "DeltaCodecModel" "thrown" "I", .fieldLink RX5 149 "DeltaCodecModel" "codeSize" "I", .methodLink RX5 77 yX5_isIn, .static yX5_isIn, .initialized RX5, .code yX5_isIn cX5_isIn 3 (some .boolean), .methodLink RX5 73 yX5_no, .instanceMethod yX5_no, .selects RX5 yX5_no yX5_no, .code yX5_no cX5_no 2 (some .int)] ++ wsX50)
def wsX5_appendCode : List Cond := .code yX5_appendCode cX5_appendCode 2 (some .int) :: ([.fieldLink RX5 56 "DeltaCodecModel" "thrown" "I", .fieldLink RX5 149 "DeltaCodecModel" "codeSize" "I", .methodLink RX5 77 yX5_isIn, .static yX5_isIn, .initialized RX5, .code yX5_isIn cX5_isIn 3 (some .boolean), .methodLink RX5 73 yX5_no, .instanceMethod yX5_no, .selects RX5 yX5_no yX5_no, .code yX5_no cX5_no 2 (some .int), .methodLink RX5 152 yX5_put, .instanceMethod yX5_put, .selects RX5 yX5_put yX5_put, .code yX5_put cX5_put 2 none, .fieldLink RX5 32 "DeltaCodecModel" "code" "[I"] ++ wsX50)
def wsX5_fail : List Cond := .code yX5_fail cX5_fail 3 (some .int) :: ([.fieldLink RX5 161 "DeltaCodecModel" "error" "I", .fieldLink RX5 38 "DeltaCodecModel" "errorPosition" "I"] ++ wsX50)
def wsX5_take : List Cond := .code yX5_take cX5_take 1 (some .int) :: ([.fieldLink RX5 164 "DeltaCodecModel" "at" "I", .fieldLink RX5 149 "DeltaCodecModel" "codeSize" "I", .fieldLink RX5 32 "DeltaCodecModel" "code" "[I", .methodLink RX5 167 yX5_fail, .instanceMethod yX5_fail, .selects RX5 yX5_fail yX5_fail, .initialized RX5, .code yX5_fail cX5_fail 3 (some .int), .fieldLink RX5 161 "DeltaCodecModel" "error" "I", .fieldLink RX5 38 "DeltaCodecModel" "errorPosition" "I"] ++ wsX50)
def wsX5_takeNumber : List Cond := .code yX5_takeNumber cX5_takeNumber 3 (some .int) :: ([.fieldLink RX5 161 "DeltaCodecModel" "error" "I", .fieldLink RX5 164 "DeltaCodecModel" "at" "I", .methodLink RX5 170 yX5_take, .instanceMethod yX5_take, .selects RX5 yX5_take yX5_take, .initialized RX5, .code yX5_take cX5_take 1 (some .int), .fieldLink RX5 149 "DeltaCodecModel" "codeSize" "I", .fieldLink RX5 32 "DeltaCodecModel" "code" "[I", .methodLink RX5 167 yX5_fail, .instanceMethod yX5_fail, .selects RX5 yX5_fail yX5_fail, .code yX5_fail cX5_fail 3 (some .int), .fieldLink RX5 38 "DeltaCodecModel" "errorPosition" "I"] ++ wsX50)
def wsX5_takeInstruction : List Cond := .code yX5_takeInstruction cX5_takeInstruction 8 none :: ([.fieldLink RX5 164 "DeltaCodecModel" "at" "I", .fieldLink RX5 161 "DeltaCodecModel" "error" "I", .fieldLink RX5 59 "DeltaCodecModel" "sourceSize" "I", .fieldLink RX5 177 "DeltaCodecModel" "made" "I", .fieldLink RX5 35 "DeltaCodecModel" "output" "[I", .fieldLink RX5 32 "DeltaCodecModel" "code" "[I", .fieldLink RX5 9 "DeltaCodecModel" "source" "[I", .methodLink RX5 170 yX5_take, .instanceMethod yX5_take, .selects RX5 yX5_take yX5_take, .initialized RX5, .code yX5_take cX5_take 1 (some .int), .fieldLink RX5 149 "DeltaCodecModel" "codeSize" "I", .methodLink RX5 167 yX5_fail, .instanceMethod yX5_fail, .selects RX5 yX5_fail yX5_fail, .code yX5_fail cX5_fail 3 (some .int), .fieldLink RX5 38 "DeltaCodecModel" "errorPosition" "I", .methodLink RX5 174 yX5_takeNumber, .instanceMethod yX5_takeNumber, .selects RX5 yX5_takeNumber yX5_takeNumber, .code yX5_takeNumber cX5_takeNumber 3 (some .int)] ++ wsX50)
def wsX5_decode_r1 : List Cond := [Cond.fieldLink RX5 56 "DeltaCodecModel" "thrown" "I", Cond.fieldLink RX5 177 "DeltaCodecModel" "made" "I", Cond.fieldLink RX5 164 "DeltaCodecModel" "at" "I", Cond.fieldLink RX5 161 "DeltaCodecModel" "error" "I", Cond.fieldLink RX5 38 "DeltaCodecModel" "errorPosition" "I", Cond.fieldLink RX5 149 "DeltaCodecModel" "codeSize" "I", Cond.fieldLink RX5 32 "DeltaCodecModel" "code" "[I", Cond.fieldLink RX5 35 "DeltaCodecModel" "output" "[I", Cond.methodLink RX5 167 yX5_fail, Cond.instanceMethod yX5_fail, Cond.selects RX5 yX5_fail yX5_fail, Cond.initialized RX5, Cond.code yX5_fail cX5_fail 3 (some .int), Cond.methodLink RX5 180 yX5_takeInstruction, Cond.instanceMethod yX5_takeInstruction, Cond.selects RX5 yX5_takeInstruction yX5_takeInstruction, Cond.code yX5_takeInstruction cX5_takeInstruction 8 none, Cond.fieldLink RX5 59 "DeltaCodecModel" "sourceSize" "I", Cond.fieldLink RX5 9 "DeltaCodecModel" "source" "[I", Cond.methodLink RX5 170 yX5_take, Cond.instanceMethod yX5_take, Cond.selects RX5 yX5_take yX5_take, Cond.code yX5_take cX5_take 1 (some .int), Cond.methodLink RX5 174 yX5_takeNumber]
def wsX5_decode_r2 : List Cond := [Cond.instanceMethod yX5_takeNumber, Cond.selects RX5 yX5_takeNumber yX5_takeNumber, Cond.code yX5_takeNumber cX5_takeNumber 3 (some .int), Cond.methodLink RX5 94 yX5_checkOf, Cond.static yX5_checkOf, Cond.code yX5_checkOf cX5_checkOf 6 (some .int)]
def wsX5_decode : List Cond := .code yX5_decode cX5_decode 1 (some .int) :: ((wsX5_decode_r1 ++ wsX5_decode_r2) ++ wsX50)
def wsX5_errorPosition : List Cond := .code yX5_errorPosition cX5_errorPosition 1 (some .int) :: ([.fieldLink RX5 56 "DeltaCodecModel" "thrown" "I", .fieldLink RX5 38 "DeltaCodecModel" "errorPosition" "I"] ++ wsX50)
def wsX5_outputSize : List Cond := .code yX5_outputSize cX5_outputSize 1 (some .int) :: ([.fieldLink RX5 56 "DeltaCodecModel" "thrown" "I", .fieldLink RX5 177 "DeltaCodecModel" "made" "I"] ++ wsX50)
def wsX5_output : List Cond := .code yX5_output cX5_output 2 (some .int) :: ([.fieldLink RX5 56 "DeltaCodecModel" "thrown" "I", .fieldLink RX5 177 "DeltaCodecModel" "made" "I", .fieldLink RX5 35 "DeltaCodecModel" "output" "[I", .methodLink RX5 73 yX5_no, .instanceMethod yX5_no, .selects RX5 yX5_no yX5_no, .initialized RX5, .code yX5_no cX5_no 2 (some .int)] ++ wsX50)
def wsX5_differences : List Cond := .code yX5_differences cX5_differences 3 (some .int) :: ([.fieldLink RX5 56 "DeltaCodecModel" "thrown" "I", .fieldLink RX5 62 "DeltaCodecModel" "size" "I", .fieldLink RX5 177 "DeltaCodecModel" "made" "I", .methodLink RX5 183 Lib.Math.abs.name, .static Lib.Math.abs.name, .initialized "java/lang/Math", .code Lib.Math.abs.name Lib.Math.abs.code 1 (some .int), .fieldLink RX5 13 "DeltaCodecModel" "target" "[I", .fieldLink RX5 35 "DeltaCodecModel" "output" "[I"] ++ wsX50)
def wsX5_digest_r1 : List Cond := [Cond.fieldLink RX5 56 "DeltaCodecModel" "thrown" "I", Cond.constantLong RX5 186 (101), Cond.constantLong RX5 188 (31), Cond.fieldLink RX5 16 "DeltaCodecModel" "least" "I", Cond.fieldLink RX5 65 "DeltaCodecModel" "hasPlan" "Z", Cond.fieldLink RX5 135 "DeltaCodecModel" "instructions" "I", Cond.fieldLink RX5 20 "DeltaCodecModel" "kinds" "[I", Cond.fieldLink RX5 23 "DeltaCodecModel" "lengths" "[I", Cond.fieldLink RX5 26 "DeltaCodecModel" "operands" "[I", Cond.fieldLink RX5 149 "DeltaCodecModel" "codeSize" "I", Cond.fieldLink RX5 32 "DeltaCodecModel" "code" "[I", Cond.fieldLink RX5 177 "DeltaCodecModel" "made" "I", Cond.methodLink RX5 81 yX5_sizeOf, Cond.instanceMethod yX5_sizeOf, Cond.selects RX5 yX5_sizeOf yX5_sizeOf, Cond.initialized RX5, Cond.code yX5_sizeOf cX5_sizeOf 2 (some .int), Cond.fieldLink RX5 59 "DeltaCodecModel" "sourceSize" "I", Cond.fieldLink RX5 62 "DeltaCodecModel" "size" "I", Cond.methodLink RX5 84 yX5_stringOf, Cond.instanceMethod yX5_stringOf, Cond.selects RX5 yX5_stringOf yX5_stringOf, Cond.code yX5_stringOf cX5_stringOf 2 (some (.array .int)), Cond.fieldLink RX5 9 "DeltaCodecModel" "source" "[I"]
def wsX5_digest_r2 : List Cond := [Cond.fieldLink RX5 13 "DeltaCodecModel" "target" "[I"]
def wsX5_digest : List Cond := .code yX5_digest cX5_digest 5 (some .long) :: ((wsX5_digest_r1 ++ wsX5_digest_r2) ++ wsX50)
def wsJ9_abs_0f7a4 : List Cond := .code yJ9_abs_0f7a4 cJ9_abs_0f7a4 1 (some .int) :: ([])
def wsJ9_max_7cf53 : List Cond := .code yJ9_max_7cf53 cJ9_max_7cf53 2 (some .int) :: ([])
def wsJ9_min_7cf53 : List Cond := .code yJ9_min_7cf53 cJ9_min_7cf53 2 (some .int) :: ([])
def wsL_feed_r1 : List Cond := [Cond.classLink RL 13 "java/lang/IndexOutOfBoundsException", Cond.classLink RL 15 "java/lang/IllegalArgumentException", Cond.classLink RL 17 "java/lang/IllegalStateException", Cond.methodLink RL 7 yX4_feed, Cond.instanceMethod yX4_feed, Cond.selects RX4 yX4_feed yX4_feed, Cond.initialized RX4, Cond.code yX4_feed cX4_feed 7 (some .int), Cond.fieldLink RX4 27 "DeltaCodec" "plan" "LDeltaCodec$Plan;", Cond.methodLink RX4 49 yX4_needSide, Cond.static yX4_needSide, Cond.code yX4_needSide cX4_needSide 1 none, Cond.classLink RX4 94 "java/lang/IndexOutOfBoundsException", Cond.initialized "java/lang/IndexOutOfBoundsException", Cond.methodLink RX4 52 yX4_needWithin, Cond.static yX4_needWithin, Cond.code yX4_needWithin cX4_needWithin 3 none, Cond.classLink RX4 187 "java/lang/IllegalArgumentException", Cond.initialized "java/lang/IllegalArgumentException", Cond.methodLink RX4 56 yX4_rowOf, Cond.instanceMethod yX4_rowOf, Cond.selects RX4 yX4_rowOf yX4_rowOf, Cond.code yX4_rowOf cX4_rowOf 2 (some (.object "DeltaCodec$Row")), Cond.fieldLink RX4 14 "DeltaCodec" "source" "LDeltaCodec$Row;"]
def wsL_feed_r2 : List Cond := [Cond.fieldLink RX4 18 "DeltaCodec" "target" "LDeltaCodec$Row;", Cond.methodLink RX4 60 yX4_needRoom, Cond.static yX4_needRoom, Cond.code yX4_needRoom cX4_needRoom 2 none, Cond.classLink RX4 197 "java/lang/IllegalStateException", Cond.initialized "java/lang/IllegalStateException", Cond.methodLink RX4 194 yX3_hasRoom, Cond.instanceMethod yX3_hasRoom, Cond.selects RX3 yX3_hasRoom yX3_hasRoom, Cond.initialized RX3, Cond.code yX3_hasRoom cX3_hasRoom 2 (some .boolean), Cond.fieldLink RX3 13 "DeltaCodec$Row" "bytes" "[I", Cond.fieldLink RX3 19 "DeltaCodec$Row" "count" "I", Cond.methodLink RX4 64 yX3_append, Cond.instanceMethod yX3_append, Cond.selects RX3 yX3_append yX3_append, Cond.code yX3_append cX3_append 2 none, Cond.methodLink RX4 67 yX1_forget, Cond.instanceMethod yX1_forget, Cond.selects RX1 yX1_forget yX1_forget, Cond.initialized RX1, Cond.code yX1_forget cX1_forget 1 none, Cond.fieldLink RX1 33 "DeltaCodec$Plan" "isMade" "Z", Cond.methodLink RX4 70 yX3_count]
def wsL_feed_r3 : List Cond := [Cond.instanceMethod yX3_count, Cond.selects RX3 yX3_count yX3_count, Cond.code yX3_count cX3_count 1 (some .int)]
def wsL_feed : List Cond := .codeWith yL_feed cL_feed 7 (some .int) [(0, 13, 16, 13), (0, 13, 20, 15), (0, 13, 24, 17)] :: ((wsL_feed_r1 ++ (wsL_feed_r2 ++ wsL_feed_r3)) ++ wsX40 ++ wsX30 ++ wsX10 ++ (vx_atS RX4 98 "java/lang/IndexOutOfBoundsException" ["java/lang/RuntimeException", "java/lang/Exception"]).filter goodWord ++ (vx_atS RX4 191 "java/lang/IllegalArgumentException" ["java/lang/RuntimeException", "java/lang/Exception"]).filter goodWord ++ (vx_atS RX4 201 "java/lang/IllegalStateException" ["java/lang/RuntimeException", "java/lang/Exception"]).filter goodWord)
def wsL_fill_r1 : List Cond := [Cond.classLink RL 13 "java/lang/IndexOutOfBoundsException", Cond.classLink RL 15 "java/lang/IllegalArgumentException", Cond.classLink RL 17 "java/lang/IllegalStateException", Cond.methodLink RL 19 yX4_fill, Cond.instanceMethod yX4_fill, Cond.selects RX4 yX4_fill yX4_fill, Cond.initialized RX4, Cond.code yX4_fill cX4_fill 6 (some .int), Cond.fieldLink RX4 27 "DeltaCodec" "plan" "LDeltaCodec$Plan;", Cond.methodLink RX4 49 yX4_needSide, Cond.static yX4_needSide, Cond.code yX4_needSide cX4_needSide 1 none, Cond.classLink RX4 94 "java/lang/IndexOutOfBoundsException", Cond.initialized "java/lang/IndexOutOfBoundsException", Cond.methodLink RX4 52 yX4_needWithin, Cond.static yX4_needWithin, Cond.code yX4_needWithin cX4_needWithin 3 none, Cond.classLink RX4 187 "java/lang/IllegalArgumentException", Cond.initialized "java/lang/IllegalArgumentException", Cond.methodLink RX4 56 yX4_rowOf, Cond.instanceMethod yX4_rowOf, Cond.selects RX4 yX4_rowOf yX4_rowOf, Cond.code yX4_rowOf cX4_rowOf 2 (some (.object "DeltaCodec$Row")), Cond.fieldLink RX4 14 "DeltaCodec" "source" "LDeltaCodec$Row;"]
def wsL_fill_r2 : List Cond := [Cond.fieldLink RX4 18 "DeltaCodec" "target" "LDeltaCodec$Row;", Cond.methodLink RX4 60 yX4_needRoom, Cond.static yX4_needRoom, Cond.code yX4_needRoom cX4_needRoom 2 none, Cond.classLink RX4 197 "java/lang/IllegalStateException", Cond.initialized "java/lang/IllegalStateException", Cond.methodLink RX4 194 yX3_hasRoom, Cond.instanceMethod yX3_hasRoom, Cond.selects RX3 yX3_hasRoom yX3_hasRoom, Cond.initialized RX3, Cond.code yX3_hasRoom cX3_hasRoom 2 (some .boolean), Cond.fieldLink RX3 13 "DeltaCodec$Row" "bytes" "[I", Cond.fieldLink RX3 19 "DeltaCodec$Row" "count" "I", Cond.methodLink RX4 64 yX3_append, Cond.instanceMethod yX3_append, Cond.selects RX3 yX3_append yX3_append, Cond.code yX3_append cX3_append 2 none, Cond.methodLink RX4 67 yX1_forget, Cond.instanceMethod yX1_forget, Cond.selects RX1 yX1_forget yX1_forget, Cond.initialized RX1, Cond.code yX1_forget cX1_forget 1 none, Cond.fieldLink RX1 33 "DeltaCodec$Plan" "isMade" "Z", Cond.methodLink RX4 70 yX3_count]
def wsL_fill_r3 : List Cond := [Cond.instanceMethod yX3_count, Cond.selects RX3 yX3_count yX3_count, Cond.code yX3_count cX3_count 1 (some .int)]
def wsL_fill : List Cond := .codeWith yL_fill cL_fill 6 (some .int) [(0, 12, 15, 13), (0, 12, 19, 15), (0, 12, 23, 17)] :: ((wsL_fill_r1 ++ (wsL_fill_r2 ++ wsL_fill_r3)) ++ wsX40 ++ wsX30 ++ wsX10 ++ (vx_atS RX4 98 "java/lang/IndexOutOfBoundsException" ["java/lang/RuntimeException", "java/lang/Exception"]).filter goodWord ++ (vx_atS RX4 191 "java/lang/IllegalArgumentException" ["java/lang/RuntimeException", "java/lang/Exception"]).filter goodWord ++ (vx_atS RX4 201 "java/lang/IllegalStateException" ["java/lang/RuntimeException", "java/lang/Exception"]).filter goodWord)
def wsL_cut_r1 : List Cond := [Cond.classLink RL 13 "java/lang/IndexOutOfBoundsException", Cond.classLink RL 15 "java/lang/IllegalArgumentException", Cond.methodLink RL 23 yX4_cut, Cond.instanceMethod yX4_cut, Cond.selects RX4 yX4_cut yX4_cut, Cond.initialized RX4, Cond.code yX4_cut cX4_cut 4 (some .int), Cond.fieldLink RX4 27 "DeltaCodec" "plan" "LDeltaCodec$Plan;", Cond.methodLink RX4 49 yX4_needSide, Cond.static yX4_needSide, Cond.code yX4_needSide cX4_needSide 1 none, Cond.classLink RX4 94 "java/lang/IndexOutOfBoundsException", Cond.initialized "java/lang/IndexOutOfBoundsException", Cond.methodLink RX4 56 yX4_rowOf, Cond.instanceMethod yX4_rowOf, Cond.selects RX4 yX4_rowOf yX4_rowOf, Cond.code yX4_rowOf cX4_rowOf 2 (some (.object "DeltaCodec$Row")), Cond.fieldLink RX4 14 "DeltaCodec" "source" "LDeltaCodec$Row;", Cond.fieldLink RX4 18 "DeltaCodec" "target" "LDeltaCodec$Row;", Cond.methodLink RX4 70 yX3_count, Cond.instanceMethod yX3_count, Cond.selects RX3 yX3_count yX3_count, Cond.initialized RX3, Cond.code yX3_count cX3_count 1 (some .int)]
def wsL_cut_r2 : List Cond := [Cond.fieldLink RX3 19 "DeltaCodec$Row" "count" "I", Cond.methodLink RX4 52 yX4_needWithin, Cond.static yX4_needWithin, Cond.code yX4_needWithin cX4_needWithin 3 none, Cond.classLink RX4 187 "java/lang/IllegalArgumentException", Cond.initialized "java/lang/IllegalArgumentException", Cond.methodLink RX4 74 yX3_drop, Cond.instanceMethod yX3_drop, Cond.selects RX3 yX3_drop yX3_drop, Cond.code yX3_drop cX3_drop 2 none, Cond.methodLink RX4 67 yX1_forget, Cond.instanceMethod yX1_forget, Cond.selects RX1 yX1_forget yX1_forget, Cond.initialized RX1, Cond.code yX1_forget cX1_forget 1 none, Cond.fieldLink RX1 33 "DeltaCodec$Plan" "isMade" "Z"]
def wsL_cut : List Cond := .codeWith yL_cut cL_cut 5 (some .int) [(0, 10, 13, 13), (0, 10, 17, 15)] :: ((wsL_cut_r1 ++ wsL_cut_r2) ++ wsX40 ++ wsX30 ++ wsX10 ++ (vx_atS RX4 98 "java/lang/IndexOutOfBoundsException" ["java/lang/RuntimeException", "java/lang/Exception"]).filter goodWord ++ (vx_atS RX4 191 "java/lang/IllegalArgumentException" ["java/lang/RuntimeException", "java/lang/Exception"]).filter goodWord)
def wsL_set_r1 : List Cond := [Cond.classLink RL 13 "java/lang/IndexOutOfBoundsException", Cond.classLink RL 15 "java/lang/IllegalArgumentException", Cond.methodLink RL 27 yX4_set, Cond.instanceMethod yX4_set, Cond.selects RX4 yX4_set yX4_set, Cond.initialized RX4, Cond.code yX4_set cX4_set 6 (some .int), Cond.fieldLink RX4 27 "DeltaCodec" "plan" "LDeltaCodec$Plan;", Cond.methodLink RX4 49 yX4_needSide, Cond.static yX4_needSide, Cond.code yX4_needSide cX4_needSide 1 none, Cond.classLink RX4 94 "java/lang/IndexOutOfBoundsException", Cond.initialized "java/lang/IndexOutOfBoundsException", Cond.methodLink RX4 56 yX4_rowOf, Cond.instanceMethod yX4_rowOf, Cond.selects RX4 yX4_rowOf yX4_rowOf, Cond.code yX4_rowOf cX4_rowOf 2 (some (.object "DeltaCodec$Row")), Cond.fieldLink RX4 14 "DeltaCodec" "source" "LDeltaCodec$Row;", Cond.fieldLink RX4 18 "DeltaCodec" "target" "LDeltaCodec$Row;", Cond.methodLink RX4 77 yX4_needPlace, Cond.static yX4_needPlace, Cond.code yX4_needPlace cX4_needPlace 2 none, Cond.methodLink RX4 167 yX3_holds, Cond.instanceMethod yX3_holds]
def wsL_set_r2 : List Cond := [Cond.selects RX3 yX3_holds yX3_holds, Cond.initialized RX3, Cond.code yX3_holds cX3_holds 2 (some .boolean), Cond.fieldLink RX3 19 "DeltaCodec$Row" "count" "I", Cond.fieldLink RX3 13 "DeltaCodec$Row" "bytes" "[I", Cond.methodLink RX4 52 yX4_needWithin, Cond.static yX4_needWithin, Cond.code yX4_needWithin cX4_needWithin 3 none, Cond.classLink RX4 187 "java/lang/IllegalArgumentException", Cond.initialized "java/lang/IllegalArgumentException", Cond.methodLink RX4 80 yX3_at, Cond.instanceMethod yX3_at, Cond.selects RX3 yX3_at yX3_at, Cond.code yX3_at cX3_at 2 (some .int), Cond.methodLink RX3 23 yX3_holds, Cond.methodLink RX4 84 yX3_put, Cond.instanceMethod yX3_put, Cond.selects RX3 yX3_put yX3_put, Cond.code yX3_put cX3_put 3 none, Cond.methodLink RX4 67 yX1_forget, Cond.instanceMethod yX1_forget, Cond.selects RX1 yX1_forget yX1_forget, Cond.initialized RX1, Cond.code yX1_forget cX1_forget 1 none]
def wsL_set_r3 : List Cond := [Cond.fieldLink RX1 33 "DeltaCodec$Plan" "isMade" "Z"]
def wsL_set : List Cond := .codeWith yL_set cL_set 6 (some .int) [(0, 12, 15, 13), (0, 12, 19, 15)] :: ((wsL_set_r1 ++ (wsL_set_r2 ++ wsL_set_r3)) ++ wsX40 ++ wsX30 ++ wsX10 ++ (vx_atS RX4 98 "java/lang/IndexOutOfBoundsException" ["java/lang/RuntimeException", "java/lang/Exception"]).filter goodWord ++ (vx_atS RX4 191 "java/lang/IllegalArgumentException" ["java/lang/RuntimeException", "java/lang/Exception"]).filter goodWord)
def wsL_size : List Cond := .codeWith yL_size cL_size 4 (some .int) [(0, 9, 12, 13)] :: ([.classLink RL 13 "java/lang/IndexOutOfBoundsException", .methodLink RL 30 yX4_size, .instanceMethod yX4_size, .selects RX4 yX4_size yX4_size, .initialized RX4, .code yX4_size cX4_size 2 (some .int), .methodLink RX4 49 yX4_needSide, .static yX4_needSide, .code yX4_needSide cX4_needSide 1 none, .classLink RX4 94 "java/lang/IndexOutOfBoundsException", .initialized "java/lang/IndexOutOfBoundsException", .methodLink RX4 56 yX4_rowOf, .instanceMethod yX4_rowOf, .selects RX4 yX4_rowOf yX4_rowOf, .code yX4_rowOf cX4_rowOf 2 (some (.object "DeltaCodec$Row")), .fieldLink RX4 14 "DeltaCodec" "source" "LDeltaCodec$Row;", .fieldLink RX4 18 "DeltaCodec" "target" "LDeltaCodec$Row;", .methodLink RX4 70 yX3_count, .instanceMethod yX3_count, .selects RX3 yX3_count yX3_count, .initialized RX3, .code yX3_count cX3_count 1 (some .int), .fieldLink RX3 19 "DeltaCodec$Row" "count" "I"] ++ wsX40 ++ wsX30 ++ (vx_atS RX4 98 "java/lang/IndexOutOfBoundsException" ["java/lang/RuntimeException", "java/lang/Exception"]).filter goodWord)
def wsL_byteAt_r1 : List Cond := [Cond.classLink RL 13 "java/lang/IndexOutOfBoundsException", Cond.methodLink RL 34 yX4_byteAt, Cond.instanceMethod yX4_byteAt, Cond.selects RX4 yX4_byteAt yX4_byteAt, Cond.initialized RX4, Cond.code yX4_byteAt cX4_byteAt 4 (some .int), Cond.methodLink RX4 49 yX4_needSide, Cond.static yX4_needSide, Cond.code yX4_needSide cX4_needSide 1 none, Cond.classLink RX4 94 "java/lang/IndexOutOfBoundsException", Cond.initialized "java/lang/IndexOutOfBoundsException", Cond.methodLink RX4 56 yX4_rowOf, Cond.instanceMethod yX4_rowOf, Cond.selects RX4 yX4_rowOf yX4_rowOf, Cond.code yX4_rowOf cX4_rowOf 2 (some (.object "DeltaCodec$Row")), Cond.fieldLink RX4 14 "DeltaCodec" "source" "LDeltaCodec$Row;", Cond.fieldLink RX4 18 "DeltaCodec" "target" "LDeltaCodec$Row;", Cond.methodLink RX4 77 yX4_needPlace, Cond.static yX4_needPlace, Cond.code yX4_needPlace cX4_needPlace 2 none, Cond.methodLink RX4 167 yX3_holds, Cond.instanceMethod yX3_holds, Cond.selects RX3 yX3_holds yX3_holds, Cond.initialized RX3]
def wsL_byteAt_r2 : List Cond := [Cond.code yX3_holds cX3_holds 2 (some .boolean), Cond.fieldLink RX3 19 "DeltaCodec$Row" "count" "I", Cond.fieldLink RX3 13 "DeltaCodec$Row" "bytes" "[I", Cond.methodLink RX4 80 yX3_at, Cond.instanceMethod yX3_at, Cond.selects RX3 yX3_at yX3_at, Cond.code yX3_at cX3_at 2 (some .int), Cond.methodLink RX3 23 yX3_holds]
def wsL_byteAt : List Cond := .codeWith yL_byteAt cL_byteAt 5 (some .int) [(0, 10, 13, 13)] :: ((wsL_byteAt_r1 ++ wsL_byteAt_r2) ++ wsX40 ++ wsX30 ++ (vx_atS RX4 98 "java/lang/IndexOutOfBoundsException" ["java/lang/RuntimeException", "java/lang/Exception"]).filter goodWord)
def wsL_check_r1 : List Cond := [Cond.classLink RL 13 "java/lang/IndexOutOfBoundsException", Cond.methodLink RL 37 yX4_check, Cond.instanceMethod yX4_check, Cond.selects RX4 yX4_check yX4_check, Cond.initialized RX4, Cond.code yX4_check cX4_check 5 (some .int), Cond.classLink RX4 94 "java/lang/IndexOutOfBoundsException", Cond.initialized "java/lang/IndexOutOfBoundsException", Cond.methodLink RX4 49 yX4_needSide, Cond.static yX4_needSide, Cond.code yX4_needSide cX4_needSide 1 none, Cond.methodLink RX4 56 yX4_rowOf, Cond.instanceMethod yX4_rowOf, Cond.selects RX4 yX4_rowOf yX4_rowOf, Cond.code yX4_rowOf cX4_rowOf 2 (some (.object "DeltaCodec$Row")), Cond.fieldLink RX4 14 "DeltaCodec" "source" "LDeltaCodec$Row;", Cond.fieldLink RX4 18 "DeltaCodec" "target" "LDeltaCodec$Row;", Cond.methodLink RX4 70 yX3_count, Cond.instanceMethod yX3_count, Cond.selects RX3 yX3_count yX3_count, Cond.initialized RX3, Cond.code yX3_count cX3_count 1 (some .int), Cond.fieldLink RX3 19 "DeltaCodec$Row" "count" "I", Cond.methodLink RX4 101 yX4_checkOf]
def wsL_check_r2 : List Cond := [Cond.static yX4_checkOf, Cond.code yX4_checkOf cX4_checkOf 6 (some .int), Cond.methodLink RX4 80 yX3_at, Cond.instanceMethod yX3_at, Cond.selects RX3 yX3_at yX3_at, Cond.code yX3_at cX3_at 2 (some .int), Cond.fieldLink RX3 13 "DeltaCodec$Row" "bytes" "[I", Cond.methodLink RX3 23 yX3_holds, Cond.instanceMethod yX3_holds, Cond.selects RX3 yX3_holds yX3_holds, Cond.code yX3_holds cX3_holds 2 (some .boolean)]
def wsL_check : List Cond := .codeWith yL_check cL_check 6 (some .int) [(0, 12, 15, 13)] :: ((wsL_check_r1 ++ wsL_check_r2) ++ wsX40 ++ wsX30 ++ (vx_atS RX4 98 "java/lang/IndexOutOfBoundsException" ["java/lang/RuntimeException", "java/lang/Exception"]).filter goodWord)
def wsL_match_r1 : List Cond := [Cond.classLink RL 13 "java/lang/IndexOutOfBoundsException", Cond.methodLink RL 40 yX4_match, Cond.instanceMethod yX4_match, Cond.selects RX4 yX4_match yX4_match, Cond.initialized RX4, Cond.code yX4_match cX4_match 4 (some .int), Cond.fieldLink RX4 18 "DeltaCodec" "target" "LDeltaCodec$Row;", Cond.methodLink RX4 77 yX4_needPlace, Cond.static yX4_needPlace, Cond.code yX4_needPlace cX4_needPlace 2 none, Cond.classLink RX4 94 "java/lang/IndexOutOfBoundsException", Cond.initialized "java/lang/IndexOutOfBoundsException", Cond.methodLink RX4 167 yX3_holds, Cond.instanceMethod yX3_holds, Cond.selects RX3 yX3_holds yX3_holds, Cond.initialized RX3, Cond.code yX3_holds cX3_holds 2 (some .boolean), Cond.fieldLink RX3 19 "DeltaCodec$Row" "count" "I", Cond.fieldLink RX3 13 "DeltaCodec$Row" "bytes" "[I", Cond.methodLink RX4 49 yX4_needSide, Cond.static yX4_needSide, Cond.code yX4_needSide cX4_needSide 1 none, Cond.methodLink RX4 105 yX4_bestMatchPlace, Cond.instanceMethod yX4_bestMatchPlace]
def wsL_match_r2 : List Cond := [Cond.selects RX4 yX4_bestMatchPlace yX4_bestMatchPlace, Cond.code yX4_bestMatchPlace cX4_bestMatchPlace 8 (some .int), Cond.fieldLink RX4 14 "DeltaCodec" "source" "LDeltaCodec$Row;", Cond.methodLink RX4 70 yX3_count, Cond.instanceMethod yX3_count, Cond.selects RX3 yX3_count yX3_count, Cond.code yX3_count cX3_count 1 (some .int), Cond.methodLink RX4 56 yX4_rowOf, Cond.instanceMethod yX4_rowOf, Cond.selects RX4 yX4_rowOf yX4_rowOf, Cond.code yX4_rowOf cX4_rowOf 2 (some (.object "DeltaCodec$Row")), Cond.methodLink RX4 109 yX4_commonLength, Cond.instanceMethod yX4_commonLength, Cond.selects RX4 yX4_commonLength yX4_commonLength, Cond.code yX4_commonLength cX4_commonLength 6 (some .int), Cond.methodLink RX4 206 Lib.Math.min.name, Cond.static Lib.Math.min.name, Cond.initialized "java/lang/Math", Cond.code Lib.Math.min.name Lib.Math.min.code 2 (some .int), Cond.methodLink RX4 80 yX3_at, Cond.instanceMethod yX3_at, Cond.selects RX3 yX3_at yX3_at, Cond.code yX3_at cX3_at 2 (some .int), Cond.methodLink RX3 23 yX3_holds]
def wsL_match : List Cond := .codeWith yL_match cL_match 5 (some .int) [(0, 10, 13, 13)] :: ((wsL_match_r1 ++ wsL_match_r2) ++ wsX40 ++ wsX30 ++ (vx_atS RX4 98 "java/lang/IndexOutOfBoundsException" ["java/lang/RuntimeException", "java/lang/Exception"]).filter goodWord)
def wsL_matchPlace_r1 : List Cond := [Cond.classLink RL 13 "java/lang/IndexOutOfBoundsException", Cond.methodLink RL 43 yX4_matchPlace, Cond.instanceMethod yX4_matchPlace, Cond.selects RX4 yX4_matchPlace yX4_matchPlace, Cond.initialized RX4, Cond.code yX4_matchPlace cX4_matchPlace 3 (some .int), Cond.fieldLink RX4 18 "DeltaCodec" "target" "LDeltaCodec$Row;", Cond.methodLink RX4 77 yX4_needPlace, Cond.static yX4_needPlace, Cond.code yX4_needPlace cX4_needPlace 2 none, Cond.classLink RX4 94 "java/lang/IndexOutOfBoundsException", Cond.initialized "java/lang/IndexOutOfBoundsException", Cond.methodLink RX4 167 yX3_holds, Cond.instanceMethod yX3_holds, Cond.selects RX3 yX3_holds yX3_holds, Cond.initialized RX3, Cond.code yX3_holds cX3_holds 2 (some .boolean), Cond.fieldLink RX3 19 "DeltaCodec$Row" "count" "I", Cond.fieldLink RX3 13 "DeltaCodec$Row" "bytes" "[I", Cond.methodLink RX4 49 yX4_needSide, Cond.static yX4_needSide, Cond.code yX4_needSide cX4_needSide 1 none, Cond.methodLink RX4 105 yX4_bestMatchPlace, Cond.instanceMethod yX4_bestMatchPlace]
def wsL_matchPlace_r2 : List Cond := [Cond.selects RX4 yX4_bestMatchPlace yX4_bestMatchPlace, Cond.code yX4_bestMatchPlace cX4_bestMatchPlace 8 (some .int), Cond.fieldLink RX4 14 "DeltaCodec" "source" "LDeltaCodec$Row;", Cond.methodLink RX4 70 yX3_count, Cond.instanceMethod yX3_count, Cond.selects RX3 yX3_count yX3_count, Cond.code yX3_count cX3_count 1 (some .int), Cond.methodLink RX4 56 yX4_rowOf, Cond.instanceMethod yX4_rowOf, Cond.selects RX4 yX4_rowOf yX4_rowOf, Cond.code yX4_rowOf cX4_rowOf 2 (some (.object "DeltaCodec$Row")), Cond.methodLink RX4 109 yX4_commonLength, Cond.instanceMethod yX4_commonLength, Cond.selects RX4 yX4_commonLength yX4_commonLength, Cond.code yX4_commonLength cX4_commonLength 6 (some .int), Cond.methodLink RX4 206 Lib.Math.min.name, Cond.static Lib.Math.min.name, Cond.initialized "java/lang/Math", Cond.code Lib.Math.min.name Lib.Math.min.code 2 (some .int), Cond.methodLink RX4 80 yX3_at, Cond.instanceMethod yX3_at, Cond.selects RX3 yX3_at yX3_at, Cond.code yX3_at cX3_at 2 (some .int), Cond.methodLink RX3 23 yX3_holds]
def wsL_matchPlace : List Cond := .codeWith yL_matchPlace cL_matchPlace 5 (some .int) [(0, 10, 13, 13)] :: ((wsL_matchPlace_r1 ++ wsL_matchPlace_r2) ++ wsX40 ++ wsX30 ++ (vx_atS RX4 98 "java/lang/IndexOutOfBoundsException" ["java/lang/RuntimeException", "java/lang/Exception"]).filter goodWord)
def wsL_blocks_r1 : List Cond := [Cond.classLink RL 15 "java/lang/IllegalArgumentException", Cond.methodLink RL 46 yX4_blocks, Cond.instanceMethod yX4_blocks, Cond.selects RX4 yX4_blocks yX4_blocks, Cond.initialized RX4, Cond.code yX4_blocks cX4_blocks 5 (some .int), Cond.fieldLink RX4 18 "DeltaCodec" "target" "LDeltaCodec$Row;", Cond.methodLink RX4 52 yX4_needWithin, Cond.static yX4_needWithin, Cond.code yX4_needWithin cX4_needWithin 3 none, Cond.classLink RX4 187 "java/lang/IllegalArgumentException", Cond.initialized "java/lang/IllegalArgumentException", Cond.methodLink RX4 70 yX3_count, Cond.instanceMethod yX3_count, Cond.selects RX3 yX3_count yX3_count, Cond.initialized RX3, Cond.code yX3_count cX3_count 1 (some .int), Cond.fieldLink RX3 19 "DeltaCodec$Row" "count" "I", Cond.methodLink RX4 112 yX4_isBlockAt, Cond.instanceMethod yX4_isBlockAt, Cond.selects RX4 yX4_isBlockAt yX4_isBlockAt, Cond.code yX4_isBlockAt cX4_isBlockAt 4 (some .boolean), Cond.fieldLink RX4 14 "DeltaCodec" "source" "LDeltaCodec$Row;", Cond.methodLink RX4 162 Lib.Math.max.name]
def wsL_blocks_r2 : List Cond := [Cond.static Lib.Math.max.name, Cond.initialized "java/lang/Math", Cond.code Lib.Math.max.name Lib.Math.max.code 2 (some .int), Cond.methodLink RX4 109 yX4_commonLength, Cond.instanceMethod yX4_commonLength, Cond.selects RX4 yX4_commonLength yX4_commonLength, Cond.code yX4_commonLength cX4_commonLength 6 (some .int), Cond.methodLink RX4 206 Lib.Math.min.name, Cond.static Lib.Math.min.name, Cond.code Lib.Math.min.name Lib.Math.min.code 2 (some .int), Cond.methodLink RX4 80 yX3_at, Cond.instanceMethod yX3_at, Cond.selects RX3 yX3_at yX3_at, Cond.code yX3_at cX3_at 2 (some .int), Cond.fieldLink RX3 13 "DeltaCodec$Row" "bytes" "[I", Cond.methodLink RX3 23 yX3_holds, Cond.instanceMethod yX3_holds, Cond.selects RX3 yX3_holds yX3_holds, Cond.code yX3_holds cX3_holds 2 (some .boolean)]
def wsL_blocks : List Cond := .codeWith yL_blocks cL_blocks 4 (some .int) [(0, 9, 12, 15)] :: ((wsL_blocks_r1 ++ wsL_blocks_r2) ++ wsX40 ++ wsX30 ++ (vx_atS RX4 191 "java/lang/IllegalArgumentException" ["java/lang/RuntimeException", "java/lang/Exception"]).filter goodWord)
def wsL_setLeast : List Cond := .codeWith yL_setLeast cL_setLeast 4 (some .int) [(0, 9, 12, 15)] :: ([.classLink RL 15 "java/lang/IllegalArgumentException", .methodLink RL 49 yX4_setLeast, .instanceMethod yX4_setLeast, .selects RX4 yX4_setLeast yX4_setLeast, .initialized RX4, .code yX4_setLeast cX4_setLeast 3 (some .int), .fieldLink RX4 45 "DeltaCodec" "least" "I", .fieldLink RX4 27 "DeltaCodec" "plan" "LDeltaCodec$Plan;", .methodLink RX4 52 yX4_needWithin, .static yX4_needWithin, .code yX4_needWithin cX4_needWithin 3 none, .classLink RX4 187 "java/lang/IllegalArgumentException", .initialized "java/lang/IllegalArgumentException", .methodLink RX4 67 yX1_forget, .instanceMethod yX1_forget, .selects RX1 yX1_forget yX1_forget, .initialized RX1, .code yX1_forget cX1_forget 1 none, .fieldLink RX1 33 "DeltaCodec$Plan" "isMade" "Z"] ++ wsX40 ++ wsX10 ++ (vx_atS RX4 191 "java/lang/IllegalArgumentException" ["java/lang/RuntimeException", "java/lang/Exception"]).filter goodWord)
def wsL_cost : List Cond := .codeWith yL_cost cL_cost 3 (some .int) [(0, 8, 11, 17)] :: ([.classLink RL 17 "java/lang/IllegalStateException", .methodLink RL 52 yX4_cost, .instanceMethod yX4_cost, .selects RX4 yX4_cost yX4_cost, .initialized RX4, .code yX4_cost cX4_cost 1 (some .int), .fieldLink RX4 27 "DeltaCodec" "plan" "LDeltaCodec$Plan;", .methodLink RX4 125 yX4_needPlan, .instanceMethod yX4_needPlan, .selects RX4 yX4_needPlan yX4_needPlan, .code yX4_needPlan cX4_needPlan 1 none, .classLink RX4 197 "java/lang/IllegalStateException", .initialized "java/lang/IllegalStateException", .methodLink RX4 116 yX1_isMade, .instanceMethod yX1_isMade, .selects RX1 yX1_isMade yX1_isMade, .initialized RX1, .code yX1_isMade cX1_isMade 1 (some .boolean), .fieldLink RX1 33 "DeltaCodec$Plan" "isMade" "Z", .methodLink RX4 128 yX1_codeBytes, .instanceMethod yX1_codeBytes, .selects RX1 yX1_codeBytes yX1_codeBytes, .code yX1_codeBytes cX1_codeBytes 1 (some .int), .fieldLink RX1 29 "DeltaCodec$Plan" "codeBytes" "I"] ++ wsX40 ++ wsX10 ++ (vx_atS RX4 201 "java/lang/IllegalStateException" ["java/lang/RuntimeException", "java/lang/Exception"]).filter goodWord)
def wsL_kind_r1 : List Cond := [Cond.classLink RL 17 "java/lang/IllegalStateException", Cond.classLink RL 13 "java/lang/IndexOutOfBoundsException", Cond.methodLink RL 56 yX4_kind, Cond.instanceMethod yX4_kind, Cond.selects RX4 yX4_kind yX4_kind, Cond.initialized RX4, Cond.code yX4_kind cX4_kind 2 (some .int), Cond.fieldLink RX4 27 "DeltaCodec" "plan" "LDeltaCodec$Plan;", Cond.methodLink RX4 131 yX4_needInstruction, Cond.instanceMethod yX4_needInstruction, Cond.selects RX4 yX4_needInstruction yX4_needInstruction, Cond.code yX4_needInstruction cX4_needInstruction 2 none, Cond.classLink RX4 94 "java/lang/IndexOutOfBoundsException", Cond.initialized "java/lang/IndexOutOfBoundsException", Cond.methodLink RX4 125 yX4_needPlan, Cond.instanceMethod yX4_needPlan, Cond.selects RX4 yX4_needPlan yX4_needPlan, Cond.code yX4_needPlan cX4_needPlan 1 none, Cond.classLink RX4 197 "java/lang/IllegalStateException", Cond.initialized "java/lang/IllegalStateException", Cond.methodLink RX4 116 yX1_isMade, Cond.instanceMethod yX1_isMade, Cond.selects RX1 yX1_isMade yX1_isMade, Cond.initialized RX1]
def wsL_kind_r2 : List Cond := [Cond.code yX1_isMade cX1_isMade 1 (some .boolean), Cond.fieldLink RX1 33 "DeltaCodec$Plan" "isMade" "Z", Cond.methodLink RX4 124 yX1_count, Cond.instanceMethod yX1_count, Cond.selects RX1 yX1_count yX1_count, Cond.code yX1_count cX1_count 1 (some .int), Cond.fieldLink RX1 14 "DeltaCodec$Plan" "kinds" "LDeltaCodec$Row;", Cond.methodLink RX1 43 yX3_count, Cond.instanceMethod yX3_count, Cond.selects RX3 yX3_count yX3_count, Cond.initialized RX3, Cond.code yX3_count cX3_count 1 (some .int), Cond.fieldLink RX3 19 "DeltaCodec$Row" "count" "I", Cond.methodLink RX4 134 yX1_kindOf, Cond.instanceMethod yX1_kindOf, Cond.selects RX1 yX1_kindOf yX1_kindOf, Cond.code yX1_kindOf cX1_kindOf 2 (some .int), Cond.methodLink RX1 47 yX3_at, Cond.instanceMethod yX3_at, Cond.selects RX3 yX3_at yX3_at, Cond.code yX3_at cX3_at 2 (some .int), Cond.fieldLink RX3 13 "DeltaCodec$Row" "bytes" "[I", Cond.methodLink RX3 23 yX3_holds, Cond.instanceMethod yX3_holds]
def wsL_kind_r3 : List Cond := [Cond.selects RX3 yX3_holds yX3_holds, Cond.code yX3_holds cX3_holds 2 (some .boolean)]
def wsL_kind : List Cond := .codeWith yL_kind cL_kind 4 (some .int) [(0, 9, 12, 17), (0, 9, 15, 13)] :: ((wsL_kind_r1 ++ (wsL_kind_r2 ++ wsL_kind_r3)) ++ wsX40 ++ wsX10 ++ wsX30 ++ (vx_atS RX4 98 "java/lang/IndexOutOfBoundsException" ["java/lang/RuntimeException", "java/lang/Exception"]).filter goodWord ++ (vx_atS RX4 201 "java/lang/IllegalStateException" ["java/lang/RuntimeException", "java/lang/Exception"]).filter goodWord)
def wsL_length_r1 : List Cond := [Cond.classLink RL 17 "java/lang/IllegalStateException", Cond.classLink RL 13 "java/lang/IndexOutOfBoundsException", Cond.methodLink RL 59 yX4_length, Cond.instanceMethod yX4_length, Cond.selects RX4 yX4_length yX4_length, Cond.initialized RX4, Cond.code yX4_length cX4_length 2 (some .int), Cond.fieldLink RX4 27 "DeltaCodec" "plan" "LDeltaCodec$Plan;", Cond.methodLink RX4 131 yX4_needInstruction, Cond.instanceMethod yX4_needInstruction, Cond.selects RX4 yX4_needInstruction yX4_needInstruction, Cond.code yX4_needInstruction cX4_needInstruction 2 none, Cond.classLink RX4 94 "java/lang/IndexOutOfBoundsException", Cond.initialized "java/lang/IndexOutOfBoundsException", Cond.methodLink RX4 125 yX4_needPlan, Cond.instanceMethod yX4_needPlan, Cond.selects RX4 yX4_needPlan yX4_needPlan, Cond.code yX4_needPlan cX4_needPlan 1 none, Cond.classLink RX4 197 "java/lang/IllegalStateException", Cond.initialized "java/lang/IllegalStateException", Cond.methodLink RX4 116 yX1_isMade, Cond.instanceMethod yX1_isMade, Cond.selects RX1 yX1_isMade yX1_isMade, Cond.initialized RX1]
def wsL_length_r2 : List Cond := [Cond.code yX1_isMade cX1_isMade 1 (some .boolean), Cond.fieldLink RX1 33 "DeltaCodec$Plan" "isMade" "Z", Cond.methodLink RX4 124 yX1_count, Cond.instanceMethod yX1_count, Cond.selects RX1 yX1_count yX1_count, Cond.code yX1_count cX1_count 1 (some .int), Cond.fieldLink RX1 14 "DeltaCodec$Plan" "kinds" "LDeltaCodec$Row;", Cond.methodLink RX1 43 yX3_count, Cond.instanceMethod yX3_count, Cond.selects RX3 yX3_count yX3_count, Cond.initialized RX3, Cond.code yX3_count cX3_count 1 (some .int), Cond.fieldLink RX3 19 "DeltaCodec$Row" "count" "I", Cond.methodLink RX4 137 yX1_lengthOf, Cond.instanceMethod yX1_lengthOf, Cond.selects RX1 yX1_lengthOf yX1_lengthOf, Cond.code yX1_lengthOf cX1_lengthOf 2 (some .int), Cond.fieldLink RX1 20 "DeltaCodec$Plan" "lengths" "LDeltaCodec$Row;", Cond.methodLink RX1 47 yX3_at, Cond.instanceMethod yX3_at, Cond.selects RX3 yX3_at yX3_at, Cond.code yX3_at cX3_at 2 (some .int), Cond.fieldLink RX3 13 "DeltaCodec$Row" "bytes" "[I", Cond.methodLink RX3 23 yX3_holds]
def wsL_length_r3 : List Cond := [Cond.instanceMethod yX3_holds, Cond.selects RX3 yX3_holds yX3_holds, Cond.code yX3_holds cX3_holds 2 (some .boolean)]
def wsL_length : List Cond := .codeWith yL_length cL_length 4 (some .int) [(0, 9, 12, 17), (0, 9, 15, 13)] :: ((wsL_length_r1 ++ (wsL_length_r2 ++ wsL_length_r3)) ++ wsX40 ++ wsX10 ++ wsX30 ++ (vx_atS RX4 98 "java/lang/IndexOutOfBoundsException" ["java/lang/RuntimeException", "java/lang/Exception"]).filter goodWord ++ (vx_atS RX4 201 "java/lang/IllegalStateException" ["java/lang/RuntimeException", "java/lang/Exception"]).filter goodWord)
def wsL_operand_r1 : List Cond := [Cond.classLink RL 17 "java/lang/IllegalStateException", Cond.classLink RL 13 "java/lang/IndexOutOfBoundsException", Cond.methodLink RL 62 yX4_operand, Cond.instanceMethod yX4_operand, Cond.selects RX4 yX4_operand yX4_operand, Cond.initialized RX4, Cond.code yX4_operand cX4_operand 2 (some .int), Cond.fieldLink RX4 27 "DeltaCodec" "plan" "LDeltaCodec$Plan;", Cond.methodLink RX4 131 yX4_needInstruction, Cond.instanceMethod yX4_needInstruction, Cond.selects RX4 yX4_needInstruction yX4_needInstruction, Cond.code yX4_needInstruction cX4_needInstruction 2 none, Cond.classLink RX4 94 "java/lang/IndexOutOfBoundsException", Cond.initialized "java/lang/IndexOutOfBoundsException", Cond.methodLink RX4 125 yX4_needPlan, Cond.instanceMethod yX4_needPlan, Cond.selects RX4 yX4_needPlan yX4_needPlan, Cond.code yX4_needPlan cX4_needPlan 1 none, Cond.classLink RX4 197 "java/lang/IllegalStateException", Cond.initialized "java/lang/IllegalStateException", Cond.methodLink RX4 116 yX1_isMade, Cond.instanceMethod yX1_isMade, Cond.selects RX1 yX1_isMade yX1_isMade, Cond.initialized RX1]
def wsL_operand_r2 : List Cond := [Cond.code yX1_isMade cX1_isMade 1 (some .boolean), Cond.fieldLink RX1 33 "DeltaCodec$Plan" "isMade" "Z", Cond.methodLink RX4 124 yX1_count, Cond.instanceMethod yX1_count, Cond.selects RX1 yX1_count yX1_count, Cond.code yX1_count cX1_count 1 (some .int), Cond.fieldLink RX1 14 "DeltaCodec$Plan" "kinds" "LDeltaCodec$Row;", Cond.methodLink RX1 43 yX3_count, Cond.instanceMethod yX3_count, Cond.selects RX3 yX3_count yX3_count, Cond.initialized RX3, Cond.code yX3_count cX3_count 1 (some .int), Cond.fieldLink RX3 19 "DeltaCodec$Row" "count" "I", Cond.methodLink RX4 140 yX1_operandOf, Cond.instanceMethod yX1_operandOf, Cond.selects RX1 yX1_operandOf yX1_operandOf, Cond.code yX1_operandOf cX1_operandOf 2 (some .int), Cond.fieldLink RX1 23 "DeltaCodec$Plan" "operands" "LDeltaCodec$Row;", Cond.methodLink RX1 47 yX3_at, Cond.instanceMethod yX3_at, Cond.selects RX3 yX3_at yX3_at, Cond.code yX3_at cX3_at 2 (some .int), Cond.fieldLink RX3 13 "DeltaCodec$Row" "bytes" "[I", Cond.methodLink RX3 23 yX3_holds]
def wsL_operand_r3 : List Cond := [Cond.instanceMethod yX3_holds, Cond.selects RX3 yX3_holds yX3_holds, Cond.code yX3_holds cX3_holds 2 (some .boolean)]
def wsL_operand : List Cond := .codeWith yL_operand cL_operand 4 (some .int) [(0, 9, 12, 17), (0, 9, 15, 13)] :: ((wsL_operand_r1 ++ (wsL_operand_r2 ++ wsL_operand_r3)) ++ wsX40 ++ wsX10 ++ wsX30 ++ (vx_atS RX4 98 "java/lang/IndexOutOfBoundsException" ["java/lang/RuntimeException", "java/lang/Exception"]).filter goodWord ++ (vx_atS RX4 201 "java/lang/IllegalStateException" ["java/lang/RuntimeException", "java/lang/Exception"]).filter goodWord)
def wsL_start_r1 : List Cond := [Cond.classLink RL 17 "java/lang/IllegalStateException", Cond.classLink RL 13 "java/lang/IndexOutOfBoundsException", Cond.methodLink RL 65 yX4_start, Cond.instanceMethod yX4_start, Cond.selects RX4 yX4_start yX4_start, Cond.initialized RX4, Cond.code yX4_start cX4_start 2 (some .int), Cond.fieldLink RX4 27 "DeltaCodec" "plan" "LDeltaCodec$Plan;", Cond.methodLink RX4 131 yX4_needInstruction, Cond.instanceMethod yX4_needInstruction, Cond.selects RX4 yX4_needInstruction yX4_needInstruction, Cond.code yX4_needInstruction cX4_needInstruction 2 none, Cond.classLink RX4 94 "java/lang/IndexOutOfBoundsException", Cond.initialized "java/lang/IndexOutOfBoundsException", Cond.methodLink RX4 125 yX4_needPlan, Cond.instanceMethod yX4_needPlan, Cond.selects RX4 yX4_needPlan yX4_needPlan, Cond.code yX4_needPlan cX4_needPlan 1 none, Cond.classLink RX4 197 "java/lang/IllegalStateException", Cond.initialized "java/lang/IllegalStateException", Cond.methodLink RX4 116 yX1_isMade, Cond.instanceMethod yX1_isMade, Cond.selects RX1 yX1_isMade yX1_isMade, Cond.initialized RX1]
def wsL_start_r2 : List Cond := [Cond.code yX1_isMade cX1_isMade 1 (some .boolean), Cond.fieldLink RX1 33 "DeltaCodec$Plan" "isMade" "Z", Cond.methodLink RX4 124 yX1_count, Cond.instanceMethod yX1_count, Cond.selects RX1 yX1_count yX1_count, Cond.code yX1_count cX1_count 1 (some .int), Cond.fieldLink RX1 14 "DeltaCodec$Plan" "kinds" "LDeltaCodec$Row;", Cond.methodLink RX1 43 yX3_count, Cond.instanceMethod yX3_count, Cond.selects RX3 yX3_count yX3_count, Cond.initialized RX3, Cond.code yX3_count cX3_count 1 (some .int), Cond.fieldLink RX3 19 "DeltaCodec$Row" "count" "I", Cond.methodLink RX4 143 yX1_startOf, Cond.instanceMethod yX1_startOf, Cond.selects RX1 yX1_startOf yX1_startOf, Cond.code yX1_startOf cX1_startOf 2 (some .int), Cond.fieldLink RX1 26 "DeltaCodec$Plan" "starts" "LDeltaCodec$Row;", Cond.methodLink RX1 47 yX3_at, Cond.instanceMethod yX3_at, Cond.selects RX3 yX3_at yX3_at, Cond.code yX3_at cX3_at 2 (some .int), Cond.fieldLink RX3 13 "DeltaCodec$Row" "bytes" "[I", Cond.methodLink RX3 23 yX3_holds]
def wsL_start_r3 : List Cond := [Cond.instanceMethod yX3_holds, Cond.selects RX3 yX3_holds yX3_holds, Cond.code yX3_holds cX3_holds 2 (some .boolean)]
def wsL_start : List Cond := .codeWith yL_start cL_start 4 (some .int) [(0, 9, 12, 17), (0, 9, 15, 13)] :: ((wsL_start_r1 ++ (wsL_start_r2 ++ wsL_start_r3)) ++ wsX40 ++ wsX10 ++ wsX30 ++ (vx_atS RX4 98 "java/lang/IndexOutOfBoundsException" ["java/lang/RuntimeException", "java/lang/Exception"]).filter goodWord ++ (vx_atS RX4 201 "java/lang/IllegalStateException" ["java/lang/RuntimeException", "java/lang/Exception"]).filter goodWord)
def wsL_made_r1 : List Cond := [Cond.classLink RL 17 "java/lang/IllegalStateException", Cond.classLink RL 13 "java/lang/IndexOutOfBoundsException", Cond.methodLink RL 68 yX4_made, Cond.instanceMethod yX4_made, Cond.selects RX4 yX4_made yX4_made, Cond.initialized RX4, Cond.code yX4_made cX4_made 4 (some .int), Cond.classLink RX4 94 "java/lang/IndexOutOfBoundsException", Cond.initialized "java/lang/IndexOutOfBoundsException", Cond.fieldLink RX4 27 "DeltaCodec" "plan" "LDeltaCodec$Plan;", Cond.methodLink RX4 125 yX4_needPlan, Cond.instanceMethod yX4_needPlan, Cond.selects RX4 yX4_needPlan yX4_needPlan, Cond.code yX4_needPlan cX4_needPlan 1 none, Cond.classLink RX4 197 "java/lang/IllegalStateException", Cond.initialized "java/lang/IllegalStateException", Cond.methodLink RX4 116 yX1_isMade, Cond.instanceMethod yX1_isMade, Cond.selects RX1 yX1_isMade yX1_isMade, Cond.initialized RX1, Cond.code yX1_isMade cX1_isMade 1 (some .boolean), Cond.fieldLink RX1 33 "DeltaCodec$Plan" "isMade" "Z", Cond.methodLink RX4 124 yX1_count, Cond.instanceMethod yX1_count]
def wsL_made_r2 : List Cond := [Cond.selects RX1 yX1_count yX1_count, Cond.code yX1_count cX1_count 1 (some .int), Cond.fieldLink RX1 14 "DeltaCodec$Plan" "kinds" "LDeltaCodec$Row;", Cond.methodLink RX1 43 yX3_count, Cond.instanceMethod yX3_count, Cond.selects RX3 yX3_count yX3_count, Cond.initialized RX3, Cond.code yX3_count cX3_count 1 (some .int), Cond.fieldLink RX3 19 "DeltaCodec$Row" "count" "I", Cond.methodLink RX4 134 yX1_kindOf, Cond.instanceMethod yX1_kindOf, Cond.selects RX1 yX1_kindOf yX1_kindOf, Cond.code yX1_kindOf cX1_kindOf 2 (some .int), Cond.methodLink RX1 47 yX3_at, Cond.instanceMethod yX3_at, Cond.selects RX3 yX3_at yX3_at, Cond.code yX3_at cX3_at 2 (some .int), Cond.fieldLink RX3 13 "DeltaCodec$Row" "bytes" "[I", Cond.methodLink RX3 23 yX3_holds, Cond.instanceMethod yX3_holds, Cond.selects RX3 yX3_holds yX3_holds, Cond.code yX3_holds cX3_holds 2 (some .boolean), Cond.methodLink RX4 137 yX1_lengthOf, Cond.instanceMethod yX1_lengthOf]
def wsL_made_r3 : List Cond := [Cond.selects RX1 yX1_lengthOf yX1_lengthOf, Cond.code yX1_lengthOf cX1_lengthOf 2 (some .int), Cond.fieldLink RX1 20 "DeltaCodec$Plan" "lengths" "LDeltaCodec$Row;"]
def wsL_made : List Cond := .codeWith yL_made cL_made 4 (some .int) [(0, 9, 12, 17), (0, 9, 15, 13)] :: ((wsL_made_r1 ++ (wsL_made_r2 ++ wsL_made_r3)) ++ wsX40 ++ wsX10 ++ wsX30 ++ (vx_atS RX4 98 "java/lang/IndexOutOfBoundsException" ["java/lang/RuntimeException", "java/lang/Exception"]).filter goodWord ++ (vx_atS RX4 201 "java/lang/IllegalStateException" ["java/lang/RuntimeException", "java/lang/Exception"]).filter goodWord)
def wsL_ratio_r1 : List Cond := [Cond.classLink RL 17 "java/lang/IllegalStateException", Cond.methodLink RL 71 yX4_ratio, Cond.instanceMethod yX4_ratio, Cond.selects RX4 yX4_ratio yX4_ratio, Cond.initialized RX4, Cond.code yX4_ratio cX4_ratio 2 (some .double), Cond.fieldLink RX4 18 "DeltaCodec" "target" "LDeltaCodec$Row;", Cond.fieldLink RX4 27 "DeltaCodec" "plan" "LDeltaCodec$Plan;", Cond.methodLink RX4 125 yX4_needPlan, Cond.instanceMethod yX4_needPlan, Cond.selects RX4 yX4_needPlan yX4_needPlan, Cond.code yX4_needPlan cX4_needPlan 1 none, Cond.classLink RX4 197 "java/lang/IllegalStateException", Cond.initialized "java/lang/IllegalStateException", Cond.methodLink RX4 116 yX1_isMade, Cond.instanceMethod yX1_isMade, Cond.selects RX1 yX1_isMade yX1_isMade, Cond.initialized RX1, Cond.code yX1_isMade cX1_isMade 1 (some .boolean), Cond.fieldLink RX1 33 "DeltaCodec$Plan" "isMade" "Z", Cond.methodLink RX4 70 yX3_count, Cond.instanceMethod yX3_count, Cond.selects RX3 yX3_count yX3_count, Cond.initialized RX3]
def wsL_ratio_r2 : List Cond := [Cond.code yX3_count cX3_count 1 (some .int), Cond.fieldLink RX3 19 "DeltaCodec$Row" "count" "I", Cond.methodLink RX4 128 yX1_codeBytes, Cond.instanceMethod yX1_codeBytes, Cond.selects RX1 yX1_codeBytes yX1_codeBytes, Cond.code yX1_codeBytes cX1_codeBytes 1 (some .int), Cond.fieldLink RX1 29 "DeltaCodec$Plan" "codeBytes" "I"]
def wsL_ratio : List Cond := .codeWith yL_ratio cL_ratio 3 (some .int) [(0, 7, 10, 17)] :: ((wsL_ratio_r1 ++ wsL_ratio_r2) ++ wsX40 ++ wsX10 ++ wsX30 ++ (vx_atS RX4 201 "java/lang/IllegalStateException" ["java/lang/RuntimeException", "java/lang/Exception"]).filter goodWord)
def wsL_encode_r1 : List Cond := [Cond.classLink RL 17 "java/lang/IllegalStateException", Cond.methodLink RL 75 yX4_encode, Cond.instanceMethod yX4_encode, Cond.selects RX4 yX4_encode yX4_encode, Cond.initialized RX4, Cond.code yX4_encode cX4_encode 2 (some .int), Cond.fieldLink RX4 21 "DeltaCodec" "code" "LDeltaCodec$Row;", Cond.fieldLink RX4 27 "DeltaCodec" "plan" "LDeltaCodec$Plan;", Cond.fieldLink RX4 18 "DeltaCodec" "target" "LDeltaCodec$Row;", Cond.methodLink RX4 125 yX4_needPlan, Cond.instanceMethod yX4_needPlan, Cond.selects RX4 yX4_needPlan yX4_needPlan, Cond.code yX4_needPlan cX4_needPlan 1 none, Cond.classLink RX4 197 "java/lang/IllegalStateException", Cond.initialized "java/lang/IllegalStateException", Cond.methodLink RX4 116 yX1_isMade, Cond.instanceMethod yX1_isMade, Cond.selects RX1 yX1_isMade yX1_isMade, Cond.initialized RX1, Cond.code yX1_isMade cX1_isMade 1 (some .boolean), Cond.fieldLink RX1 33 "DeltaCodec$Plan" "isMade" "Z", Cond.methodLink RX4 91 yX3_clear, Cond.instanceMethod yX3_clear, Cond.selects RX3 yX3_clear yX3_clear]
def wsL_encode_r2 : List Cond := [Cond.initialized RX3, Cond.code yX3_clear cX3_clear 1 none, Cond.fieldLink RX3 19 "DeltaCodec$Row" "count" "I", Cond.methodLink RX4 124 yX1_count, Cond.instanceMethod yX1_count, Cond.selects RX1 yX1_count yX1_count, Cond.code yX1_count cX1_count 1 (some .int), Cond.fieldLink RX1 14 "DeltaCodec$Plan" "kinds" "LDeltaCodec$Row;", Cond.methodLink RX1 43 yX3_count, Cond.instanceMethod yX3_count, Cond.selects RX3 yX3_count yX3_count, Cond.code yX3_count cX3_count 1 (some .int), Cond.methodLink RX4 148 yX4_writeInstruction, Cond.instanceMethod yX4_writeInstruction, Cond.selects RX4 yX4_writeInstruction yX4_writeInstruction, Cond.code yX4_writeInstruction cX4_writeInstruction 4 none, Cond.methodLink RX4 206 Lib.Math.min.name, Cond.static Lib.Math.min.name, Cond.initialized "java/lang/Math", Cond.code Lib.Math.min.name Lib.Math.min.code 2 (some .int), Cond.methodLink RX4 134 yX1_kindOf, Cond.instanceMethod yX1_kindOf, Cond.selects RX1 yX1_kindOf yX1_kindOf, Cond.code yX1_kindOf cX1_kindOf 2 (some .int)]
def wsL_encode_r3 : List Cond := [Cond.methodLink RX1 47 yX3_at, Cond.instanceMethod yX3_at, Cond.selects RX3 yX3_at yX3_at, Cond.code yX3_at cX3_at 2 (some .int), Cond.fieldLink RX3 13 "DeltaCodec$Row" "bytes" "[I", Cond.methodLink RX3 23 yX3_holds, Cond.instanceMethod yX3_holds, Cond.selects RX3 yX3_holds yX3_holds, Cond.code yX3_holds cX3_holds 2 (some .boolean), Cond.methodLink RX4 137 yX1_lengthOf, Cond.instanceMethod yX1_lengthOf, Cond.selects RX1 yX1_lengthOf yX1_lengthOf, Cond.code yX1_lengthOf cX1_lengthOf 2 (some .int), Cond.fieldLink RX1 20 "DeltaCodec$Plan" "lengths" "LDeltaCodec$Row;", Cond.methodLink RX4 64 yX3_append, Cond.instanceMethod yX3_append, Cond.selects RX3 yX3_append yX3_append, Cond.code yX3_append cX3_append 2 none, Cond.methodLink RX4 209 yX4_writeNumber, Cond.instanceMethod yX4_writeNumber, Cond.selects RX4 yX4_writeNumber yX4_writeNumber, Cond.code yX4_writeNumber cX4_writeNumber 2 none, Cond.methodLink RX4 143 yX1_startOf, Cond.instanceMethod yX1_startOf]
def wsL_encode_r4 : List Cond := [Cond.selects RX1 yX1_startOf yX1_startOf, Cond.code yX1_startOf cX1_startOf 2 (some .int), Cond.fieldLink RX1 26 "DeltaCodec$Plan" "starts" "LDeltaCodec$Row;", Cond.methodLink RX4 212 yX4_writeTargetBytes, Cond.instanceMethod yX4_writeTargetBytes, Cond.selects RX4 yX4_writeTargetBytes yX4_writeTargetBytes, Cond.code yX4_writeTargetBytes cX4_writeTargetBytes 4 none, Cond.methodLink RX4 80 yX3_at, Cond.methodLink RX4 140 yX1_operandOf, Cond.instanceMethod yX1_operandOf, Cond.selects RX1 yX1_operandOf yX1_operandOf, Cond.code yX1_operandOf cX1_operandOf 2 (some .int), Cond.fieldLink RX1 23 "DeltaCodec$Plan" "operands" "LDeltaCodec$Row;", Cond.methodLink RX4 70 yX3_count, Cond.methodLink RX4 101 yX4_checkOf, Cond.static yX4_checkOf, Cond.code yX4_checkOf cX4_checkOf 6 (some .int)]
def wsL_encode : List Cond := .codeWith yL_encode cL_encode 3 (some .int) [(0, 8, 11, 17)] :: ((wsL_encode_r1 ++ (wsL_encode_r2 ++ (wsL_encode_r3 ++ wsL_encode_r4))) ++ wsX40 ++ wsX10 ++ wsX30 ++ (vx_atS RX4 201 "java/lang/IllegalStateException" ["java/lang/RuntimeException", "java/lang/Exception"]).filter goodWord)
def wsL_code : List Cond := .codeWith yL_code cL_code 4 (some .int) [(0, 9, 12, 13)] :: ([.classLink RL 13 "java/lang/IndexOutOfBoundsException", .methodLink RL 78 yX4_code, .instanceMethod yX4_code, .selects RX4 yX4_code yX4_code, .initialized RX4, .code yX4_code cX4_code 2 (some .int), .fieldLink RX4 21 "DeltaCodec" "code" "LDeltaCodec$Row;", .methodLink RX4 77 yX4_needPlace, .static yX4_needPlace, .code yX4_needPlace cX4_needPlace 2 none, .classLink RX4 94 "java/lang/IndexOutOfBoundsException", .initialized "java/lang/IndexOutOfBoundsException", .methodLink RX4 167 yX3_holds, .instanceMethod yX3_holds, .selects RX3 yX3_holds yX3_holds, .initialized RX3, .code yX3_holds cX3_holds 2 (some .boolean), .fieldLink RX3 19 "DeltaCodec$Row" "count" "I", .fieldLink RX3 13 "DeltaCodec$Row" "bytes" "[I", .methodLink RX4 80 yX3_at, .instanceMethod yX3_at, .selects RX3 yX3_at yX3_at, .code yX3_at cX3_at 2 (some .int), .methodLink RX3 23 yX3_holds] ++ wsX40 ++ wsX30 ++ (vx_atS RX4 98 "java/lang/IndexOutOfBoundsException" ["java/lang/RuntimeException", "java/lang/Exception"]).filter goodWord)
def wsL_setCode_r1 : List Cond := [Cond.classLink RL 13 "java/lang/IndexOutOfBoundsException", Cond.classLink RL 15 "java/lang/IllegalArgumentException", Cond.methodLink RL 81 yX4_setCode, Cond.instanceMethod yX4_setCode, Cond.selects RX4 yX4_setCode yX4_setCode, Cond.initialized RX4, Cond.code yX4_setCode cX4_setCode 4 (some .int), Cond.fieldLink RX4 21 "DeltaCodec" "code" "LDeltaCodec$Row;", Cond.methodLink RX4 77 yX4_needPlace, Cond.static yX4_needPlace, Cond.code yX4_needPlace cX4_needPlace 2 none, Cond.classLink RX4 94 "java/lang/IndexOutOfBoundsException", Cond.initialized "java/lang/IndexOutOfBoundsException", Cond.methodLink RX4 167 yX3_holds, Cond.instanceMethod yX3_holds, Cond.selects RX3 yX3_holds yX3_holds, Cond.initialized RX3, Cond.code yX3_holds cX3_holds 2 (some .boolean), Cond.fieldLink RX3 19 "DeltaCodec$Row" "count" "I", Cond.fieldLink RX3 13 "DeltaCodec$Row" "bytes" "[I", Cond.methodLink RX4 52 yX4_needWithin, Cond.static yX4_needWithin, Cond.code yX4_needWithin cX4_needWithin 3 none, Cond.classLink RX4 187 "java/lang/IllegalArgumentException"]
def wsL_setCode_r2 : List Cond := [Cond.initialized "java/lang/IllegalArgumentException", Cond.methodLink RX4 80 yX3_at, Cond.instanceMethod yX3_at, Cond.selects RX3 yX3_at yX3_at, Cond.code yX3_at cX3_at 2 (some .int), Cond.methodLink RX3 23 yX3_holds, Cond.methodLink RX4 84 yX3_put, Cond.instanceMethod yX3_put, Cond.selects RX3 yX3_put yX3_put, Cond.code yX3_put cX3_put 3 none]
def wsL_setCode : List Cond := .codeWith yL_setCode cL_setCode 5 (some .int) [(0, 10, 13, 13), (0, 10, 17, 15)] :: ((wsL_setCode_r1 ++ wsL_setCode_r2) ++ wsX40 ++ wsX30 ++ (vx_atS RX4 98 "java/lang/IndexOutOfBoundsException" ["java/lang/RuntimeException", "java/lang/Exception"]).filter goodWord ++ (vx_atS RX4 191 "java/lang/IllegalArgumentException" ["java/lang/RuntimeException", "java/lang/Exception"]).filter goodWord)
def wsL_cutCode : List Cond := .codeWith yL_cutCode cL_cutCode 4 (some .int) [(0, 9, 12, 15)] :: ([.classLink RL 15 "java/lang/IllegalArgumentException", .methodLink RL 84 yX4_cutCode, .instanceMethod yX4_cutCode, .selects RX4 yX4_cutCode yX4_cutCode, .initialized RX4, .code yX4_cutCode cX4_cutCode 2 (some .int), .fieldLink RX4 21 "DeltaCodec" "code" "LDeltaCodec$Row;", .methodLink RX4 70 yX3_count, .instanceMethod yX3_count, .selects RX3 yX3_count yX3_count, .initialized RX3, .code yX3_count cX3_count 1 (some .int), .fieldLink RX3 19 "DeltaCodec$Row" "count" "I", .methodLink RX4 52 yX4_needWithin, .static yX4_needWithin, .code yX4_needWithin cX4_needWithin 3 none, .classLink RX4 187 "java/lang/IllegalArgumentException", .initialized "java/lang/IllegalArgumentException", .methodLink RX4 74 yX3_drop, .instanceMethod yX3_drop, .selects RX3 yX3_drop yX3_drop, .code yX3_drop cX3_drop 2 none] ++ wsX40 ++ wsX30 ++ (vx_atS RX4 191 "java/lang/IllegalArgumentException" ["java/lang/RuntimeException", "java/lang/Exception"]).filter goodWord)
def wsL_appendCode_r1 : List Cond := [Cond.classLink RL 15 "java/lang/IllegalArgumentException", Cond.classLink RL 17 "java/lang/IllegalStateException", Cond.methodLink RL 87 yX4_appendCode, Cond.instanceMethod yX4_appendCode, Cond.selects RX4 yX4_appendCode yX4_appendCode, Cond.initialized RX4, Cond.code yX4_appendCode cX4_appendCode 2 (some .int), Cond.fieldLink RX4 21 "DeltaCodec" "code" "LDeltaCodec$Row;", Cond.methodLink RX4 52 yX4_needWithin, Cond.static yX4_needWithin, Cond.code yX4_needWithin cX4_needWithin 3 none, Cond.classLink RX4 187 "java/lang/IllegalArgumentException", Cond.initialized "java/lang/IllegalArgumentException", Cond.methodLink RX4 60 yX4_needRoom, Cond.static yX4_needRoom, Cond.code yX4_needRoom cX4_needRoom 2 none, Cond.classLink RX4 197 "java/lang/IllegalStateException", Cond.initialized "java/lang/IllegalStateException", Cond.methodLink RX4 194 yX3_hasRoom, Cond.instanceMethod yX3_hasRoom, Cond.selects RX3 yX3_hasRoom yX3_hasRoom, Cond.initialized RX3, Cond.code yX3_hasRoom cX3_hasRoom 2 (some .boolean), Cond.fieldLink RX3 13 "DeltaCodec$Row" "bytes" "[I"]
def wsL_appendCode_r2 : List Cond := [Cond.fieldLink RX3 19 "DeltaCodec$Row" "count" "I", Cond.methodLink RX4 64 yX3_append, Cond.instanceMethod yX3_append, Cond.selects RX3 yX3_append yX3_append, Cond.code yX3_append cX3_append 2 none, Cond.methodLink RX4 70 yX3_count, Cond.instanceMethod yX3_count, Cond.selects RX3 yX3_count yX3_count, Cond.code yX3_count cX3_count 1 (some .int)]
def wsL_appendCode : List Cond := .codeWith yL_appendCode cL_appendCode 4 (some .int) [(0, 9, 12, 15), (0, 9, 15, 17)] :: ((wsL_appendCode_r1 ++ wsL_appendCode_r2) ++ wsX40 ++ wsX30 ++ (vx_atS RX4 191 "java/lang/IllegalArgumentException" ["java/lang/RuntimeException", "java/lang/Exception"]).filter goodWord ++ (vx_atS RX4 201 "java/lang/IllegalStateException" ["java/lang/RuntimeException", "java/lang/Exception"]).filter goodWord)
def wsL_output_r1 : List Cond := [Cond.classLink RL 13 "java/lang/IndexOutOfBoundsException", Cond.methodLink RL 90 yX4_output, Cond.instanceMethod yX4_output, Cond.selects RX4 yX4_output yX4_output, Cond.initialized RX4, Cond.code yX4_output cX4_output 2 (some .int), Cond.fieldLink RX4 41 "DeltaCodec" "decoder" "LDeltaCodec$Decoder;", Cond.methodLink RX4 158 yX0_product, Cond.instanceMethod yX0_product, Cond.selects RX0 yX0_product yX0_product, Cond.initialized RX0, Cond.code yX0_product cX0_product 1 (some (.object "DeltaCodec$Row")), Cond.fieldLink RX0 14 "DeltaCodec$Decoder" "product" "LDeltaCodec$Row;", Cond.methodLink RX4 77 yX4_needPlace, Cond.static yX4_needPlace, Cond.code yX4_needPlace cX4_needPlace 2 none, Cond.classLink RX4 94 "java/lang/IndexOutOfBoundsException", Cond.initialized "java/lang/IndexOutOfBoundsException", Cond.methodLink RX4 167 yX3_holds, Cond.instanceMethod yX3_holds, Cond.selects RX3 yX3_holds yX3_holds, Cond.initialized RX3, Cond.code yX3_holds cX3_holds 2 (some .boolean), Cond.fieldLink RX3 19 "DeltaCodec$Row" "count" "I"]
def wsL_output_r2 : List Cond := [Cond.fieldLink RX3 13 "DeltaCodec$Row" "bytes" "[I", Cond.methodLink RX4 80 yX3_at, Cond.instanceMethod yX3_at, Cond.selects RX3 yX3_at yX3_at, Cond.code yX3_at cX3_at 2 (some .int), Cond.methodLink RX3 23 yX3_holds]
def wsL_output : List Cond := .codeWith yL_output cL_output 4 (some .int) [(0, 9, 12, 13)] :: ((wsL_output_r1 ++ wsL_output_r2) ++ wsX40 ++ wsX00 ++ wsX30 ++ (vx_atS RX4 98 "java/lang/IndexOutOfBoundsException" ["java/lang/RuntimeException", "java/lang/Exception"]).filter goodWord)
def wsL_law0_r1 : List Cond := [Cond.classLink RL 8 RX4, Cond.instantiable RX4 7, Cond.initialized RX4, Cond.classLink RL 94 RX5, Cond.instantiable RX5 25, Cond.initialized RX5, Cond.arrayClass .long, Cond.arrayClass .double, Cond.constantLong RL 97 (4294967295), Cond.methodLink RL 93 yX4_init, Cond.instanceMethod yX4_init, Cond.code yX4_init cX4_init 1 none, Cond.methodLink RX4 1 objectInit, Cond.instanceMethod objectInit, Cond.code objectInit ⟨#[0xb1]⟩ 1 none, Cond.classLink RX4 7 RX3, Cond.instantiable RX3 2, Cond.initialized RX3, Cond.fieldLink RX4 14 "DeltaCodec" "source" "LDeltaCodec$Row;", Cond.fieldLink RX4 18 "DeltaCodec" "target" "LDeltaCodec$Row;", Cond.fieldLink RX4 21 "DeltaCodec" "code" "LDeltaCodec$Row;", Cond.classLink RX4 24 RX1, Cond.instantiable RX1 6, Cond.initialized RX1]
def wsL_law0_r2 : List Cond := [Cond.fieldLink RX4 27 "DeltaCodec" "plan" "LDeltaCodec$Plan;", Cond.classLink RX4 31 RX2, Cond.instantiable RX2 8, Cond.initialized RX2, Cond.fieldLink RX4 34 "DeltaCodec" "planner" "LDeltaCodec$Planner;", Cond.classLink RX4 38 RX0, Cond.instantiable RX0 8, Cond.initialized RX0, Cond.fieldLink RX4 41 "DeltaCodec" "decoder" "LDeltaCodec$Decoder;", Cond.fieldLink RX4 45 "DeltaCodec" "least" "I", Cond.methodLink RX4 11 yX3_init, Cond.instanceMethod yX3_init, Cond.code yX3_init cX3_init 2 none, Cond.methodLink RX3 1 objectInit, Cond.methodLink RX3 7 Lib.Math.max.name, Cond.static Lib.Math.max.name, Cond.initialized "java/lang/Math", Cond.code Lib.Math.max.name Lib.Math.max.code 2 (some .int), Cond.arrayClass .int, Cond.fieldLink RX3 13 "DeltaCodec$Row" "bytes" "[I", Cond.fieldLink RX3 19 "DeltaCodec$Row" "count" "I", Cond.methodLink RX4 26 yX1_init, Cond.instanceMethod yX1_init, Cond.code yX1_init cX1_init 1 none]
def wsL_law0_r3 : List Cond := [Cond.methodLink RX1 3 objectInit, Cond.classLink RX1 9 RX3, Cond.fieldLink RX1 14 "DeltaCodec$Plan" "kinds" "LDeltaCodec$Row;", Cond.fieldLink RX1 20 "DeltaCodec$Plan" "lengths" "LDeltaCodec$Row;", Cond.fieldLink RX1 23 "DeltaCodec$Plan" "operands" "LDeltaCodec$Row;", Cond.fieldLink RX1 26 "DeltaCodec$Plan" "starts" "LDeltaCodec$Row;", Cond.fieldLink RX1 29 "DeltaCodec$Plan" "codeBytes" "I", Cond.fieldLink RX1 33 "DeltaCodec$Plan" "isMade" "Z", Cond.methodLink RX1 11 yX3_init, Cond.methodLink RX4 33 yX2_init, Cond.instanceMethod yX2_init, Cond.code yX2_init cX2_init 1 none, Cond.methodLink RX2 3 objectInit, Cond.fieldLink RX2 11 "DeltaCodec$Planner" "bytesLeft" "[I", Cond.fieldLink RX2 15 "DeltaCodec$Planner" "stepsLeft" "[I", Cond.fieldLink RX2 18 "DeltaCodec$Planner" "kinds" "[I", Cond.fieldLink RX2 21 "DeltaCodec$Planner" "lengths" "[I", Cond.fieldLink RX2 24 "DeltaCodec$Planner" "operands" "[I", Cond.fieldLink RX2 27 "DeltaCodec$Planner" "copyCommon" "[I", Cond.fieldLink RX2 30 "DeltaCodec$Planner" "repeatCommon" "[I", Cond.fieldLink RX2 33 "DeltaCodec$Planner" "firstPlaces" "[I", Cond.methodLink RX4 40 yX0_init, Cond.instanceMethod yX0_init, Cond.code yX0_init cX0_init 1 none]
def wsL_law0_r4 : List Cond := [Cond.methodLink RX0 3 objectInit, Cond.classLink RX0 9 RX3, Cond.fieldLink RX0 14 "DeltaCodec$Decoder" "product" "LDeltaCodec$Row;", Cond.fieldLink RX0 20 "DeltaCodec$Decoder" "position" "I", Cond.fieldLink RX0 24 "DeltaCodec$Decoder" "limit" "I", Cond.fieldLink RX0 27 "DeltaCodec$Decoder" "error" "I", Cond.fieldLink RX0 30 "DeltaCodec$Decoder" "errorAt" "I", Cond.fieldLink RX0 33 "DeltaCodec$Decoder" "kind" "I", Cond.fieldLink RX0 36 "DeltaCodec$Decoder" "n" "I", Cond.fieldLink RX0 39 "DeltaCodec$Decoder" "operand" "I", Cond.methodLink RX0 11 yX3_init, Cond.methodLink RL 96 yX5_init, Cond.instanceMethod yX5_init, Cond.code yX5_init cX5_init 1 none, Cond.methodLink RX5 1 objectInit, Cond.fieldLink RX5 9 "DeltaCodecModel" "source" "[I", Cond.fieldLink RX5 13 "DeltaCodecModel" "target" "[I", Cond.fieldLink RX5 16 "DeltaCodecModel" "least" "I", Cond.fieldLink RX5 20 "DeltaCodecModel" "kinds" "[I", Cond.fieldLink RX5 23 "DeltaCodecModel" "lengths" "[I", Cond.fieldLink RX5 26 "DeltaCodecModel" "operands" "[I", Cond.fieldLink RX5 29 "DeltaCodecModel" "starts" "[I", Cond.fieldLink RX5 32 "DeltaCodecModel" "code" "[I", Cond.fieldLink RX5 35 "DeltaCodecModel" "output" "[I"]
def wsL_law0_r5 : List Cond := [Cond.fieldLink RX5 38 "DeltaCodecModel" "errorPosition" "I", Cond.fieldLink RX5 41 "DeltaCodecModel" "costs" "[I", Cond.fieldLink RX5 44 "DeltaCodecModel" "counts" "[I", Cond.fieldLink RX5 47 "DeltaCodecModel" "bestKinds" "[I", Cond.fieldLink RX5 50 "DeltaCodecModel" "bestLengths" "[I", Cond.fieldLink RX5 53 "DeltaCodecModel" "bestOperands" "[I", Cond.methodLink RL 99 yL_feed, Cond.static yL_feed, Cond.initialized RL, Cond.codeWith yL_feed cL_feed 7 (some .int) [(0, 13, 16, 13), (0, 13, 20, 15), (0, 13, 24, 17)], Cond.classLink RL 13 "java/lang/IndexOutOfBoundsException", Cond.classLink RL 15 "java/lang/IllegalArgumentException", Cond.classLink RL 17 "java/lang/IllegalStateException", Cond.methodLink RL 7 yX4_feed, Cond.instanceMethod yX4_feed, Cond.selects RX4 yX4_feed yX4_feed, Cond.code yX4_feed cX4_feed 7 (some .int), Cond.methodLink RX4 49 yX4_needSide, Cond.static yX4_needSide, Cond.code yX4_needSide cX4_needSide 1 none, Cond.classLink RX4 94 "java/lang/IndexOutOfBoundsException", Cond.initialized "java/lang/IndexOutOfBoundsException", Cond.methodLink RX4 52 yX4_needWithin, Cond.static yX4_needWithin]
def wsL_law0_r6 : List Cond := [Cond.code yX4_needWithin cX4_needWithin 3 none, Cond.classLink RX4 187 "java/lang/IllegalArgumentException", Cond.initialized "java/lang/IllegalArgumentException", Cond.methodLink RX4 56 yX4_rowOf, Cond.instanceMethod yX4_rowOf, Cond.selects RX4 yX4_rowOf yX4_rowOf, Cond.code yX4_rowOf cX4_rowOf 2 (some (.object "DeltaCodec$Row")), Cond.methodLink RX4 60 yX4_needRoom, Cond.static yX4_needRoom, Cond.code yX4_needRoom cX4_needRoom 2 none, Cond.classLink RX4 197 "java/lang/IllegalStateException", Cond.initialized "java/lang/IllegalStateException", Cond.methodLink RX4 194 yX3_hasRoom, Cond.instanceMethod yX3_hasRoom, Cond.selects RX3 yX3_hasRoom yX3_hasRoom, Cond.code yX3_hasRoom cX3_hasRoom 2 (some .boolean), Cond.methodLink RX4 64 yX3_append, Cond.instanceMethod yX3_append, Cond.selects RX3 yX3_append yX3_append, Cond.code yX3_append cX3_append 2 none, Cond.methodLink RX4 67 yX1_forget, Cond.instanceMethod yX1_forget, Cond.selects RX1 yX1_forget yX1_forget, Cond.code yX1_forget cX1_forget 1 none]
def wsL_law0_r7 : List Cond := [Cond.methodLink RX4 70 yX3_count, Cond.instanceMethod yX3_count, Cond.selects RX3 yX3_count yX3_count, Cond.code yX3_count cX3_count 1 (some .int), Cond.methodLink RL 104 yX5_feed, Cond.instanceMethod yX5_feed, Cond.selects RX5 yX5_feed yX5_feed, Cond.code yX5_feed cX5_feed 7 (some .int), Cond.fieldLink RX5 56 "DeltaCodecModel" "thrown" "I", Cond.constantLong RX5 88 (255), Cond.methodLink RX5 69 yX5_isSide, Cond.static yX5_isSide, Cond.code yX5_isSide cX5_isSide 1 (some .boolean), Cond.methodLink RX5 73 yX5_no, Cond.instanceMethod yX5_no, Cond.selects RX5 yX5_no yX5_no, Cond.code yX5_no cX5_no 2 (some .int), Cond.methodLink RX5 77 yX5_isIn, Cond.static yX5_isIn, Cond.code yX5_isIn cX5_isIn 3 (some .boolean), Cond.methodLink RX5 81 yX5_sizeOf, Cond.instanceMethod yX5_sizeOf, Cond.selects RX5 yX5_sizeOf yX5_sizeOf, Cond.code yX5_sizeOf cX5_sizeOf 2 (some .int)]
def wsL_law0_r8 : List Cond := [Cond.fieldLink RX5 59 "DeltaCodecModel" "sourceSize" "I", Cond.fieldLink RX5 62 "DeltaCodecModel" "size" "I", Cond.methodLink RX5 84 yX5_stringOf, Cond.instanceMethod yX5_stringOf, Cond.selects RX5 yX5_stringOf yX5_stringOf, Cond.code yX5_stringOf cX5_stringOf 2 (some (.array .int)), Cond.methodLink RX5 90 yX5_setSize, Cond.instanceMethod yX5_setSize, Cond.selects RX5 yX5_setSize yX5_setSize, Cond.code yX5_setSize cX5_setSize 3 none, Cond.fieldLink RX5 65 "DeltaCodecModel" "hasPlan" "Z", Cond.methodLink RL 105 yX5_thrown, Cond.instanceMethod yX5_thrown, Cond.selects RX5 yX5_thrown yX5_thrown, Cond.code yX5_thrown cX5_thrown 1 (some .int), Cond.methodLink RL 108 yL_fill, Cond.static yL_fill, Cond.codeWith yL_fill cL_fill 6 (some .int) [(0, 12, 15, 13), (0, 12, 19, 15), (0, 12, 23, 17)], Cond.methodLink RL 19 yX4_fill, Cond.instanceMethod yX4_fill, Cond.selects RX4 yX4_fill yX4_fill, Cond.code yX4_fill cX4_fill 6 (some .int), Cond.methodLink RL 111 yX5_fill, Cond.instanceMethod yX5_fill]
def wsL_law0_r9 : List Cond := [Cond.selects RX5 yX5_fill yX5_fill, Cond.code yX5_fill cX5_fill 6 (some .int), Cond.methodLink RL 112 yL_cut, Cond.static yL_cut, Cond.codeWith yL_cut cL_cut 5 (some .int) [(0, 10, 13, 13), (0, 10, 17, 15)], Cond.methodLink RL 23 yX4_cut, Cond.instanceMethod yX4_cut, Cond.selects RX4 yX4_cut yX4_cut, Cond.code yX4_cut cX4_cut 4 (some .int), Cond.methodLink RX4 74 yX3_drop, Cond.instanceMethod yX3_drop, Cond.selects RX3 yX3_drop yX3_drop, Cond.code yX3_drop cX3_drop 2 none, Cond.methodLink RL 115 yX5_cut, Cond.instanceMethod yX5_cut, Cond.selects RX5 yX5_cut yX5_cut, Cond.code yX5_cut cX5_cut 3 (some .int), Cond.methodLink RL 116 yL_set, Cond.static yL_set, Cond.codeWith yL_set cL_set 6 (some .int) [(0, 12, 15, 13), (0, 12, 19, 15)], Cond.methodLink RL 27 yX4_set, Cond.instanceMethod yX4_set, Cond.selects RX4 yX4_set yX4_set, Cond.code yX4_set cX4_set 6 (some .int)]
def wsL_law0_r10 : List Cond := [Cond.methodLink RX4 77 yX4_needPlace, Cond.static yX4_needPlace, Cond.code yX4_needPlace cX4_needPlace 2 none, Cond.methodLink RX4 167 yX3_holds, Cond.instanceMethod yX3_holds, Cond.selects RX3 yX3_holds yX3_holds, Cond.code yX3_holds cX3_holds 2 (some .boolean), Cond.methodLink RX4 80 yX3_at, Cond.instanceMethod yX3_at, Cond.selects RX3 yX3_at yX3_at, Cond.code yX3_at cX3_at 2 (some .int), Cond.methodLink RX3 23 yX3_holds, Cond.methodLink RX4 84 yX3_put, Cond.instanceMethod yX3_put, Cond.selects RX3 yX3_put yX3_put, Cond.code yX3_put cX3_put 3 none, Cond.methodLink RL 118 yX5_set, Cond.instanceMethod yX5_set, Cond.selects RX5 yX5_set yX5_set, Cond.code yX5_set cX5_set 5 (some .int), Cond.methodLink RL 119 yL_size, Cond.static yL_size, Cond.codeWith yL_size cL_size 4 (some .int) [(0, 9, 12, 13)], Cond.methodLink RL 30 yX4_size]
def wsL_law0_r11 : List Cond := [Cond.instanceMethod yX4_size, Cond.selects RX4 yX4_size yX4_size, Cond.code yX4_size cX4_size 2 (some .int), Cond.methodLink RL 122 yX5_size, Cond.instanceMethod yX5_size, Cond.selects RX5 yX5_size yX5_size, Cond.code yX5_size cX5_size 2 (some .int), Cond.methodLink RL 123 yL_byteAt, Cond.static yL_byteAt, Cond.codeWith yL_byteAt cL_byteAt 5 (some .int) [(0, 10, 13, 13)], Cond.methodLink RL 34 yX4_byteAt, Cond.instanceMethod yX4_byteAt, Cond.selects RX4 yX4_byteAt yX4_byteAt, Cond.code yX4_byteAt cX4_byteAt 4 (some .int), Cond.methodLink RL 125 yX5_byteAt, Cond.instanceMethod yX5_byteAt, Cond.selects RX5 yX5_byteAt yX5_byteAt, Cond.code yX5_byteAt cX5_byteAt 3 (some .int), Cond.methodLink RL 126 yX4_turn, Cond.instanceMethod yX4_turn, Cond.selects RX4 yX4_turn yX4_turn, Cond.code yX4_turn cX4_turn 1 (some .int), Cond.methodLink RX4 88 yX4_exchangeRows, Cond.instanceMethod yX4_exchangeRows]
def wsL_law0_r12 : List Cond := [Cond.selects RX4 yX4_exchangeRows yX4_exchangeRows, Cond.code yX4_exchangeRows cX4_exchangeRows 2 none, Cond.methodLink RL 129 yX5_turn, Cond.instanceMethod yX5_turn, Cond.selects RX5 yX5_turn yX5_turn, Cond.code yX5_turn cX5_turn 3 (some .int), Cond.methodLink RL 130 yX4_advance, Cond.instanceMethod yX4_advance, Cond.selects RX4 yX4_advance yX4_advance, Cond.code yX4_advance cX4_advance 1 (some .int), Cond.methodLink RX4 91 yX3_clear, Cond.instanceMethod yX3_clear, Cond.selects RX3 yX3_clear yX3_clear, Cond.code yX3_clear cX3_clear 1 none, Cond.methodLink RL 133 yX5_advance, Cond.instanceMethod yX5_advance, Cond.selects RX5 yX5_advance yX5_advance, Cond.code yX5_advance cX5_advance 2 (some .int), Cond.methodLink RL 134 yL_check, Cond.static yL_check, Cond.codeWith yL_check cL_check 6 (some .int) [(0, 12, 15, 13)], Cond.methodLink RL 37 yX4_check, Cond.instanceMethod yX4_check, Cond.selects RX4 yX4_check yX4_check]
def wsL_law0_r13 : List Cond := [Cond.code yX4_check cX4_check 5 (some .int), Cond.methodLink RX4 101 yX4_checkOf, Cond.static yX4_checkOf, Cond.code yX4_checkOf cX4_checkOf 6 (some .int), Cond.methodLink RL 136 yX5_check, Cond.instanceMethod yX5_check, Cond.selects RX5 yX5_check yX5_check, Cond.code yX5_check cX5_check 4 (some .int), Cond.methodLink RX5 94 yX5_checkOf, Cond.static yX5_checkOf, Cond.code yX5_checkOf cX5_checkOf 6 (some .int), Cond.methodLink RL 137 yL_match, Cond.static yL_match, Cond.codeWith yL_match cL_match 5 (some .int) [(0, 10, 13, 13)], Cond.methodLink RL 40 yX4_match, Cond.instanceMethod yX4_match, Cond.selects RX4 yX4_match yX4_match, Cond.code yX4_match cX4_match 4 (some .int), Cond.methodLink RX4 105 yX4_bestMatchPlace, Cond.instanceMethod yX4_bestMatchPlace, Cond.selects RX4 yX4_bestMatchPlace yX4_bestMatchPlace, Cond.code yX4_bestMatchPlace cX4_bestMatchPlace 8 (some .int), Cond.methodLink RX4 109 yX4_commonLength, Cond.instanceMethod yX4_commonLength]
def wsL_law0_r14 : List Cond := [Cond.selects RX4 yX4_commonLength yX4_commonLength, Cond.code yX4_commonLength cX4_commonLength 6 (some .int), Cond.methodLink RX4 206 Lib.Math.min.name, Cond.static Lib.Math.min.name, Cond.code Lib.Math.min.name Lib.Math.min.code 2 (some .int), Cond.methodLink RL 139 yX5_match, Cond.instanceMethod yX5_match, Cond.selects RX5 yX5_match yX5_match, Cond.code yX5_match cX5_match 3 (some .int), Cond.methodLink RX5 111 yX5_isAsked, Cond.instanceMethod yX5_isAsked, Cond.selects RX5 yX5_isAsked yX5_isAsked, Cond.code yX5_isAsked cX5_isAsked 3 (some .boolean), Cond.methodLink RX5 115 yX5_longest, Cond.instanceMethod yX5_longest, Cond.selects RX5 yX5_longest yX5_longest, Cond.code yX5_longest cX5_longest 5 (some .int), Cond.methodLink RX5 106 Lib.Math.max.name, Cond.methodLink RX5 98 yX5_places, Cond.instanceMethod yX5_places, Cond.selects RX5 yX5_places yX5_places, Cond.code yX5_places cX5_places 3 (some .int), Cond.methodLink RX5 102 yX5_common, Cond.instanceMethod yX5_common]
def wsL_law0_r15 : List Cond := [Cond.selects RX5 yX5_common yX5_common, Cond.code yX5_common cX5_common 5 (some .int), Cond.methodLink RL 140 yL_matchPlace, Cond.static yL_matchPlace, Cond.codeWith yL_matchPlace cL_matchPlace 5 (some .int) [(0, 10, 13, 13)], Cond.methodLink RL 43 yX4_matchPlace, Cond.instanceMethod yX4_matchPlace, Cond.selects RX4 yX4_matchPlace yX4_matchPlace, Cond.code yX4_matchPlace cX4_matchPlace 3 (some .int), Cond.methodLink RL 142 yX5_matchPlace, Cond.instanceMethod yX5_matchPlace, Cond.selects RX5 yX5_matchPlace yX5_matchPlace, Cond.code yX5_matchPlace cX5_matchPlace 5 (some .int), Cond.methodLink RL 143 yL_blocks, Cond.static yL_blocks, Cond.codeWith yL_blocks cL_blocks 4 (some .int) [(0, 9, 12, 15)], Cond.methodLink RL 46 yX4_blocks, Cond.instanceMethod yX4_blocks, Cond.selects RX4 yX4_blocks yX4_blocks, Cond.code yX4_blocks cX4_blocks 5 (some .int), Cond.methodLink RX4 112 yX4_isBlockAt, Cond.instanceMethod yX4_isBlockAt, Cond.selects RX4 yX4_isBlockAt yX4_isBlockAt, Cond.code yX4_isBlockAt cX4_isBlockAt 4 (some .boolean)]
def wsL_law0_r16 : List Cond := [Cond.methodLink RX4 162 Lib.Math.max.name, Cond.methodLink RL 145 yX5_blocks, Cond.instanceMethod yX5_blocks, Cond.selects RX5 yX5_blocks yX5_blocks, Cond.code yX5_blocks cX5_blocks 6 (some .int), Cond.methodLink RX5 118 yX5_isBlock, Cond.instanceMethod yX5_isBlock, Cond.selects RX5 yX5_isBlock yX5_isBlock, Cond.code yX5_isBlock cX5_isBlock 5 (some .boolean), Cond.methodLink RL 146 yL_setLeast, Cond.static yL_setLeast, Cond.codeWith yL_setLeast cL_setLeast 4 (some .int) [(0, 9, 12, 15)], Cond.methodLink RL 49 yX4_setLeast, Cond.instanceMethod yX4_setLeast, Cond.selects RX4 yX4_setLeast yX4_setLeast, Cond.code yX4_setLeast cX4_setLeast 3 (some .int), Cond.methodLink RL 148 yX5_setLeast, Cond.instanceMethod yX5_setLeast, Cond.selects RX5 yX5_setLeast yX5_setLeast, Cond.code yX5_setLeast cX5_setLeast 3 (some .int), Cond.methodLink RL 149 yX4_plan, Cond.instanceMethod yX4_plan, Cond.selects RX4 yX4_plan yX4_plan, Cond.code yX4_plan cX4_plan 1 (some .int)]
def wsL_law0_r17 : List Cond := [Cond.methodLink RX4 116 yX1_isMade, Cond.instanceMethod yX1_isMade, Cond.selects RX1 yX1_isMade yX1_isMade, Cond.code yX1_isMade cX1_isMade 1 (some .boolean), Cond.methodLink RX4 120 yX2_makePlan, Cond.instanceMethod yX2_makePlan, Cond.selects RX2 yX2_makePlan yX2_makePlan, Cond.code yX2_makePlan cX2_makePlan 9 none, Cond.methodLink RX2 42 Lib.Math.min.name, Cond.constant RX2 62 (1000000), Cond.methodLink RX2 36 yX3_count, Cond.methodLink RX2 48 yJ7_fill_53178, Cond.static yJ7_fill_53178, Cond.initialized RJ7, Cond.code yJ7_fill_53178 cJ7_fill_53178 4 none, Cond.methodLink RX2 54 yX3_at, Cond.methodLink RX2 58 yX2_lengthenCommon, Cond.static yX2_lengthenCommon, Cond.code yX2_lengthenCommon cX2_lengthenCommon 5 none, Cond.methodLink RX2 63 yX2_offerLengths, Cond.instanceMethod yX2_offerLengths, Cond.selects RX2 yX2_offerLengths yX2_offerLengths, Cond.code yX2_offerLengths cX2_offerLengths 6 none, Cond.methodLink RX2 74 yX2_offer]
def wsL_law0_r18 : List Cond := [Cond.instanceMethod yX2_offer, Cond.selects RX2 yX2_offer yX2_offer, Cond.code yX2_offer cX2_offer 10 none, Cond.methodLink RX2 77 yX2_bytesOf, Cond.static yX2_bytesOf, Cond.code yX2_bytesOf cX2_bytesOf 4 (some .int), Cond.methodLink RX2 81 yX2_bytesOfNumber, Cond.static yX2_bytesOfNumber, Cond.code yX2_bytesOfNumber cX2_bytesOfNumber 1 (some .int), Cond.methodLink RX2 67 yX2_offerPlaces, Cond.instanceMethod yX2_offerPlaces, Cond.selects RX2 yX2_offerPlaces yX2_offerPlaces, Cond.code yX2_offerPlaces cX2_offerPlaces 9 none, Cond.methodLink RX2 70 yX2_listInstructions, Cond.instanceMethod yX2_listInstructions, Cond.selects RX2 yX2_listInstructions yX2_listInstructions, Cond.code yX2_listInstructions cX2_listInstructions 5 none, Cond.methodLink RX2 84 yX1_begin, Cond.instanceMethod yX1_begin, Cond.selects RX1 yX1_begin yX1_begin, Cond.code yX1_begin cX1_begin 2 none, Cond.methodLink RX1 37 yX3_clear, Cond.methodLink RX2 90 yX1_add, Cond.instanceMethod yX1_add]
def wsL_law0_r19 : List Cond := [Cond.selects RX1 yX1_add yX1_add, Cond.code yX1_add cX1_add 5 none, Cond.methodLink RX1 40 yX3_append, Cond.methodLink RX4 124 yX1_count, Cond.instanceMethod yX1_count, Cond.selects RX1 yX1_count yX1_count, Cond.code yX1_count cX1_count 1 (some .int), Cond.methodLink RX1 43 yX3_count, Cond.methodLink RL 152 yX5_plan, Cond.instanceMethod yX5_plan, Cond.selects RX5 yX5_plan yX5_plan, Cond.code yX5_plan cX5_plan 2 (some .int), Cond.fieldLink RX5 135 "DeltaCodecModel" "instructions" "I", Cond.fieldLink RX5 142 "DeltaCodecModel" "cost" "I", Cond.methodLink RX5 138 yX5_look, Cond.instanceMethod yX5_look, Cond.selects RX5 yX5_look yX5_look, Cond.code yX5_look cX5_look 5 none, Cond.methodLink RX5 124 yX5_headSize, Cond.static yX5_headSize, Cond.code yX5_headSize cX5_headSize 1 (some .int), Cond.methodLink RX5 121 yX5_numberSize, Cond.static yX5_numberSize, Cond.code yX5_numberSize cX5_numberSize 1 (some .int)]
def wsL_law0_r20 : List Cond := [Cond.methodLink RX5 127 yX5_offer, Cond.instanceMethod yX5_offer, Cond.selects RX5 yX5_offer yX5_offer, Cond.code yX5_offer cX5_offer 8 none, Cond.methodLink RX5 131 yX5_smallest, Cond.instanceMethod yX5_smallest, Cond.selects RX5 yX5_smallest yX5_smallest, Cond.code yX5_smallest cX5_smallest 7 (some (.array .int)), Cond.methodLink RL 153 yX4_hasPlan, Cond.instanceMethod yX4_hasPlan, Cond.selects RX4 yX4_hasPlan yX4_hasPlan, Cond.code yX4_hasPlan cX4_hasPlan 1 (some .boolean), Cond.methodLink RL 157 yX5_hasPlan, Cond.instanceMethod yX5_hasPlan, Cond.selects RX5 yX5_hasPlan yX5_hasPlan, Cond.code yX5_hasPlan cX5_hasPlan 1 (some .boolean), Cond.methodLink RL 158 yL_cost, Cond.static yL_cost, Cond.codeWith yL_cost cL_cost 3 (some .int) [(0, 8, 11, 17)], Cond.methodLink RL 52 yX4_cost, Cond.instanceMethod yX4_cost, Cond.selects RX4 yX4_cost yX4_cost, Cond.code yX4_cost cX4_cost 1 (some .int), Cond.methodLink RX4 125 yX4_needPlan]
def wsL_law0_r21 : List Cond := [Cond.instanceMethod yX4_needPlan, Cond.selects RX4 yX4_needPlan yX4_needPlan, Cond.code yX4_needPlan cX4_needPlan 1 none, Cond.methodLink RX4 128 yX1_codeBytes, Cond.instanceMethod yX1_codeBytes, Cond.selects RX1 yX1_codeBytes yX1_codeBytes, Cond.code yX1_codeBytes cX1_codeBytes 1 (some .int), Cond.methodLink RL 161 yX5_cost, Cond.instanceMethod yX5_cost, Cond.selects RX5 yX5_cost yX5_cost, Cond.code yX5_cost cX5_cost 1 (some .int), Cond.methodLink RL 162 yL_kind, Cond.static yL_kind, Cond.codeWith yL_kind cL_kind 4 (some .int) [(0, 9, 12, 17), (0, 9, 15, 13)], Cond.methodLink RL 56 yX4_kind, Cond.instanceMethod yX4_kind, Cond.selects RX4 yX4_kind yX4_kind, Cond.code yX4_kind cX4_kind 2 (some .int), Cond.methodLink RX4 131 yX4_needInstruction, Cond.instanceMethod yX4_needInstruction, Cond.selects RX4 yX4_needInstruction yX4_needInstruction, Cond.code yX4_needInstruction cX4_needInstruction 2 none, Cond.methodLink RX4 134 yX1_kindOf, Cond.instanceMethod yX1_kindOf]
def wsL_law0_r22 : List Cond := [Cond.selects RX1 yX1_kindOf yX1_kindOf, Cond.code yX1_kindOf cX1_kindOf 2 (some .int), Cond.methodLink RX1 47 yX3_at, Cond.methodLink RL 164 yX5_kind, Cond.instanceMethod yX5_kind, Cond.selects RX5 yX5_kind yX5_kind, Cond.code yX5_kind cX5_kind 2 (some .int), Cond.methodLink RX5 145 yX5_isAsked_, Cond.instanceMethod yX5_isAsked_, Cond.selects RX5 yX5_isAsked_ yX5_isAsked_, Cond.code yX5_isAsked_ cX5_isAsked_ 2 (some .boolean), Cond.methodLink RL 165 yL_length, Cond.static yL_length, Cond.codeWith yL_length cL_length 4 (some .int) [(0, 9, 12, 17), (0, 9, 15, 13)], Cond.methodLink RL 59 yX4_length, Cond.instanceMethod yX4_length, Cond.selects RX4 yX4_length yX4_length, Cond.code yX4_length cX4_length 2 (some .int), Cond.methodLink RX4 137 yX1_lengthOf, Cond.instanceMethod yX1_lengthOf, Cond.selects RX1 yX1_lengthOf yX1_lengthOf, Cond.code yX1_lengthOf cX1_lengthOf 2 (some .int), Cond.methodLink RL 167 yX5_length, Cond.instanceMethod yX5_length]
def wsL_law0_r23 : List Cond := [Cond.selects RX5 yX5_length yX5_length, Cond.code yX5_length cX5_length 2 (some .int), Cond.methodLink RL 168 yL_operand, Cond.static yL_operand, Cond.codeWith yL_operand cL_operand 4 (some .int) [(0, 9, 12, 17), (0, 9, 15, 13)], Cond.methodLink RL 62 yX4_operand, Cond.instanceMethod yX4_operand, Cond.selects RX4 yX4_operand yX4_operand, Cond.code yX4_operand cX4_operand 2 (some .int), Cond.methodLink RX4 140 yX1_operandOf, Cond.instanceMethod yX1_operandOf, Cond.selects RX1 yX1_operandOf yX1_operandOf, Cond.code yX1_operandOf cX1_operandOf 2 (some .int), Cond.methodLink RL 170 yX5_operand, Cond.instanceMethod yX5_operand, Cond.selects RX5 yX5_operand yX5_operand, Cond.code yX5_operand cX5_operand 2 (some .int), Cond.methodLink RL 171 yL_start, Cond.static yL_start, Cond.codeWith yL_start cL_start 4 (some .int) [(0, 9, 12, 17), (0, 9, 15, 13)], Cond.methodLink RL 65 yX4_start, Cond.instanceMethod yX4_start, Cond.selects RX4 yX4_start yX4_start, Cond.code yX4_start cX4_start 2 (some .int)]
def wsL_law0_r24 : List Cond := [Cond.methodLink RX4 143 yX1_startOf, Cond.instanceMethod yX1_startOf, Cond.selects RX1 yX1_startOf yX1_startOf, Cond.code yX1_startOf cX1_startOf 2 (some .int), Cond.methodLink RL 173 yX5_start, Cond.instanceMethod yX5_start, Cond.selects RX5 yX5_start yX5_start, Cond.code yX5_start cX5_start 2 (some .int), Cond.methodLink RL 174 yL_made, Cond.static yL_made, Cond.codeWith yL_made cL_made 4 (some .int) [(0, 9, 12, 17), (0, 9, 15, 13)], Cond.methodLink RL 68 yX4_made, Cond.instanceMethod yX4_made, Cond.selects RX4 yX4_made yX4_made, Cond.code yX4_made cX4_made 4 (some .int), Cond.methodLink RL 176 yX5_made, Cond.instanceMethod yX5_made, Cond.selects RX5 yX5_made yX5_made, Cond.code yX5_made cX5_made 4 (some .int), Cond.methodLink RL 177 yL_ratio, Cond.static yL_ratio, Cond.codeWith yL_ratio cL_ratio 3 (some .int) [(0, 7, 10, 17)], Cond.methodLink RL 71 yX4_ratio, Cond.instanceMethod yX4_ratio]
def wsL_law0_r25 : List Cond := [Cond.selects RX4 yX4_ratio yX4_ratio, Cond.code yX4_ratio cX4_ratio 2 (some .double), Cond.methodLink RL 180 yX5_ratio, Cond.instanceMethod yX5_ratio, Cond.selects RX5 yX5_ratio yX5_ratio, Cond.code yX5_ratio cX5_ratio 1 (some .double), Cond.constantDouble RX5 147 (4611686018427387904), Cond.methodLink RL 181 yL_encode, Cond.static yL_encode, Cond.codeWith yL_encode cL_encode 3 (some .int) [(0, 8, 11, 17)], Cond.methodLink RL 75 yX4_encode, Cond.instanceMethod yX4_encode, Cond.selects RX4 yX4_encode yX4_encode, Cond.code yX4_encode cX4_encode 2 (some .int), Cond.methodLink RX4 148 yX4_writeInstruction, Cond.instanceMethod yX4_writeInstruction, Cond.selects RX4 yX4_writeInstruction yX4_writeInstruction, Cond.code yX4_writeInstruction cX4_writeInstruction 4 none, Cond.methodLink RX4 209 yX4_writeNumber, Cond.instanceMethod yX4_writeNumber, Cond.selects RX4 yX4_writeNumber yX4_writeNumber, Cond.code yX4_writeNumber cX4_writeNumber 2 none, Cond.methodLink RX4 212 yX4_writeTargetBytes, Cond.instanceMethod yX4_writeTargetBytes]
def wsL_law0_r26 : List Cond := [Cond.selects RX4 yX4_writeTargetBytes yX4_writeTargetBytes, Cond.code yX4_writeTargetBytes cX4_writeTargetBytes 4 none, Cond.methodLink RL 183 yX5_encode, Cond.instanceMethod yX5_encode, Cond.selects RX5 yX5_encode yX5_encode, Cond.code yX5_encode cX5_encode 3 (some .int), Cond.fieldLink RX5 149 "DeltaCodecModel" "codeSize" "I", Cond.methodLink RX5 155 Lib.Math.min.name, Cond.methodLink RX5 152 yX5_put, Cond.instanceMethod yX5_put, Cond.selects RX5 yX5_put yX5_put, Cond.code yX5_put cX5_put 2 none, Cond.methodLink RX5 158 yX5_putNumber, Cond.instanceMethod yX5_putNumber, Cond.selects RX5 yX5_putNumber yX5_putNumber, Cond.code yX5_putNumber cX5_putNumber 2 none, Cond.methodLink RL 184 yX4_codeSize, Cond.instanceMethod yX4_codeSize, Cond.selects RX4 yX4_codeSize yX4_codeSize, Cond.code yX4_codeSize cX4_codeSize 1 (some .int), Cond.methodLink RL 187 yX5_codeSize, Cond.instanceMethod yX5_codeSize, Cond.selects RX5 yX5_codeSize yX5_codeSize, Cond.code yX5_codeSize cX5_codeSize 1 (some .int)]
def wsL_law0_r27 : List Cond := [Cond.methodLink RL 188 yL_code, Cond.static yL_code, Cond.codeWith yL_code cL_code 4 (some .int) [(0, 9, 12, 13)], Cond.methodLink RL 78 yX4_code, Cond.instanceMethod yX4_code, Cond.selects RX4 yX4_code yX4_code, Cond.code yX4_code cX4_code 2 (some .int), Cond.methodLink RL 190 yX5_code, Cond.instanceMethod yX5_code, Cond.selects RX5 yX5_code yX5_code, Cond.code yX5_code cX5_code 2 (some .int), Cond.methodLink RL 191 yL_setCode, Cond.static yL_setCode, Cond.codeWith yL_setCode cL_setCode 5 (some .int) [(0, 10, 13, 13), (0, 10, 17, 15)], Cond.methodLink RL 81 yX4_setCode, Cond.instanceMethod yX4_setCode, Cond.selects RX4 yX4_setCode yX4_setCode, Cond.code yX4_setCode cX4_setCode 4 (some .int), Cond.methodLink RL 193 yX5_setCode, Cond.instanceMethod yX5_setCode, Cond.selects RX5 yX5_setCode yX5_setCode, Cond.code yX5_setCode cX5_setCode 4 (some .int), Cond.methodLink RL 194 yL_cutCode, Cond.static yL_cutCode]
def wsL_law0_r28 : List Cond := [Cond.codeWith yL_cutCode cL_cutCode 4 (some .int) [(0, 9, 12, 15)], Cond.methodLink RL 84 yX4_cutCode, Cond.instanceMethod yX4_cutCode, Cond.selects RX4 yX4_cutCode yX4_cutCode, Cond.code yX4_cutCode cX4_cutCode 2 (some .int), Cond.methodLink RL 196 yX5_cutCode, Cond.instanceMethod yX5_cutCode, Cond.selects RX5 yX5_cutCode yX5_cutCode, Cond.code yX5_cutCode cX5_cutCode 2 (some .int), Cond.methodLink RL 197 yL_appendCode, Cond.static yL_appendCode, Cond.codeWith yL_appendCode cL_appendCode 4 (some .int) [(0, 9, 12, 15), (0, 9, 15, 17)], Cond.methodLink RL 87 yX4_appendCode, Cond.instanceMethod yX4_appendCode, Cond.selects RX4 yX4_appendCode yX4_appendCode, Cond.code yX4_appendCode cX4_appendCode 2 (some .int), Cond.methodLink RL 199 yX5_appendCode, Cond.instanceMethod yX5_appendCode, Cond.selects RX5 yX5_appendCode yX5_appendCode, Cond.code yX5_appendCode cX5_appendCode 2 (some .int), Cond.methodLink RL 200 yX4_decode, Cond.instanceMethod yX4_decode, Cond.selects RX4 yX4_decode yX4_decode, Cond.code yX4_decode cX4_decode 1 (some .int)]
def wsL_law0_r29 : List Cond := [Cond.methodLink RX4 151 yX0_readCode, Cond.instanceMethod yX0_readCode, Cond.selects RX0 yX0_readCode yX0_readCode, Cond.code yX0_readCode cX0_readCode 5 (some .int), Cond.methodLink RX0 42 yX3_clear, Cond.methodLink RX0 45 yX3_count, Cond.methodLink RX0 49 yX0_tell, Cond.instanceMethod yX0_tell, Cond.selects RX0 yX0_tell yX0_tell, Cond.code yX0_tell cX0_tell 3 none, Cond.methodLink RX0 53 yX0_readInstruction, Cond.instanceMethod yX0_readInstruction, Cond.selects RX0 yX0_readInstruction yX0_readInstruction, Cond.code yX0_readInstruction cX0_readInstruction 4 none, Cond.methodLink RX0 68 yX0_nextByte, Cond.instanceMethod yX0_nextByte, Cond.selects RX0 yX0_nextByte yX0_nextByte, Cond.code yX0_nextByte cX0_nextByte 3 (some .int), Cond.methodLink RX0 75 yX0_passBytes, Cond.instanceMethod yX0_passBytes, Cond.selects RX0 yX0_passBytes yX0_passBytes, Cond.code yX0_passBytes cX0_passBytes 2 none, Cond.methodLink RX0 78 yX3_at, Cond.methodLink RX0 72 yX0_nextNumber]
def wsL_law0_r30 : List Cond := [Cond.instanceMethod yX0_nextNumber, Cond.selects RX0 yX0_nextNumber yX0_nextNumber, Cond.code yX0_nextNumber cX0_nextNumber 5 (some .int), Cond.methodLink RX0 57 yX0_judgeInstruction, Cond.instanceMethod yX0_judgeInstruction, Cond.selects RX0 yX0_judgeInstruction yX0_judgeInstruction, Cond.code yX0_judgeInstruction cX0_judgeInstruction 3 none, Cond.methodLink RX0 82 yX3_hasRoom, Cond.methodLink RX0 61 yX0_makeBytes, Cond.instanceMethod yX0_makeBytes, Cond.selects RX0 yX0_makeBytes yX0_makeBytes, Cond.code yX0_makeBytes cX0_makeBytes 4 none, Cond.methodLink RX0 86 yX0_byteToMake, Cond.instanceMethod yX0_byteToMake, Cond.selects RX0 yX0_byteToMake yX0_byteToMake, Cond.code yX0_byteToMake cX0_byteToMake 4 (some .int), Cond.methodLink RX0 90 yX3_append, Cond.methodLink RX0 65 yX0_judgeCheck, Cond.instanceMethod yX0_judgeCheck, Cond.selects RX0 yX0_judgeCheck yX0_judgeCheck, Cond.code yX0_judgeCheck cX0_judgeCheck 4 none, Cond.methodLink RL 203 yX5_decode, Cond.instanceMethod yX5_decode, Cond.selects RX5 yX5_decode yX5_decode]
def wsL_law0_r31 : List Cond := [Cond.code yX5_decode cX5_decode 1 (some .int), Cond.fieldLink RX5 177 "DeltaCodecModel" "made" "I", Cond.fieldLink RX5 164 "DeltaCodecModel" "at" "I", Cond.fieldLink RX5 161 "DeltaCodecModel" "error" "I", Cond.methodLink RX5 167 yX5_fail, Cond.instanceMethod yX5_fail, Cond.selects RX5 yX5_fail yX5_fail, Cond.code yX5_fail cX5_fail 3 (some .int), Cond.methodLink RX5 180 yX5_takeInstruction, Cond.instanceMethod yX5_takeInstruction, Cond.selects RX5 yX5_takeInstruction yX5_takeInstruction, Cond.code yX5_takeInstruction cX5_takeInstruction 8 none, Cond.methodLink RX5 170 yX5_take, Cond.instanceMethod yX5_take, Cond.selects RX5 yX5_take yX5_take, Cond.code yX5_take cX5_take 1 (some .int), Cond.methodLink RX5 174 yX5_takeNumber, Cond.instanceMethod yX5_takeNumber, Cond.selects RX5 yX5_takeNumber yX5_takeNumber, Cond.code yX5_takeNumber cX5_takeNumber 3 (some .int), Cond.methodLink RL 204 yX4_errorPosition, Cond.instanceMethod yX4_errorPosition, Cond.selects RX4 yX4_errorPosition yX4_errorPosition, Cond.code yX4_errorPosition cX4_errorPosition 1 (some .int)]
def wsL_law0_r32 : List Cond := [Cond.methodLink RX4 155 yX0_errorAt, Cond.instanceMethod yX0_errorAt, Cond.selects RX0 yX0_errorAt yX0_errorAt, Cond.code yX0_errorAt cX0_errorAt 1 (some .int), Cond.methodLink RL 207 yX5_errorPosition, Cond.instanceMethod yX5_errorPosition, Cond.selects RX5 yX5_errorPosition yX5_errorPosition, Cond.code yX5_errorPosition cX5_errorPosition 1 (some .int), Cond.methodLink RL 208 yX4_outputSize, Cond.instanceMethod yX4_outputSize, Cond.selects RX4 yX4_outputSize yX4_outputSize, Cond.code yX4_outputSize cX4_outputSize 1 (some .int), Cond.methodLink RX4 158 yX0_product, Cond.instanceMethod yX0_product, Cond.selects RX0 yX0_product yX0_product, Cond.code yX0_product cX0_product 1 (some (.object "DeltaCodec$Row")), Cond.methodLink RL 211 yX5_outputSize, Cond.instanceMethod yX5_outputSize, Cond.selects RX5 yX5_outputSize yX5_outputSize, Cond.code yX5_outputSize cX5_outputSize 1 (some .int), Cond.methodLink RL 212 yL_output, Cond.static yL_output, Cond.codeWith yL_output cL_output 4 (some .int) [(0, 9, 12, 13)], Cond.methodLink RL 90 yX4_output]
def wsL_law0_r33 : List Cond := [Cond.instanceMethod yX4_output, Cond.selects RX4 yX4_output yX4_output, Cond.code yX4_output cX4_output 2 (some .int), Cond.methodLink RL 214 yX5_output, Cond.instanceMethod yX5_output, Cond.selects RX5 yX5_output yX5_output, Cond.code yX5_output cX5_output 2 (some .int), Cond.methodLink RL 215 yX4_differences, Cond.instanceMethod yX4_differences, Cond.selects RX4 yX4_differences yX4_differences, Cond.code yX4_differences cX4_differences 6 (some .int), Cond.methodLink RL 218 yX5_differences, Cond.instanceMethod yX5_differences, Cond.selects RX5 yX5_differences yX5_differences, Cond.code yX5_differences cX5_differences 3 (some .int), Cond.methodLink RX5 183 Lib.Math.abs.name, Cond.static Lib.Math.abs.name, Cond.code Lib.Math.abs.name Lib.Math.abs.code 1 (some .int), Cond.methodLink RL 219 yX4_digest, Cond.instanceMethod yX4_digest, Cond.selects RX4 yX4_digest yX4_digest, Cond.code yX4_digest cX4_digest 3 (some .long), Cond.constantLong RX4 171 (101), Cond.methodLink RX4 173 yX4_digestRow]
def wsL_law0_r34 : List Cond := [Cond.static yX4_digestRow, Cond.code yX4_digestRow cX4_digestRow 6 (some .long), Cond.methodLink RX4 177 yX4_digestStep, Cond.static yX4_digestStep, Cond.code yX4_digestStep cX4_digestStep 3 (some .long), Cond.constantLong RX4 215 (31), Cond.methodLink RX4 181 yX4_digestPlan, Cond.instanceMethod yX4_digestPlan, Cond.selects RX4 yX4_digestPlan yX4_digestPlan, Cond.code yX4_digestPlan cX4_digestPlan 6 (some .long), Cond.methodLink RL 223 yX5_digest, Cond.instanceMethod yX5_digest, Cond.selects RX5 yX5_digest yX5_digest, Cond.code yX5_digest cX5_digest 5 (some .long), Cond.constantLong RX5 186 (101), Cond.constantLong RX5 188 (31)]
def wsL_law0 : List Cond := (wsL_law0_r1 ++ (wsL_law0_r2 ++ (wsL_law0_r3 ++ (wsL_law0_r4 ++ (wsL_law0_r5 ++ (wsL_law0_r6 ++ (wsL_law0_r7 ++ (wsL_law0_r8 ++ (wsL_law0_r9 ++ (wsL_law0_r10 ++ (wsL_law0_r11 ++ (wsL_law0_r12 ++ (wsL_law0_r13 ++ (wsL_law0_r14 ++ (wsL_law0_r15 ++ (wsL_law0_r16 ++ (wsL_law0_r17 ++ (wsL_law0_r18 ++ (wsL_law0_r19 ++ (wsL_law0_r20 ++ (wsL_law0_r21 ++ (wsL_law0_r22 ++ (wsL_law0_r23 ++ (wsL_law0_r24 ++ (wsL_law0_r25 ++ (wsL_law0_r26 ++ (wsL_law0_r27 ++ (wsL_law0_r28 ++ (wsL_law0_r29 ++ (wsL_law0_r30 ++ (wsL_law0_r31 ++ (wsL_law0_r32 ++ (wsL_law0_r33 ++ wsL_law0_r34))))))))))))))))))))))))))))))))) ++ wsX40 ++ wsX50 ++ wsX30 ++ wsX10 ++ wsX20 ++ wsX00 ++ ([] : List Cond)
def wsL_law : List Cond := wsL_law0 ++ (vx_atS RX4 98 "java/lang/IndexOutOfBoundsException" ["java/lang/RuntimeException", "java/lang/Exception"]).filter goodWord ++ (vx_atS RX4 191 "java/lang/IllegalArgumentException" ["java/lang/RuntimeException", "java/lang/Exception"]).filter goodWord ++ (vx_atS RX4 201 "java/lang/IllegalStateException" ["java/lang/RuntimeException", "java/lang/Exception"]).filter goodWord
end
section
abbrev vwCl : List vw_C := [(RX0, TX0, 8), (RX1, TX1, 6), (RX2, TX2, 8), (RX3, TX3, 2), (RX4, TX4, 7), (RX5, TX5, 25)]
end
section
set_option maxRecDepth 20000 in
theorem ggX0_init_X3_init : GoodIn wsX0_init wsX3_init := goodIn_r _ [17, 18, 2, 3, 19, 20, 21, 22, 23, 24, 25, 26, 27] (by decide +kernel) (by decide +kernel)
set_option maxRecDepth 20000 in
theorem gX0_init_X3_init : GoodIn wsX0_init (wsX3_init) := ggX0_init_X3_init
theorem dX0_init_0 : decode cX0_init 0 = .ok (.aload_n 0, 1) := by decide +kernel
theorem dX0_init_1 : decode cX0_init 1 = .ok (.invokespecial 3, 3) := by decide +kernel
theorem dX0_init_4 : decode cX0_init 4 = .ok (.aload_n 0, 1) := by decide +kernel
theorem dX0_init_5 : decode cX0_init 5 = .ok (.new 9, 3) := by decide +kernel
theorem dX0_init_8 : decode cX0_init 8 = .ok (.dup, 1) := by decide +kernel
theorem dX0_init_9 : decode cX0_init 9 = .ok (.sipush 300, 3) := by decide +kernel
theorem dX0_init_12 : decode cX0_init 12 = .ok (.invokespecial 11, 3) := by decide +kernel
theorem dX0_init_15 : decode cX0_init 15 = .ok (.putfield 14, 3) := by decide +kernel
theorem dX0_init_18 : decode cX0_init 18 = .ok (.aload_n 0, 1) := by decide +kernel
theorem dX0_init_19 : decode cX0_init 19 = .ok (.iconst 0, 1) := by decide +kernel
theorem dX0_init_20 : decode cX0_init 20 = .ok (.putfield 20, 3) := by decide +kernel
theorem dX0_init_23 : decode cX0_init 23 = .ok (.aload_n 0, 1) := by decide +kernel
theorem dX0_init_24 : decode cX0_init 24 = .ok (.iconst 0, 1) := by decide +kernel
theorem dX0_init_25 : decode cX0_init 25 = .ok (.putfield 24, 3) := by decide +kernel
theorem dX0_init_28 : decode cX0_init 28 = .ok (.aload_n 0, 1) := by decide +kernel
theorem dX0_init_29 : decode cX0_init 29 = .ok (.iconst 0, 1) := by decide +kernel
theorem dX0_init_30 : decode cX0_init 30 = .ok (.putfield 27, 3) := by decide +kernel
theorem dX0_init_33 : decode cX0_init 33 = .ok (.aload_n 0, 1) := by decide +kernel
theorem dX0_init_34 : decode cX0_init 34 = .ok (.iconst (-1), 1) := by decide +kernel
theorem dX0_init_35 : decode cX0_init 35 = .ok (.putfield 30, 3) := by decide +kernel
theorem dX0_init_38 : decode cX0_init 38 = .ok (.aload_n 0, 1) := by decide +kernel
theorem dX0_init_39 : decode cX0_init 39 = .ok (.iconst 0, 1) := by decide +kernel
theorem dX0_init_40 : decode cX0_init 40 = .ok (.putfield 33, 3) := by decide +kernel
theorem dX0_init_43 : decode cX0_init 43 = .ok (.aload_n 0, 1) := by decide +kernel
theorem dX0_init_44 : decode cX0_init 44 = .ok (.iconst 0, 1) := by decide +kernel
theorem dX0_init_45 : decode cX0_init 45 = .ok (.putfield 36, 3) := by decide +kernel
theorem dX0_init_48 : decode cX0_init 48 = .ok (.aload_n 0, 1) := by decide +kernel
theorem dX0_init_49 : decode cX0_init 49 = .ok (.iconst 0, 1) := by decide +kernel
theorem dX0_init_50 : decode cX0_init 50 = .ok (.putfield 39, 3) := by decide +kernel
theorem dX0_init_53 : decode cX0_init 53 = .ok (.return_, 1) := by decide +kernel
theorem dX0_product_0 : decode cX0_product 0 = .ok (.aload_n 0, 1) := by decide +kernel
theorem dX0_product_1 : decode cX0_product 1 = .ok (.getfield 14, 3) := by decide +kernel
theorem dX0_product_4 : decode cX0_product 4 = .ok (.areturn, 1) := by decide +kernel
theorem dX0_errorAt_0 : decode cX0_errorAt 0 = .ok (.aload_n 0, 1) := by decide +kernel
theorem dX0_errorAt_1 : decode cX0_errorAt 1 = .ok (.getfield 30, 3) := by decide +kernel
theorem dX0_errorAt_4 : decode cX0_errorAt 4 = .ok (.ireturn, 1) := by decide +kernel
set_option maxRecDepth 20000 in
theorem ggX0_readCode_X3_clear : GoodIn wsX0_readCode wsX3_clear := goodIn_r _ [10, 11, 85, 86] (by decide +kernel) (by decide +kernel)
set_option maxRecDepth 20000 in
theorem gX0_readCode_X3_clear : GoodIn wsX0_readCode (wsV RX0 42 RX3 yX3_clear wsX3_clear) := goodIn_app (goodIn_of _ (by decide +kernel)) ggX0_readCode_X3_clear
set_option maxRecDepth 20000 in
theorem ggX0_readCode_X3_count : GoodIn wsX0_readCode wsX3_count := goodIn_r _ [15, 11, 85, 86] (by decide +kernel) (by decide +kernel)
set_option maxRecDepth 20000 in
theorem gX0_readCode_X3_count : GoodIn wsX0_readCode (wsV RX0 45 RX3 yX3_count wsX3_count) := goodIn_app (goodIn_of _ (by decide +kernel)) ggX0_readCode_X3_count
set_option maxRecDepth 20000 in
theorem ggX0_readCode_X0_tell : GoodIn wsX0_readCode wsX0_tell := goodIn_r _ [20, 4, 5, 77, 78, 79, 80, 81, 82, 83, 84] (by decide +kernel) (by decide +kernel)
set_option maxRecDepth 20000 in
theorem gX0_readCode_X0_tell : GoodIn wsX0_readCode (wsV RX0 49 RX0 yX0_tell wsX0_tell) := goodIn_app (goodIn_of _ (by decide +kernel)) ggX0_readCode_X0_tell
set_option maxRecDepth 20000 in
theorem ggX0_readCode_X0_readInstruction : GoodIn wsX0_readCode wsX0_readInstruction := goodIn_r _ [24, 2, 25, 26, 27, 28, 29, 30, 19, 31, 4, 32, 33, 34, 35, 3, 16, 17, 18, 20, 5, 36, 37, 38, 9, 39, 40, 41, 42, 43, 44, 11, 45, 46, 47, 48, 77, 78, 79, 80, 81, 82, 83, 84, 85, 86] (by decide +kernel) (by decide +kernel)
set_option maxRecDepth 20000 in
theorem gX0_readCode_X0_readInstruction : GoodIn wsX0_readCode (wsV RX0 53 RX0 yX0_readInstruction wsX0_readInstruction) := goodIn_app (goodIn_of _ (by decide +kernel)) ggX0_readCode_X0_readInstruction
set_option maxRecDepth 20000 in
theorem ggX0_readCode_X0_judgeInstruction : GoodIn wsX0_readCode wsX0_judgeInstruction := goodIn_r _ [52, 25, 27, 26, 1, 12, 13, 14, 9, 15, 11, 16, 17, 18, 19, 20, 4, 5, 53, 54, 55, 56, 40, 77, 78, 79, 80, 81, 82, 83, 84, 85, 86] (by decide +kernel) (by decide +kernel)
set_option maxRecDepth 20000 in
theorem gX0_readCode_X0_judgeInstruction : GoodIn wsX0_readCode (wsV RX0 57 RX0 yX0_judgeInstruction wsX0_judgeInstruction) := goodIn_app (goodIn_of _ (by decide +kernel)) ggX0_readCode_X0_judgeInstruction
set_option maxRecDepth 20000 in
theorem ggX0_readCode_X0_makeBytes : GoodIn wsX0_readCode wsX0_makeBytes := goodIn_r _ [60, 26, 4, 1, 61, 62, 63, 19, 64, 25, 27, 36, 37, 38, 9, 39, 40, 41, 42, 43, 44, 11, 65, 66, 67, 68, 77, 78, 79, 80, 81, 82, 83, 84, 85, 86] (by decide +kernel) (by decide +kernel)
set_option maxRecDepth 20000 in
theorem gX0_readCode_X0_makeBytes : GoodIn wsX0_readCode (wsV RX0 61 RX0 yX0_makeBytes wsX0_makeBytes) := goodIn_app (goodIn_of _ (by decide +kernel)) ggX0_readCode_X0_makeBytes
set_option maxRecDepth 20000 in
theorem ggX0_readCode_X0_judgeCheck : GoodIn wsX0_readCode wsX0_judgeCheck := goodIn_r _ [72, 1, 3, 12, 13, 14, 9, 15, 11, 73, 74, 75, 76, 37, 38, 39, 40, 41, 42, 43, 44, 36, 16, 17, 18, 19, 20, 4, 5, 77, 78, 79, 80, 81, 82, 83, 84, 85, 86] (by decide +kernel) (by decide +kernel)
set_option maxRecDepth 20000 in
theorem gX0_readCode_X0_judgeCheck : GoodIn wsX0_readCode (wsV RX0 65 RX0 yX0_judgeCheck wsX0_judgeCheck) := goodIn_app (goodIn_of _ (by decide +kernel)) ggX0_readCode_X0_judgeCheck
theorem dX0_readCode_0 : decode cX0_readCode 0 = .ok (.aload_n 0, 1) := by decide +kernel
theorem dX0_readCode_1 : decode cX0_readCode 1 = .ok (.getfield 14, 3) := by decide +kernel
theorem dX0_readCode_4 : decode cX0_readCode 4 = .ok (.invokevirtual 42, 3) := by decide +kernel
theorem dX0_readCode_7 : decode cX0_readCode 7 = .ok (.aload_n 0, 1) := by decide +kernel
theorem dX0_readCode_8 : decode cX0_readCode 8 = .ok (.iconst 0, 1) := by decide +kernel
theorem dX0_readCode_9 : decode cX0_readCode 9 = .ok (.putfield 20, 3) := by decide +kernel
theorem dX0_readCode_12 : decode cX0_readCode 12 = .ok (.aload_n 0, 1) := by decide +kernel
theorem dX0_readCode_13 : decode cX0_readCode 13 = .ok (.aload_n 1, 1) := by decide +kernel
theorem dX0_readCode_14 : decode cX0_readCode 14 = .ok (.invokevirtual 45, 3) := by decide +kernel
theorem dX0_readCode_17 : decode cX0_readCode 17 = .ok (.iconst 2, 1) := by decide +kernel
theorem dX0_readCode_18 : decode cX0_readCode 18 = .ok (.isub, 1) := by decide +kernel
theorem dX0_readCode_19 : decode cX0_readCode 19 = .ok (.putfield 24, 3) := by decide +kernel
theorem dX0_readCode_22 : decode cX0_readCode 22 = .ok (.aload_n 0, 1) := by decide +kernel
theorem dX0_readCode_23 : decode cX0_readCode 23 = .ok (.iconst 0, 1) := by decide +kernel
theorem dX0_readCode_24 : decode cX0_readCode 24 = .ok (.putfield 27, 3) := by decide +kernel
theorem dX0_readCode_27 : decode cX0_readCode 27 = .ok (.aload_n 0, 1) := by decide +kernel
theorem dX0_readCode_28 : decode cX0_readCode 28 = .ok (.iconst (-1), 1) := by decide +kernel
theorem dX0_readCode_29 : decode cX0_readCode 29 = .ok (.putfield 30, 3) := by decide +kernel
theorem dX0_readCode_32 : decode cX0_readCode 32 = .ok (.aload_n 0, 1) := by decide +kernel
theorem dX0_readCode_33 : decode cX0_readCode 33 = .ok (.getfield 24, 3) := by decide +kernel
theorem dX0_readCode_36 : decode cX0_readCode 36 = .ok (.ifCond .ge 12, 3) := by decide +kernel
theorem dX0_readCode_39 : decode cX0_readCode 39 = .ok (.aload_n 0, 1) := by decide +kernel
theorem dX0_readCode_40 : decode cX0_readCode 40 = .ok (.iconst 1, 1) := by decide +kernel
theorem dX0_readCode_41 : decode cX0_readCode 41 = .ok (.aload_n 1, 1) := by decide +kernel
theorem dX0_readCode_42 : decode cX0_readCode 42 = .ok (.invokevirtual 45, 3) := by decide +kernel
theorem dX0_readCode_45 : decode cX0_readCode 45 = .ok (.invokevirtual 49, 3) := by decide +kernel
theorem dX0_readCode_48 : decode cX0_readCode 48 = .ok (.iconst 0, 1) := by decide +kernel
theorem dX0_readCode_49 : decode cX0_readCode 49 = .ok (.istore_n 3, 1) := by decide +kernel
theorem dX0_readCode_50 : decode cX0_readCode 50 = .ok (.iload_n 3, 1) := by decide +kernel
theorem dX0_readCode_51 : decode cX0_readCode 51 = .ok (.aload_n 0, 1) := by decide +kernel
theorem dX0_readCode_52 : decode cX0_readCode 52 = .ok (.getfield 24, 3) := by decide +kernel
theorem dX0_readCode_55 : decode cX0_readCode 55 = .ok (.if_icmp .ge 51, 3) := by decide +kernel
theorem dX0_readCode_58 : decode cX0_readCode 58 = .ok (.aload_n 0, 1) := by decide +kernel
theorem dX0_readCode_59 : decode cX0_readCode 59 = .ok (.getfield 20, 3) := by decide +kernel
theorem dX0_readCode_62 : decode cX0_readCode 62 = .ok (.aload_n 0, 1) := by decide +kernel
theorem dX0_readCode_63 : decode cX0_readCode 63 = .ok (.getfield 24, 3) := by decide +kernel
theorem dX0_readCode_66 : decode cX0_readCode 66 = .ok (.if_icmp .ge 40, 3) := by decide +kernel
theorem dX0_readCode_69 : decode cX0_readCode 69 = .ok (.aload_n 0, 1) := by decide +kernel
theorem dX0_readCode_70 : decode cX0_readCode 70 = .ok (.getfield 27, 3) := by decide +kernel
theorem dX0_readCode_73 : decode cX0_readCode 73 = .ok (.ifCond .ne 33, 3) := by decide +kernel
theorem dX0_readCode_76 : decode cX0_readCode 76 = .ok (.aload_n 0, 1) := by decide +kernel
theorem dX0_readCode_77 : decode cX0_readCode 77 = .ok (.getfield 20, 3) := by decide +kernel
theorem dX0_readCode_80 : decode cX0_readCode 80 = .ok (.istore 4, 2) := by decide +kernel
theorem dX0_readCode_82 : decode cX0_readCode 82 = .ok (.aload_n 0, 1) := by decide +kernel
theorem dX0_readCode_83 : decode cX0_readCode 83 = .ok (.aload_n 1, 1) := by decide +kernel
theorem dX0_readCode_84 : decode cX0_readCode 84 = .ok (.invokevirtual 53, 3) := by decide +kernel
theorem dX0_readCode_87 : decode cX0_readCode 87 = .ok (.aload_n 0, 1) := by decide +kernel
theorem dX0_readCode_88 : decode cX0_readCode 88 = .ok (.iload 4, 2) := by decide +kernel
theorem dX0_readCode_90 : decode cX0_readCode 90 = .ok (.aload_n 2, 1) := by decide +kernel
theorem dX0_readCode_91 : decode cX0_readCode 91 = .ok (.invokevirtual 57, 3) := by decide +kernel
theorem dX0_readCode_94 : decode cX0_readCode 94 = .ok (.aload_n 0, 1) := by decide +kernel
theorem dX0_readCode_95 : decode cX0_readCode 95 = .ok (.aload_n 1, 1) := by decide +kernel
theorem dX0_readCode_96 : decode cX0_readCode 96 = .ok (.aload_n 2, 1) := by decide +kernel
theorem dX0_readCode_97 : decode cX0_readCode 97 = .ok (.invokevirtual 61, 3) := by decide +kernel
theorem dX0_readCode_100 : decode cX0_readCode 100 = .ok (.iinc 3 1, 3) := by decide +kernel
theorem dX0_readCode_103 : decode cX0_readCode 103 = .ok (.goto (-53), 3) := by decide +kernel
theorem dX0_readCode_106 : decode cX0_readCode 106 = .ok (.aload_n 0, 1) := by decide +kernel
theorem dX0_readCode_107 : decode cX0_readCode 107 = .ok (.aload_n 1, 1) := by decide +kernel
theorem dX0_readCode_108 : decode cX0_readCode 108 = .ok (.invokevirtual 65, 3) := by decide +kernel
theorem dX0_readCode_111 : decode cX0_readCode 111 = .ok (.aload_n 0, 1) := by decide +kernel
theorem dX0_readCode_112 : decode cX0_readCode 112 = .ok (.getfield 27, 3) := by decide +kernel
theorem dX0_readCode_115 : decode cX0_readCode 115 = .ok (.ireturn, 1) := by decide +kernel
theorem dX0_tell_0 : decode cX0_tell 0 = .ok (.aload_n 0, 1) := by decide +kernel
theorem dX0_tell_1 : decode cX0_tell 1 = .ok (.getfield 27, 3) := by decide +kernel
theorem dX0_tell_4 : decode cX0_tell 4 = .ok (.ifCond .ne 13, 3) := by decide +kernel
theorem dX0_tell_7 : decode cX0_tell 7 = .ok (.aload_n 0, 1) := by decide +kernel
theorem dX0_tell_8 : decode cX0_tell 8 = .ok (.iload_n 1, 1) := by decide +kernel
theorem dX0_tell_9 : decode cX0_tell 9 = .ok (.putfield 27, 3) := by decide +kernel
theorem dX0_tell_12 : decode cX0_tell 12 = .ok (.aload_n 0, 1) := by decide +kernel
theorem dX0_tell_13 : decode cX0_tell 13 = .ok (.iload_n 2, 1) := by decide +kernel
theorem dX0_tell_14 : decode cX0_tell 14 = .ok (.putfield 30, 3) := by decide +kernel
theorem dX0_tell_17 : decode cX0_tell 17 = .ok (.return_, 1) := by decide +kernel
set_option maxRecDepth 20000 in
theorem ggX0_readInstruction_X0_nextByte : GoodIn wsX0_readInstruction wsX0_nextByte := goodIn_r _ [9, 1, 10, 11, 12, 13, 8, 14, 15, 16, 17, 18, 19, 20, 21, 22, 23, 24, 25, 26, 27, 28, 29, 30, 31, 36, 37, 38, 39, 40, 41, 42, 43, 44, 45] (by decide +kernel) (by decide +kernel)
set_option maxRecDepth 20000 in
theorem gX0_readInstruction_X0_nextByte : GoodIn wsX0_readInstruction (wsV RX0 68 RX0 yX0_nextByte wsX0_nextByte) := goodIn_app (goodIn_of _ (by decide +kernel)) ggX0_readInstruction_X0_nextByte
set_option maxRecDepth 20000 in
theorem ggX0_readInstruction_X0_tell : GoodIn wsX0_readInstruction wsX0_tell := goodIn_r _ [19, 10, 20, 36, 37, 38, 39, 40, 41, 42, 43] (by decide +kernel) (by decide +kernel)
set_option maxRecDepth 20000 in
theorem gX0_readInstruction_X0_tell : GoodIn wsX0_readInstruction (wsV RX0 49 RX0 yX0_tell wsX0_tell) := goodIn_app (goodIn_of _ (by decide +kernel)) ggX0_readInstruction_X0_tell
set_option maxRecDepth 20000 in
theorem ggX0_readInstruction_X0_nextNumber : GoodIn wsX0_readInstruction wsX0_nextNumber := goodIn_r _ [35, 1, 5, 6, 7, 8, 9, 10, 11, 12, 13, 14, 15, 16, 17, 18, 19, 20, 21, 22, 23, 24, 25, 26, 27, 28, 29, 30, 31, 36, 37, 38, 39, 40, 41, 42, 43, 44, 45] (by decide +kernel) (by decide +kernel)
set_option maxRecDepth 20000 in
theorem gX0_readInstruction_X0_nextNumber : GoodIn wsX0_readInstruction (wsV RX0 72 RX0 yX0_nextNumber wsX0_nextNumber) := goodIn_app (goodIn_of _ (by decide +kernel)) ggX0_readInstruction_X0_nextNumber
set_option maxRecDepth 20000 in
theorem ggX0_readInstruction_X0_passBytes : GoodIn wsX0_readInstruction wsX0_passBytes := goodIn_r _ [14, 15, 1, 10, 16, 17, 18, 8, 19, 20, 36, 37, 38, 39, 40, 41, 42, 43] (by decide +kernel) (by decide +kernel)
set_option maxRecDepth 20000 in
theorem gX0_readInstruction_X0_passBytes : GoodIn wsX0_readInstruction (wsV RX0 75 RX0 yX0_passBytes wsX0_passBytes) := goodIn_app (goodIn_of _ (by decide +kernel)) ggX0_readInstruction_X0_passBytes
theorem dX0_readInstruction_0 : decode cX0_readInstruction 0 = .ok (.aload_n 0, 1) := by decide +kernel
theorem dX0_readInstruction_1 : decode cX0_readInstruction 1 = .ok (.getfield 20, 3) := by decide +kernel
theorem dX0_readInstruction_4 : decode cX0_readInstruction 4 = .ok (.istore_n 2, 1) := by decide +kernel
theorem dX0_readInstruction_5 : decode cX0_readInstruction 5 = .ok (.aload_n 0, 1) := by decide +kernel
theorem dX0_readInstruction_6 : decode cX0_readInstruction 6 = .ok (.aload_n 1, 1) := by decide +kernel
theorem dX0_readInstruction_7 : decode cX0_readInstruction 7 = .ok (.invokevirtual 68, 3) := by decide +kernel
theorem dX0_readInstruction_10 : decode cX0_readInstruction 10 = .ok (.istore_n 3, 1) := by decide +kernel
theorem dX0_readInstruction_11 : decode cX0_readInstruction 11 = .ok (.aload_n 0, 1) := by decide +kernel
theorem dX0_readInstruction_12 : decode cX0_readInstruction 12 = .ok (.iload_n 3, 1) := by decide +kernel
theorem dX0_readInstruction_13 : decode cX0_readInstruction 13 = .ok (.bipush 64, 2) := by decide +kernel
theorem dX0_readInstruction_15 : decode cX0_readInstruction 15 = .ok (.idiv, 1) := by decide +kernel
theorem dX0_readInstruction_16 : decode cX0_readInstruction 16 = .ok (.putfield 33, 3) := by decide +kernel
theorem dX0_readInstruction_19 : decode cX0_readInstruction 19 = .ok (.aload_n 0, 1) := by decide +kernel
theorem dX0_readInstruction_20 : decode cX0_readInstruction 20 = .ok (.iload_n 3, 1) := by decide +kernel
theorem dX0_readInstruction_21 : decode cX0_readInstruction 21 = .ok (.bipush 64, 2) := by decide +kernel
theorem dX0_readInstruction_23 : decode cX0_readInstruction 23 = .ok (.irem, 1) := by decide +kernel
theorem dX0_readInstruction_24 : decode cX0_readInstruction 24 = .ok (.putfield 36, 3) := by decide +kernel
theorem dX0_readInstruction_27 : decode cX0_readInstruction 27 = .ok (.aload_n 0, 1) := by decide +kernel
theorem dX0_readInstruction_28 : decode cX0_readInstruction 28 = .ok (.getfield 36, 3) := by decide +kernel
theorem dX0_readInstruction_31 : decode cX0_readInstruction 31 = .ok (.ifCond .ne 9, 3) := by decide +kernel
theorem dX0_readInstruction_34 : decode cX0_readInstruction 34 = .ok (.aload_n 0, 1) := by decide +kernel
theorem dX0_readInstruction_35 : decode cX0_readInstruction 35 = .ok (.iconst 2, 1) := by decide +kernel
theorem dX0_readInstruction_36 : decode cX0_readInstruction 36 = .ok (.iload_n 2, 1) := by decide +kernel
theorem dX0_readInstruction_37 : decode cX0_readInstruction 37 = .ok (.invokevirtual 49, 3) := by decide +kernel
theorem dX0_readInstruction_40 : decode cX0_readInstruction 40 = .ok (.aload_n 0, 1) := by decide +kernel
theorem dX0_readInstruction_41 : decode cX0_readInstruction 41 = .ok (.getfield 36, 3) := by decide +kernel
theorem dX0_readInstruction_44 : decode cX0_readInstruction 44 = .ok (.bipush 63, 2) := by decide +kernel
theorem dX0_readInstruction_46 : decode cX0_readInstruction 46 = .ok (.if_icmp .ne 17, 3) := by decide +kernel
theorem dX0_readInstruction_49 : decode cX0_readInstruction 49 = .ok (.aload_n 0, 1) := by decide +kernel
theorem dX0_readInstruction_50 : decode cX0_readInstruction 50 = .ok (.dup, 1) := by decide +kernel
theorem dX0_readInstruction_51 : decode cX0_readInstruction 51 = .ok (.getfield 36, 3) := by decide +kernel
theorem dX0_readInstruction_54 : decode cX0_readInstruction 54 = .ok (.aload_n 0, 1) := by decide +kernel
theorem dX0_readInstruction_55 : decode cX0_readInstruction 55 = .ok (.aload_n 1, 1) := by decide +kernel
theorem dX0_readInstruction_56 : decode cX0_readInstruction 56 = .ok (.invokevirtual 72, 3) := by decide +kernel
theorem dX0_readInstruction_59 : decode cX0_readInstruction 59 = .ok (.iadd, 1) := by decide +kernel
theorem dX0_readInstruction_60 : decode cX0_readInstruction 60 = .ok (.putfield 36, 3) := by decide +kernel
theorem dX0_readInstruction_63 : decode cX0_readInstruction 63 = .ok (.aload_n 0, 1) := by decide +kernel
theorem dX0_readInstruction_64 : decode cX0_readInstruction 64 = .ok (.getfield 33, 3) := by decide +kernel
theorem dX0_readInstruction_67 : decode cX0_readInstruction 67 = .ok (.ifCond .ne 22, 3) := by decide +kernel
theorem dX0_readInstruction_70 : decode cX0_readInstruction 70 = .ok (.aload_n 0, 1) := by decide +kernel
theorem dX0_readInstruction_71 : decode cX0_readInstruction 71 = .ok (.aload_n 0, 1) := by decide +kernel
theorem dX0_readInstruction_72 : decode cX0_readInstruction 72 = .ok (.getfield 20, 3) := by decide +kernel
theorem dX0_readInstruction_75 : decode cX0_readInstruction 75 = .ok (.putfield 39, 3) := by decide +kernel
theorem dX0_readInstruction_78 : decode cX0_readInstruction 78 = .ok (.aload_n 0, 1) := by decide +kernel
theorem dX0_readInstruction_79 : decode cX0_readInstruction 79 = .ok (.aload_n 0, 1) := by decide +kernel
theorem dX0_readInstruction_80 : decode cX0_readInstruction 80 = .ok (.getfield 36, 3) := by decide +kernel
theorem dX0_readInstruction_83 : decode cX0_readInstruction 83 = .ok (.invokevirtual 75, 3) := by decide +kernel
theorem dX0_readInstruction_86 : decode cX0_readInstruction 86 = .ok (.goto 28, 3) := by decide +kernel
theorem dX0_readInstruction_89 : decode cX0_readInstruction 89 = .ok (.aload_n 0, 1) := by decide +kernel
theorem dX0_readInstruction_90 : decode cX0_readInstruction 90 = .ok (.aload_n 0, 1) := by decide +kernel
theorem dX0_readInstruction_91 : decode cX0_readInstruction 91 = .ok (.getfield 33, 3) := by decide +kernel
theorem dX0_readInstruction_94 : decode cX0_readInstruction 94 = .ok (.iconst 3, 1) := by decide +kernel
theorem dX0_readInstruction_95 : decode cX0_readInstruction 95 = .ok (.if_icmp .ne 11, 3) := by decide +kernel
theorem dX0_readInstruction_98 : decode cX0_readInstruction 98 = .ok (.aload_n 0, 1) := by decide +kernel
theorem dX0_readInstruction_99 : decode cX0_readInstruction 99 = .ok (.aload_n 1, 1) := by decide +kernel
theorem dX0_readInstruction_100 : decode cX0_readInstruction 100 = .ok (.invokevirtual 68, 3) := by decide +kernel
theorem dX0_readInstruction_103 : decode cX0_readInstruction 103 = .ok (.goto 8, 3) := by decide +kernel
theorem dX0_readInstruction_106 : decode cX0_readInstruction 106 = .ok (.aload_n 0, 1) := by decide +kernel
theorem dX0_readInstruction_107 : decode cX0_readInstruction 107 = .ok (.aload_n 1, 1) := by decide +kernel
theorem dX0_readInstruction_108 : decode cX0_readInstruction 108 = .ok (.invokevirtual 72, 3) := by decide +kernel
theorem dX0_readInstruction_111 : decode cX0_readInstruction 111 = .ok (.putfield 39, 3) := by decide +kernel
theorem dX0_readInstruction_114 : decode cX0_readInstruction 114 = .ok (.return_, 1) := by decide +kernel
set_option maxRecDepth 20000 in
theorem ggX0_nextByte_X0_passBytes : GoodIn wsX0_nextByte wsX0_passBytes := goodIn_r _ [7, 8, 1, 2, 9, 10, 11, 6, 12, 13, 25, 26, 27, 28, 29, 30, 31, 32] (by decide +kernel) (by decide +kernel)
set_option maxRecDepth 20000 in
theorem gX0_nextByte_X0_passBytes : GoodIn wsX0_nextByte (wsV RX0 75 RX0 yX0_passBytes wsX0_passBytes) := goodIn_app (goodIn_of _ (by decide +kernel)) ggX0_nextByte_X0_passBytes
set_option maxRecDepth 20000 in
theorem ggX0_nextByte_X3_at : GoodIn wsX0_nextByte wsX3_at := goodIn_r _ [18, 19, 20, 21, 22, 17, 23, 24, 33, 34] (by decide +kernel) (by decide +kernel)
set_option maxRecDepth 20000 in
theorem gX0_nextByte_X3_at : GoodIn wsX0_nextByte (wsV RX0 78 RX3 yX3_at wsX3_at) := goodIn_app (goodIn_of _ (by decide +kernel)) ggX0_nextByte_X3_at
theorem dX0_nextByte_0 : decode cX0_nextByte 0 = .ok (.aload_n 0, 1) := by decide +kernel
theorem dX0_nextByte_1 : decode cX0_nextByte 1 = .ok (.getfield 20, 3) := by decide +kernel
theorem dX0_nextByte_4 : decode cX0_nextByte 4 = .ok (.istore_n 2, 1) := by decide +kernel
theorem dX0_nextByte_5 : decode cX0_nextByte 5 = .ok (.aload_n 0, 1) := by decide +kernel
theorem dX0_nextByte_6 : decode cX0_nextByte 6 = .ok (.iconst 1, 1) := by decide +kernel
theorem dX0_nextByte_7 : decode cX0_nextByte 7 = .ok (.invokevirtual 75, 3) := by decide +kernel
theorem dX0_nextByte_10 : decode cX0_nextByte 10 = .ok (.aload_n 0, 1) := by decide +kernel
theorem dX0_nextByte_11 : decode cX0_nextByte 11 = .ok (.getfield 27, 3) := by decide +kernel
theorem dX0_nextByte_14 : decode cX0_nextByte 14 = .ok (.ifCond .ne 11, 3) := by decide +kernel
theorem dX0_nextByte_17 : decode cX0_nextByte 17 = .ok (.aload_n 1, 1) := by decide +kernel
theorem dX0_nextByte_18 : decode cX0_nextByte 18 = .ok (.iload_n 2, 1) := by decide +kernel
theorem dX0_nextByte_19 : decode cX0_nextByte 19 = .ok (.invokevirtual 78, 3) := by decide +kernel
theorem dX0_nextByte_22 : decode cX0_nextByte 22 = .ok (.goto 4, 3) := by decide +kernel
theorem dX0_nextByte_25 : decode cX0_nextByte 25 = .ok (.iconst 0, 1) := by decide +kernel
theorem dX0_nextByte_26 : decode cX0_nextByte 26 = .ok (.ireturn, 1) := by decide +kernel
set_option maxRecDepth 20000 in
theorem ggX0_nextNumber_X0_nextByte : GoodIn wsX0_nextNumber wsX0_nextByte := goodIn_r _ [6, 1, 7, 8, 9, 10, 5, 11, 12, 13, 14, 15, 16, 17, 18, 19, 20, 21, 22, 23, 24, 25, 26, 27, 28, 29, 30, 31, 32, 33, 34, 35, 36, 37, 38] (by decide +kernel) (by decide +kernel)
set_option maxRecDepth 20000 in
theorem gX0_nextNumber_X0_nextByte : GoodIn wsX0_nextNumber (wsV RX0 68 RX0 yX0_nextByte wsX0_nextByte) := goodIn_app (goodIn_of _ (by decide +kernel)) ggX0_nextNumber_X0_nextByte
set_option maxRecDepth 20000 in
theorem ggX0_nextNumber_X0_tell : GoodIn wsX0_nextNumber wsX0_tell := goodIn_r _ [16, 7, 17, 29, 30, 31, 32, 33, 34, 35, 36] (by decide +kernel) (by decide +kernel)
set_option maxRecDepth 20000 in
theorem gX0_nextNumber_X0_tell : GoodIn wsX0_nextNumber (wsV RX0 49 RX0 yX0_tell wsX0_tell) := goodIn_app (goodIn_of _ (by decide +kernel)) ggX0_nextNumber_X0_tell
theorem dX0_nextNumber_0 : decode cX0_nextNumber 0 = .ok (.aload_n 0, 1) := by decide +kernel
theorem dX0_nextNumber_1 : decode cX0_nextNumber 1 = .ok (.aload_n 1, 1) := by decide +kernel
theorem dX0_nextNumber_2 : decode cX0_nextNumber 2 = .ok (.invokevirtual 68, 3) := by decide +kernel
theorem dX0_nextNumber_5 : decode cX0_nextNumber 5 = .ok (.istore_n 2, 1) := by decide +kernel
theorem dX0_nextNumber_6 : decode cX0_nextNumber 6 = .ok (.iload_n 2, 1) := by decide +kernel
theorem dX0_nextNumber_7 : decode cX0_nextNumber 7 = .ok (.sipush 128, 3) := by decide +kernel
theorem dX0_nextNumber_10 : decode cX0_nextNumber 10 = .ok (.if_icmp .ge 5, 3) := by decide +kernel
theorem dX0_nextNumber_13 : decode cX0_nextNumber 13 = .ok (.iload_n 2, 1) := by decide +kernel
theorem dX0_nextNumber_14 : decode cX0_nextNumber 14 = .ok (.ireturn, 1) := by decide +kernel
theorem dX0_nextNumber_15 : decode cX0_nextNumber 15 = .ok (.aload_n 0, 1) := by decide +kernel
theorem dX0_nextNumber_16 : decode cX0_nextNumber 16 = .ok (.getfield 20, 3) := by decide +kernel
theorem dX0_nextNumber_19 : decode cX0_nextNumber 19 = .ok (.istore_n 3, 1) := by decide +kernel
theorem dX0_nextNumber_20 : decode cX0_nextNumber 20 = .ok (.aload_n 0, 1) := by decide +kernel
theorem dX0_nextNumber_21 : decode cX0_nextNumber 21 = .ok (.aload_n 1, 1) := by decide +kernel
theorem dX0_nextNumber_22 : decode cX0_nextNumber 22 = .ok (.invokevirtual 68, 3) := by decide +kernel
theorem dX0_nextNumber_25 : decode cX0_nextNumber 25 = .ok (.istore 4, 2) := by decide +kernel
theorem dX0_nextNumber_27 : decode cX0_nextNumber 27 = .ok (.iload 4, 2) := by decide +kernel
theorem dX0_nextNumber_29 : decode cX0_nextNumber 29 = .ok (.sipush 128, 3) := by decide +kernel
theorem dX0_nextNumber_32 : decode cX0_nextNumber 32 = .ok (.if_icmp .lt 9, 3) := by decide +kernel
theorem dX0_nextNumber_35 : decode cX0_nextNumber 35 = .ok (.aload_n 0, 1) := by decide +kernel
theorem dX0_nextNumber_36 : decode cX0_nextNumber 36 = .ok (.iconst 2, 1) := by decide +kernel
theorem dX0_nextNumber_37 : decode cX0_nextNumber 37 = .ok (.iload_n 3, 1) := by decide +kernel
theorem dX0_nextNumber_38 : decode cX0_nextNumber 38 = .ok (.invokevirtual 49, 3) := by decide +kernel
theorem dX0_nextNumber_41 : decode cX0_nextNumber 41 = .ok (.iload_n 2, 1) := by decide +kernel
theorem dX0_nextNumber_42 : decode cX0_nextNumber 42 = .ok (.sipush 128, 3) := by decide +kernel
theorem dX0_nextNumber_45 : decode cX0_nextNumber 45 = .ok (.isub, 1) := by decide +kernel
theorem dX0_nextNumber_46 : decode cX0_nextNumber 46 = .ok (.sipush 128, 3) := by decide +kernel
theorem dX0_nextNumber_49 : decode cX0_nextNumber 49 = .ok (.iload 4, 2) := by decide +kernel
theorem dX0_nextNumber_51 : decode cX0_nextNumber 51 = .ok (.imul, 1) := by decide +kernel
theorem dX0_nextNumber_52 : decode cX0_nextNumber 52 = .ok (.iadd, 1) := by decide +kernel
theorem dX0_nextNumber_53 : decode cX0_nextNumber 53 = .ok (.ireturn, 1) := by decide +kernel
set_option maxRecDepth 20000 in
theorem ggX0_passBytes_X0_tell : GoodIn wsX0_passBytes wsX0_tell := goodIn_r _ [8, 3, 9, 10, 11, 12, 13, 14, 15, 16, 17] (by decide +kernel) (by decide +kernel)
set_option maxRecDepth 20000 in
theorem gX0_passBytes_X0_tell : GoodIn wsX0_passBytes (wsV RX0 49 RX0 yX0_tell wsX0_tell) := goodIn_app (goodIn_of _ (by decide +kernel)) ggX0_passBytes_X0_tell
theorem dX0_passBytes_0 : decode cX0_passBytes 0 = .ok (.iload_n 1, 1) := by decide +kernel
theorem dX0_passBytes_1 : decode cX0_passBytes 1 = .ok (.aload_n 0, 1) := by decide +kernel
theorem dX0_passBytes_2 : decode cX0_passBytes 2 = .ok (.getfield 24, 3) := by decide +kernel
theorem dX0_passBytes_5 : decode cX0_passBytes 5 = .ok (.aload_n 0, 1) := by decide +kernel
theorem dX0_passBytes_6 : decode cX0_passBytes 6 = .ok (.getfield 20, 3) := by decide +kernel
theorem dX0_passBytes_9 : decode cX0_passBytes 9 = .ok (.isub, 1) := by decide +kernel
theorem dX0_passBytes_10 : decode cX0_passBytes 10 = .ok (.if_icmp .le 12, 3) := by decide +kernel
theorem dX0_passBytes_13 : decode cX0_passBytes 13 = .ok (.aload_n 0, 1) := by decide +kernel
theorem dX0_passBytes_14 : decode cX0_passBytes 14 = .ok (.iconst 1, 1) := by decide +kernel
theorem dX0_passBytes_15 : decode cX0_passBytes 15 = .ok (.aload_n 0, 1) := by decide +kernel
theorem dX0_passBytes_16 : decode cX0_passBytes 16 = .ok (.getfield 24, 3) := by decide +kernel
theorem dX0_passBytes_19 : decode cX0_passBytes 19 = .ok (.invokevirtual 49, 3) := by decide +kernel
theorem dX0_passBytes_22 : decode cX0_passBytes 22 = .ok (.aload_n 0, 1) := by decide +kernel
theorem dX0_passBytes_23 : decode cX0_passBytes 23 = .ok (.getfield 27, 3) := by decide +kernel
theorem dX0_passBytes_26 : decode cX0_passBytes 26 = .ok (.ifCond .ne 13, 3) := by decide +kernel
theorem dX0_passBytes_29 : decode cX0_passBytes 29 = .ok (.aload_n 0, 1) := by decide +kernel
theorem dX0_passBytes_30 : decode cX0_passBytes 30 = .ok (.dup, 1) := by decide +kernel
theorem dX0_passBytes_31 : decode cX0_passBytes 31 = .ok (.getfield 20, 3) := by decide +kernel
theorem dX0_passBytes_34 : decode cX0_passBytes 34 = .ok (.iload_n 1, 1) := by decide +kernel
theorem dX0_passBytes_35 : decode cX0_passBytes 35 = .ok (.iadd, 1) := by decide +kernel
theorem dX0_passBytes_36 : decode cX0_passBytes 36 = .ok (.putfield 20, 3) := by decide +kernel
theorem dX0_passBytes_39 : decode cX0_passBytes 39 = .ok (.return_, 1) := by decide +kernel
set_option maxRecDepth 20000 in
theorem ggX0_judgeInstruction_X3_count : GoodIn wsX0_judgeInstruction wsX3_count := goodIn_r _ [9, 10, 31, 32] (by decide +kernel) (by decide +kernel)
set_option maxRecDepth 20000 in
theorem gX0_judgeInstruction_X3_count : GoodIn wsX0_judgeInstruction (wsV RX0 45 RX3 yX3_count wsX3_count) := goodIn_app (goodIn_of _ (by decide +kernel)) ggX0_judgeInstruction_X3_count
set_option maxRecDepth 20000 in
theorem ggX0_judgeInstruction_X0_tell : GoodIn wsX0_judgeInstruction wsX0_tell := goodIn_r _ [15, 16, 17, 23, 24, 25, 26, 27, 28, 29, 30] (by decide +kernel) (by decide +kernel)
set_option maxRecDepth 20000 in
theorem gX0_judgeInstruction_X0_tell : GoodIn wsX0_judgeInstruction (wsV RX0 49 RX0 yX0_tell wsX0_tell) := goodIn_app (goodIn_of _ (by decide +kernel)) ggX0_judgeInstruction_X0_tell
set_option maxRecDepth 20000 in
theorem ggX0_judgeInstruction_X3_hasRoom : GoodIn wsX0_judgeInstruction wsX3_hasRoom := goodIn_r _ [21, 22, 10, 31, 32] (by decide +kernel) (by decide +kernel)
set_option maxRecDepth 20000 in
theorem gX0_judgeInstruction_X3_hasRoom : GoodIn wsX0_judgeInstruction (wsV RX0 82 RX3 yX3_hasRoom wsX3_hasRoom) := goodIn_app (goodIn_of _ (by decide +kernel)) ggX0_judgeInstruction_X3_hasRoom
theorem dX0_judgeInstruction_0 : decode cX0_judgeInstruction 0 = .ok (.aload_n 0, 1) := by decide +kernel
theorem dX0_judgeInstruction_1 : decode cX0_judgeInstruction 1 = .ok (.getfield 33, 3) := by decide +kernel
theorem dX0_judgeInstruction_4 : decode cX0_judgeInstruction 4 = .ok (.iconst 1, 1) := by decide +kernel
theorem dX0_judgeInstruction_5 : decode cX0_judgeInstruction 5 = .ok (.if_icmp .ne 25, 3) := by decide +kernel
theorem dX0_judgeInstruction_8 : decode cX0_judgeInstruction 8 = .ok (.aload_n 0, 1) := by decide +kernel
theorem dX0_judgeInstruction_9 : decode cX0_judgeInstruction 9 = .ok (.getfield 39, 3) := by decide +kernel
theorem dX0_judgeInstruction_12 : decode cX0_judgeInstruction 12 = .ok (.aload_n 0, 1) := by decide +kernel
theorem dX0_judgeInstruction_13 : decode cX0_judgeInstruction 13 = .ok (.getfield 36, 3) := by decide +kernel
theorem dX0_judgeInstruction_16 : decode cX0_judgeInstruction 16 = .ok (.iadd, 1) := by decide +kernel
theorem dX0_judgeInstruction_17 : decode cX0_judgeInstruction 17 = .ok (.aload_n 2, 1) := by decide +kernel
theorem dX0_judgeInstruction_18 : decode cX0_judgeInstruction 18 = .ok (.invokevirtual 45, 3) := by decide +kernel
theorem dX0_judgeInstruction_21 : decode cX0_judgeInstruction 21 = .ok (.if_icmp .le 9, 3) := by decide +kernel
theorem dX0_judgeInstruction_24 : decode cX0_judgeInstruction 24 = .ok (.aload_n 0, 1) := by decide +kernel
theorem dX0_judgeInstruction_25 : decode cX0_judgeInstruction 25 = .ok (.iconst 3, 1) := by decide +kernel
theorem dX0_judgeInstruction_26 : decode cX0_judgeInstruction 26 = .ok (.iload_n 1, 1) := by decide +kernel
theorem dX0_judgeInstruction_27 : decode cX0_judgeInstruction 27 = .ok (.invokevirtual 49, 3) := by decide +kernel
theorem dX0_judgeInstruction_30 : decode cX0_judgeInstruction 30 = .ok (.aload_n 0, 1) := by decide +kernel
theorem dX0_judgeInstruction_31 : decode cX0_judgeInstruction 31 = .ok (.getfield 33, 3) := by decide +kernel
theorem dX0_judgeInstruction_34 : decode cX0_judgeInstruction 34 = .ok (.iconst 2, 1) := by decide +kernel
theorem dX0_judgeInstruction_35 : decode cX0_judgeInstruction 35 = .ok (.if_icmp .ne 23, 3) := by decide +kernel
theorem dX0_judgeInstruction_38 : decode cX0_judgeInstruction 38 = .ok (.aload_n 0, 1) := by decide +kernel
theorem dX0_judgeInstruction_39 : decode cX0_judgeInstruction 39 = .ok (.getfield 39, 3) := by decide +kernel
theorem dX0_judgeInstruction_42 : decode cX0_judgeInstruction 42 = .ok (.aload_n 0, 1) := by decide +kernel
theorem dX0_judgeInstruction_43 : decode cX0_judgeInstruction 43 = .ok (.getfield 14, 3) := by decide +kernel
theorem dX0_judgeInstruction_46 : decode cX0_judgeInstruction 46 = .ok (.invokevirtual 45, 3) := by decide +kernel
theorem dX0_judgeInstruction_49 : decode cX0_judgeInstruction 49 = .ok (.if_icmp .lt 9, 3) := by decide +kernel
theorem dX0_judgeInstruction_52 : decode cX0_judgeInstruction 52 = .ok (.aload_n 0, 1) := by decide +kernel
theorem dX0_judgeInstruction_53 : decode cX0_judgeInstruction 53 = .ok (.iconst 3, 1) := by decide +kernel
theorem dX0_judgeInstruction_54 : decode cX0_judgeInstruction 54 = .ok (.iload_n 1, 1) := by decide +kernel
theorem dX0_judgeInstruction_55 : decode cX0_judgeInstruction 55 = .ok (.invokevirtual 49, 3) := by decide +kernel
theorem dX0_judgeInstruction_58 : decode cX0_judgeInstruction 58 = .ok (.aload_n 0, 1) := by decide +kernel
theorem dX0_judgeInstruction_59 : decode cX0_judgeInstruction 59 = .ok (.getfield 14, 3) := by decide +kernel
theorem dX0_judgeInstruction_62 : decode cX0_judgeInstruction 62 = .ok (.aload_n 0, 1) := by decide +kernel
theorem dX0_judgeInstruction_63 : decode cX0_judgeInstruction 63 = .ok (.getfield 36, 3) := by decide +kernel
theorem dX0_judgeInstruction_66 : decode cX0_judgeInstruction 66 = .ok (.invokevirtual 82, 3) := by decide +kernel
theorem dX0_judgeInstruction_69 : decode cX0_judgeInstruction 69 = .ok (.ifCond .ne 9, 3) := by decide +kernel
theorem dX0_judgeInstruction_72 : decode cX0_judgeInstruction 72 = .ok (.aload_n 0, 1) := by decide +kernel
theorem dX0_judgeInstruction_73 : decode cX0_judgeInstruction 73 = .ok (.iconst 4, 1) := by decide +kernel
theorem dX0_judgeInstruction_74 : decode cX0_judgeInstruction 74 = .ok (.iload_n 1, 1) := by decide +kernel
theorem dX0_judgeInstruction_75 : decode cX0_judgeInstruction 75 = .ok (.invokevirtual 49, 3) := by decide +kernel
theorem dX0_judgeInstruction_78 : decode cX0_judgeInstruction 78 = .ok (.return_, 1) := by decide +kernel
set_option maxRecDepth 20000 in
theorem ggX0_makeBytes_X0_byteToMake : GoodIn wsX0_makeBytes wsX0_byteToMake := goodIn_r _ [8, 9, 10, 3, 11, 12, 13, 14, 15, 16, 17, 18, 19, 20, 21, 26, 27, 28, 29, 30, 31, 32, 33, 34, 35] (by decide +kernel) (by decide +kernel)
set_option maxRecDepth 20000 in
theorem gX0_makeBytes_X0_byteToMake : GoodIn wsX0_makeBytes (wsV RX0 86 RX0 yX0_byteToMake wsX0_byteToMake) := goodIn_app (goodIn_of _ (by decide +kernel)) ggX0_makeBytes_X0_byteToMake
set_option maxRecDepth 20000 in
theorem ggX0_makeBytes_X3_append : GoodIn wsX0_makeBytes wsX3_append := goodIn_r _ [25, 21, 16, 34, 35] (by decide +kernel) (by decide +kernel)
set_option maxRecDepth 20000 in
theorem gX0_makeBytes_X3_append : GoodIn wsX0_makeBytes (wsV RX0 90 RX3 yX3_append wsX3_append) := goodIn_app (goodIn_of _ (by decide +kernel)) ggX0_makeBytes_X3_append
theorem dX0_makeBytes_0 : decode cX0_makeBytes 0 = .ok (.iconst 0, 1) := by decide +kernel
theorem dX0_makeBytes_1 : decode cX0_makeBytes 1 = .ok (.istore_n 3, 1) := by decide +kernel
theorem dX0_makeBytes_2 : decode cX0_makeBytes 2 = .ok (.iload_n 3, 1) := by decide +kernel
theorem dX0_makeBytes_3 : decode cX0_makeBytes 3 = .ok (.aload_n 0, 1) := by decide +kernel
theorem dX0_makeBytes_4 : decode cX0_makeBytes 4 = .ok (.getfield 36, 3) := by decide +kernel
theorem dX0_makeBytes_7 : decode cX0_makeBytes 7 = .ok (.if_icmp .ge 30, 3) := by decide +kernel
theorem dX0_makeBytes_10 : decode cX0_makeBytes 10 = .ok (.aload_n 0, 1) := by decide +kernel
theorem dX0_makeBytes_11 : decode cX0_makeBytes 11 = .ok (.getfield 27, 3) := by decide +kernel
theorem dX0_makeBytes_14 : decode cX0_makeBytes 14 = .ok (.ifCond .ne 23, 3) := by decide +kernel
theorem dX0_makeBytes_17 : decode cX0_makeBytes 17 = .ok (.aload_n 0, 1) := by decide +kernel
theorem dX0_makeBytes_18 : decode cX0_makeBytes 18 = .ok (.getfield 14, 3) := by decide +kernel
theorem dX0_makeBytes_21 : decode cX0_makeBytes 21 = .ok (.aload_n 0, 1) := by decide +kernel
theorem dX0_makeBytes_22 : decode cX0_makeBytes 22 = .ok (.iload_n 3, 1) := by decide +kernel
theorem dX0_makeBytes_23 : decode cX0_makeBytes 23 = .ok (.aload_n 1, 1) := by decide +kernel
theorem dX0_makeBytes_24 : decode cX0_makeBytes 24 = .ok (.aload_n 2, 1) := by decide +kernel
theorem dX0_makeBytes_25 : decode cX0_makeBytes 25 = .ok (.invokevirtual 86, 3) := by decide +kernel
theorem dX0_makeBytes_28 : decode cX0_makeBytes 28 = .ok (.invokevirtual 90, 3) := by decide +kernel
theorem dX0_makeBytes_31 : decode cX0_makeBytes 31 = .ok (.iinc 3 1, 3) := by decide +kernel
theorem dX0_makeBytes_34 : decode cX0_makeBytes 34 = .ok (.goto (-32), 3) := by decide +kernel
theorem dX0_makeBytes_37 : decode cX0_makeBytes 37 = .ok (.return_, 1) := by decide +kernel
set_option maxRecDepth 20000 in
theorem ggX0_byteToMake_X3_at : GoodIn wsX0_byteToMake wsX3_at := goodIn_r _ [8, 9, 10, 11, 12, 7, 13, 14, 23, 24] (by decide +kernel) (by decide +kernel)
set_option maxRecDepth 20000 in
theorem gX0_byteToMake_X3_at : GoodIn wsX0_byteToMake (wsV RX0 78 RX3 yX3_at wsX3_at) := goodIn_app (goodIn_of _ (by decide +kernel)) ggX0_byteToMake_X3_at
theorem dX0_byteToMake_0 : decode cX0_byteToMake 0 = .ok (.aload_n 0, 1) := by decide +kernel
theorem dX0_byteToMake_1 : decode cX0_byteToMake 1 = .ok (.getfield 33, 3) := by decide +kernel
theorem dX0_byteToMake_4 : decode cX0_byteToMake 4 = .ok (.tableswitch 64 0 2 #[28, 39, 50], 28) := by decide +kernel
theorem dX0_byteToMake_32 : decode cX0_byteToMake 32 = .ok (.aload_n 2, 1) := by decide +kernel
theorem dX0_byteToMake_33 : decode cX0_byteToMake 33 = .ok (.aload_n 0, 1) := by decide +kernel
theorem dX0_byteToMake_34 : decode cX0_byteToMake 34 = .ok (.getfield 39, 3) := by decide +kernel
theorem dX0_byteToMake_37 : decode cX0_byteToMake 37 = .ok (.iload_n 1, 1) := by decide +kernel
theorem dX0_byteToMake_38 : decode cX0_byteToMake 38 = .ok (.iadd, 1) := by decide +kernel
theorem dX0_byteToMake_39 : decode cX0_byteToMake 39 = .ok (.invokevirtual 78, 3) := by decide +kernel
theorem dX0_byteToMake_42 : decode cX0_byteToMake 42 = .ok (.ireturn, 1) := by decide +kernel
theorem dX0_byteToMake_43 : decode cX0_byteToMake 43 = .ok (.aload_n 3, 1) := by decide +kernel
theorem dX0_byteToMake_44 : decode cX0_byteToMake 44 = .ok (.aload_n 0, 1) := by decide +kernel
theorem dX0_byteToMake_45 : decode cX0_byteToMake 45 = .ok (.getfield 39, 3) := by decide +kernel
theorem dX0_byteToMake_48 : decode cX0_byteToMake 48 = .ok (.iload_n 1, 1) := by decide +kernel
theorem dX0_byteToMake_49 : decode cX0_byteToMake 49 = .ok (.iadd, 1) := by decide +kernel
theorem dX0_byteToMake_50 : decode cX0_byteToMake 50 = .ok (.invokevirtual 78, 3) := by decide +kernel
theorem dX0_byteToMake_53 : decode cX0_byteToMake 53 = .ok (.ireturn, 1) := by decide +kernel
theorem dX0_byteToMake_54 : decode cX0_byteToMake 54 = .ok (.aload_n 0, 1) := by decide +kernel
theorem dX0_byteToMake_55 : decode cX0_byteToMake 55 = .ok (.getfield 14, 3) := by decide +kernel
theorem dX0_byteToMake_58 : decode cX0_byteToMake 58 = .ok (.aload_n 0, 1) := by decide +kernel
theorem dX0_byteToMake_59 : decode cX0_byteToMake 59 = .ok (.getfield 39, 3) := by decide +kernel
theorem dX0_byteToMake_62 : decode cX0_byteToMake 62 = .ok (.iload_n 1, 1) := by decide +kernel
theorem dX0_byteToMake_63 : decode cX0_byteToMake 63 = .ok (.iadd, 1) := by decide +kernel
theorem dX0_byteToMake_64 : decode cX0_byteToMake 64 = .ok (.invokevirtual 78, 3) := by decide +kernel
theorem dX0_byteToMake_67 : decode cX0_byteToMake 67 = .ok (.ireturn, 1) := by decide +kernel
theorem dX0_byteToMake_68 : decode cX0_byteToMake 68 = .ok (.aload_n 0, 1) := by decide +kernel
theorem dX0_byteToMake_69 : decode cX0_byteToMake 69 = .ok (.getfield 39, 3) := by decide +kernel
theorem dX0_byteToMake_72 : decode cX0_byteToMake 72 = .ok (.ireturn, 1) := by decide +kernel
set_option maxRecDepth 20000 in
theorem ggX0_judgeCheck_X3_count : GoodIn wsX0_judgeCheck wsX3_count := goodIn_r _ [7, 8, 37, 38] (by decide +kernel) (by decide +kernel)
set_option maxRecDepth 20000 in
theorem gX0_judgeCheck_X3_count : GoodIn wsX0_judgeCheck (wsV RX0 45 RX3 yX3_count wsX3_count) := goodIn_app (goodIn_of _ (by decide +kernel)) ggX0_judgeCheck_X3_count
set_option maxRecDepth 20000 in
theorem ggX0_judgeCheck_X4_checkOf : GoodIn wsX0_judgeCheck wsX4_checkOf := goodIn_r _ [11, 12, 13, 14, 6, 15, 16, 17, 18, 19, 20, 8, 37, 38] (by decide +kernel) (by decide +kernel)
set_option maxRecDepth 20000 in
theorem gX0_judgeCheck_X4_checkOf_n93 : GoodIn wsX0_judgeCheck (wsX4_checkOf) := ggX0_judgeCheck_X4_checkOf
set_option maxRecDepth 20000 in
theorem ggX0_judgeCheck_X3_at : GoodIn wsX0_judgeCheck wsX3_at := goodIn_r _ [15, 16, 17, 18, 19, 6, 20, 8, 37, 38] (by decide +kernel) (by decide +kernel)
set_option maxRecDepth 20000 in
theorem gX0_judgeCheck_X3_at : GoodIn wsX0_judgeCheck (wsV RX0 78 RX3 yX3_at wsX3_at) := goodIn_app (goodIn_of _ (by decide +kernel)) ggX0_judgeCheck_X3_at
set_option maxRecDepth 20000 in
theorem ggX0_judgeCheck_X0_tell : GoodIn wsX0_judgeCheck wsX0_tell := goodIn_r _ [26, 27, 28, 29, 30, 31, 32, 33, 34, 35, 36] (by decide +kernel) (by decide +kernel)
set_option maxRecDepth 20000 in
theorem gX0_judgeCheck_X0_tell : GoodIn wsX0_judgeCheck (wsV RX0 49 RX0 yX0_tell wsX0_tell) := goodIn_app (goodIn_of _ (by decide +kernel)) ggX0_judgeCheck_X0_tell
theorem dX0_judgeCheck_0 : decode cX0_judgeCheck 0 = .ok (.aload_n 0, 1) := by decide +kernel
theorem dX0_judgeCheck_1 : decode cX0_judgeCheck 1 = .ok (.getfield 14, 3) := by decide +kernel
theorem dX0_judgeCheck_4 : decode cX0_judgeCheck 4 = .ok (.iconst 0, 1) := by decide +kernel
theorem dX0_judgeCheck_5 : decode cX0_judgeCheck 5 = .ok (.aload_n 0, 1) := by decide +kernel
theorem dX0_judgeCheck_6 : decode cX0_judgeCheck 6 = .ok (.getfield 14, 3) := by decide +kernel
theorem dX0_judgeCheck_9 : decode cX0_judgeCheck 9 = .ok (.invokevirtual 45, 3) := by decide +kernel
theorem dX0_judgeCheck_12 : decode cX0_judgeCheck 12 = .ok (.invokestatic 93, 3) := by decide +kernel
theorem dX0_judgeCheck_15 : decode cX0_judgeCheck 15 = .ok (.istore_n 2, 1) := by decide +kernel
theorem dX0_judgeCheck_16 : decode cX0_judgeCheck 16 = .ok (.aload_n 1, 1) := by decide +kernel
theorem dX0_judgeCheck_17 : decode cX0_judgeCheck 17 = .ok (.aload_n 0, 1) := by decide +kernel
theorem dX0_judgeCheck_18 : decode cX0_judgeCheck 18 = .ok (.getfield 24, 3) := by decide +kernel
theorem dX0_judgeCheck_21 : decode cX0_judgeCheck 21 = .ok (.invokevirtual 78, 3) := by decide +kernel
theorem dX0_judgeCheck_24 : decode cX0_judgeCheck 24 = .ok (.iload_n 2, 1) := by decide +kernel
theorem dX0_judgeCheck_25 : decode cX0_judgeCheck 25 = .ok (.sipush 256, 3) := by decide +kernel
theorem dX0_judgeCheck_28 : decode cX0_judgeCheck 28 = .ok (.irem, 1) := by decide +kernel
theorem dX0_judgeCheck_29 : decode cX0_judgeCheck 29 = .ok (.if_icmp .ne 25, 3) := by decide +kernel
theorem dX0_judgeCheck_32 : decode cX0_judgeCheck 32 = .ok (.aload_n 1, 1) := by decide +kernel
theorem dX0_judgeCheck_33 : decode cX0_judgeCheck 33 = .ok (.aload_n 0, 1) := by decide +kernel
theorem dX0_judgeCheck_34 : decode cX0_judgeCheck 34 = .ok (.getfield 24, 3) := by decide +kernel
theorem dX0_judgeCheck_37 : decode cX0_judgeCheck 37 = .ok (.iconst 1, 1) := by decide +kernel
theorem dX0_judgeCheck_38 : decode cX0_judgeCheck 38 = .ok (.iadd, 1) := by decide +kernel
theorem dX0_judgeCheck_39 : decode cX0_judgeCheck 39 = .ok (.invokevirtual 78, 3) := by decide +kernel
theorem dX0_judgeCheck_42 : decode cX0_judgeCheck 42 = .ok (.iload_n 2, 1) := by decide +kernel
theorem dX0_judgeCheck_43 : decode cX0_judgeCheck 43 = .ok (.sipush 256, 3) := by decide +kernel
theorem dX0_judgeCheck_46 : decode cX0_judgeCheck 46 = .ok (.idiv, 1) := by decide +kernel
theorem dX0_judgeCheck_47 : decode cX0_judgeCheck 47 = .ok (.if_icmp .ne 7, 3) := by decide +kernel
theorem dX0_judgeCheck_50 : decode cX0_judgeCheck 50 = .ok (.iconst 1, 1) := by decide +kernel
theorem dX0_judgeCheck_51 : decode cX0_judgeCheck 51 = .ok (.goto 4, 3) := by decide +kernel
theorem dX0_judgeCheck_54 : decode cX0_judgeCheck 54 = .ok (.iconst 0, 1) := by decide +kernel
theorem dX0_judgeCheck_55 : decode cX0_judgeCheck 55 = .ok (.istore_n 3, 1) := by decide +kernel
theorem dX0_judgeCheck_56 : decode cX0_judgeCheck 56 = .ok (.iload_n 3, 1) := by decide +kernel
theorem dX0_judgeCheck_57 : decode cX0_judgeCheck 57 = .ok (.ifCond .ne 12, 3) := by decide +kernel
theorem dX0_judgeCheck_60 : decode cX0_judgeCheck 60 = .ok (.aload_n 0, 1) := by decide +kernel
theorem dX0_judgeCheck_61 : decode cX0_judgeCheck 61 = .ok (.iconst 5, 1) := by decide +kernel
theorem dX0_judgeCheck_62 : decode cX0_judgeCheck 62 = .ok (.aload_n 0, 1) := by decide +kernel
theorem dX0_judgeCheck_63 : decode cX0_judgeCheck 63 = .ok (.getfield 24, 3) := by decide +kernel
theorem dX0_judgeCheck_66 : decode cX0_judgeCheck 66 = .ok (.invokevirtual 49, 3) := by decide +kernel
theorem dX0_judgeCheck_69 : decode cX0_judgeCheck 69 = .ok (.return_, 1) := by decide +kernel
set_option maxRecDepth 20000 in
theorem ggX1_init_X3_init : GoodIn wsX1_init wsX3_init := goodIn_r _ [15, 16, 2, 3, 17, 18, 19, 20, 21, 22, 23, 24, 25] (by decide +kernel) (by decide +kernel)
set_option maxRecDepth 20000 in
theorem gX1_init_X3_init : GoodIn wsX1_init (wsX3_init) := ggX1_init_X3_init
theorem dX1_init_0 : decode cX1_init 0 = .ok (.aload_n 0, 1) := by decide +kernel
theorem dX1_init_1 : decode cX1_init 1 = .ok (.invokespecial 3, 3) := by decide +kernel
theorem dX1_init_4 : decode cX1_init 4 = .ok (.aload_n 0, 1) := by decide +kernel
theorem dX1_init_5 : decode cX1_init 5 = .ok (.new 9, 3) := by decide +kernel
theorem dX1_init_8 : decode cX1_init 8 = .ok (.dup, 1) := by decide +kernel
theorem dX1_init_9 : decode cX1_init 9 = .ok (.sipush 150, 3) := by decide +kernel
theorem dX1_init_12 : decode cX1_init 12 = .ok (.invokespecial 11, 3) := by decide +kernel
theorem dX1_init_15 : decode cX1_init 15 = .ok (.putfield 14, 3) := by decide +kernel
theorem dX1_init_18 : decode cX1_init 18 = .ok (.aload_n 0, 1) := by decide +kernel
theorem dX1_init_19 : decode cX1_init 19 = .ok (.new 9, 3) := by decide +kernel
theorem dX1_init_22 : decode cX1_init 22 = .ok (.dup, 1) := by decide +kernel
theorem dX1_init_23 : decode cX1_init 23 = .ok (.sipush 150, 3) := by decide +kernel
theorem dX1_init_26 : decode cX1_init 26 = .ok (.invokespecial 11, 3) := by decide +kernel
theorem dX1_init_29 : decode cX1_init 29 = .ok (.putfield 20, 3) := by decide +kernel
theorem dX1_init_32 : decode cX1_init 32 = .ok (.aload_n 0, 1) := by decide +kernel
theorem dX1_init_33 : decode cX1_init 33 = .ok (.new 9, 3) := by decide +kernel
theorem dX1_init_36 : decode cX1_init 36 = .ok (.dup, 1) := by decide +kernel
theorem dX1_init_37 : decode cX1_init 37 = .ok (.sipush 150, 3) := by decide +kernel
theorem dX1_init_40 : decode cX1_init 40 = .ok (.invokespecial 11, 3) := by decide +kernel
theorem dX1_init_43 : decode cX1_init 43 = .ok (.putfield 23, 3) := by decide +kernel
theorem dX1_init_46 : decode cX1_init 46 = .ok (.aload_n 0, 1) := by decide +kernel
theorem dX1_init_47 : decode cX1_init 47 = .ok (.new 9, 3) := by decide +kernel
theorem dX1_init_50 : decode cX1_init 50 = .ok (.dup, 1) := by decide +kernel
theorem dX1_init_51 : decode cX1_init 51 = .ok (.sipush 150, 3) := by decide +kernel
theorem dX1_init_54 : decode cX1_init 54 = .ok (.invokespecial 11, 3) := by decide +kernel
theorem dX1_init_57 : decode cX1_init 57 = .ok (.putfield 26, 3) := by decide +kernel
theorem dX1_init_60 : decode cX1_init 60 = .ok (.aload_n 0, 1) := by decide +kernel
theorem dX1_init_61 : decode cX1_init 61 = .ok (.iconst 0, 1) := by decide +kernel
theorem dX1_init_62 : decode cX1_init 62 = .ok (.putfield 29, 3) := by decide +kernel
theorem dX1_init_65 : decode cX1_init 65 = .ok (.aload_n 0, 1) := by decide +kernel
theorem dX1_init_66 : decode cX1_init 66 = .ok (.iconst 0, 1) := by decide +kernel
theorem dX1_init_67 : decode cX1_init 67 = .ok (.putfield 33, 3) := by decide +kernel
theorem dX1_init_70 : decode cX1_init 70 = .ok (.return_, 1) := by decide +kernel
set_option maxRecDepth 20000 in
theorem ggX1_begin_X3_clear : GoodIn wsX1_begin wsX3_clear := goodIn_r _ [11, 12, 19, 20] (by decide +kernel) (by decide +kernel)
set_option maxRecDepth 20000 in
theorem gX1_begin_X3_clear : GoodIn wsX1_begin (wsV RX1 37 RX3 yX3_clear wsX3_clear) := goodIn_app (goodIn_of _ (by decide +kernel)) ggX1_begin_X3_clear
theorem dX1_begin_0 : decode cX1_begin 0 = .ok (.aload_n 0, 1) := by decide +kernel
theorem dX1_begin_1 : decode cX1_begin 1 = .ok (.getfield 14, 3) := by decide +kernel
theorem dX1_begin_4 : decode cX1_begin 4 = .ok (.invokevirtual 37, 3) := by decide +kernel
theorem dX1_begin_7 : decode cX1_begin 7 = .ok (.aload_n 0, 1) := by decide +kernel
theorem dX1_begin_8 : decode cX1_begin 8 = .ok (.getfield 20, 3) := by decide +kernel
theorem dX1_begin_11 : decode cX1_begin 11 = .ok (.invokevirtual 37, 3) := by decide +kernel
theorem dX1_begin_14 : decode cX1_begin 14 = .ok (.aload_n 0, 1) := by decide +kernel
theorem dX1_begin_15 : decode cX1_begin 15 = .ok (.getfield 23, 3) := by decide +kernel
theorem dX1_begin_18 : decode cX1_begin 18 = .ok (.invokevirtual 37, 3) := by decide +kernel
theorem dX1_begin_21 : decode cX1_begin 21 = .ok (.aload_n 0, 1) := by decide +kernel
theorem dX1_begin_22 : decode cX1_begin 22 = .ok (.getfield 26, 3) := by decide +kernel
theorem dX1_begin_25 : decode cX1_begin 25 = .ok (.invokevirtual 37, 3) := by decide +kernel
theorem dX1_begin_28 : decode cX1_begin 28 = .ok (.aload_n 0, 1) := by decide +kernel
theorem dX1_begin_29 : decode cX1_begin 29 = .ok (.iload_n 1, 1) := by decide +kernel
theorem dX1_begin_30 : decode cX1_begin 30 = .ok (.putfield 29, 3) := by decide +kernel
theorem dX1_begin_33 : decode cX1_begin 33 = .ok (.aload_n 0, 1) := by decide +kernel
theorem dX1_begin_34 : decode cX1_begin 34 = .ok (.iconst 1, 1) := by decide +kernel
theorem dX1_begin_35 : decode cX1_begin 35 = .ok (.putfield 33, 3) := by decide +kernel
theorem dX1_begin_38 : decode cX1_begin 38 = .ok (.return_, 1) := by decide +kernel
set_option maxRecDepth 20000 in
theorem ggX1_add_X3_append : GoodIn wsX1_add wsX3_append := goodIn_r _ [9, 10, 11, 18, 19] (by decide +kernel) (by decide +kernel)
set_option maxRecDepth 20000 in
theorem gX1_add_X3_append : GoodIn wsX1_add (wsV RX1 40 RX3 yX3_append wsX3_append) := goodIn_app (goodIn_of _ (by decide +kernel)) ggX1_add_X3_append
theorem dX1_add_0 : decode cX1_add 0 = .ok (.aload_n 0, 1) := by decide +kernel
theorem dX1_add_1 : decode cX1_add 1 = .ok (.getfield 14, 3) := by decide +kernel
theorem dX1_add_4 : decode cX1_add 4 = .ok (.iload_n 1, 1) := by decide +kernel
theorem dX1_add_5 : decode cX1_add 5 = .ok (.invokevirtual 40, 3) := by decide +kernel
theorem dX1_add_8 : decode cX1_add 8 = .ok (.aload_n 0, 1) := by decide +kernel
theorem dX1_add_9 : decode cX1_add 9 = .ok (.getfield 20, 3) := by decide +kernel
theorem dX1_add_12 : decode cX1_add 12 = .ok (.iload_n 2, 1) := by decide +kernel
theorem dX1_add_13 : decode cX1_add 13 = .ok (.invokevirtual 40, 3) := by decide +kernel
theorem dX1_add_16 : decode cX1_add 16 = .ok (.aload_n 0, 1) := by decide +kernel
theorem dX1_add_17 : decode cX1_add 17 = .ok (.getfield 23, 3) := by decide +kernel
theorem dX1_add_20 : decode cX1_add 20 = .ok (.iload_n 3, 1) := by decide +kernel
theorem dX1_add_21 : decode cX1_add 21 = .ok (.invokevirtual 40, 3) := by decide +kernel
theorem dX1_add_24 : decode cX1_add 24 = .ok (.aload_n 0, 1) := by decide +kernel
theorem dX1_add_25 : decode cX1_add 25 = .ok (.getfield 26, 3) := by decide +kernel
theorem dX1_add_28 : decode cX1_add 28 = .ok (.iload 4, 2) := by decide +kernel
theorem dX1_add_30 : decode cX1_add 30 = .ok (.invokevirtual 40, 3) := by decide +kernel
theorem dX1_add_33 : decode cX1_add 33 = .ok (.return_, 1) := by decide +kernel
theorem dX1_forget_0 : decode cX1_forget 0 = .ok (.aload_n 0, 1) := by decide +kernel
theorem dX1_forget_1 : decode cX1_forget 1 = .ok (.iconst 0, 1) := by decide +kernel
theorem dX1_forget_2 : decode cX1_forget 2 = .ok (.putfield 33, 3) := by decide +kernel
theorem dX1_forget_5 : decode cX1_forget 5 = .ok (.return_, 1) := by decide +kernel
theorem dX1_isMade_0 : decode cX1_isMade 0 = .ok (.aload_n 0, 1) := by decide +kernel
theorem dX1_isMade_1 : decode cX1_isMade 1 = .ok (.getfield 33, 3) := by decide +kernel
theorem dX1_isMade_4 : decode cX1_isMade 4 = .ok (.ireturn, 1) := by decide +kernel
theorem dX1_codeBytes_0 : decode cX1_codeBytes 0 = .ok (.aload_n 0, 1) := by decide +kernel
theorem dX1_codeBytes_1 : decode cX1_codeBytes 1 = .ok (.getfield 29, 3) := by decide +kernel
theorem dX1_codeBytes_4 : decode cX1_codeBytes 4 = .ok (.ireturn, 1) := by decide +kernel
set_option maxRecDepth 20000 in
theorem ggX1_count_X3_count : GoodIn wsX1_count wsX3_count := goodIn_r _ [6, 7, 14, 15] (by decide +kernel) (by decide +kernel)
set_option maxRecDepth 20000 in
theorem gX1_count_X3_count : GoodIn wsX1_count (wsV RX1 43 RX3 yX3_count wsX3_count) := goodIn_app (goodIn_of _ (by decide +kernel)) ggX1_count_X3_count
theorem dX1_count_0 : decode cX1_count 0 = .ok (.aload_n 0, 1) := by decide +kernel
theorem dX1_count_1 : decode cX1_count 1 = .ok (.getfield 14, 3) := by decide +kernel
theorem dX1_count_4 : decode cX1_count 4 = .ok (.invokevirtual 43, 3) := by decide +kernel
theorem dX1_count_7 : decode cX1_count 7 = .ok (.ireturn, 1) := by decide +kernel
set_option maxRecDepth 20000 in
theorem ggX1_kindOf_X3_at : GoodIn wsX1_kindOf wsX3_at := goodIn_r _ [6, 7, 8, 9, 10, 5, 11, 12, 19, 20] (by decide +kernel) (by decide +kernel)
set_option maxRecDepth 20000 in
theorem gX1_kindOf_X3_at : GoodIn wsX1_kindOf (wsV RX1 47 RX3 yX3_at wsX3_at) := goodIn_app (goodIn_of _ (by decide +kernel)) ggX1_kindOf_X3_at
theorem dX1_kindOf_0 : decode cX1_kindOf 0 = .ok (.aload_n 0, 1) := by decide +kernel
theorem dX1_kindOf_1 : decode cX1_kindOf 1 = .ok (.getfield 14, 3) := by decide +kernel
theorem dX1_kindOf_4 : decode cX1_kindOf 4 = .ok (.iload_n 1, 1) := by decide +kernel
theorem dX1_kindOf_5 : decode cX1_kindOf 5 = .ok (.invokevirtual 47, 3) := by decide +kernel
theorem dX1_kindOf_8 : decode cX1_kindOf 8 = .ok (.ireturn, 1) := by decide +kernel
set_option maxRecDepth 20000 in
theorem ggX1_lengthOf_X3_at : GoodIn wsX1_lengthOf wsX3_at := goodIn_r _ [6, 7, 8, 9, 10, 5, 11, 12, 19, 20] (by decide +kernel) (by decide +kernel)
set_option maxRecDepth 20000 in
theorem gX1_lengthOf_X3_at : GoodIn wsX1_lengthOf (wsV RX1 47 RX3 yX3_at wsX3_at) := goodIn_app (goodIn_of _ (by decide +kernel)) ggX1_lengthOf_X3_at
theorem dX1_lengthOf_0 : decode cX1_lengthOf 0 = .ok (.aload_n 0, 1) := by decide +kernel
theorem dX1_lengthOf_1 : decode cX1_lengthOf 1 = .ok (.getfield 20, 3) := by decide +kernel
theorem dX1_lengthOf_4 : decode cX1_lengthOf 4 = .ok (.iload_n 1, 1) := by decide +kernel
theorem dX1_lengthOf_5 : decode cX1_lengthOf 5 = .ok (.invokevirtual 47, 3) := by decide +kernel
theorem dX1_lengthOf_8 : decode cX1_lengthOf 8 = .ok (.ireturn, 1) := by decide +kernel
set_option maxRecDepth 20000 in
theorem ggX1_operandOf_X3_at : GoodIn wsX1_operandOf wsX3_at := goodIn_r _ [6, 7, 8, 9, 10, 5, 11, 12, 19, 20] (by decide +kernel) (by decide +kernel)
set_option maxRecDepth 20000 in
theorem gX1_operandOf_X3_at : GoodIn wsX1_operandOf (wsV RX1 47 RX3 yX3_at wsX3_at) := goodIn_app (goodIn_of _ (by decide +kernel)) ggX1_operandOf_X3_at
theorem dX1_operandOf_0 : decode cX1_operandOf 0 = .ok (.aload_n 0, 1) := by decide +kernel
theorem dX1_operandOf_1 : decode cX1_operandOf 1 = .ok (.getfield 23, 3) := by decide +kernel
theorem dX1_operandOf_4 : decode cX1_operandOf 4 = .ok (.iload_n 1, 1) := by decide +kernel
theorem dX1_operandOf_5 : decode cX1_operandOf 5 = .ok (.invokevirtual 47, 3) := by decide +kernel
theorem dX1_operandOf_8 : decode cX1_operandOf 8 = .ok (.ireturn, 1) := by decide +kernel
set_option maxRecDepth 20000 in
theorem ggX1_startOf_X3_at : GoodIn wsX1_startOf wsX3_at := goodIn_r _ [6, 7, 8, 9, 10, 5, 11, 12, 19, 20] (by decide +kernel) (by decide +kernel)
set_option maxRecDepth 20000 in
theorem gX1_startOf_X3_at : GoodIn wsX1_startOf (wsV RX1 47 RX3 yX3_at wsX3_at) := goodIn_app (goodIn_of _ (by decide +kernel)) ggX1_startOf_X3_at
theorem dX1_startOf_0 : decode cX1_startOf 0 = .ok (.aload_n 0, 1) := by decide +kernel
theorem dX1_startOf_1 : decode cX1_startOf 1 = .ok (.getfield 26, 3) := by decide +kernel
theorem dX1_startOf_4 : decode cX1_startOf 4 = .ok (.iload_n 1, 1) := by decide +kernel
theorem dX1_startOf_5 : decode cX1_startOf 5 = .ok (.invokevirtual 47, 3) := by decide +kernel
theorem dX1_startOf_8 : decode cX1_startOf 8 = .ok (.ireturn, 1) := by decide +kernel
theorem dX2_init_0 : decode cX2_init 0 = .ok (.aload_n 0, 1) := by decide +kernel
theorem dX2_init_1 : decode cX2_init 1 = .ok (.invokespecial 3, 3) := by decide +kernel
theorem dX2_init_4 : decode cX2_init 4 = .ok (.aload_n 0, 1) := by decide +kernel
theorem dX2_init_5 : decode cX2_init 5 = .ok (.sipush 151, 3) := by decide +kernel
theorem dX2_init_8 : decode cX2_init 8 = .ok (.newarray .int, 2) := by decide +kernel
theorem dX2_init_10 : decode cX2_init 10 = .ok (.putfield 11, 3) := by decide +kernel
theorem dX2_init_13 : decode cX2_init 13 = .ok (.aload_n 0, 1) := by decide +kernel
theorem dX2_init_14 : decode cX2_init 14 = .ok (.sipush 151, 3) := by decide +kernel
theorem dX2_init_17 : decode cX2_init 17 = .ok (.newarray .int, 2) := by decide +kernel
theorem dX2_init_19 : decode cX2_init 19 = .ok (.putfield 15, 3) := by decide +kernel
theorem dX2_init_22 : decode cX2_init 22 = .ok (.aload_n 0, 1) := by decide +kernel
theorem dX2_init_23 : decode cX2_init 23 = .ok (.sipush 151, 3) := by decide +kernel
theorem dX2_init_26 : decode cX2_init 26 = .ok (.newarray .int, 2) := by decide +kernel
theorem dX2_init_28 : decode cX2_init 28 = .ok (.putfield 18, 3) := by decide +kernel
theorem dX2_init_31 : decode cX2_init 31 = .ok (.aload_n 0, 1) := by decide +kernel
theorem dX2_init_32 : decode cX2_init 32 = .ok (.sipush 151, 3) := by decide +kernel
theorem dX2_init_35 : decode cX2_init 35 = .ok (.newarray .int, 2) := by decide +kernel
theorem dX2_init_37 : decode cX2_init 37 = .ok (.putfield 21, 3) := by decide +kernel
theorem dX2_init_40 : decode cX2_init 40 = .ok (.aload_n 0, 1) := by decide +kernel
theorem dX2_init_41 : decode cX2_init 41 = .ok (.sipush 151, 3) := by decide +kernel
theorem dX2_init_44 : decode cX2_init 44 = .ok (.newarray .int, 2) := by decide +kernel
theorem dX2_init_46 : decode cX2_init 46 = .ok (.putfield 24, 3) := by decide +kernel
theorem dX2_init_49 : decode cX2_init 49 = .ok (.aload_n 0, 1) := by decide +kernel
theorem dX2_init_50 : decode cX2_init 50 = .ok (.sipush 151, 3) := by decide +kernel
theorem dX2_init_53 : decode cX2_init 53 = .ok (.newarray .int, 2) := by decide +kernel
theorem dX2_init_55 : decode cX2_init 55 = .ok (.putfield 27, 3) := by decide +kernel
theorem dX2_init_58 : decode cX2_init 58 = .ok (.aload_n 0, 1) := by decide +kernel
theorem dX2_init_59 : decode cX2_init 59 = .ok (.sipush 151, 3) := by decide +kernel
theorem dX2_init_62 : decode cX2_init 62 = .ok (.newarray .int, 2) := by decide +kernel
theorem dX2_init_64 : decode cX2_init 64 = .ok (.putfield 30, 3) := by decide +kernel
theorem dX2_init_67 : decode cX2_init 67 = .ok (.aload_n 0, 1) := by decide +kernel
theorem dX2_init_68 : decode cX2_init 68 = .ok (.sipush 151, 3) := by decide +kernel
theorem dX2_init_71 : decode cX2_init 71 = .ok (.newarray .int, 2) := by decide +kernel
theorem dX2_init_73 : decode cX2_init 73 = .ok (.putfield 33, 3) := by decide +kernel
theorem dX2_init_76 : decode cX2_init 76 = .ok (.return_, 1) := by decide +kernel
set_option maxRecDepth 20000 in
theorem ggX2_makePlan_X3_count : GoodIn wsX2_makePlan wsX3_count := goodIn_r _ [14, 15, 90, 91] (by decide +kernel) (by decide +kernel)
set_option maxRecDepth 20000 in
theorem gX2_makePlan_X3_count : GoodIn wsX2_makePlan (wsV RX2 36 RX3 yX3_count wsX3_count) := goodIn_app (goodIn_of _ (by decide +kernel)) ggX2_makePlan_X3_count
set_option maxRecDepth 20000 in
theorem ggX2_makePlan_J7_fill_53178 : GoodIn wsX2_makePlan wsJ7_fill_53178 := goodIn_r _ [19] (by decide +kernel) (by decide +kernel)
set_option maxRecDepth 20000 in
theorem gX2_makePlan_J7_fill_53178 : GoodIn wsX2_makePlan (va_wsS RX2 48 yJ7_fill_53178 wsJ7_fill_53178) := goodIn_app (goodIn_of _ (by decide +kernel)) ggX2_makePlan_J7_fill_53178
set_option maxRecDepth 20000 in
theorem ggX2_makePlan_X3_at : GoodIn wsX2_makePlan wsX3_at := goodIn_r _ [23, 24, 25, 26, 27, 13, 28, 15, 90, 91] (by decide +kernel) (by decide +kernel)
set_option maxRecDepth 20000 in
theorem gX2_makePlan_X3_at : GoodIn wsX2_makePlan (wsV RX2 54 RX3 yX3_at wsX3_at) := goodIn_app (goodIn_of _ (by decide +kernel)) ggX2_makePlan_X3_at
set_option maxRecDepth 20000 in
theorem ggX2_makePlan_X2_lengthenCommon : GoodIn wsX2_makePlan wsX2_lengthenCommon := goodIn_r _ [32, 20, 21, 22, 13, 23, 24, 25, 26, 27, 28, 15, 90, 91] (by decide +kernel) (by decide +kernel)
set_option maxRecDepth 20000 in
theorem gX2_makePlan_X2_lengthenCommon : GoodIn wsX2_makePlan (va_wsS RX2 58 yX2_lengthenCommon wsX2_lengthenCommon) := goodIn_app (goodIn_of _ (by decide +kernel)) ggX2_makePlan_X2_lengthenCommon
set_option maxRecDepth 20000 in
theorem ggX2_makePlan_X2_offerLengths : GoodIn wsX2_makePlan wsX2_offerLengths := goodIn_r _ [36, 37, 38, 39, 31, 40, 7, 8, 41, 42, 43, 44, 45, 46, 47, 48, 49, 82, 83, 84, 85, 86, 87, 88, 89] (by decide +kernel) (by decide +kernel)
set_option maxRecDepth 20000 in
theorem gX2_makePlan_X2_offerLengths : GoodIn wsX2_makePlan (wsV RX2 63 RX2 yX2_offerLengths wsX2_offerLengths) := goodIn_app (goodIn_of _ (by decide +kernel)) ggX2_makePlan_X2_offerLengths
set_option maxRecDepth 20000 in
theorem ggX2_makePlan_X2_offerPlaces : GoodIn wsX2_makePlan wsX2_offerPlaces := goodIn_r _ [53, 5, 6, 54, 37, 38, 39, 31, 40, 7, 8, 41, 42, 43, 44, 45, 46, 47, 48, 49, 82, 83, 84, 85, 86, 87, 88, 89] (by decide +kernel) (by decide +kernel)
set_option maxRecDepth 20000 in
theorem gX2_makePlan_X2_offerPlaces : GoodIn wsX2_makePlan (wsV RX2 67 RX2 yX2_offerPlaces wsX2_offerPlaces) := goodIn_app (goodIn_of _ (by decide +kernel)) ggX2_makePlan_X2_offerPlaces
set_option maxRecDepth 20000 in
theorem ggX2_makePlan_X2_listInstructions : GoodIn wsX2_makePlan wsX2_listInstructions := goodIn_r _ [58, 7, 41, 42, 43, 59, 60, 61, 62, 63, 64, 65, 66, 67, 68, 69, 70, 71, 72, 13, 73, 15, 74, 75, 76, 77, 78, 79, 80, 81, 24, 82, 83, 84, 85, 86, 87, 88, 89, 92, 93, 94, 95, 96, 97, 90, 91] (by decide +kernel) (by decide +kernel)
set_option maxRecDepth 20000 in
theorem gX2_makePlan_X2_listInstructions : GoodIn wsX2_makePlan (wsV RX2 70 RX2 yX2_listInstructions wsX2_listInstructions) := goodIn_app (goodIn_of _ (by decide +kernel)) ggX2_makePlan_X2_listInstructions
theorem dX2_makePlan_0 : decode cX2_makePlan 0 = .ok (.aload_n 2, 1) := by decide +kernel
theorem dX2_makePlan_1 : decode cX2_makePlan 1 = .ok (.invokevirtual 36, 3) := by decide +kernel
theorem dX2_makePlan_4 : decode cX2_makePlan 4 = .ok (.sipush 150, 3) := by decide +kernel
theorem dX2_makePlan_7 : decode cX2_makePlan 7 = .ok (.invokestatic 42, 3) := by decide +kernel
theorem dX2_makePlan_10 : decode cX2_makePlan 10 = .ok (.istore 5, 2) := by decide +kernel
theorem dX2_makePlan_12 : decode cX2_makePlan 12 = .ok (.aload_n 0, 1) := by decide +kernel
theorem dX2_makePlan_13 : decode cX2_makePlan 13 = .ok (.getfield 27, 3) := by decide +kernel
theorem dX2_makePlan_16 : decode cX2_makePlan 16 = .ok (.iconst 0, 1) := by decide +kernel
theorem dX2_makePlan_17 : decode cX2_makePlan 17 = .ok (.invokestatic 48, 3) := by decide +kernel
theorem dX2_makePlan_20 : decode cX2_makePlan 20 = .ok (.aload_n 0, 1) := by decide +kernel
theorem dX2_makePlan_21 : decode cX2_makePlan 21 = .ok (.getfield 30, 3) := by decide +kernel
theorem dX2_makePlan_24 : decode cX2_makePlan 24 = .ok (.iconst 0, 1) := by decide +kernel
theorem dX2_makePlan_25 : decode cX2_makePlan 25 = .ok (.invokestatic 48, 3) := by decide +kernel
theorem dX2_makePlan_28 : decode cX2_makePlan 28 = .ok (.aload_n 0, 1) := by decide +kernel
theorem dX2_makePlan_29 : decode cX2_makePlan 29 = .ok (.getfield 11, 3) := by decide +kernel
theorem dX2_makePlan_32 : decode cX2_makePlan 32 = .ok (.iload 5, 2) := by decide +kernel
theorem dX2_makePlan_34 : decode cX2_makePlan 34 = .ok (.iconst 0, 1) := by decide +kernel
theorem dX2_makePlan_35 : decode cX2_makePlan 35 = .ok (.iastore, 1) := by decide +kernel
theorem dX2_makePlan_36 : decode cX2_makePlan 36 = .ok (.aload_n 0, 1) := by decide +kernel
theorem dX2_makePlan_37 : decode cX2_makePlan 37 = .ok (.getfield 15, 3) := by decide +kernel
theorem dX2_makePlan_40 : decode cX2_makePlan 40 = .ok (.iload 5, 2) := by decide +kernel
theorem dX2_makePlan_42 : decode cX2_makePlan 42 = .ok (.iconst 0, 1) := by decide +kernel
theorem dX2_makePlan_43 : decode cX2_makePlan 43 = .ok (.iastore, 1) := by decide +kernel
theorem dX2_makePlan_44 : decode cX2_makePlan 44 = .ok (.iconst 0, 1) := by decide +kernel
theorem dX2_makePlan_45 : decode cX2_makePlan 45 = .ok (.istore 6, 2) := by decide +kernel
theorem dX2_makePlan_47 : decode cX2_makePlan 47 = .ok (.iload 5, 2) := by decide +kernel
theorem dX2_makePlan_49 : decode cX2_makePlan 49 = .ok (.iconst 1, 1) := by decide +kernel
theorem dX2_makePlan_50 : decode cX2_makePlan 50 = .ok (.isub, 1) := by decide +kernel
theorem dX2_makePlan_51 : decode cX2_makePlan 51 = .ok (.istore 7, 2) := by decide +kernel
theorem dX2_makePlan_53 : decode cX2_makePlan 53 = .ok (.iload 7, 2) := by decide +kernel
theorem dX2_makePlan_55 : decode cX2_makePlan 55 = .ok (.ifCond .lt 140, 3) := by decide +kernel
theorem dX2_makePlan_58 : decode cX2_makePlan 58 = .ok (.aload_n 2, 1) := by decide +kernel
theorem dX2_makePlan_59 : decode cX2_makePlan 59 = .ok (.iload 7, 2) := by decide +kernel
theorem dX2_makePlan_61 : decode cX2_makePlan 61 = .ok (.invokevirtual 54, 3) := by decide +kernel
theorem dX2_makePlan_64 : decode cX2_makePlan 64 = .ok (.istore 8, 2) := by decide +kernel
theorem dX2_makePlan_66 : decode cX2_makePlan 66 = .ok (.iload 7, 2) := by decide +kernel
theorem dX2_makePlan_68 : decode cX2_makePlan 68 = .ok (.iconst 1, 1) := by decide +kernel
theorem dX2_makePlan_69 : decode cX2_makePlan 69 = .ok (.iadd, 1) := by decide +kernel
theorem dX2_makePlan_70 : decode cX2_makePlan 70 = .ok (.iload 5, 2) := by decide +kernel
theorem dX2_makePlan_72 : decode cX2_makePlan 72 = .ok (.if_icmp .ge 23, 3) := by decide +kernel
theorem dX2_makePlan_75 : decode cX2_makePlan 75 = .ok (.aload_n 2, 1) := by decide +kernel
theorem dX2_makePlan_76 : decode cX2_makePlan 76 = .ok (.iload 7, 2) := by decide +kernel
theorem dX2_makePlan_78 : decode cX2_makePlan 78 = .ok (.iconst 1, 1) := by decide +kernel
theorem dX2_makePlan_79 : decode cX2_makePlan 79 = .ok (.iadd, 1) := by decide +kernel
theorem dX2_makePlan_80 : decode cX2_makePlan 80 = .ok (.invokevirtual 54, 3) := by decide +kernel
theorem dX2_makePlan_83 : decode cX2_makePlan 83 = .ok (.iload 8, 2) := by decide +kernel
theorem dX2_makePlan_85 : decode cX2_makePlan 85 = .ok (.if_icmp .ne 10, 3) := by decide +kernel
theorem dX2_makePlan_88 : decode cX2_makePlan 88 = .ok (.iload 6, 2) := by decide +kernel
theorem dX2_makePlan_90 : decode cX2_makePlan 90 = .ok (.iconst 1, 1) := by decide +kernel
theorem dX2_makePlan_91 : decode cX2_makePlan 91 = .ok (.iadd, 1) := by decide +kernel
theorem dX2_makePlan_92 : decode cX2_makePlan 92 = .ok (.goto 4, 3) := by decide +kernel
theorem dX2_makePlan_95 : decode cX2_makePlan 95 = .ok (.iconst 1, 1) := by decide +kernel
theorem dX2_makePlan_96 : decode cX2_makePlan 96 = .ok (.istore 6, 2) := by decide +kernel
theorem dX2_makePlan_98 : decode cX2_makePlan 98 = .ok (.aload_n 0, 1) := by decide +kernel
theorem dX2_makePlan_99 : decode cX2_makePlan 99 = .ok (.getfield 27, 3) := by decide +kernel
theorem dX2_makePlan_102 : decode cX2_makePlan 102 = .ok (.aload_n 1, 1) := by decide +kernel
theorem dX2_makePlan_103 : decode cX2_makePlan 103 = .ok (.aload_n 1, 1) := by decide +kernel
theorem dX2_makePlan_104 : decode cX2_makePlan 104 = .ok (.invokevirtual 36, 3) := by decide +kernel
theorem dX2_makePlan_107 : decode cX2_makePlan 107 = .ok (.iload 8, 2) := by decide +kernel
theorem dX2_makePlan_109 : decode cX2_makePlan 109 = .ok (.invokestatic 58, 3) := by decide +kernel
theorem dX2_makePlan_112 : decode cX2_makePlan 112 = .ok (.aload_n 0, 1) := by decide +kernel
theorem dX2_makePlan_113 : decode cX2_makePlan 113 = .ok (.getfield 30, 3) := by decide +kernel
theorem dX2_makePlan_116 : decode cX2_makePlan 116 = .ok (.aload_n 2, 1) := by decide +kernel
theorem dX2_makePlan_117 : decode cX2_makePlan 117 = .ok (.iload 7, 2) := by decide +kernel
theorem dX2_makePlan_119 : decode cX2_makePlan 119 = .ok (.iload 8, 2) := by decide +kernel
theorem dX2_makePlan_121 : decode cX2_makePlan 121 = .ok (.invokestatic 58, 3) := by decide +kernel
theorem dX2_makePlan_124 : decode cX2_makePlan 124 = .ok (.aload_n 0, 1) := by decide +kernel
theorem dX2_makePlan_125 : decode cX2_makePlan 125 = .ok (.getfield 11, 3) := by decide +kernel
theorem dX2_makePlan_128 : decode cX2_makePlan 128 = .ok (.iload 7, 2) := by decide +kernel
theorem dX2_makePlan_130 : decode cX2_makePlan 130 = .ok (.ldc 62, 2) := by decide +kernel
theorem dX2_makePlan_132 : decode cX2_makePlan 132 = .ok (.iastore, 1) := by decide +kernel
theorem dX2_makePlan_133 : decode cX2_makePlan 133 = .ok (.aload_n 0, 1) := by decide +kernel
theorem dX2_makePlan_134 : decode cX2_makePlan 134 = .ok (.getfield 15, 3) := by decide +kernel
theorem dX2_makePlan_137 : decode cX2_makePlan 137 = .ok (.iload 7, 2) := by decide +kernel
theorem dX2_makePlan_139 : decode cX2_makePlan 139 = .ok (.ldc 62, 2) := by decide +kernel
theorem dX2_makePlan_141 : decode cX2_makePlan 141 = .ok (.iastore, 1) := by decide +kernel
theorem dX2_makePlan_142 : decode cX2_makePlan 142 = .ok (.aload_n 0, 1) := by decide +kernel
theorem dX2_makePlan_143 : decode cX2_makePlan 143 = .ok (.iload 7, 2) := by decide +kernel
theorem dX2_makePlan_145 : decode cX2_makePlan 145 = .ok (.iconst 0, 1) := by decide +kernel
theorem dX2_makePlan_146 : decode cX2_makePlan 146 = .ok (.iload 5, 2) := by decide +kernel
theorem dX2_makePlan_148 : decode cX2_makePlan 148 = .ok (.iload 7, 2) := by decide +kernel
theorem dX2_makePlan_150 : decode cX2_makePlan 150 = .ok (.isub, 1) := by decide +kernel
theorem dX2_makePlan_151 : decode cX2_makePlan 151 = .ok (.iload 8, 2) := by decide +kernel
theorem dX2_makePlan_153 : decode cX2_makePlan 153 = .ok (.invokevirtual 63, 3) := by decide +kernel
theorem dX2_makePlan_156 : decode cX2_makePlan 156 = .ok (.aload_n 0, 1) := by decide +kernel
theorem dX2_makePlan_157 : decode cX2_makePlan 157 = .ok (.iload 7, 2) := by decide +kernel
theorem dX2_makePlan_159 : decode cX2_makePlan 159 = .ok (.iconst 1, 1) := by decide +kernel
theorem dX2_makePlan_160 : decode cX2_makePlan 160 = .ok (.aload_n 1, 1) := by decide +kernel
theorem dX2_makePlan_161 : decode cX2_makePlan 161 = .ok (.invokevirtual 36, 3) := by decide +kernel
theorem dX2_makePlan_164 : decode cX2_makePlan 164 = .ok (.iload_n 3, 1) := by decide +kernel
theorem dX2_makePlan_165 : decode cX2_makePlan 165 = .ok (.invokevirtual 67, 3) := by decide +kernel
theorem dX2_makePlan_168 : decode cX2_makePlan 168 = .ok (.aload_n 0, 1) := by decide +kernel
theorem dX2_makePlan_169 : decode cX2_makePlan 169 = .ok (.iload 7, 2) := by decide +kernel
theorem dX2_makePlan_171 : decode cX2_makePlan 171 = .ok (.iconst 2, 1) := by decide +kernel
theorem dX2_makePlan_172 : decode cX2_makePlan 172 = .ok (.iload 7, 2) := by decide +kernel
theorem dX2_makePlan_174 : decode cX2_makePlan 174 = .ok (.iload_n 3, 1) := by decide +kernel
theorem dX2_makePlan_175 : decode cX2_makePlan 175 = .ok (.invokevirtual 67, 3) := by decide +kernel
theorem dX2_makePlan_178 : decode cX2_makePlan 178 = .ok (.aload_n 0, 1) := by decide +kernel
theorem dX2_makePlan_179 : decode cX2_makePlan 179 = .ok (.iload 7, 2) := by decide +kernel
theorem dX2_makePlan_181 : decode cX2_makePlan 181 = .ok (.iconst 3, 1) := by decide +kernel
theorem dX2_makePlan_182 : decode cX2_makePlan 182 = .ok (.iload 6, 2) := by decide +kernel
theorem dX2_makePlan_184 : decode cX2_makePlan 184 = .ok (.iload 8, 2) := by decide +kernel
theorem dX2_makePlan_186 : decode cX2_makePlan 186 = .ok (.invokevirtual 63, 3) := by decide +kernel
theorem dX2_makePlan_189 : decode cX2_makePlan 189 = .ok (.iinc 7 (-1), 3) := by decide +kernel
theorem dX2_makePlan_192 : decode cX2_makePlan 192 = .ok (.goto (-139), 3) := by decide +kernel
theorem dX2_makePlan_195 : decode cX2_makePlan 195 = .ok (.aload_n 0, 1) := by decide +kernel
theorem dX2_makePlan_196 : decode cX2_makePlan 196 = .ok (.iload 5, 2) := by decide +kernel
theorem dX2_makePlan_198 : decode cX2_makePlan 198 = .ok (.aload 4, 2) := by decide +kernel
theorem dX2_makePlan_200 : decode cX2_makePlan 200 = .ok (.invokevirtual 70, 3) := by decide +kernel
theorem dX2_makePlan_203 : decode cX2_makePlan 203 = .ok (.return_, 1) := by decide +kernel
set_option maxRecDepth 20000 in
theorem ggX2_lengthenCommon_X3_at : GoodIn wsX2_lengthenCommon wsX3_at := goodIn_r _ [5, 6, 7, 8, 9, 4, 10, 11, 12, 13] (by decide +kernel) (by decide +kernel)
set_option maxRecDepth 20000 in
theorem gX2_lengthenCommon_X3_at : GoodIn wsX2_lengthenCommon (wsV RX2 54 RX3 yX3_at wsX3_at) := goodIn_app (goodIn_of _ (by decide +kernel)) ggX2_lengthenCommon_X3_at
theorem dX2_lengthenCommon_0 : decode cX2_lengthenCommon 0 = .ok (.iconst 0, 1) := by decide +kernel
theorem dX2_lengthenCommon_1 : decode cX2_lengthenCommon 1 = .ok (.istore 4, 2) := by decide +kernel
theorem dX2_lengthenCommon_3 : decode cX2_lengthenCommon 3 = .ok (.iload 4, 2) := by decide +kernel
theorem dX2_lengthenCommon_5 : decode cX2_lengthenCommon 5 = .ok (.iload_n 2, 1) := by decide +kernel
theorem dX2_lengthenCommon_6 : decode cX2_lengthenCommon 6 = .ok (.if_icmp .ge 44, 3) := by decide +kernel
theorem dX2_lengthenCommon_9 : decode cX2_lengthenCommon 9 = .ok (.iload 4, 2) := by decide +kernel
theorem dX2_lengthenCommon_11 : decode cX2_lengthenCommon 11 = .ok (.iconst 1, 1) := by decide +kernel
theorem dX2_lengthenCommon_12 : decode cX2_lengthenCommon 12 = .ok (.iadd, 1) := by decide +kernel
theorem dX2_lengthenCommon_13 : decode cX2_lengthenCommon 13 = .ok (.aload_n 0, 1) := by decide +kernel
theorem dX2_lengthenCommon_14 : decode cX2_lengthenCommon 14 = .ok (.arraylength, 1) := by decide +kernel
theorem dX2_lengthenCommon_15 : decode cX2_lengthenCommon 15 = .ok (.if_icmp .ge 35, 3) := by decide +kernel
theorem dX2_lengthenCommon_18 : decode cX2_lengthenCommon 18 = .ok (.aload_n 0, 1) := by decide +kernel
theorem dX2_lengthenCommon_19 : decode cX2_lengthenCommon 19 = .ok (.iload 4, 2) := by decide +kernel
theorem dX2_lengthenCommon_21 : decode cX2_lengthenCommon 21 = .ok (.aload_n 1, 1) := by decide +kernel
theorem dX2_lengthenCommon_22 : decode cX2_lengthenCommon 22 = .ok (.iload 4, 2) := by decide +kernel
theorem dX2_lengthenCommon_24 : decode cX2_lengthenCommon 24 = .ok (.invokevirtual 54, 3) := by decide +kernel
theorem dX2_lengthenCommon_27 : decode cX2_lengthenCommon 27 = .ok (.iload_n 3, 1) := by decide +kernel
theorem dX2_lengthenCommon_28 : decode cX2_lengthenCommon 28 = .ok (.if_icmp .ne 14, 3) := by decide +kernel
theorem dX2_lengthenCommon_31 : decode cX2_lengthenCommon 31 = .ok (.aload_n 0, 1) := by decide +kernel
theorem dX2_lengthenCommon_32 : decode cX2_lengthenCommon 32 = .ok (.iload 4, 2) := by decide +kernel
theorem dX2_lengthenCommon_34 : decode cX2_lengthenCommon 34 = .ok (.iconst 1, 1) := by decide +kernel
theorem dX2_lengthenCommon_35 : decode cX2_lengthenCommon 35 = .ok (.iadd, 1) := by decide +kernel
theorem dX2_lengthenCommon_36 : decode cX2_lengthenCommon 36 = .ok (.iaload, 1) := by decide +kernel
theorem dX2_lengthenCommon_37 : decode cX2_lengthenCommon 37 = .ok (.iconst 1, 1) := by decide +kernel
theorem dX2_lengthenCommon_38 : decode cX2_lengthenCommon 38 = .ok (.iadd, 1) := by decide +kernel
theorem dX2_lengthenCommon_39 : decode cX2_lengthenCommon 39 = .ok (.goto 4, 3) := by decide +kernel
theorem dX2_lengthenCommon_42 : decode cX2_lengthenCommon 42 = .ok (.iconst 0, 1) := by decide +kernel
theorem dX2_lengthenCommon_43 : decode cX2_lengthenCommon 43 = .ok (.iastore, 1) := by decide +kernel
theorem dX2_lengthenCommon_44 : decode cX2_lengthenCommon 44 = .ok (.iinc 4 1, 3) := by decide +kernel
theorem dX2_lengthenCommon_47 : decode cX2_lengthenCommon 47 = .ok (.goto (-44), 3) := by decide +kernel
theorem dX2_lengthenCommon_50 : decode cX2_lengthenCommon 50 = .ok (.return_, 1) := by decide +kernel
set_option maxRecDepth 20000 in
theorem ggX2_offerLengths_X2_offer : GoodIn wsX2_offerLengths wsX2_offer := goodIn_r _ [5, 6, 7, 8, 9, 10, 11, 12, 4, 13, 14, 15, 16, 17, 18, 19, 20, 21, 22, 23, 24] (by decide +kernel) (by decide +kernel)
set_option maxRecDepth 20000 in
theorem gX2_offerLengths_X2_offer : GoodIn wsX2_offerLengths (wsV RX2 74 RX2 yX2_offer wsX2_offer) := goodIn_app (goodIn_of _ (by decide +kernel)) ggX2_offerLengths_X2_offer
theorem dX2_offerLengths_0 : decode cX2_offerLengths 0 = .ok (.iload_n 3, 1) := by decide +kernel
theorem dX2_offerLengths_1 : decode cX2_offerLengths 1 = .ok (.istore 5, 2) := by decide +kernel
theorem dX2_offerLengths_3 : decode cX2_offerLengths 3 = .ok (.iload 5, 2) := by decide +kernel
theorem dX2_offerLengths_5 : decode cX2_offerLengths 5 = .ok (.iconst 1, 1) := by decide +kernel
theorem dX2_offerLengths_6 : decode cX2_offerLengths 6 = .ok (.if_icmp .lt 19, 3) := by decide +kernel
theorem dX2_offerLengths_9 : decode cX2_offerLengths 9 = .ok (.aload_n 0, 1) := by decide +kernel
theorem dX2_offerLengths_10 : decode cX2_offerLengths 10 = .ok (.iload_n 1, 1) := by decide +kernel
theorem dX2_offerLengths_11 : decode cX2_offerLengths 11 = .ok (.iload_n 2, 1) := by decide +kernel
theorem dX2_offerLengths_12 : decode cX2_offerLengths 12 = .ok (.iload 5, 2) := by decide +kernel
theorem dX2_offerLengths_14 : decode cX2_offerLengths 14 = .ok (.iload 4, 2) := by decide +kernel
theorem dX2_offerLengths_16 : decode cX2_offerLengths 16 = .ok (.invokevirtual 74, 3) := by decide +kernel
theorem dX2_offerLengths_19 : decode cX2_offerLengths 19 = .ok (.iinc 5 (-1), 3) := by decide +kernel
theorem dX2_offerLengths_22 : decode cX2_offerLengths 22 = .ok (.goto (-19), 3) := by decide +kernel
theorem dX2_offerLengths_25 : decode cX2_offerLengths 25 = .ok (.return_, 1) := by decide +kernel
set_option maxRecDepth 20000 in
theorem ggX2_offerPlaces_X2_offer : GoodIn wsX2_offerPlaces wsX2_offer := goodIn_r _ [8, 9, 10, 11, 12, 13, 14, 15, 7, 16, 17, 18, 19, 20, 21, 22, 23, 24, 25, 26, 27] (by decide +kernel) (by decide +kernel)
set_option maxRecDepth 20000 in
theorem gX2_offerPlaces_X2_offer : GoodIn wsX2_offerPlaces (wsV RX2 74 RX2 yX2_offer wsX2_offer) := goodIn_app (goodIn_of _ (by decide +kernel)) ggX2_offerPlaces_X2_offer
theorem dX2_offerPlaces_0 : decode cX2_offerPlaces 0 = .ok (.iload_n 2, 1) := by decide +kernel
theorem dX2_offerPlaces_1 : decode cX2_offerPlaces 1 = .ok (.iconst 1, 1) := by decide +kernel
theorem dX2_offerPlaces_2 : decode cX2_offerPlaces 2 = .ok (.if_icmp .ne 10, 3) := by decide +kernel
theorem dX2_offerPlaces_5 : decode cX2_offerPlaces 5 = .ok (.aload_n 0, 1) := by decide +kernel
theorem dX2_offerPlaces_6 : decode cX2_offerPlaces 6 = .ok (.getfield 27, 3) := by decide +kernel
theorem dX2_offerPlaces_9 : decode cX2_offerPlaces 9 = .ok (.goto 7, 3) := by decide +kernel
theorem dX2_offerPlaces_12 : decode cX2_offerPlaces 12 = .ok (.aload_n 0, 1) := by decide +kernel
theorem dX2_offerPlaces_13 : decode cX2_offerPlaces 13 = .ok (.getfield 30, 3) := by decide +kernel
theorem dX2_offerPlaces_16 : decode cX2_offerPlaces 16 = .ok (.astore 5, 2) := by decide +kernel
theorem dX2_offerPlaces_18 : decode cX2_offerPlaces 18 = .ok (.iconst 0, 1) := by decide +kernel
theorem dX2_offerPlaces_19 : decode cX2_offerPlaces 19 = .ok (.istore 6, 2) := by decide +kernel
theorem dX2_offerPlaces_21 : decode cX2_offerPlaces 21 = .ok (.iconst 0, 1) := by decide +kernel
theorem dX2_offerPlaces_22 : decode cX2_offerPlaces 22 = .ok (.istore 7, 2) := by decide +kernel
theorem dX2_offerPlaces_24 : decode cX2_offerPlaces 24 = .ok (.iload 7, 2) := by decide +kernel
theorem dX2_offerPlaces_26 : decode cX2_offerPlaces 26 = .ok (.iload_n 3, 1) := by decide +kernel
theorem dX2_offerPlaces_27 : decode cX2_offerPlaces 27 = .ok (.if_icmp .ge 60, 3) := by decide +kernel
theorem dX2_offerPlaces_30 : decode cX2_offerPlaces 30 = .ok (.iload 7, 2) := by decide +kernel
theorem dX2_offerPlaces_32 : decode cX2_offerPlaces 32 = .ok (.sipush 151, 3) := by decide +kernel
theorem dX2_offerPlaces_35 : decode cX2_offerPlaces 35 = .ok (.if_icmp .ge 52, 3) := by decide +kernel
theorem dX2_offerPlaces_38 : decode cX2_offerPlaces 38 = .ok (.iload 6, 2) := by decide +kernel
theorem dX2_offerPlaces_40 : decode cX2_offerPlaces 40 = .ok (.iconst 1, 1) := by decide +kernel
theorem dX2_offerPlaces_41 : decode cX2_offerPlaces 41 = .ok (.iadd, 1) := by decide +kernel
theorem dX2_offerPlaces_42 : decode cX2_offerPlaces 42 = .ok (.istore 8, 2) := by decide +kernel
theorem dX2_offerPlaces_44 : decode cX2_offerPlaces 44 = .ok (.iload 8, 2) := by decide +kernel
theorem dX2_offerPlaces_46 : decode cX2_offerPlaces 46 = .ok (.aload 5, 2) := by decide +kernel
theorem dX2_offerPlaces_48 : decode cX2_offerPlaces 48 = .ok (.iload 7, 2) := by decide +kernel
theorem dX2_offerPlaces_50 : decode cX2_offerPlaces 50 = .ok (.iaload, 1) := by decide +kernel
theorem dX2_offerPlaces_51 : decode cX2_offerPlaces 51 = .ok (.if_icmp .gt 30, 3) := by decide +kernel
theorem dX2_offerPlaces_54 : decode cX2_offerPlaces 54 = .ok (.iload 8, 2) := by decide +kernel
theorem dX2_offerPlaces_56 : decode cX2_offerPlaces 56 = .ok (.sipush 151, 3) := by decide +kernel
theorem dX2_offerPlaces_59 : decode cX2_offerPlaces 59 = .ok (.if_icmp .ge 22, 3) := by decide +kernel
theorem dX2_offerPlaces_62 : decode cX2_offerPlaces 62 = .ok (.aload_n 0, 1) := by decide +kernel
theorem dX2_offerPlaces_63 : decode cX2_offerPlaces 63 = .ok (.getfield 33, 3) := by decide +kernel
theorem dX2_offerPlaces_66 : decode cX2_offerPlaces 66 = .ok (.iload 8, 2) := by decide +kernel
theorem dX2_offerPlaces_68 : decode cX2_offerPlaces 68 = .ok (.iload 7, 2) := by decide +kernel
theorem dX2_offerPlaces_70 : decode cX2_offerPlaces 70 = .ok (.iastore, 1) := by decide +kernel
theorem dX2_offerPlaces_71 : decode cX2_offerPlaces 71 = .ok (.iload 8, 2) := by decide +kernel
theorem dX2_offerPlaces_73 : decode cX2_offerPlaces 73 = .ok (.istore 6, 2) := by decide +kernel
theorem dX2_offerPlaces_75 : decode cX2_offerPlaces 75 = .ok (.iinc 8 1, 3) := by decide +kernel
theorem dX2_offerPlaces_78 : decode cX2_offerPlaces 78 = .ok (.goto (-34), 3) := by decide +kernel
theorem dX2_offerPlaces_81 : decode cX2_offerPlaces 81 = .ok (.iinc 7 1, 3) := by decide +kernel
theorem dX2_offerPlaces_84 : decode cX2_offerPlaces 84 = .ok (.goto (-60), 3) := by decide +kernel
theorem dX2_offerPlaces_87 : decode cX2_offerPlaces 87 = .ok (.iload 6, 2) := by decide +kernel
theorem dX2_offerPlaces_89 : decode cX2_offerPlaces 89 = .ok (.istore 7, 2) := by decide +kernel
theorem dX2_offerPlaces_91 : decode cX2_offerPlaces 91 = .ok (.iload 7, 2) := by decide +kernel
theorem dX2_offerPlaces_93 : decode cX2_offerPlaces 93 = .ok (.iload 4, 2) := by decide +kernel
theorem dX2_offerPlaces_95 : decode cX2_offerPlaces 95 = .ok (.if_icmp .lt 30, 3) := by decide +kernel
theorem dX2_offerPlaces_98 : decode cX2_offerPlaces 98 = .ok (.iload 7, 2) := by decide +kernel
theorem dX2_offerPlaces_100 : decode cX2_offerPlaces 100 = .ok (.iconst 1, 1) := by decide +kernel
theorem dX2_offerPlaces_101 : decode cX2_offerPlaces 101 = .ok (.if_icmp .lt 24, 3) := by decide +kernel
theorem dX2_offerPlaces_104 : decode cX2_offerPlaces 104 = .ok (.aload_n 0, 1) := by decide +kernel
theorem dX2_offerPlaces_105 : decode cX2_offerPlaces 105 = .ok (.iload_n 1, 1) := by decide +kernel
theorem dX2_offerPlaces_106 : decode cX2_offerPlaces 106 = .ok (.iload_n 2, 1) := by decide +kernel
theorem dX2_offerPlaces_107 : decode cX2_offerPlaces 107 = .ok (.iload 7, 2) := by decide +kernel
theorem dX2_offerPlaces_109 : decode cX2_offerPlaces 109 = .ok (.aload_n 0, 1) := by decide +kernel
theorem dX2_offerPlaces_110 : decode cX2_offerPlaces 110 = .ok (.getfield 33, 3) := by decide +kernel
theorem dX2_offerPlaces_113 : decode cX2_offerPlaces 113 = .ok (.iload 7, 2) := by decide +kernel
theorem dX2_offerPlaces_115 : decode cX2_offerPlaces 115 = .ok (.iaload, 1) := by decide +kernel
theorem dX2_offerPlaces_116 : decode cX2_offerPlaces 116 = .ok (.invokevirtual 74, 3) := by decide +kernel
theorem dX2_offerPlaces_119 : decode cX2_offerPlaces 119 = .ok (.iinc 7 (-1), 3) := by decide +kernel
theorem dX2_offerPlaces_122 : decode cX2_offerPlaces 122 = .ok (.goto (-31), 3) := by decide +kernel
theorem dX2_offerPlaces_125 : decode cX2_offerPlaces 125 = .ok (.return_, 1) := by decide +kernel
set_option maxRecDepth 20000 in
theorem ggX2_offer_X2_bytesOf : GoodIn wsX2_offer wsX2_bytesOf := goodIn_r _ [9, 10, 11, 8, 12] (by decide +kernel) (by decide +kernel)
set_option maxRecDepth 20000 in
theorem gX2_offer_X2_bytesOf : GoodIn wsX2_offer (va_wsS RX2 77 yX2_bytesOf wsX2_bytesOf) := goodIn_app (goodIn_of _ (by decide +kernel)) ggX2_offer_X2_bytesOf
theorem dX2_offer_0 : decode cX2_offer 0 = .ok (.iload_n 1, 1) := by decide +kernel
theorem dX2_offer_1 : decode cX2_offer 1 = .ok (.iload_n 3, 1) := by decide +kernel
theorem dX2_offer_2 : decode cX2_offer 2 = .ok (.iadd, 1) := by decide +kernel
theorem dX2_offer_3 : decode cX2_offer 3 = .ok (.istore 5, 2) := by decide +kernel
theorem dX2_offer_5 : decode cX2_offer 5 = .ok (.iload_n 1, 1) := by decide +kernel
theorem dX2_offer_6 : decode cX2_offer 6 = .ok (.ifCond .lt 16, 3) := by decide +kernel
theorem dX2_offer_9 : decode cX2_offer 9 = .ok (.iload_n 3, 1) := by decide +kernel
theorem dX2_offer_10 : decode cX2_offer 10 = .ok (.iconst 1, 1) := by decide +kernel
theorem dX2_offer_11 : decode cX2_offer 11 = .ok (.if_icmp .lt 11, 3) := by decide +kernel
theorem dX2_offer_14 : decode cX2_offer 14 = .ok (.iload 5, 2) := by decide +kernel
theorem dX2_offer_16 : decode cX2_offer 16 = .ok (.sipush 151, 3) := by decide +kernel
theorem dX2_offer_19 : decode cX2_offer 19 = .ok (.if_icmp .lt 4, 3) := by decide +kernel
theorem dX2_offer_22 : decode cX2_offer 22 = .ok (.return_, 1) := by decide +kernel
theorem dX2_offer_23 : decode cX2_offer 23 = .ok (.iload_n 2, 1) := by decide +kernel
theorem dX2_offer_24 : decode cX2_offer 24 = .ok (.iload_n 3, 1) := by decide +kernel
theorem dX2_offer_25 : decode cX2_offer 25 = .ok (.iload 4, 2) := by decide +kernel
theorem dX2_offer_27 : decode cX2_offer 27 = .ok (.invokestatic 77, 3) := by decide +kernel
theorem dX2_offer_30 : decode cX2_offer 30 = .ok (.aload_n 0, 1) := by decide +kernel
theorem dX2_offer_31 : decode cX2_offer 31 = .ok (.getfield 11, 3) := by decide +kernel
theorem dX2_offer_34 : decode cX2_offer 34 = .ok (.iload 5, 2) := by decide +kernel
theorem dX2_offer_36 : decode cX2_offer 36 = .ok (.iaload, 1) := by decide +kernel
theorem dX2_offer_37 : decode cX2_offer 37 = .ok (.iadd, 1) := by decide +kernel
theorem dX2_offer_38 : decode cX2_offer 38 = .ok (.istore 6, 2) := by decide +kernel
theorem dX2_offer_40 : decode cX2_offer 40 = .ok (.iconst 1, 1) := by decide +kernel
theorem dX2_offer_41 : decode cX2_offer 41 = .ok (.aload_n 0, 1) := by decide +kernel
theorem dX2_offer_42 : decode cX2_offer 42 = .ok (.getfield 15, 3) := by decide +kernel
theorem dX2_offer_45 : decode cX2_offer 45 = .ok (.iload 5, 2) := by decide +kernel
theorem dX2_offer_47 : decode cX2_offer 47 = .ok (.iaload, 1) := by decide +kernel
theorem dX2_offer_48 : decode cX2_offer 48 = .ok (.iadd, 1) := by decide +kernel
theorem dX2_offer_49 : decode cX2_offer 49 = .ok (.istore 7, 2) := by decide +kernel
theorem dX2_offer_51 : decode cX2_offer 51 = .ok (.iload 6, 2) := by decide +kernel
theorem dX2_offer_53 : decode cX2_offer 53 = .ok (.aload_n 0, 1) := by decide +kernel
theorem dX2_offer_54 : decode cX2_offer 54 = .ok (.getfield 11, 3) := by decide +kernel
theorem dX2_offer_57 : decode cX2_offer 57 = .ok (.iload_n 1, 1) := by decide +kernel
theorem dX2_offer_58 : decode cX2_offer 58 = .ok (.iaload, 1) := by decide +kernel
theorem dX2_offer_59 : decode cX2_offer 59 = .ok (.if_icmp .ge 7, 3) := by decide +kernel
theorem dX2_offer_62 : decode cX2_offer 62 = .ok (.iconst 1, 1) := by decide +kernel
theorem dX2_offer_63 : decode cX2_offer 63 = .ok (.goto 4, 3) := by decide +kernel
theorem dX2_offer_66 : decode cX2_offer 66 = .ok (.iconst 0, 1) := by decide +kernel
theorem dX2_offer_67 : decode cX2_offer 67 = .ok (.istore 8, 2) := by decide +kernel
theorem dX2_offer_69 : decode cX2_offer 69 = .ok (.iload 6, 2) := by decide +kernel
theorem dX2_offer_71 : decode cX2_offer 71 = .ok (.aload_n 0, 1) := by decide +kernel
theorem dX2_offer_72 : decode cX2_offer 72 = .ok (.getfield 11, 3) := by decide +kernel
theorem dX2_offer_75 : decode cX2_offer 75 = .ok (.iload_n 1, 1) := by decide +kernel
theorem dX2_offer_76 : decode cX2_offer 76 = .ok (.iaload, 1) := by decide +kernel
theorem dX2_offer_77 : decode cX2_offer 77 = .ok (.if_icmp .ne 18, 3) := by decide +kernel
theorem dX2_offer_80 : decode cX2_offer 80 = .ok (.iload 7, 2) := by decide +kernel
theorem dX2_offer_82 : decode cX2_offer 82 = .ok (.aload_n 0, 1) := by decide +kernel
theorem dX2_offer_83 : decode cX2_offer 83 = .ok (.getfield 15, 3) := by decide +kernel
theorem dX2_offer_86 : decode cX2_offer 86 = .ok (.iload_n 1, 1) := by decide +kernel
theorem dX2_offer_87 : decode cX2_offer 87 = .ok (.iaload, 1) := by decide +kernel
theorem dX2_offer_88 : decode cX2_offer 88 = .ok (.if_icmp .ge 7, 3) := by decide +kernel
theorem dX2_offer_91 : decode cX2_offer 91 = .ok (.iconst 1, 1) := by decide +kernel
theorem dX2_offer_92 : decode cX2_offer 92 = .ok (.goto 4, 3) := by decide +kernel
theorem dX2_offer_95 : decode cX2_offer 95 = .ok (.iconst 0, 1) := by decide +kernel
theorem dX2_offer_96 : decode cX2_offer 96 = .ok (.istore 9, 2) := by decide +kernel
theorem dX2_offer_98 : decode cX2_offer 98 = .ok (.iload 8, 2) := by decide +kernel
theorem dX2_offer_100 : decode cX2_offer 100 = .ok (.ifCond .ne 8, 3) := by decide +kernel
theorem dX2_offer_103 : decode cX2_offer 103 = .ok (.iload 9, 2) := by decide +kernel
theorem dX2_offer_105 : decode cX2_offer 105 = .ok (.ifCond .eq 41, 3) := by decide +kernel
theorem dX2_offer_108 : decode cX2_offer 108 = .ok (.aload_n 0, 1) := by decide +kernel
theorem dX2_offer_109 : decode cX2_offer 109 = .ok (.getfield 11, 3) := by decide +kernel
theorem dX2_offer_112 : decode cX2_offer 112 = .ok (.iload_n 1, 1) := by decide +kernel
theorem dX2_offer_113 : decode cX2_offer 113 = .ok (.iload 6, 2) := by decide +kernel
theorem dX2_offer_115 : decode cX2_offer 115 = .ok (.iastore, 1) := by decide +kernel
theorem dX2_offer_116 : decode cX2_offer 116 = .ok (.aload_n 0, 1) := by decide +kernel
theorem dX2_offer_117 : decode cX2_offer 117 = .ok (.getfield 15, 3) := by decide +kernel
theorem dX2_offer_120 : decode cX2_offer 120 = .ok (.iload_n 1, 1) := by decide +kernel
theorem dX2_offer_121 : decode cX2_offer 121 = .ok (.iload 7, 2) := by decide +kernel
theorem dX2_offer_123 : decode cX2_offer 123 = .ok (.iastore, 1) := by decide +kernel
theorem dX2_offer_124 : decode cX2_offer 124 = .ok (.aload_n 0, 1) := by decide +kernel
theorem dX2_offer_125 : decode cX2_offer 125 = .ok (.getfield 18, 3) := by decide +kernel
theorem dX2_offer_128 : decode cX2_offer 128 = .ok (.iload_n 1, 1) := by decide +kernel
theorem dX2_offer_129 : decode cX2_offer 129 = .ok (.iload_n 2, 1) := by decide +kernel
theorem dX2_offer_130 : decode cX2_offer 130 = .ok (.iastore, 1) := by decide +kernel
theorem dX2_offer_131 : decode cX2_offer 131 = .ok (.aload_n 0, 1) := by decide +kernel
theorem dX2_offer_132 : decode cX2_offer 132 = .ok (.getfield 21, 3) := by decide +kernel
theorem dX2_offer_135 : decode cX2_offer 135 = .ok (.iload_n 1, 1) := by decide +kernel
theorem dX2_offer_136 : decode cX2_offer 136 = .ok (.iload_n 3, 1) := by decide +kernel
theorem dX2_offer_137 : decode cX2_offer 137 = .ok (.iastore, 1) := by decide +kernel
theorem dX2_offer_138 : decode cX2_offer 138 = .ok (.aload_n 0, 1) := by decide +kernel
theorem dX2_offer_139 : decode cX2_offer 139 = .ok (.getfield 24, 3) := by decide +kernel
theorem dX2_offer_142 : decode cX2_offer 142 = .ok (.iload_n 1, 1) := by decide +kernel
theorem dX2_offer_143 : decode cX2_offer 143 = .ok (.iload 4, 2) := by decide +kernel
theorem dX2_offer_145 : decode cX2_offer 145 = .ok (.iastore, 1) := by decide +kernel
theorem dX2_offer_146 : decode cX2_offer 146 = .ok (.return_, 1) := by decide +kernel
set_option maxRecDepth 20000 in
theorem ggX2_bytesOf_X2_bytesOfNumber : GoodIn wsX2_bytesOf wsX2_bytesOfNumber := goodIn_r _ [4] (by decide +kernel) (by decide +kernel)
set_option maxRecDepth 20000 in
theorem gX2_bytesOf_X2_bytesOfNumber : GoodIn wsX2_bytesOf (va_wsS RX2 81 yX2_bytesOfNumber wsX2_bytesOfNumber) := goodIn_app (goodIn_of _ (by decide +kernel)) ggX2_bytesOf_X2_bytesOfNumber
theorem dX2_bytesOf_0 : decode cX2_bytesOf 0 = .ok (.iload_n 1, 1) := by decide +kernel
theorem dX2_bytesOf_1 : decode cX2_bytesOf 1 = .ok (.bipush 63, 2) := by decide +kernel
theorem dX2_bytesOf_3 : decode cX2_bytesOf 3 = .ok (.if_icmp .ge 7, 3) := by decide +kernel
theorem dX2_bytesOf_6 : decode cX2_bytesOf 6 = .ok (.iconst 1, 1) := by decide +kernel
theorem dX2_bytesOf_7 : decode cX2_bytesOf 7 = .ok (.goto 12, 3) := by decide +kernel
theorem dX2_bytesOf_10 : decode cX2_bytesOf 10 = .ok (.iconst 1, 1) := by decide +kernel
theorem dX2_bytesOf_11 : decode cX2_bytesOf 11 = .ok (.iload_n 1, 1) := by decide +kernel
theorem dX2_bytesOf_12 : decode cX2_bytesOf 12 = .ok (.bipush 63, 2) := by decide +kernel
theorem dX2_bytesOf_14 : decode cX2_bytesOf 14 = .ok (.isub, 1) := by decide +kernel
theorem dX2_bytesOf_15 : decode cX2_bytesOf 15 = .ok (.invokestatic 81, 3) := by decide +kernel
theorem dX2_bytesOf_18 : decode cX2_bytesOf 18 = .ok (.iadd, 1) := by decide +kernel
theorem dX2_bytesOf_19 : decode cX2_bytesOf 19 = .ok (.istore_n 3, 1) := by decide +kernel
theorem dX2_bytesOf_20 : decode cX2_bytesOf 20 = .ok (.iload_n 0, 1) := by decide +kernel
theorem dX2_bytesOf_21 : decode cX2_bytesOf 21 = .ok (.ifCond .ne 7, 3) := by decide +kernel
theorem dX2_bytesOf_24 : decode cX2_bytesOf 24 = .ok (.iload_n 3, 1) := by decide +kernel
theorem dX2_bytesOf_25 : decode cX2_bytesOf 25 = .ok (.iload_n 1, 1) := by decide +kernel
theorem dX2_bytesOf_26 : decode cX2_bytesOf 26 = .ok (.iadd, 1) := by decide +kernel
theorem dX2_bytesOf_27 : decode cX2_bytesOf 27 = .ok (.ireturn, 1) := by decide +kernel
theorem dX2_bytesOf_28 : decode cX2_bytesOf 28 = .ok (.iload_n 0, 1) := by decide +kernel
theorem dX2_bytesOf_29 : decode cX2_bytesOf 29 = .ok (.iconst 3, 1) := by decide +kernel
theorem dX2_bytesOf_30 : decode cX2_bytesOf 30 = .ok (.if_icmp .ne 9, 3) := by decide +kernel
theorem dX2_bytesOf_33 : decode cX2_bytesOf 33 = .ok (.iload_n 3, 1) := by decide +kernel
theorem dX2_bytesOf_34 : decode cX2_bytesOf 34 = .ok (.iconst 1, 1) := by decide +kernel
theorem dX2_bytesOf_35 : decode cX2_bytesOf 35 = .ok (.iadd, 1) := by decide +kernel
theorem dX2_bytesOf_36 : decode cX2_bytesOf 36 = .ok (.goto 9, 3) := by decide +kernel
theorem dX2_bytesOf_39 : decode cX2_bytesOf 39 = .ok (.iload_n 3, 1) := by decide +kernel
theorem dX2_bytesOf_40 : decode cX2_bytesOf 40 = .ok (.iload_n 2, 1) := by decide +kernel
theorem dX2_bytesOf_41 : decode cX2_bytesOf 41 = .ok (.invokestatic 81, 3) := by decide +kernel
theorem dX2_bytesOf_44 : decode cX2_bytesOf 44 = .ok (.iadd, 1) := by decide +kernel
theorem dX2_bytesOf_45 : decode cX2_bytesOf 45 = .ok (.ireturn, 1) := by decide +kernel
theorem dX2_bytesOfNumber_0 : decode cX2_bytesOfNumber 0 = .ok (.iload_n 0, 1) := by decide +kernel
theorem dX2_bytesOfNumber_1 : decode cX2_bytesOfNumber 1 = .ok (.sipush 128, 3) := by decide +kernel
theorem dX2_bytesOfNumber_4 : decode cX2_bytesOfNumber 4 = .ok (.if_icmp .ge 7, 3) := by decide +kernel
theorem dX2_bytesOfNumber_7 : decode cX2_bytesOfNumber 7 = .ok (.iconst 1, 1) := by decide +kernel
theorem dX2_bytesOfNumber_8 : decode cX2_bytesOfNumber 8 = .ok (.goto 4, 3) := by decide +kernel
theorem dX2_bytesOfNumber_11 : decode cX2_bytesOfNumber 11 = .ok (.iconst 2, 1) := by decide +kernel
theorem dX2_bytesOfNumber_12 : decode cX2_bytesOfNumber 12 = .ok (.ireturn, 1) := by decide +kernel
set_option maxRecDepth 20000 in
theorem ggX2_listInstructions_X1_begin : GoodIn wsX2_listInstructions wsX1_begin := goodIn_r _ [9, 10, 11, 12, 13, 14, 15, 16, 17, 18, 19, 20, 21, 39, 40, 41, 42, 43, 44, 45, 46] (by decide +kernel) (by decide +kernel)
set_option maxRecDepth 20000 in
theorem gX2_listInstructions_X1_begin : GoodIn wsX2_listInstructions (wsV RX2 84 RX1 yX1_begin wsX1_begin) := goodIn_app (goodIn_of _ (by decide +kernel)) ggX2_listInstructions_X1_begin
set_option maxRecDepth 20000 in
theorem ggX2_listInstructions_X1_add : GoodIn wsX2_listInstructions wsX1_add := goodIn_r _ [25, 10, 11, 12, 13, 26, 27, 28, 19, 29, 21, 30, 39, 40, 41, 42, 43, 44, 45, 46] (by decide +kernel) (by decide +kernel)
set_option maxRecDepth 20000 in
theorem gX2_listInstructions_X1_add : GoodIn wsX2_listInstructions (wsV RX2 90 RX1 yX1_add wsX1_add) := goodIn_app (goodIn_of _ (by decide +kernel)) ggX2_listInstructions_X1_add
theorem dX2_listInstructions_0 : decode cX2_listInstructions 0 = .ok (.aload_n 2, 1) := by decide +kernel
theorem dX2_listInstructions_1 : decode cX2_listInstructions 1 = .ok (.aload_n 0, 1) := by decide +kernel
theorem dX2_listInstructions_2 : decode cX2_listInstructions 2 = .ok (.getfield 11, 3) := by decide +kernel
theorem dX2_listInstructions_5 : decode cX2_listInstructions 5 = .ok (.iconst 0, 1) := by decide +kernel
theorem dX2_listInstructions_6 : decode cX2_listInstructions 6 = .ok (.iaload, 1) := by decide +kernel
theorem dX2_listInstructions_7 : decode cX2_listInstructions 7 = .ok (.invokevirtual 84, 3) := by decide +kernel
theorem dX2_listInstructions_10 : decode cX2_listInstructions 10 = .ok (.iconst 0, 1) := by decide +kernel
theorem dX2_listInstructions_11 : decode cX2_listInstructions 11 = .ok (.istore_n 3, 1) := by decide +kernel
theorem dX2_listInstructions_12 : decode cX2_listInstructions 12 = .ok (.iconst 0, 1) := by decide +kernel
theorem dX2_listInstructions_13 : decode cX2_listInstructions 13 = .ok (.istore 4, 2) := by decide +kernel
theorem dX2_listInstructions_15 : decode cX2_listInstructions 15 = .ok (.iload 4, 2) := by decide +kernel
theorem dX2_listInstructions_17 : decode cX2_listInstructions 17 = .ok (.iload_n 1, 1) := by decide +kernel
theorem dX2_listInstructions_18 : decode cX2_listInstructions 18 = .ok (.if_icmp .ge 61, 3) := by decide +kernel
theorem dX2_listInstructions_21 : decode cX2_listInstructions 21 = .ok (.iload 4, 2) := by decide +kernel
theorem dX2_listInstructions_23 : decode cX2_listInstructions 23 = .ok (.sipush 151, 3) := by decide +kernel
theorem dX2_listInstructions_26 : decode cX2_listInstructions 26 = .ok (.if_icmp .ge 53, 3) := by decide +kernel
theorem dX2_listInstructions_29 : decode cX2_listInstructions 29 = .ok (.iload 4, 2) := by decide +kernel
theorem dX2_listInstructions_31 : decode cX2_listInstructions 31 = .ok (.iload_n 3, 1) := by decide +kernel
theorem dX2_listInstructions_32 : decode cX2_listInstructions 32 = .ok (.if_icmp .ne 41, 3) := by decide +kernel
theorem dX2_listInstructions_35 : decode cX2_listInstructions 35 = .ok (.aload_n 2, 1) := by decide +kernel
theorem dX2_listInstructions_36 : decode cX2_listInstructions 36 = .ok (.aload_n 0, 1) := by decide +kernel
theorem dX2_listInstructions_37 : decode cX2_listInstructions 37 = .ok (.getfield 18, 3) := by decide +kernel
theorem dX2_listInstructions_40 : decode cX2_listInstructions 40 = .ok (.iload 4, 2) := by decide +kernel
theorem dX2_listInstructions_42 : decode cX2_listInstructions 42 = .ok (.iaload, 1) := by decide +kernel
theorem dX2_listInstructions_43 : decode cX2_listInstructions 43 = .ok (.aload_n 0, 1) := by decide +kernel
theorem dX2_listInstructions_44 : decode cX2_listInstructions 44 = .ok (.getfield 21, 3) := by decide +kernel
theorem dX2_listInstructions_47 : decode cX2_listInstructions 47 = .ok (.iload 4, 2) := by decide +kernel
theorem dX2_listInstructions_49 : decode cX2_listInstructions 49 = .ok (.iaload, 1) := by decide +kernel
theorem dX2_listInstructions_50 : decode cX2_listInstructions 50 = .ok (.aload_n 0, 1) := by decide +kernel
theorem dX2_listInstructions_51 : decode cX2_listInstructions 51 = .ok (.getfield 24, 3) := by decide +kernel
theorem dX2_listInstructions_54 : decode cX2_listInstructions 54 = .ok (.iload 4, 2) := by decide +kernel
theorem dX2_listInstructions_56 : decode cX2_listInstructions 56 = .ok (.iaload, 1) := by decide +kernel
theorem dX2_listInstructions_57 : decode cX2_listInstructions 57 = .ok (.iload 4, 2) := by decide +kernel
theorem dX2_listInstructions_59 : decode cX2_listInstructions 59 = .ok (.invokevirtual 90, 3) := by decide +kernel
theorem dX2_listInstructions_62 : decode cX2_listInstructions 62 = .ok (.iload 4, 2) := by decide +kernel
theorem dX2_listInstructions_64 : decode cX2_listInstructions 64 = .ok (.aload_n 0, 1) := by decide +kernel
theorem dX2_listInstructions_65 : decode cX2_listInstructions 65 = .ok (.getfield 21, 3) := by decide +kernel
theorem dX2_listInstructions_68 : decode cX2_listInstructions 68 = .ok (.iload 4, 2) := by decide +kernel
theorem dX2_listInstructions_70 : decode cX2_listInstructions 70 = .ok (.iaload, 1) := by decide +kernel
theorem dX2_listInstructions_71 : decode cX2_listInstructions 71 = .ok (.iadd, 1) := by decide +kernel
theorem dX2_listInstructions_72 : decode cX2_listInstructions 72 = .ok (.istore_n 3, 1) := by decide +kernel
theorem dX2_listInstructions_73 : decode cX2_listInstructions 73 = .ok (.iinc 4 1, 3) := by decide +kernel
theorem dX2_listInstructions_76 : decode cX2_listInstructions 76 = .ok (.goto (-61), 3) := by decide +kernel
theorem dX2_listInstructions_79 : decode cX2_listInstructions 79 = .ok (.return_, 1) := by decide +kernel
theorem dX3_init_0 : decode cX3_init 0 = .ok (.aload_n 0, 1) := by decide +kernel
theorem dX3_init_1 : decode cX3_init 1 = .ok (.invokespecial 1, 3) := by decide +kernel
theorem dX3_init_4 : decode cX3_init 4 = .ok (.aload_n 0, 1) := by decide +kernel
theorem dX3_init_5 : decode cX3_init 5 = .ok (.iload_n 1, 1) := by decide +kernel
theorem dX3_init_6 : decode cX3_init 6 = .ok (.iconst 0, 1) := by decide +kernel
theorem dX3_init_7 : decode cX3_init 7 = .ok (.invokestatic 7, 3) := by decide +kernel
theorem dX3_init_10 : decode cX3_init 10 = .ok (.newarray .int, 2) := by decide +kernel
theorem dX3_init_12 : decode cX3_init 12 = .ok (.putfield 13, 3) := by decide +kernel
theorem dX3_init_15 : decode cX3_init 15 = .ok (.aload_n 0, 1) := by decide +kernel
theorem dX3_init_16 : decode cX3_init 16 = .ok (.iconst 0, 1) := by decide +kernel
theorem dX3_init_17 : decode cX3_init 17 = .ok (.putfield 19, 3) := by decide +kernel
theorem dX3_init_20 : decode cX3_init 20 = .ok (.return_, 1) := by decide +kernel
theorem dX3_count_0 : decode cX3_count 0 = .ok (.aload_n 0, 1) := by decide +kernel
theorem dX3_count_1 : decode cX3_count 1 = .ok (.getfield 19, 3) := by decide +kernel
theorem dX3_count_4 : decode cX3_count 4 = .ok (.ireturn, 1) := by decide +kernel
theorem dX3_holds_0 : decode cX3_holds 0 = .ok (.iload_n 1, 1) := by decide +kernel
theorem dX3_holds_1 : decode cX3_holds 1 = .ok (.ifCond .lt 24, 3) := by decide +kernel
theorem dX3_holds_4 : decode cX3_holds 4 = .ok (.iload_n 1, 1) := by decide +kernel
theorem dX3_holds_5 : decode cX3_holds 5 = .ok (.aload_n 0, 1) := by decide +kernel
theorem dX3_holds_6 : decode cX3_holds 6 = .ok (.getfield 19, 3) := by decide +kernel
theorem dX3_holds_9 : decode cX3_holds 9 = .ok (.if_icmp .ge 16, 3) := by decide +kernel
theorem dX3_holds_12 : decode cX3_holds 12 = .ok (.iload_n 1, 1) := by decide +kernel
theorem dX3_holds_13 : decode cX3_holds 13 = .ok (.aload_n 0, 1) := by decide +kernel
theorem dX3_holds_14 : decode cX3_holds 14 = .ok (.getfield 13, 3) := by decide +kernel
theorem dX3_holds_17 : decode cX3_holds 17 = .ok (.arraylength, 1) := by decide +kernel
theorem dX3_holds_18 : decode cX3_holds 18 = .ok (.if_icmp .ge 7, 3) := by decide +kernel
theorem dX3_holds_21 : decode cX3_holds 21 = .ok (.iconst 1, 1) := by decide +kernel
theorem dX3_holds_22 : decode cX3_holds 22 = .ok (.goto 4, 3) := by decide +kernel
theorem dX3_holds_25 : decode cX3_holds 25 = .ok (.iconst 0, 1) := by decide +kernel
theorem dX3_holds_26 : decode cX3_holds 26 = .ok (.ireturn, 1) := by decide +kernel
theorem dX3_hasRoom_0 : decode cX3_hasRoom 0 = .ok (.iload_n 1, 1) := by decide +kernel
theorem dX3_hasRoom_1 : decode cX3_hasRoom 1 = .ok (.aload_n 0, 1) := by decide +kernel
theorem dX3_hasRoom_2 : decode cX3_hasRoom 2 = .ok (.getfield 13, 3) := by decide +kernel
theorem dX3_hasRoom_5 : decode cX3_hasRoom 5 = .ok (.arraylength, 1) := by decide +kernel
theorem dX3_hasRoom_6 : decode cX3_hasRoom 6 = .ok (.aload_n 0, 1) := by decide +kernel
theorem dX3_hasRoom_7 : decode cX3_hasRoom 7 = .ok (.getfield 19, 3) := by decide +kernel
theorem dX3_hasRoom_10 : decode cX3_hasRoom 10 = .ok (.isub, 1) := by decide +kernel
theorem dX3_hasRoom_11 : decode cX3_hasRoom 11 = .ok (.if_icmp .gt 7, 3) := by decide +kernel
theorem dX3_hasRoom_14 : decode cX3_hasRoom 14 = .ok (.iconst 1, 1) := by decide +kernel
theorem dX3_hasRoom_15 : decode cX3_hasRoom 15 = .ok (.goto 4, 3) := by decide +kernel
theorem dX3_hasRoom_18 : decode cX3_hasRoom 18 = .ok (.iconst 0, 1) := by decide +kernel
theorem dX3_hasRoom_19 : decode cX3_hasRoom 19 = .ok (.ireturn, 1) := by decide +kernel
set_option maxRecDepth 20000 in
theorem ggX3_at_X3_holds : GoodIn wsX3_at wsX3_holds := goodIn_r _ [6, 7, 1, 8, 9] (by decide +kernel) (by decide +kernel)
set_option maxRecDepth 20000 in
theorem gX3_at_X3_holds : GoodIn wsX3_at (wsV RX3 23 RX3 yX3_holds wsX3_holds) := goodIn_app (goodIn_of _ (by decide +kernel)) ggX3_at_X3_holds
theorem dX3_at_0 : decode cX3_at 0 = .ok (.aload_n 0, 1) := by decide +kernel
theorem dX3_at_1 : decode cX3_at 1 = .ok (.iload_n 1, 1) := by decide +kernel
theorem dX3_at_2 : decode cX3_at 2 = .ok (.invokevirtual 23, 3) := by decide +kernel
theorem dX3_at_5 : decode cX3_at 5 = .ok (.ifCond .eq 12, 3) := by decide +kernel
theorem dX3_at_8 : decode cX3_at 8 = .ok (.aload_n 0, 1) := by decide +kernel
theorem dX3_at_9 : decode cX3_at 9 = .ok (.getfield 13, 3) := by decide +kernel
theorem dX3_at_12 : decode cX3_at 12 = .ok (.iload_n 1, 1) := by decide +kernel
theorem dX3_at_13 : decode cX3_at 13 = .ok (.iaload, 1) := by decide +kernel
theorem dX3_at_14 : decode cX3_at 14 = .ok (.goto 4, 3) := by decide +kernel
theorem dX3_at_17 : decode cX3_at 17 = .ok (.iconst 0, 1) := by decide +kernel
theorem dX3_at_18 : decode cX3_at 18 = .ok (.ireturn, 1) := by decide +kernel
set_option maxRecDepth 20000 in
theorem ggX3_put_X3_holds : GoodIn wsX3_put wsX3_holds := goodIn_r _ [6, 7, 1, 8, 9] (by decide +kernel) (by decide +kernel)
set_option maxRecDepth 20000 in
theorem gX3_put_X3_holds : GoodIn wsX3_put (wsV RX3 23 RX3 yX3_holds wsX3_holds) := goodIn_app (goodIn_of _ (by decide +kernel)) ggX3_put_X3_holds
theorem dX3_put_0 : decode cX3_put 0 = .ok (.aload_n 0, 1) := by decide +kernel
theorem dX3_put_1 : decode cX3_put 1 = .ok (.iload_n 1, 1) := by decide +kernel
theorem dX3_put_2 : decode cX3_put 2 = .ok (.invokevirtual 23, 3) := by decide +kernel
theorem dX3_put_5 : decode cX3_put 5 = .ok (.ifCond .eq 10, 3) := by decide +kernel
theorem dX3_put_8 : decode cX3_put 8 = .ok (.aload_n 0, 1) := by decide +kernel
theorem dX3_put_9 : decode cX3_put 9 = .ok (.getfield 13, 3) := by decide +kernel
theorem dX3_put_12 : decode cX3_put 12 = .ok (.iload_n 1, 1) := by decide +kernel
theorem dX3_put_13 : decode cX3_put 13 = .ok (.iload_n 2, 1) := by decide +kernel
theorem dX3_put_14 : decode cX3_put 14 = .ok (.iastore, 1) := by decide +kernel
theorem dX3_put_15 : decode cX3_put 15 = .ok (.return_, 1) := by decide +kernel
theorem dX3_append_0 : decode cX3_append 0 = .ok (.aload_n 0, 1) := by decide +kernel
theorem dX3_append_1 : decode cX3_append 1 = .ok (.getfield 19, 3) := by decide +kernel
theorem dX3_append_4 : decode cX3_append 4 = .ok (.ifCond .lt 35, 3) := by decide +kernel
theorem dX3_append_7 : decode cX3_append 7 = .ok (.aload_n 0, 1) := by decide +kernel
theorem dX3_append_8 : decode cX3_append 8 = .ok (.getfield 19, 3) := by decide +kernel
theorem dX3_append_11 : decode cX3_append 11 = .ok (.aload_n 0, 1) := by decide +kernel
theorem dX3_append_12 : decode cX3_append 12 = .ok (.getfield 13, 3) := by decide +kernel
theorem dX3_append_15 : decode cX3_append 15 = .ok (.arraylength, 1) := by decide +kernel
theorem dX3_append_16 : decode cX3_append 16 = .ok (.if_icmp .ge 23, 3) := by decide +kernel
theorem dX3_append_19 : decode cX3_append 19 = .ok (.aload_n 0, 1) := by decide +kernel
theorem dX3_append_20 : decode cX3_append 20 = .ok (.getfield 13, 3) := by decide +kernel
theorem dX3_append_23 : decode cX3_append 23 = .ok (.aload_n 0, 1) := by decide +kernel
theorem dX3_append_24 : decode cX3_append 24 = .ok (.getfield 19, 3) := by decide +kernel
theorem dX3_append_27 : decode cX3_append 27 = .ok (.iload_n 1, 1) := by decide +kernel
theorem dX3_append_28 : decode cX3_append 28 = .ok (.iastore, 1) := by decide +kernel
theorem dX3_append_29 : decode cX3_append 29 = .ok (.aload_n 0, 1) := by decide +kernel
theorem dX3_append_30 : decode cX3_append 30 = .ok (.dup, 1) := by decide +kernel
theorem dX3_append_31 : decode cX3_append 31 = .ok (.getfield 19, 3) := by decide +kernel
theorem dX3_append_34 : decode cX3_append 34 = .ok (.iconst 1, 1) := by decide +kernel
theorem dX3_append_35 : decode cX3_append 35 = .ok (.iadd, 1) := by decide +kernel
theorem dX3_append_36 : decode cX3_append 36 = .ok (.putfield 19, 3) := by decide +kernel
theorem dX3_append_39 : decode cX3_append 39 = .ok (.return_, 1) := by decide +kernel
theorem dX3_drop_0 : decode cX3_drop 0 = .ok (.iload_n 1, 1) := by decide +kernel
theorem dX3_drop_1 : decode cX3_drop 1 = .ok (.ifCond .lt 21, 3) := by decide +kernel
theorem dX3_drop_4 : decode cX3_drop 4 = .ok (.iload_n 1, 1) := by decide +kernel
theorem dX3_drop_5 : decode cX3_drop 5 = .ok (.aload_n 0, 1) := by decide +kernel
theorem dX3_drop_6 : decode cX3_drop 6 = .ok (.getfield 19, 3) := by decide +kernel
theorem dX3_drop_9 : decode cX3_drop 9 = .ok (.if_icmp .gt 13, 3) := by decide +kernel
theorem dX3_drop_12 : decode cX3_drop 12 = .ok (.aload_n 0, 1) := by decide +kernel
theorem dX3_drop_13 : decode cX3_drop 13 = .ok (.dup, 1) := by decide +kernel
theorem dX3_drop_14 : decode cX3_drop 14 = .ok (.getfield 19, 3) := by decide +kernel
theorem dX3_drop_17 : decode cX3_drop 17 = .ok (.iload_n 1, 1) := by decide +kernel
theorem dX3_drop_18 : decode cX3_drop 18 = .ok (.isub, 1) := by decide +kernel
theorem dX3_drop_19 : decode cX3_drop 19 = .ok (.putfield 19, 3) := by decide +kernel
theorem dX3_drop_22 : decode cX3_drop 22 = .ok (.return_, 1) := by decide +kernel
theorem dX3_clear_0 : decode cX3_clear 0 = .ok (.aload_n 0, 1) := by decide +kernel
theorem dX3_clear_1 : decode cX3_clear 1 = .ok (.iconst 0, 1) := by decide +kernel
theorem dX3_clear_2 : decode cX3_clear 2 = .ok (.putfield 19, 3) := by decide +kernel
theorem dX3_clear_5 : decode cX3_clear 5 = .ok (.return_, 1) := by decide +kernel
theorem dJ9_abs_0f7a4_0 : decode cJ9_abs_0f7a4 0 = .ok (.iload_n 0, 1) := by decide +kernel
theorem dJ9_abs_0f7a4_1 : decode cJ9_abs_0f7a4 1 = .ok (.ifCond .ge 8, 3) := by decide +kernel
theorem dJ9_abs_0f7a4_4 : decode cJ9_abs_0f7a4 4 = .ok (.iload_n 0, 1) := by decide +kernel
theorem dJ9_abs_0f7a4_5 : decode cJ9_abs_0f7a4 5 = .ok (.ineg, 1) := by decide +kernel
theorem dJ9_abs_0f7a4_6 : decode cJ9_abs_0f7a4 6 = .ok (.goto 4, 3) := by decide +kernel
theorem dJ9_abs_0f7a4_9 : decode cJ9_abs_0f7a4 9 = .ok (.iload_n 0, 1) := by decide +kernel
theorem dJ9_abs_0f7a4_10 : decode cJ9_abs_0f7a4 10 = .ok (.ireturn, 1) := by decide +kernel
theorem dJ9_max_7cf53_0 : decode cJ9_max_7cf53 0 = .ok (.iload_n 0, 1) := by decide +kernel
theorem dJ9_max_7cf53_1 : decode cJ9_max_7cf53 1 = .ok (.iload_n 1, 1) := by decide +kernel
theorem dJ9_max_7cf53_2 : decode cJ9_max_7cf53 2 = .ok (.if_icmp .lt 7, 3) := by decide +kernel
theorem dJ9_max_7cf53_5 : decode cJ9_max_7cf53 5 = .ok (.iload_n 0, 1) := by decide +kernel
theorem dJ9_max_7cf53_6 : decode cJ9_max_7cf53 6 = .ok (.goto 4, 3) := by decide +kernel
theorem dJ9_max_7cf53_9 : decode cJ9_max_7cf53 9 = .ok (.iload_n 1, 1) := by decide +kernel
theorem dJ9_max_7cf53_10 : decode cJ9_max_7cf53 10 = .ok (.ireturn, 1) := by decide +kernel
theorem dJ9_min_7cf53_0 : decode cJ9_min_7cf53 0 = .ok (.iload_n 0, 1) := by decide +kernel
theorem dJ9_min_7cf53_1 : decode cJ9_min_7cf53 1 = .ok (.iload_n 1, 1) := by decide +kernel
theorem dJ9_min_7cf53_2 : decode cJ9_min_7cf53 2 = .ok (.if_icmp .gt 7, 3) := by decide +kernel
theorem dJ9_min_7cf53_5 : decode cJ9_min_7cf53 5 = .ok (.iload_n 0, 1) := by decide +kernel
theorem dJ9_min_7cf53_6 : decode cJ9_min_7cf53 6 = .ok (.goto 4, 3) := by decide +kernel
theorem dJ9_min_7cf53_9 : decode cJ9_min_7cf53 9 = .ok (.iload_n 1, 1) := by decide +kernel
theorem dJ9_min_7cf53_10 : decode cJ9_min_7cf53 10 = .ok (.ireturn, 1) := by decide +kernel
theorem dJ7_fill_53178_0 : decode cJ7_fill_53178 0 = .ok (.iconst 0, 1) := by decide +kernel
theorem dJ7_fill_53178_1 : decode cJ7_fill_53178 1 = .ok (.istore_n 2, 1) := by decide +kernel
theorem dJ7_fill_53178_2 : decode cJ7_fill_53178 2 = .ok (.aload_n 0, 1) := by decide +kernel
theorem dJ7_fill_53178_3 : decode cJ7_fill_53178 3 = .ok (.arraylength, 1) := by decide +kernel
theorem dJ7_fill_53178_4 : decode cJ7_fill_53178 4 = .ok (.istore_n 3, 1) := by decide +kernel
theorem dJ7_fill_53178_5 : decode cJ7_fill_53178 5 = .ok (.iload_n 2, 1) := by decide +kernel
theorem dJ7_fill_53178_6 : decode cJ7_fill_53178 6 = .ok (.iload_n 3, 1) := by decide +kernel
theorem dJ7_fill_53178_7 : decode cJ7_fill_53178 7 = .ok (.if_icmp .ge 13, 3) := by decide +kernel
theorem dJ7_fill_53178_10 : decode cJ7_fill_53178 10 = .ok (.aload_n 0, 1) := by decide +kernel
theorem dJ7_fill_53178_11 : decode cJ7_fill_53178 11 = .ok (.iload_n 2, 1) := by decide +kernel
theorem dJ7_fill_53178_12 : decode cJ7_fill_53178 12 = .ok (.iload_n 1, 1) := by decide +kernel
theorem dJ7_fill_53178_13 : decode cJ7_fill_53178 13 = .ok (.iastore, 1) := by decide +kernel
theorem dJ7_fill_53178_14 : decode cJ7_fill_53178 14 = .ok (.iinc 2 1, 3) := by decide +kernel
theorem dJ7_fill_53178_17 : decode cJ7_fill_53178 17 = .ok (.goto (-12), 3) := by decide +kernel
theorem dJ7_fill_53178_20 : decode cJ7_fill_53178 20 = .ok (.return_, 1) := by decide +kernel
end
section
/-! what the walks stand on: own rows -/
theorem zz_keep {D : va_G} {cl : List vw_C} {ws : va_W} {H H1 : Heap} (hP : va_P D cl ws H) (hk : ∀ q : Nat, q < H.size → ¬ (H.size ≤ q) → H1[q]? = H[q]?) : va_P D cl ws H1 := hP.kept (fun _ q hq => hk q.1 (vx_lt hP hq) (Nat.not_le.mpr (vx_lt hP hq)))
theorem zz_same {D : va_G} {cl : List vw_C} {tys : List (ClassId × FieldType)} {U : State} {a b : ClassId} (h : va_K D cl tys U) (i j : Nat) (hi : tys[i]? = some (a, .int)) (hj : tys[j]? = some (b, .int)) : b = a := by
  have h1 : U.vm.findClass ("[" ++ FieldType.int.toString) = some a := (h.2 i _ hi).2
  have h2 : U.vm.findClass ("[" ++ FieldType.int.toString) = some b := (h.2 j _ hj).2
  exact Option.some.inj (h2.symm.trans h1)
theorem zz_sameL {D : va_G} {cl : List vw_C} {tys : List (ClassId × FieldType)} {U : State} {a b : ClassId} (h : va_K D cl tys U) (i j : Nat) (hi : tys[i]? = some (a, .long)) (hj : tys[j]? = some (b, .long)) : b = a := by
  have h1 : U.vm.findClass ("[" ++ FieldType.long.toString) = some a := (h.2 i _ hi).2
  have h2 : U.vm.findClass ("[" ++ FieldType.long.toString) = some b := (h.2 j _ hj).2
  exact Option.some.inj (h2.symm.trans h1)
theorem zz_sameD {D : va_G} {cl : List vw_C} {tys : List (ClassId × FieldType)} {U : State} {a b : ClassId} (h : va_K D cl tys U) (i j : Nat) (hi : tys[i]? = some (a, .double)) (hj : tys[j]? = some (b, .double)) : b = a := by
  have h1 : U.vm.findClass ("[" ++ FieldType.double.toString) = some a := (h.2 i _ hi).2
  have h2 : U.vm.findClass ("[" ++ FieldType.double.toString) = some b := (h.2 j _ hj).2
  exact Option.some.inj (h2.symm.trans h1)
theorem zz_D {A : Nat → Prop} {ws : va_W} (h : va_D A ws) : va_D (fun _ => True) ws := h.weaken (fun _ _ _ _ => trivial)
theorem zz_P0 {D : va_G} {cl : List vw_C} {H : Heap} : va_P D cl [] H := fun k q h => by simp at h
theorem zz_D0 {A : Nat → Prop} : va_D A [] := ⟨fun i j p q h => by simp at h, fun k q h => by simp at h⟩
/-- the texts of the class's exceptions, by their entries -/
def zz_strs : List (Nat × String) := [(96, "no such part of the string"), (146, "no such kind"), (185, "no such side"), (189, "a value outside its range"), (192, "no such place"), (199, "too many bytes"), (202, "there is no plan"), (204, "no such instruction")]
/-- what a throw needs of a state: the two statics of Throwable lie outside A; the texts are there -/
def zz_X (A : Nat → Prop) (U : State) : Prop := vx_Zq Bundle.tN "UNASSIGNED_STACK" Bundle.steD A U U.heap ∧ vx_Zq Bundle.tN "SUPPRESSED_SENTINEL" Bundle.listD A U U.heap ∧ (∀ q ∈ zz_strs, ∃ sa : Nat, vk_R RX4 q.1 q.2 sa U) ∧ va_Nw (.methodLinkNest RX0 93 yX4_checkOf RX4) U
theorem zz_X.go {A B : Nat → Prop} {s U : State} {H : Heap} {locs : List Loc} (h : zz_X A s) (hS : va_S A s.heap H locs) (hB : ∀ q, B q → A q) (hU : U.heap = H) (hW : s.WarmedH U.vm) : zz_X B U := by
  refine ⟨?_, ?_, fun q hq => ?_, h.2.2.2.warmM hW⟩
  · rw [hU]; exact ((h.1.kept (H1 := H) (fun a h1 h2 => hS.2.1 a h1 h2)).narrow hB).moved hW.alike
  · rw [hU]; exact ((h.2.1.kept (H1 := H) (fun a h1 h2 => hS.2.1 a h1 h2)).narrow hB).moved hW.alike
  · obtain ⟨sa, h9⟩ := h.2.2.1 q hq
    exact ⟨sa, h9.warm hW⟩
theorem zz_X.call {A : Nat → Prop} {U : State} {g : JFrame} {mk : MethodId} {a : Array Value} (h : zz_X A U) : zz_X A (U.calling g mk a) := by
  refine ⟨?_, ?_, fun q hq => ?_, va_Nw.same rfl (u := U) rfl h.2.2.2⟩
  · exact vx_Zq.moved (u := U) (U := U.calling g mk a) (Vm.Alike.refl U.vm) h.1
  · exact vx_Zq.moved (u := U) (U := U.calling g mk a) (Vm.Alike.refl U.vm) h.2.1
  · obtain ⟨sa, h9⟩ := h.2.2.1 q hq
    exact ⟨sa, vk_R.same (u := U) rfl h9⟩
end
section
set_option maxHeartbeats 4000000 in
set_option maxRecDepth 100000 in
theorem c_X3_count (l : Launch) (dC : Nat → ClassId) (dI : Nat → Nat → Nat) (h0 : Nat) (ka : Nat) (kc : Int32) (sz : Nat) : Met l yX3_count wsX3_count ({ frames := 0, cells := 0, slots := 0, locals := 0 }) (va_Pc [.ref h0] (fun U => U.heap.size = sz ∧ va_P (dC, dI) vwCl [(h0, .inr (3, [.ref ka, .int kc]))] U.heap ∧ va_K (dC, dI) vwCl [] U ∧ va_D (fun _ => True) [(h0, .inr (3, [.ref ka, .int kc]))])) (va_Qi (fun (r : Int32) (_ : Unit) => r = kc) (fun _ _ => True) (fun q : Nat => sz ≤ q)) 0 0 (fun q : Nat => sz ≤ q) := by
  refine Met.ofW (cc := cX3_count) (maxL := 1) (ret := (some .int)) (by decide) rfl ?_
  intro p e s m args below meth c s₁ B hml hv
  obtain ⟨rfl, hsz, hP, hK, hD0⟩ := hv
  have hx := B.exec
  have hb := B.bytes
  have hr := B.returns
  have hts := atoms_spec (ws := wsX3_count) B.pre
  have hown : s.vm.findClass RX3 = some m.cls := findClass_of_methodNamed B.named
  have hlocks := B.notSynchronized
  subst hsz
  generalize hAe : (fun q : Nat => s.heap.size ≤ q) = A
  have hA : ∀ q : Nat, s.heap.size ≤ q → A q := fun q h => by rw [← hAe]; exact h
  have hS : va_S A s.heap s.heap [] := va_S.rf
  have hP : va_P (dC, dI) vwCl [(h0, .inr (3, [.ref ka, .int kc]))] s.heap := hP
  have hl := lv_entry ([.ref h0]) (n := 1) (Nat.le_of_ble_eq_true rfl)
  rw [lg_entry_eq]
  generalize (lg_sl ([.ref h0]) ++ List.replicate (1 - (lg_sl ([.ref h0])).length) Slot.unset).toArray = ls at hl ⊢
  have hl : lv_has ls 1 [(0, .ref h0)] := hl
  refine lv_aload_n hx hb dX3_count_0 rfl (lv_at hl 0 rfl) ?_
  refine va_get (D := (dC, dI)) (ci := 3) (v := .int kc) (C := RX3) (T := TX3) (N := 2) hx hb hts (by decide +kernel) hown hK hP 0 rfl rfl 1 (by decide) (hts (.fieldLink RX3 19 "DeltaCodec$Row" "count" "I") (by decide +kernel)) (fun _ h9 => h9) rfl dX3_count_1 ?_
  exact W.iret (v := kc) hx hb hr (fun t ht hW => ⟨⟨kc, (), rfl, rfl, trivial⟩, hS.F ht⟩) hS.2.2 dX3_count_4
set_option maxHeartbeats 4000000 in
set_option maxRecDepth 100000 in
theorem c_X3_holds (l : Launch) (dC : Nat → ClassId) (dI : Nat → Nat → Nat) (cI : ClassId) (h0 : Nat) (ka : Nat) (kn : Nat) (kf : Nat → Int32) (p0 : Int32) (sz : Nat) : Met l yX3_holds wsX3_holds ({ frames := 0, cells := 0, slots := 0, locals := 0 }) (va_Pc [.ref h0, .int p0] (fun U => U.heap.size = sz ∧ va_P (dC, dI) vwCl [(h0, .inr (3, [.ref ka, .int 0])), (ka, .inl (cI, kn, .inl kf))] U.heap ∧ va_K (dC, dI) vwCl [(cI, .int)] U ∧ va_D (fun _ => True) [(h0, .inr (3, [.ref ka, .int 0])), (ka, .inl (cI, kn, .inl kf))])) (va_Qi (fun (r : Int32) (_ : Unit) => r = 0) (fun _ _ => True) (fun q : Nat => sz ≤ q)) 0 0 (fun q : Nat => sz ≤ q) := by
  refine Met.ofW (cc := cX3_holds) (maxL := 2) (ret := (some .boolean)) (by decide) rfl ?_
  intro p e s m args below meth c s₁ B hml hv
  obtain ⟨rfl, hsz, hP, hK, hD0⟩ := hv
  have hx := B.exec
  have hb := B.bytes
  have hr := B.returns
  have hts := atoms_spec (ws := wsX3_holds) B.pre
  have hown : s.vm.findClass RX3 = some m.cls := findClass_of_methodNamed B.named
  have hlocks := B.notSynchronized
  subst hsz
  generalize hAe : (fun q : Nat => s.heap.size ≤ q) = A
  have hA : ∀ q : Nat, s.heap.size ≤ q → A q := fun q h => by rw [← hAe]; exact h
  have hS : va_S A s.heap s.heap [] := va_S.rf
  have hP : va_P (dC, dI) vwCl [(h0, .inr (3, [.ref ka, .int 0])), (ka, .inl (cI, kn, .inl kf))] s.heap := hP
  have hl := lv_entry ([.ref h0, .int p0]) (n := 2) (Nat.le_of_ble_eq_true rfl)
  rw [lg_entry_eq]
  generalize (lg_sl ([.ref h0, .int p0]) ++ List.replicate (2 - (lg_sl ([.ref h0, .int p0])).length) Slot.unset).toArray = ls at hl ⊢
  have hl : lv_has ls 2 [(0, .ref h0), (1, .int p0)] := hl
  refine lv_iload_n hx hb dX3_holds_0 rfl (lv_at hl 1 rfl) ?_
  refine lv_if_lt (tgt := 25) hx hb dX3_holds_1 (by decide) (fun c1 => ?_) (fun c1 => ?_)
  · skip
    refine lv_iconst (v := 0) hx hb dX3_holds_25 (by decide) ?_
    exact W.zret (v := 0) hx hb hr (by decide) (fun t ht hW => ⟨⟨0, (), rfl, rfl, trivial⟩, hS.F ht⟩) hS.2.2 dX3_holds_26
  · skip
    refine lv_iload_n hx hb dX3_holds_4 rfl (lv_at hl 1 rfl) ?_
    refine lv_aload_n hx hb dX3_holds_5 rfl (lv_at hl 0 rfl) ?_
    refine va_get (D := (dC, dI)) (ci := 3) (v := .int 0) (C := RX3) (T := TX3) (N := 2) hx hb hts (by decide +kernel) hown hK hP 0 rfl rfl 1 (by decide) (hts (.fieldLink RX3 19 "DeltaCodec$Row" "count" "I") (by decide +kernel)) (fun _ h9 => h9) rfl dX3_holds_6 ?_
    refine lv_icmp_ge (tgt := 25) hx hb dX3_holds_9 (by decide) (fun c9 => ?_) (fun h => absurd (Int32.not_lt.mp c1) h)
    refine lv_iconst (v := 0) hx hb dX3_holds_25 (by decide) ?_
    exact W.zret (v := 0) hx hb hr (by decide) (fun t ht hW => ⟨⟨0, (), rfl, rfl, trivial⟩, hS.F ht⟩) hS.2.2 dX3_holds_26
set_option maxHeartbeats 4000000 in
set_option maxRecDepth 100000 in
theorem c_X3_at (l : Launch) (dC : Nat → ClassId) (dI : Nat → Nat → Nat) (cI : ClassId) (h0 : Nat) (ka : Nat) (kn : Nat) (kf : Nat → Int32) (p0 : Int32) (sz : Nat) : Met l yX3_at wsX3_at ({ frames := 1, cells := 0, slots := 0, locals := 21 }) (va_Pc [.ref h0, .int p0] (fun U => U.heap.size = sz ∧ va_P (dC, dI) vwCl [(h0, .inr (3, [.ref ka, .int 0])), (ka, .inl (cI, kn, .inl kf))] U.heap ∧ va_K (dC, dI) vwCl [(cI, .int)] U ∧ va_D (fun _ => True) [(h0, .inr (3, [.ref ka, .int 0])), (ka, .inl (cI, kn, .inl kf))])) (va_Qi (fun (r : Int32) (_ : Unit) => r = 0) (fun _ _ => True) (fun q : Nat => sz ≤ q)) 0 0 (fun q : Nat => sz ≤ q) := by
  refine Met.ofW (cc := cX3_at) (maxL := 2) (ret := (some .int)) (by decide) rfl ?_
  intro p e s m args below meth c s₁ B hml hv
  obtain ⟨rfl, hsz, hP, hK, hD0⟩ := hv
  have hx := B.exec
  have hb := B.bytes
  have hr := B.returns
  have hts := atoms_spec (ws := wsX3_at) B.pre
  have hown : s.vm.findClass RX3 = some m.cls := findClass_of_methodNamed B.named
  have hlocks := B.notSynchronized
  subst hsz
  generalize hAe : (fun q : Nat => s.heap.size ≤ q) = A
  have hA : ∀ q : Nat, s.heap.size ≤ q → A q := fun q h => by rw [← hAe]; exact h
  have hS : va_S A s.heap s.heap [] := va_S.rf
  have hP : va_P (dC, dI) vwCl [(h0, .inr (3, [.ref ka, .int 0])), (ka, .inl (cI, kn, .inl kf))] s.heap := hP
  have hl := lv_entry ([.ref h0, .int p0]) (n := 2) (Nat.le_of_ble_eq_true rfl)
  rw [lg_entry_eq]
  generalize (lg_sl ([.ref h0, .int p0]) ++ List.replicate (2 - (lg_sl ([.ref h0, .int p0])).length) Slot.unset).toArray = ls at hl ⊢
  have hl : lv_has ls 2 [(0, .ref h0), (1, .int p0)] := hl
  refine lv_aload_n hx hb dX3_at_0 rfl (lv_at hl 0 rfl) ?_
  refine lv_iload_n hx hb dX3_at_1 rfl (lv_at hl 1 rfl) ?_
  have hPc := hP.sub (ws' := [(h0, .inr (3, [.ref ka, .int 0])), (ka, .inl (cI, kn, .inl kf))]) [0, 1] rfl
  have hFc : ∀ q : Nat, s.heap.size ≤ q → A q := fun q h => hA q (Nat.le_trans hS.1 h)
  have hKc := hK.sub (tys' := [(cI, .int)]) [0] rfl
  refine va_calli (va_runV (As := [.int p0]) (rest := []) ⟨hx, hb, hml, hown, hts⟩ (c_X3_holds l dC dI cI h0 ka kn kf p0 s.heap.size) (cwV 1 hts gX3_at_X3_holds rfl rfl rfl (by decide +kernel) ⟨Nat.le_of_ble_eq_true rfl, Nat.le_of_ble_eq_true rfl⟩) ⟨fun a U g mk q => by obtain ⟨q0, q1, qP, qK, qD⟩ := q; exact ⟨q0, q1, qP, va_K.moved (u := U) (U := U.calling g mk a) (Vm.Alike.refl U.vm) qK, qD⟩, va_recv hKc hPc (ci := 3) (q0 := 0) rfl rfl, fun U hU hW => ⟨rfl, by rw [hU], by rw [hU]; exact hPc, va_K.moved hW.alike hKc, hD0.sub (ws' := [(h0, .inr (3, [.ref ka, .int 0])), (ka, .inl (cI, kn, .inl kf))]) [0, 1] (by decide) rfl⟩⟩ rfl rfl hl.1 rfl (lv_room (Nat.le_of_ble_eq_true rfl)) dX3_at_2 ⟨(Nat.le_of_ble_eq_true rfl), (Nat.le_of_ble_eq_true rfl)⟩) hS (fun q h1 h2 => absurd h1 (Nat.not_lt.mpr h2)) hFc (fun r_1 u_2 t H1 locs ht hvm hw hB hz1 hk1 hS1 => ?_)
  have hP := zz_keep hP hk1
  have hS := hS1
  clear hS1
  generalize H1 = H at hP hS ht ⊢
  have hP : va_P (dC, dI) vwCl [(h0, .inr (3, [.ref ka, .int 0])), (ka, .inl (cI, kn, .inl kf))] H := hP
  obtain rfl : 0 = r_1 := (show r_1 = 0 from hw).symm
  refine lv_if_eq (tgt := 17) hx hb dX3_at_5 (by decide) (fun c5 => ?_) (fun h => absurd h (by decide))
  refine lv_iconst (v := 0) hx hb dX3_at_17 (by decide) ?_
  exact W.iret (v := 0) hx hb hr (fun t ht hW => ⟨⟨0, (), rfl, rfl, trivial⟩, hS.F ht⟩) hS.2.2 dX3_at_18
set_option maxHeartbeats 4000000 in
set_option maxRecDepth 100000 in
theorem c_X3_hasRoom (l : Launch) (dC : Nat → ClassId) (dI : Nat → Nat → Nat) (cI : ClassId) (h0 : Nat) (ka : Nat) (kn : Nat) (kf : Nat → Int32) (p0 : Int32) (sz : Nat) (hm : ¬ nI kn - 0 < p0) : Met l yX3_hasRoom wsX3_hasRoom ({ frames := 0, cells := 0, slots := 0, locals := 0 }) (va_Pc [.ref h0, .int p0] (fun U => U.heap.size = sz ∧ va_P (dC, dI) vwCl [(h0, .inr (3, [.ref ka, .int 0])), (ka, .inl (cI, kn, .inl kf))] U.heap ∧ va_K (dC, dI) vwCl [(cI, .int)] U ∧ va_D (fun _ => True) [(h0, .inr (3, [.ref ka, .int 0])), (ka, .inl (cI, kn, .inl kf))])) (va_Qi (fun (r : Int32) (_ : Unit) => r = 1) (fun _ _ => True) (fun q : Nat => sz ≤ q)) 0 0 (fun q : Nat => sz ≤ q) := by
  refine Met.ofW (cc := cX3_hasRoom) (maxL := 2) (ret := (some .boolean)) (by decide) rfl ?_
  intro p e s m args below meth c s₁ B hml hv
  obtain ⟨rfl, hsz, hP, hK, hD0⟩ := hv
  have hx := B.exec
  have hb := B.bytes
  have hr := B.returns
  have hts := atoms_spec (ws := wsX3_hasRoom) B.pre
  have hown : s.vm.findClass RX3 = some m.cls := findClass_of_methodNamed B.named
  have hlocks := B.notSynchronized
  subst hsz
  generalize hAe : (fun q : Nat => s.heap.size ≤ q) = A
  have hA : ∀ q : Nat, s.heap.size ≤ q → A q := fun q h => by rw [← hAe]; exact h
  have hS : va_S A s.heap s.heap [] := va_S.rf
  have hP : va_P (dC, dI) vwCl [(h0, .inr (3, [.ref ka, .int 0])), (ka, .inl (cI, kn, .inl kf))] s.heap := hP
  have hl := lv_entry ([.ref h0, .int p0]) (n := 2) (Nat.le_of_ble_eq_true rfl)
  rw [lg_entry_eq]
  generalize (lg_sl ([.ref h0, .int p0]) ++ List.replicate (2 - (lg_sl ([.ref h0, .int p0])).length) Slot.unset).toArray = ls at hl ⊢
  have hl : lv_has ls 2 [(0, .ref h0), (1, .int p0)] := hl
  refine lv_iload_n hx hb dX3_hasRoom_0 rfl (lv_at hl 1 rfl) ?_
  refine lv_aload_n hx hb dX3_hasRoom_1 rfl (lv_at hl 0 rfl) ?_
  refine va_get (D := (dC, dI)) (ci := 3) (v := .ref ka) (C := RX3) (T := TX3) (N := 2) hx hb hts (by decide +kernel) hown hK hP 0 rfl rfl 0 (by decide) (hts (.fieldLink RX3 13 "DeltaCodec$Row" "bytes" "[I") (by decide +kernel)) (fun _ h9 => h9) rfl dX3_hasRoom_2 ?_
  refine va_alen (v := nI kn) hx hb hK hP 1 0 rfl rfl rfl dX3_hasRoom_5 ?_
  refine lv_aload_n hx hb dX3_hasRoom_6 rfl (lv_at hl 0 rfl) ?_
  refine va_get (D := (dC, dI)) (ci := 3) (v := .int 0) (C := RX3) (T := TX3) (N := 2) hx hb hts (by decide +kernel) hown hK hP 0 rfl rfl 1 (by decide) (hts (.fieldLink RX3 19 "DeltaCodec$Row" "count" "I") (by decide +kernel)) (fun _ h9 => h9) rfl dX3_hasRoom_7 ?_
  refine lv_isub hx hb dX3_hasRoom_10 ?_
  refine lv_topi (fun x_3 ex_3 => ?_)
  obtain rfl : nI kn - 0 = x_3 := ex_3.symm
  refine lv_icmp_gt (tgt := 18) hx hb dX3_hasRoom_11 (by decide) (fun h => absurd h hm) (fun c11 => ?_)
  refine lv_iconst (v := 1) hx hb dX3_hasRoom_14 (by decide) ?_
  refine lv_goto (tgt := 19) hx hb dX3_hasRoom_15 (by decide) ?_
  exact W.zret (v := 1) hx hb hr (by decide) (fun t ht hW => ⟨⟨1, (), rfl, rfl, trivial⟩, hS.F ht⟩) hS.2.2 dX3_hasRoom_19
set_option maxHeartbeats 4000000 in
set_option maxRecDepth 100000 in
theorem c_X3_append (l : Launch) (dC : Nat → ClassId) (dI : Nat → Nat → Nat) (cI : ClassId) (h0 : Nat) (ka : Nat) (kn : Nat) (kf : Nat → Int32) (kc : Int32) (p0 : Int32) (sz : Nat) (h1 : ¬ kc < 0) (h2 : ¬ nI kn ≤ kc) (h3 : vp_in kc kn) : Met l yX3_append wsX3_append ({ frames := 0, cells := 0, slots := 0, locals := 0 }) (va_Pc [.ref h0, .int p0] (fun U => U.heap.size = sz ∧ va_P (dC, dI) vwCl [(h0, .inr (3, [.ref ka, .int kc])), (ka, .inl (cI, kn, .inl kf))] U.heap ∧ va_K (dC, dI) vwCl [(cI, .int)] U ∧ va_D (fun _ => True) [(h0, .inr (3, [.ref ka, .int kc])), (ka, .inl (cI, kn, .inl kf))])) (va_Qv (fun kg : Nat → Int32 => True) (fun kg t => va_P (dC, dI) vwCl [(h0, .inr (3, [.ref ka, .int (kc + 1)])), (ka, .inl (cI, kn, .inl kg))] t.heap ∧ va_D (va_A [(h0, .inr (3, [.ref ka, .int kc])), (ka, .inl (cI, kn, .inl kf))] sz) [(h0, .inr (3, [.ref ka, .int (kc + 1)])), (ka, .inl (cI, kn, .inl kg))]) (va_A [(h0, .inr (3, [.ref ka, .int kc])), (ka, .inl (cI, kn, .inl kf))] sz)) 0 0 (va_A [(h0, .inr (3, [.ref ka, .int kc])), (ka, .inl (cI, kn, .inl kf))] sz) := by
  refine Met.ofW (cc := cX3_append) (maxL := 2) (ret := none) (by decide) rfl ?_
  intro p e s m args below meth c s₁ B hml hv
  obtain ⟨rfl, hsz, hP, hK, hD0⟩ := hv
  have hx := B.exec
  have hb := B.bytes
  have hr := B.returns
  have hts := atoms_spec (ws := wsX3_append) B.pre
  have hown : s.vm.findClass RX3 = some m.cls := findClass_of_methodNamed B.named
  have hlocks := B.notSynchronized
  subst hsz
  have hD := hD0.self (sz := s.heap.size)
  generalize hAe : va_A [(h0, .inr (3, [.ref ka, .int kc])), (ka, .inl (cI, kn, .inl kf))] s.heap.size = A at hD ⊢
  have hA : ∀ q : Nat, s.heap.size ≤ q → A q := fun q h => by rw [← hAe]; exact Or.inr h
  have hS : va_S A s.heap s.heap [] := va_S.rf
  have hP : va_P (dC, dI) vwCl [(h0, .inr (3, [.ref ka, .int kc])), (ka, .inl (cI, kn, .inl kf))] s.heap := hP
  have hl := lv_entry ([.ref h0, .int p0]) (n := 2) (Nat.le_of_ble_eq_true rfl)
  rw [lg_entry_eq]
  generalize (lg_sl ([.ref h0, .int p0]) ++ List.replicate (2 - (lg_sl ([.ref h0, .int p0])).length) Slot.unset).toArray = ls at hl ⊢
  have hl : lv_has ls 2 [(0, .ref h0), (1, .int p0)] := hl
  refine lv_aload_n hx hb dX3_append_0 rfl (lv_at hl 0 rfl) ?_
  refine va_get (D := (dC, dI)) (ci := 3) (v := .int kc) (C := RX3) (T := TX3) (N := 2) hx hb hts (by decide +kernel) hown hK hP 0 rfl rfl 1 (by decide) (hts (.fieldLink RX3 19 "DeltaCodec$Row" "count" "I") (by decide +kernel)) (fun _ h9 => h9) rfl dX3_append_1 ?_
  refine lv_if_lt (tgt := 39) hx hb dX3_append_4 (by decide) (fun h => absurd h h1) (fun c4 => ?_)
  refine lv_aload_n hx hb dX3_append_7 rfl (lv_at hl 0 rfl) ?_
  refine va_get (D := (dC, dI)) (ci := 3) (v := .int kc) (C := RX3) (T := TX3) (N := 2) hx hb hts (by decide +kernel) hown hK hP 0 rfl rfl 1 (by decide) (hts (.fieldLink RX3 19 "DeltaCodec$Row" "count" "I") (by decide +kernel)) (fun _ h9 => h9) rfl dX3_append_8 ?_
  refine lv_aload_n hx hb dX3_append_11 rfl (lv_at hl 0 rfl) ?_
  refine va_get (D := (dC, dI)) (ci := 3) (v := .ref ka) (C := RX3) (T := TX3) (N := 2) hx hb hts (by decide +kernel) hown hK hP 0 rfl rfl 0 (by decide) (hts (.fieldLink RX3 13 "DeltaCodec$Row" "bytes" "[I") (by decide +kernel)) (fun _ h9 => h9) rfl dX3_append_12 ?_
  refine va_alen (v := nI kn) hx hb hK hP 1 0 rfl rfl rfl dX3_append_15 ?_
  refine lv_icmp_ge (tgt := 39) hx hb dX3_append_16 (by decide) (fun h => absurd h h2) (fun c16 => ?_)
  refine lv_aload_n hx hb dX3_append_19 rfl (lv_at hl 0 rfl) ?_
  refine va_get (D := (dC, dI)) (ci := 3) (v := .ref ka) (C := RX3) (T := TX3) (N := 2) hx hb hts (by decide +kernel) hown hK hP 0 rfl rfl 0 (by decide) (hts (.fieldLink RX3 13 "DeltaCodec$Row" "bytes" "[I") (by decide +kernel)) (fun _ h9 => h9) rfl dX3_append_20 ?_
  refine lv_aload_n hx hb dX3_append_23 rfl (lv_at hl 0 rfl) ?_
  refine va_get (D := (dC, dI)) (ci := 3) (v := .int kc) (C := RX3) (T := TX3) (N := 2) hx hb hts (by decide +kernel) hown hK hP 0 rfl rfl 1 (by decide) (hts (.fieldLink RX3 19 "DeltaCodec$Row" "count" "I") (by decide +kernel)) (fun _ h9 => h9) rfl dX3_append_24 ?_
  refine lv_iload_n hx hb dX3_append_27 rfl (lv_at hl 1 rfl) ?_
  refine va_iast hx hb hK hP hD hS 1 0 rfl rfl h3 dX3_append_28 (fun H locs hP hD hS => ?_)
  obtain ⟨f_4, ef_4⟩ : ∃ g, g = upd kf (kc : Int32).toNatClampNeg p0 := ⟨_, rfl⟩
  rw [← ef_4] at hP hD
  have hP : va_P (dC, dI) vwCl [(h0, .inr (3, [.ref ka, .int kc])), (ka, .inl (cI, kn, .inl f_4))] H := hP
  have hD : va_D A [(h0, .inr (3, [.ref ka, .int kc])), (ka, .inl (cI, kn, .inl f_4))] := hD
  refine lv_aload_n hx hb dX3_append_29 rfl (lv_at hl 0 rfl) ?_
  refine lv_dup hx hb dX3_append_30 rfl ?_
  refine va_get (D := (dC, dI)) (ci := 3) (v := .int kc) (C := RX3) (T := TX3) (N := 2) hx hb hts (by decide +kernel) hown hK hP 0 rfl rfl 1 (by decide) (hts (.fieldLink RX3 19 "DeltaCodec$Row" "count" "I") (by decide +kernel)) (fun _ h9 => h9) rfl dX3_append_31 ?_
  refine lv_iconst (v := 1) hx hb dX3_append_34 (by decide) ?_
  refine lv_iadd hx hb dX3_append_35 ?_
  refine lv_topi (fun x_5 ex_5 => ?_)
  obtain rfl : kc + 1 = x_5 := ex_5.symm
  refine va_put (D := (dC, dI)) (ci := 3) (v := .int (kc + 1)) (ty := .int) (C := RX3) (T := TX3) (N := 2) hx hb hts (by decide +kernel) tyX3 tyX3_ok nmX3 hown hK hP hD hS 0 rfl rfl 1 (by decide) (hts (.fieldLink RX3 19 "DeltaCodec$Row" "count" "I") (by decide +kernel)) (fun _ h9 => h9) rfl (by decide +kernel) rfl rfl (Nat.le_of_ble_eq_true rfl) dX3_append_36 (fun H locs hP hD hS => ?_)
  have hP : va_P (dC, dI) vwCl [(h0, .inr (3, [.ref ka, .int (kc + 1)])), (ka, .inl (cI, kn, .inl f_4))] H := hP
  have hD : va_D A [(h0, .inr (3, [.ref ka, .int (kc + 1)])), (ka, .inl (cI, kn, .inl f_4))] := hD
  have hP9 := hP.sub (ws' := [(h0, .inr (3, [.ref ka, .int (kc + 1)])), (ka, .inl (cI, kn, .inl f_4))]) [0, 1] rfl
  have hD9 := hD.sub (ws' := [(h0, .inr (3, [.ref ka, .int (kc + 1)])), (ka, .inl (cI, kn, .inl f_4))]) [0, 1] (by decide) rfl
  exact W.vret hx hb hr (fun t ht hW => ⟨⟨f_4, rfl, trivial, ⟨by rw [ht]; exact hP9, hD9⟩⟩, hS.F ht⟩) hS.2.2 dX3_append_39
set_option maxHeartbeats 4000000 in
set_option maxRecDepth 100000 in
theorem c_X3_drop (l : Launch) (dC : Nat → ClassId) (dI : Nat → Nat → Nat) (h0 : Nat) (ka : Nat) (sz : Nat) : Met l yX3_drop wsX3_drop ({ frames := 0, cells := 0, slots := 0, locals := 0 }) (va_Pc [.ref h0, .int 0] (fun U => U.heap.size = sz ∧ va_P (dC, dI) vwCl [(h0, .inr (3, [.ref ka, .int 0]))] U.heap ∧ va_K (dC, dI) vwCl [] U ∧ va_D (fun _ => True) [(h0, .inr (3, [.ref ka, .int 0]))])) (va_Qv (fun _ : Unit => True) (fun _ t => va_P (dC, dI) vwCl [(h0, .inr (3, [.ref ka, .int 0]))] t.heap ∧ va_D (va_A [(h0, .inr (3, [.ref ka, .int 0]))] sz) [(h0, .inr (3, [.ref ka, .int 0]))]) (va_A [(h0, .inr (3, [.ref ka, .int 0]))] sz)) 0 0 (va_A [(h0, .inr (3, [.ref ka, .int 0]))] sz) := by
  refine Met.ofW (cc := cX3_drop) (maxL := 2) (ret := none) (by decide) rfl ?_
  intro p e s m args below meth c s₁ B hml hv
  obtain ⟨rfl, hsz, hP, hK, hD0⟩ := hv
  have hx := B.exec
  have hb := B.bytes
  have hr := B.returns
  have hts := atoms_spec (ws := wsX3_drop) B.pre
  have hown : s.vm.findClass RX3 = some m.cls := findClass_of_methodNamed B.named
  have hlocks := B.notSynchronized
  subst hsz
  have hD := hD0.self (sz := s.heap.size)
  generalize hAe : va_A [(h0, .inr (3, [.ref ka, .int 0]))] s.heap.size = A at hD ⊢
  have hA : ∀ q : Nat, s.heap.size ≤ q → A q := fun q h => by rw [← hAe]; exact Or.inr h
  have hS : va_S A s.heap s.heap [] := va_S.rf
  have hP : va_P (dC, dI) vwCl [(h0, .inr (3, [.ref ka, .int 0]))] s.heap := hP
  have hl := lv_entry ([.ref h0, .int 0]) (n := 2) (Nat.le_of_ble_eq_true rfl)
  rw [lg_entry_eq]
  generalize (lg_sl ([.ref h0, .int 0]) ++ List.replicate (2 - (lg_sl ([.ref h0, .int 0])).length) Slot.unset).toArray = ls at hl ⊢
  have hl : lv_has ls 2 [(0, .ref h0), (1, .int 0)] := hl
  refine lv_iload_n hx hb dX3_drop_0 rfl (lv_at hl 1 rfl) ?_
  refine lv_if_lt (tgt := 22) hx hb dX3_drop_1 (by decide) (fun h => absurd h (by decide)) (fun c1 => ?_)
  refine lv_iload_n hx hb dX3_drop_4 rfl (lv_at hl 1 rfl) ?_
  refine lv_aload_n hx hb dX3_drop_5 rfl (lv_at hl 0 rfl) ?_
  refine va_get (D := (dC, dI)) (ci := 3) (v := .int 0) (C := RX3) (T := TX3) (N := 2) hx hb hts (by decide +kernel) hown hK hP 0 rfl rfl 1 (by decide) (hts (.fieldLink RX3 19 "DeltaCodec$Row" "count" "I") (by decide +kernel)) (fun _ h9 => h9) rfl dX3_drop_6 ?_
  refine lv_icmp_gt (tgt := 22) hx hb dX3_drop_9 (by decide) (fun h => absurd h (by decide)) (fun c9 => ?_)
  refine lv_aload_n hx hb dX3_drop_12 rfl (lv_at hl 0 rfl) ?_
  refine lv_dup hx hb dX3_drop_13 rfl ?_
  refine va_get (D := (dC, dI)) (ci := 3) (v := .int 0) (C := RX3) (T := TX3) (N := 2) hx hb hts (by decide +kernel) hown hK hP 0 rfl rfl 1 (by decide) (hts (.fieldLink RX3 19 "DeltaCodec$Row" "count" "I") (by decide +kernel)) (fun _ h9 => h9) rfl dX3_drop_14 ?_
  refine lv_iload_n hx hb dX3_drop_17 rfl (lv_at hl 1 rfl) ?_
  refine lv_isub hx hb dX3_drop_18 ?_
  refine lv_topi (fun x_6 ex_6 => ?_)
  obtain rfl : 0 = x_6 := (ex_6.trans (by decide)).symm
  refine va_put (D := (dC, dI)) (ci := 3) (v := .int 0) (ty := .int) (C := RX3) (T := TX3) (N := 2) hx hb hts (by decide +kernel) tyX3 tyX3_ok nmX3 hown hK hP hD hS 0 rfl rfl 1 (by decide) (hts (.fieldLink RX3 19 "DeltaCodec$Row" "count" "I") (by decide +kernel)) (fun _ h9 => h9) rfl (by decide +kernel) rfl rfl (Nat.le_of_ble_eq_true rfl) dX3_drop_19 (fun H locs hP hD hS => ?_)
  have hP : va_P (dC, dI) vwCl [(h0, .inr (3, [.ref ka, .int 0]))] H := hP
  have hD : va_D A [(h0, .inr (3, [.ref ka, .int 0]))] := hD
  have hP9 := hP.sub (ws' := [(h0, .inr (3, [.ref ka, .int 0]))]) [0] rfl
  have hD9 := hD.sub (ws' := [(h0, .inr (3, [.ref ka, .int 0]))]) [0] (by decide) rfl
  exact W.vret hx hb hr (fun t ht hW => ⟨⟨(), rfl, trivial, ⟨by rw [ht]; exact hP9, hD9⟩⟩, hS.F ht⟩) hS.2.2 dX3_drop_22
set_option maxHeartbeats 4000000 in
set_option maxRecDepth 100000 in
theorem c_X3_clear (l : Launch) (dC : Nat → ClassId) (dI : Nat → Nat → Nat) (h0 : Nat) (ka : Nat) (kc : Int32) (sz : Nat) : Met l yX3_clear wsX3_clear ({ frames := 0, cells := 0, slots := 0, locals := 0 }) (va_Pc [.ref h0] (fun U => U.heap.size = sz ∧ va_P (dC, dI) vwCl [(h0, .inr (3, [.ref ka, .int kc]))] U.heap ∧ va_K (dC, dI) vwCl [] U ∧ va_D (fun _ => True) [(h0, .inr (3, [.ref ka, .int kc]))])) (va_Qv (fun _ : Unit => True) (fun _ t => va_P (dC, dI) vwCl [(h0, .inr (3, [.ref ka, .int 0]))] t.heap ∧ va_D (va_A [(h0, .inr (3, [.ref ka, .int kc]))] sz) [(h0, .inr (3, [.ref ka, .int 0]))]) (va_A [(h0, .inr (3, [.ref ka, .int kc]))] sz)) 0 0 (va_A [(h0, .inr (3, [.ref ka, .int kc]))] sz) := by
  refine Met.ofW (cc := cX3_clear) (maxL := 1) (ret := none) (by decide) rfl ?_
  intro p e s m args below meth c s₁ B hml hv
  obtain ⟨rfl, hsz, hP, hK, hD0⟩ := hv
  have hx := B.exec
  have hb := B.bytes
  have hr := B.returns
  have hts := atoms_spec (ws := wsX3_clear) B.pre
  have hown : s.vm.findClass RX3 = some m.cls := findClass_of_methodNamed B.named
  have hlocks := B.notSynchronized
  subst hsz
  have hD := hD0.self (sz := s.heap.size)
  generalize hAe : va_A [(h0, .inr (3, [.ref ka, .int kc]))] s.heap.size = A at hD ⊢
  have hA : ∀ q : Nat, s.heap.size ≤ q → A q := fun q h => by rw [← hAe]; exact Or.inr h
  have hS : va_S A s.heap s.heap [] := va_S.rf
  have hP : va_P (dC, dI) vwCl [(h0, .inr (3, [.ref ka, .int kc]))] s.heap := hP
  have hl := lv_entry ([.ref h0]) (n := 1) (Nat.le_of_ble_eq_true rfl)
  rw [lg_entry_eq]
  generalize (lg_sl ([.ref h0]) ++ List.replicate (1 - (lg_sl ([.ref h0])).length) Slot.unset).toArray = ls at hl ⊢
  have hl : lv_has ls 1 [(0, .ref h0)] := hl
  refine lv_aload_n hx hb dX3_clear_0 rfl (lv_at hl 0 rfl) ?_
  refine lv_iconst (v := 0) hx hb dX3_clear_1 (by decide) ?_
  refine va_put (D := (dC, dI)) (ci := 3) (v := .int 0) (ty := .int) (C := RX3) (T := TX3) (N := 2) hx hb hts (by decide +kernel) tyX3 tyX3_ok nmX3 hown hK hP hD hS 0 rfl rfl 1 (by decide) (hts (.fieldLink RX3 19 "DeltaCodec$Row" "count" "I") (by decide +kernel)) (fun _ h9 => h9) rfl (by decide +kernel) rfl rfl (Nat.le_of_ble_eq_true rfl) dX3_clear_2 (fun H locs hP hD hS => ?_)
  have hP : va_P (dC, dI) vwCl [(h0, .inr (3, [.ref ka, .int 0]))] H := hP
  have hD : va_D A [(h0, .inr (3, [.ref ka, .int 0]))] := hD
  have hP9 := hP.sub (ws' := [(h0, .inr (3, [.ref ka, .int 0]))]) [0] rfl
  have hD9 := hD.sub (ws' := [(h0, .inr (3, [.ref ka, .int 0]))]) [0] (by decide) rfl
  exact W.vret hx hb hr (fun t ht hW => ⟨⟨(), rfl, trivial, ⟨by rw [ht]; exact hP9, hD9⟩⟩, hS.F ht⟩) hS.2.2 dX3_clear_5
set_option maxHeartbeats 4000000 in
set_option maxRecDepth 100000 in
theorem c_X3_init (l : Launch) (dC : Nat → ClassId) (dI : Nat → Nat → Nat) (cI : ClassId) (h0 : Nat) (p0 : Int32) (kn : Nat) (sz : Nat) (h1 : ¬ p0 < 0) (h2 : p0.toNatClampNeg = kn) (h3 : kn * componentBytes .int ≤ 536870912) : Met l yX3_init wsX3_init ({ frames := 1, cells := 1, slots := kn, locals := 21 }) (va_Pc [.ref h0, .int p0] (fun U => U.heap.size = sz ∧ va_P (dC, dI) vwCl [(h0, .inr (3, [.null, .int 0]))] U.heap ∧ va_K (dC, dI) vwCl [(cI, .int)] U ∧ va_D (fun _ => True) [(h0, .inr (3, [.null, .int 0]))])) (va_Qv (fun kb : Nat => True) (fun kb t => va_P (dC, dI) vwCl [(h0, .inr (3, [.ref kb, .int 0])), (kb, .inl (cI, kn, .inl (fun _ => 0)))] t.heap ∧ va_D (va_A [(h0, .inr (3, [.null, .int 0]))] sz) [(h0, .inr (3, [.ref kb, .int 0])), (kb, .inl (cI, kn, .inl (fun _ => 0)))]) (va_A [(h0, .inr (3, [.null, .int 0]))] sz)) 1 kn (va_A [(h0, .inr (3, [.null, .int 0]))] sz) := by
  refine Met.ofW (cc := cX3_init) (maxL := 2) (ret := none) (by decide) rfl ?_
  intro p e s m args below meth c s₁ B hml hv
  obtain ⟨rfl, hsz, hP, hK, hD0⟩ := hv
  have hx := B.exec
  have hb := B.bytes
  have hr := B.returns
  have hts := atoms_spec (ws := wsX3_init) B.pre
  have hown : s.vm.findClass RX3 = some m.cls := findClass_of_methodNamed B.named
  have hlocks := B.notSynchronized
  have hin : meth.name = "<init>" := (name_of_methodNamed B.named B.method).1
  subst hsz
  have hD := hD0.self (sz := s.heap.size)
  generalize hAe : va_A [(h0, .inr (3, [.null, .int 0]))] s.heap.size = A at hD ⊢
  have hA : ∀ q : Nat, s.heap.size ≤ q → A q := fun q h => by rw [← hAe]; exact Or.inr h
  have hS : va_S A s.heap s.heap [] := va_S.rf
  have hP : va_P (dC, dI) vwCl [(h0, .inr (3, [.null, .int 0]))] s.heap := hP
  have hl := lv_entry ([.ref h0, .int p0]) (n := 2) (Nat.le_of_ble_eq_true rfl)
  rw [lg_entry_eq]
  generalize (lg_sl ([.ref h0, .int p0]) ++ List.replicate (2 - (lg_sl ([.ref h0, .int p0])).length) Slot.unset).toArray = ls at hl ⊢
  have hl : lv_has ls 2 [(0, .ref h0), (1, .int p0)] := hl
  refine lv_aload_n hx hb dX3_init_0 rfl (lv_at hl 0 rfl) ?_
  refine W.objInit hx hb hown (hts (.methodLink RX3 1 objectInit) (by decide +kernel)) (hts (.instanceMethod objectInit) (by decide +kernel)) (hts (.code objectInit ⟨#[0xb1]⟩ 1 none) (by decide +kernel)) rfl (by rw [hml]; exact hl.1) rfl dX3_init_1 (Nat.le_of_ble_eq_true rfl) (Nat.le_of_ble_eq_true rfl) ?_
  refine W.eq (g2 := F0 m 4 ls []) rfl ?_
  refine lv_aload_n hx hb dX3_init_4 rfl (lv_at hl 0 rfl) ?_
  refine lv_iload_n hx hb dX3_init_5 rfl (lv_at hl 1 rfl) ?_
  refine lv_iconst (v := 0) hx hb dX3_init_6 (by decide) ?_
  refine va_mmax hx hb (hml.trans hl.1.symm) hown (hts (.methodLink RX3 7 Lib.Math.max.name) (by decide +kernel)) (hts (.static Lib.Math.max.name) (by decide +kernel)) (hts (.initialized "java/lang/Math") (by decide +kernel)) (hts (.code Lib.Math.max.name Lib.Math.max.code 2 (some .int)) (by decide +kernel)) (Nat.le_of_ble_eq_true rfl) (Nat.le_of_ble_eq_true rfl) (Nat.le_of_ble_eq_true rfl) (Nat.le_of_ble_eq_true rfl) dX3_init_7 ?_
  refine lv_topi (fun x_7 ex_7 => ?_)
  obtain rfl : p0 = x_7 := (ex_7.trans (if_neg h1)).symm
  refine va_newa (atype := .int) (ty := .int) (N' := kn) (a0 := (kn, .inl (fun _ => 0))) hx hb (hts (.arrayClass .int) (by decide +kernel)) rfl hK hP hD hS hA (fun _ => rfl) h1 h2 h3 (by show _ ≤ _; simp only [headSpec]; omega) (by show _ ≤ _; simp only [headSpec]; omega) dX3_init_10 (fun q_8 cA H hK hP hD hS => ?_)
  obtain rfl : cI = cA := (zz_same hK 0 1 rfl rfl).symm
  have hK := hK.sub (tys' := [(cI, .int)]) [0] rfl
  have hP : va_P (dC, dI) vwCl [(h0, .inr (3, [.null, .int 0])), (q_8, .inl (cI, kn, .inl (fun _ => 0)))] H := hP
  have hD : va_D A [(h0, .inr (3, [.null, .int 0])), (q_8, .inl (cI, kn, .inl (fun _ => 0)))] := hD
  refine W.widen (k := 1) (n := kn) (by omega) (by omega) ?_
  refine va_putF (D := (dC, dI)) (ci := 3) (v := .ref q_8) (ty := (.array .int)) (C := RX3) (T := TX3) (N := 2) hx hb hts (by decide +kernel) tyX3 tyX3_ok nmX3 hown hK hP hD hS 0 rfl rfl 0 (by decide) (hts (.fieldLink RX3 13 "DeltaCodec$Row" "bytes" "[I") (by decide +kernel)) (fun _ h9 => h9) rfl hin rfl (by decide +kernel) rfl rfl (Nat.le_of_ble_eq_true rfl) dX3_init_12 (fun H locs hP hD hS => ?_)
  have hP : va_P (dC, dI) vwCl [(h0, .inr (3, [.ref q_8, .int 0])), (q_8, .inl (cI, kn, .inl (fun _ => 0)))] H := hP
  have hD : va_D A [(h0, .inr (3, [.ref q_8, .int 0])), (q_8, .inl (cI, kn, .inl (fun _ => 0)))] := hD
  refine lv_aload_n hx hb dX3_init_15 rfl (lv_at hl 0 rfl) ?_
  refine lv_iconst (v := 0) hx hb dX3_init_16 (by decide) ?_
  refine va_put (D := (dC, dI)) (ci := 3) (v := .int 0) (ty := .int) (C := RX3) (T := TX3) (N := 2) hx hb hts (by decide +kernel) tyX3 tyX3_ok nmX3 hown hK hP hD hS 0 rfl rfl 1 (by decide) (hts (.fieldLink RX3 19 "DeltaCodec$Row" "count" "I") (by decide +kernel)) (fun _ h9 => h9) rfl (by decide +kernel) rfl rfl (Nat.le_of_ble_eq_true rfl) dX3_init_17 (fun H locs hP hD hS => ?_)
  have hP : va_P (dC, dI) vwCl [(h0, .inr (3, [.ref q_8, .int 0])), (q_8, .inl (cI, kn, .inl (fun _ => 0)))] H := hP
  have hD : va_D A [(h0, .inr (3, [.ref q_8, .int 0])), (q_8, .inl (cI, kn, .inl (fun _ => 0)))] := hD
  have hP9 := hP.sub (ws' := [(h0, .inr (3, [.ref q_8, .int 0])), (q_8, .inl (cI, kn, .inl (fun _ => 0)))]) [0, 1] rfl
  have hD9 := hD.sub (ws' := [(h0, .inr (3, [.ref q_8, .int 0])), (q_8, .inl (cI, kn, .inl (fun _ => 0)))]) [0, 1] (by decide) rfl
  exact W.vret hx hb hr (fun t ht hW => ⟨⟨q_8, rfl, trivial, ⟨by rw [ht]; exact hP9, hD9⟩⟩, hS.F ht⟩) hS.2.2 dX3_init_20
end
