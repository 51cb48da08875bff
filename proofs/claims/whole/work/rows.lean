section
-- ===== PART A: goes FIRST, ahead of the names: the tables' words, and 'selects' of the private methods out of them =====
/-- a private method of a class that the tables say can be made, by its rows of tables_1 -/
def lw_okq (q : MethodName × Nat) : Prop := (q.1.cls ≠ "java/lang/invoke/MethodHandle" ∧ q.1.cls ≠ "java/lang/invoke/VarHandle") ∧ Cond.instantiable q.1.cls q.2 ∈ tables_1 ∧ Cond.privateMethod q.1 ∈ tables_1 ∧ Cond.instanceMethod q.1 ∈ tables_1
theorem lw_p0 : lw_okq (⟨"TrainedSegments$Trainer", "coverFrom", "(IIZ)V"⟩, 8) := ⟨⟨by decide +kernel, by decide +kernel⟩, List.mem_of_getElem? (i := 115) (by decide +kernel), List.mem_of_getElem? (i := 265) (by decide +kernel), List.mem_of_getElem? (i := 266) (by decide +kernel)⟩
theorem lw_p1 : lw_okq (⟨"TrainedSegments$Trainer", "markKinds", "(II)V"⟩, 8) := ⟨⟨by decide +kernel, by decide +kernel⟩, List.mem_of_getElem? (i := 115) (by decide +kernel), List.mem_of_getElem? (i := 274) (by decide +kernel), List.mem_of_getElem? (i := 275) (by decide +kernel)⟩
theorem lw_p2 : lw_okq (⟨"TrainedSegments$Trainer", "firstSameRow", "(I)I"⟩, 8) := ⟨⟨by decide +kernel, by decide +kernel⟩, List.mem_of_getElem? (i := 115) (by decide +kernel), List.mem_of_getElem? (i := 278) (by decide +kernel), List.mem_of_getElem? (i := 279) (by decide +kernel)⟩
theorem lw_p3 : lw_okq (⟨"TrainedSegments$Trainer", "isSameRow", "(II)Z"⟩, 8) := ⟨⟨by decide +kernel, by decide +kernel⟩, List.mem_of_getElem? (i := 115) (by decide +kernel), List.mem_of_getElem? (i := 282) (by decide +kernel), List.mem_of_getElem? (i := 283) (by decide +kernel)⟩
theorem lw_p4 : lw_okq (⟨"TrainedSegments$Trainer", "countRows", "()V"⟩, 8) := ⟨⟨by decide +kernel, by decide +kernel⟩, List.mem_of_getElem? (i := 115) (by decide +kernel), List.mem_of_getElem? (i := 291) (by decide +kernel), List.mem_of_getElem? (i := 292) (by decide +kernel)⟩
theorem lw_p5 : lw_okq (⟨"TrainedSegments$Trainer", "isFreeRow", "(I)Z"⟩, 8) := ⟨⟨by decide +kernel, by decide +kernel⟩, List.mem_of_getElem? (i := 115) (by decide +kernel), List.mem_of_getElem? (i := 295) (by decide +kernel), List.mem_of_getElem? (i := 296) (by decide +kernel)⟩
theorem lw_p6 : lw_okq (⟨"TrainedSegments$Trainer", "placeOfMost", "()I"⟩, 8) := ⟨⟨by decide +kernel, by decide +kernel⟩, List.mem_of_getElem? (i := 115) (by decide +kernel), List.mem_of_getElem? (i := 299) (by decide +kernel), List.mem_of_getElem? (i := 300) (by decide +kernel)⟩
theorem lw_p7 : lw_okq (⟨"TrainedSegments$Trainer", "cover", "(I)V"⟩, 8) := ⟨⟨by decide +kernel, by decide +kernel⟩, List.mem_of_getElem? (i := 115) (by decide +kernel), List.mem_of_getElem? (i := 303) (by decide +kernel), List.mem_of_getElem? (i := 304) (by decide +kernel)⟩
theorem lw_p8 : lw_okq (⟨"TrainedSegments", "thereAt", "(I)LTrainedSegments$Dictionary;"⟩, 11) := ⟨⟨by decide +kernel, by decide +kernel⟩, List.mem_of_getElem? (i := 20) (by decide +kernel), List.mem_of_getElem? (i := 339) (by decide +kernel), List.mem_of_getElem? (i := 340) (by decide +kernel)⟩
theorem lw_p9 : lw_okq (⟨"TrainedSegments", "leaveOutIdlePieces", "(LTrainedSegments$Dictionary;)I"⟩, 11) := ⟨⟨by decide +kernel, by decide +kernel⟩, List.mem_of_getElem? (i := 20) (by decide +kernel), List.mem_of_getElem? (i := 347) (by decide +kernel), List.mem_of_getElem? (i := 348) (by decide +kernel)⟩
theorem lw_p10 : lw_okq (⟨"TrainedSegments", "bytesOfSamples", "(LTrainedSegments$Row;)I"⟩, 11) := ⟨⟨by decide +kernel, by decide +kernel⟩, List.mem_of_getElem? (i := 20) (by decide +kernel), List.mem_of_getElem? (i := 351) (by decide +kernel), List.mem_of_getElem? (i := 352) (by decide +kernel)⟩
theorem lw_p11 : lw_okq (⟨"TrainedSegments$Packer", "linkSameBytes", "()V"⟩, 7) := ⟨⟨by decide +kernel, by decide +kernel⟩, List.mem_of_getElem? (i := 86) (by decide +kernel), List.mem_of_getElem? (i := 367) (by decide +kernel), List.mem_of_getElem? (i := 368) (by decide +kernel)⟩
theorem lw_p12 : lw_okq (⟨"TrainedSegments$Packer", "tryMatches", "(I)V"⟩, 7) := ⟨⟨by decide +kernel, by decide +kernel⟩, List.mem_of_getElem? (i := 86) (by decide +kernel), List.mem_of_getElem? (i := 373) (by decide +kernel), List.mem_of_getElem? (i := 374) (by decide +kernel)⟩
theorem lw_p13 : lw_okq (⟨"TrainedSegments$Packer", "longestMatch", "(I)I"⟩, 7) := ⟨⟨by decide +kernel, by decide +kernel⟩, List.mem_of_getElem? (i := 86) (by decide +kernel), List.mem_of_getElem? (i := 377) (by decide +kernel), List.mem_of_getElem? (i := 378) (by decide +kernel)⟩
theorem lw_p14 : lw_okq (⟨"TrainedSegments$Packer", "sameBytes", "(III)I"⟩, 7) := ⟨⟨by decide +kernel, by decide +kernel⟩, List.mem_of_getElem? (i := 86) (by decide +kernel), List.mem_of_getElem? (i := 381) (by decide +kernel), List.mem_of_getElem? (i := 382) (by decide +kernel)⟩
theorem lw_p15 : lw_okq (⟨"TrainedSegments$Packer", "tryPlain", "(I)V"⟩, 7) := ⟨⟨by decide +kernel, by decide +kernel⟩, List.mem_of_getElem? (i := 86) (by decide +kernel), List.mem_of_getElem? (i := 386) (by decide +kernel), List.mem_of_getElem? (i := 387) (by decide +kernel)⟩
def lw_privs_1 : List (MethodName × Nat) := [(⟨"TrainedSegments$Trainer", "coverFrom", "(IIZ)V"⟩, 8), (⟨"TrainedSegments$Trainer", "markKinds", "(II)V"⟩, 8), (⟨"TrainedSegments$Trainer", "firstSameRow", "(I)I"⟩, 8), (⟨"TrainedSegments$Trainer", "isSameRow", "(II)Z"⟩, 8), (⟨"TrainedSegments$Trainer", "countRows", "()V"⟩, 8), (⟨"TrainedSegments$Trainer", "isFreeRow", "(I)Z"⟩, 8), (⟨"TrainedSegments$Trainer", "placeOfMost", "()I"⟩, 8), (⟨"TrainedSegments$Trainer", "cover", "(I)V"⟩, 8), (⟨"TrainedSegments", "thereAt", "(I)LTrainedSegments$Dictionary;"⟩, 11), (⟨"TrainedSegments", "leaveOutIdlePieces", "(LTrainedSegments$Dictionary;)I"⟩, 11), (⟨"TrainedSegments", "bytesOfSamples", "(LTrainedSegments$Row;)I"⟩, 11), (⟨"TrainedSegments$Packer", "linkSameBytes", "()V"⟩, 7), (⟨"TrainedSegments$Packer", "tryMatches", "(I)V"⟩, 7), (⟨"TrainedSegments$Packer", "longestMatch", "(I)I"⟩, 7), (⟨"TrainedSegments$Packer", "sameBytes", "(III)I"⟩, 7), (⟨"TrainedSegments$Packer", "tryPlain", "(I)V"⟩, 7)]
theorem lw_r1 : ∀ q ∈ lw_privs_1, lw_okq q := List.forall_mem_cons.mpr ⟨lw_p0, List.forall_mem_cons.mpr ⟨lw_p1, List.forall_mem_cons.mpr ⟨lw_p2, List.forall_mem_cons.mpr ⟨lw_p3, List.forall_mem_cons.mpr ⟨lw_p4, List.forall_mem_cons.mpr ⟨lw_p5, List.forall_mem_cons.mpr ⟨lw_p6, List.forall_mem_cons.mpr ⟨lw_p7, List.forall_mem_cons.mpr ⟨lw_p8, List.forall_mem_cons.mpr ⟨lw_p9, List.forall_mem_cons.mpr ⟨lw_p10, List.forall_mem_cons.mpr ⟨lw_p11, List.forall_mem_cons.mpr ⟨lw_p12, List.forall_mem_cons.mpr ⟨lw_p13, List.forall_mem_cons.mpr ⟨lw_p14, List.forall_mem_cons.mpr ⟨lw_p15, fun _ h => absurd h List.not_mem_nil⟩⟩⟩⟩⟩⟩⟩⟩⟩⟩⟩⟩⟩⟩⟩⟩
theorem lw_p16 : lw_okq (⟨"TrainedSegments", "noneOrThereAt", "(I)LTrainedSegments$Dictionary;"⟩, 11) := ⟨⟨by decide +kernel, by decide +kernel⟩, List.mem_of_getElem? (i := 20) (by decide +kernel), List.mem_of_getElem? (i := 435) (by decide +kernel), List.mem_of_getElem? (i := 436) (by decide +kernel)⟩
theorem lw_p17 : lw_okq (⟨"TrainedSegments$Packer", "leastDistance", "(II)I"⟩, 7) := ⟨⟨by decide +kernel, by decide +kernel⟩, List.mem_of_getElem? (i := 86) (by decide +kernel), List.mem_of_getElem? (i := 451) (by decide +kernel), List.mem_of_getElem? (i := 452) (by decide +kernel)⟩
theorem lw_p18 : lw_okq (⟨"TrainedSegments", "firstWithId", "(I)LTrainedSegments$Dictionary;"⟩, 11) := ⟨⟨by decide +kernel, by decide +kernel⟩, List.mem_of_getElem? (i := 20) (by decide +kernel), List.mem_of_getElem? (i := 475) (by decide +kernel), List.mem_of_getElem? (i := 476) (by decide +kernel)⟩
theorem lw_p19 : lw_okq (⟨"TrainedSegments$Opener", "wrongInHeader", "(LTrainedSegments$Row;LTrainedSegments$Dictionary;)I"⟩, 4) := ⟨⟨by decide +kernel, by decide +kernel⟩, List.mem_of_getElem? (i := 149) (by decide +kernel), List.mem_of_getElem? (i := 484) (by decide +kernel), List.mem_of_getElem? (i := 485) (by decide +kernel)⟩
theorem lw_p20 : lw_okq (⟨"TrainedSegments$Opener", "readItem", "(LTrainedSegments$Row;)I"⟩, 4) := ⟨⟨by decide +kernel, by decide +kernel⟩, List.mem_of_getElem? (i := 149) (by decide +kernel), List.mem_of_getElem? (i := 492) (by decide +kernel), List.mem_of_getElem? (i := 493) (by decide +kernel)⟩
theorem lw_p21 : lw_okq (⟨"TrainedSegments$Opener", "readPlain", "(LTrainedSegments$Row;I)I"⟩, 4) := ⟨⟨by decide +kernel, by decide +kernel⟩, List.mem_of_getElem? (i := 149) (by decide +kernel), List.mem_of_getElem? (i := 496) (by decide +kernel), List.mem_of_getElem? (i := 497) (by decide +kernel)⟩
theorem lw_p22 : lw_okq (⟨"TrainedSegments$Opener", "readMatch", "(LTrainedSegments$Row;II)I"⟩, 4) := ⟨⟨by decide +kernel, by decide +kernel⟩, List.mem_of_getElem? (i := 149) (by decide +kernel), List.mem_of_getElem? (i := 501) (by decide +kernel), List.mem_of_getElem? (i := 502) (by decide +kernel)⟩
theorem lw_p23 : lw_okq (⟨"TrainedSegments", "isSample", "(I)Z"⟩, 11) := ⟨⟨by decide +kernel, by decide +kernel⟩, List.mem_of_getElem? (i := 20) (by decide +kernel), List.mem_of_getElem? (i := 515) (by decide +kernel), List.mem_of_getElem? (i := 516) (by decide +kernel)⟩
theorem lw_p24 : lw_okq (⟨"TrainedSegments", "countThere", "()I"⟩, 11) := ⟨⟨by decide +kernel, by decide +kernel⟩, List.mem_of_getElem? (i := 20) (by decide +kernel), List.mem_of_getElem? (i := 527) (by decide +kernel), List.mem_of_getElem? (i := 528) (by decide +kernel)⟩
theorem lw_p25 : lw_okq (⟨"java/lang/NullPointerException", "getExtendedNPEMessage", "()Ljava/lang/String;"⟩, 8) := ⟨⟨by decide +kernel, by decide +kernel⟩, List.mem_of_getElem? (i := 542) (by decide +kernel), List.mem_of_getElem? (i := 568) (by decide +kernel), List.mem_of_getElem? (i := 569) (by decide +kernel)⟩
theorem lw_p26 : lw_okq (⟨"java/lang/Throwable", "fillInStackTrace", "(I)Ljava/lang/Throwable;"⟩, 6) := ⟨⟨by decide +kernel, by decide +kernel⟩, List.mem_of_getElem? (i := 578) (by decide +kernel), List.mem_of_getElem? (i := 576) (by decide +kernel), List.mem_of_getElem? (i := 577) (by decide +kernel)⟩
theorem lw_p27 : lw_okq (⟨"TrainedSegmentsModel", "isOpen", "(III)Z"⟩, 25) := ⟨⟨by decide +kernel, by decide +kernel⟩, List.mem_of_getElem? (i := 709) (by decide +kernel), List.mem_of_getElem? (i := 820) (by decide +kernel), List.mem_of_getElem? (i := 821) (by decide +kernel)⟩
theorem lw_p28 : lw_okq (⟨"TrainedSegmentsModel", "counted", "(IIZ)I"⟩, 25) := ⟨⟨by decide +kernel, by decide +kernel⟩, List.mem_of_getElem? (i := 709) (by decide +kernel), List.mem_of_getElem? (i := 824) (by decide +kernel), List.mem_of_getElem? (i := 825) (by decide +kernel)⟩
theorem lw_p29 : lw_okq (⟨"TrainedSegmentsModel", "areAlike", "(III)Z"⟩, 25) := ⟨⟨by decide +kernel, by decide +kernel⟩, List.mem_of_getElem? (i := 709) (by decide +kernel), List.mem_of_getElem? (i := 828) (by decide +kernel), List.mem_of_getElem? (i := 829) (by decide +kernel)⟩
theorem lw_p30 : lw_okq (⟨"TrainedSegmentsModel", "isThere", "(I)Z"⟩, 25) := ⟨⟨by decide +kernel, by decide +kernel⟩, List.mem_of_getElem? (i := 709) (by decide +kernel), List.mem_of_getElem? (i := 840) (by decide +kernel), List.mem_of_getElem? (i := 841) (by decide +kernel)⟩
theorem lw_p31 : lw_okq (⟨"TrainedSegmentsModel", "sizeOfAll", "(II)I"⟩, 25) := ⟨⟨by decide +kernel, by decide +kernel⟩, List.mem_of_getElem? (i := 709) (by decide +kernel), List.mem_of_getElem? (i := 844) (by decide +kernel), List.mem_of_getElem? (i := 845) (by decide +kernel)⟩
def lw_privs_2 : List (MethodName × Nat) := [(⟨"TrainedSegments", "noneOrThereAt", "(I)LTrainedSegments$Dictionary;"⟩, 11), (⟨"TrainedSegments$Packer", "leastDistance", "(II)I"⟩, 7), (⟨"TrainedSegments", "firstWithId", "(I)LTrainedSegments$Dictionary;"⟩, 11), (⟨"TrainedSegments$Opener", "wrongInHeader", "(LTrainedSegments$Row;LTrainedSegments$Dictionary;)I"⟩, 4), (⟨"TrainedSegments$Opener", "readItem", "(LTrainedSegments$Row;)I"⟩, 4), (⟨"TrainedSegments$Opener", "readPlain", "(LTrainedSegments$Row;I)I"⟩, 4), (⟨"TrainedSegments$Opener", "readMatch", "(LTrainedSegments$Row;II)I"⟩, 4), (⟨"TrainedSegments", "isSample", "(I)Z"⟩, 11), (⟨"TrainedSegments", "countThere", "()I"⟩, 11), (⟨"java/lang/NullPointerException", "getExtendedNPEMessage", "()Ljava/lang/String;"⟩, 8), (⟨"java/lang/Throwable", "fillInStackTrace", "(I)Ljava/lang/Throwable;"⟩, 6), (⟨"TrainedSegmentsModel", "isOpen", "(III)Z"⟩, 25), (⟨"TrainedSegmentsModel", "counted", "(IIZ)I"⟩, 25), (⟨"TrainedSegmentsModel", "areAlike", "(III)Z"⟩, 25), (⟨"TrainedSegmentsModel", "isThere", "(I)Z"⟩, 25), (⟨"TrainedSegmentsModel", "sizeOfAll", "(II)I"⟩, 25)]
theorem lw_r2 : ∀ q ∈ lw_privs_2, lw_okq q := List.forall_mem_cons.mpr ⟨lw_p16, List.forall_mem_cons.mpr ⟨lw_p17, List.forall_mem_cons.mpr ⟨lw_p18, List.forall_mem_cons.mpr ⟨lw_p19, List.forall_mem_cons.mpr ⟨lw_p20, List.forall_mem_cons.mpr ⟨lw_p21, List.forall_mem_cons.mpr ⟨lw_p22, List.forall_mem_cons.mpr ⟨lw_p23, List.forall_mem_cons.mpr ⟨lw_p24, List.forall_mem_cons.mpr ⟨lw_p25, List.forall_mem_cons.mpr ⟨lw_p26, List.forall_mem_cons.mpr ⟨lw_p27, List.forall_mem_cons.mpr ⟨lw_p28, List.forall_mem_cons.mpr ⟨lw_p29, List.forall_mem_cons.mpr ⟨lw_p30, List.forall_mem_cons.mpr ⟨lw_p31, fun _ h => absurd h List.not_mem_nil⟩⟩⟩⟩⟩⟩⟩⟩⟩⟩⟩⟩⟩⟩⟩⟩
theorem lw_p32 : lw_okq (⟨"TrainedSegmentsModel", "sizeOf", "(III)I"⟩, 25) := ⟨⟨by decide +kernel, by decide +kernel⟩, List.mem_of_getElem? (i := 709) (by decide +kernel), List.mem_of_getElem? (i := 848) (by decide +kernel), List.mem_of_getElem? (i := 849) (by decide +kernel)⟩
theorem lw_p33 : lw_okq (⟨"TrainedSegmentsModel", "layAhead", "(II)V"⟩, 25) := ⟨⟨by decide +kernel, by decide +kernel⟩, List.mem_of_getElem? (i := 709) (by decide +kernel), List.mem_of_getElem? (i := 852) (by decide +kernel), List.mem_of_getElem? (i := 853) (by decide +kernel)⟩
theorem lw_p34 : lw_okq (⟨"TrainedSegmentsModel", "pieceAt", "(II)I"⟩, 25) := ⟨⟨by decide +kernel, by decide +kernel⟩, List.mem_of_getElem? (i := 709) (by decide +kernel), List.mem_of_getElem? (i := 856) (by decide +kernel), List.mem_of_getElem? (i := 857) (by decide +kernel)⟩
theorem lw_p35 : lw_okq (⟨"TrainedSegmentsModel", "laySample", "(I)V"⟩, 25) := ⟨⟨by decide +kernel, by decide +kernel⟩, List.mem_of_getElem? (i := 709) (by decide +kernel), List.mem_of_getElem? (i := 860) (by decide +kernel), List.mem_of_getElem? (i := 861) (by decide +kernel)⟩
theorem lw_p36 : lw_okq (⟨"TrainedSegmentsModel", "packedLong", "()I"⟩, 25) := ⟨⟨by decide +kernel, by decide +kernel⟩, List.mem_of_getElem? (i := 709) (by decide +kernel), List.mem_of_getElem? (i := 864) (by decide +kernel), List.mem_of_getElem? (i := 865) (by decide +kernel)⟩
theorem lw_p37 : lw_okq (⟨"TrainedSegmentsModel", "findMatches", "(I)V"⟩, 25) := ⟨⟨by decide +kernel, by decide +kernel⟩, List.mem_of_getElem? (i := 709) (by decide +kernel), List.mem_of_getElem? (i := 868) (by decide +kernel), List.mem_of_getElem? (i := 869) (by decide +kernel)⟩
theorem lw_p38 : lw_okq (⟨"TrainedSegmentsModel", "goes", "(II)V"⟩, 25) := ⟨⟨by decide +kernel, by decide +kernel⟩, List.mem_of_getElem? (i := 709) (by decide +kernel), List.mem_of_getElem? (i := 872) (by decide +kernel), List.mem_of_getElem? (i := 873) (by decide +kernel)⟩
theorem lw_p39 : lw_okq (⟨"TrainedSegmentsModel", "sumOf", "(I)I"⟩, 25) := ⟨⟨by decide +kernel, by decide +kernel⟩, List.mem_of_getElem? (i := 709) (by decide +kernel), List.mem_of_getElem? (i := 884) (by decide +kernel), List.mem_of_getElem? (i := 885) (by decide +kernel)⟩
theorem lw_p40 : lw_okq (⟨"TrainedSegmentsModel", "put", "(I)V"⟩, 25) := ⟨⟨by decide +kernel, by decide +kernel⟩, List.mem_of_getElem? (i := 709) (by decide +kernel), List.mem_of_getElem? (i := 897) (by decide +kernel), List.mem_of_getElem? (i := 898) (by decide +kernel)⟩
theorem lw_p41 : lw_okq (⟨"TrainedSegmentsModel", "putItem", "(I)I"⟩, 25) := ⟨⟨by decide +kernel, by decide +kernel⟩, List.mem_of_getElem? (i := 709) (by decide +kernel), List.mem_of_getElem? (i := 901) (by decide +kernel), List.mem_of_getElem? (i := 902) (by decide +kernel)⟩
theorem lw_p42 : lw_okq (⟨"TrainedSegmentsModel", "wrong", "()I"⟩, 25) := ⟨⟨by decide +kernel, by decide +kernel⟩, List.mem_of_getElem? (i := 709) (by decide +kernel), List.mem_of_getElem? (i := 913) (by decide +kernel), List.mem_of_getElem? (i := 914) (by decide +kernel)⟩
theorem lw_p43 : lw_okq (⟨"TrainedSegmentsModel", "firstWith", "(I)I"⟩, 25) := ⟨⟨by decide +kernel, by decide +kernel⟩, List.mem_of_getElem? (i := 709) (by decide +kernel), List.mem_of_getElem? (i := 917) (by decide +kernel), List.mem_of_getElem? (i := 918) (by decide +kernel)⟩
def lw_privs_3 : List (MethodName × Nat) := [(⟨"TrainedSegmentsModel", "sizeOf", "(III)I"⟩, 25), (⟨"TrainedSegmentsModel", "layAhead", "(II)V"⟩, 25), (⟨"TrainedSegmentsModel", "pieceAt", "(II)I"⟩, 25), (⟨"TrainedSegmentsModel", "laySample", "(I)V"⟩, 25), (⟨"TrainedSegmentsModel", "packedLong", "()I"⟩, 25), (⟨"TrainedSegmentsModel", "findMatches", "(I)V"⟩, 25), (⟨"TrainedSegmentsModel", "goes", "(II)V"⟩, 25), (⟨"TrainedSegmentsModel", "sumOf", "(I)I"⟩, 25), (⟨"TrainedSegmentsModel", "put", "(I)V"⟩, 25), (⟨"TrainedSegmentsModel", "putItem", "(I)I"⟩, 25), (⟨"TrainedSegmentsModel", "wrong", "()I"⟩, 25), (⟨"TrainedSegmentsModel", "firstWith", "(I)I"⟩, 25)]
theorem lw_r3 : ∀ q ∈ lw_privs_3, lw_okq q := List.forall_mem_cons.mpr ⟨lw_p32, List.forall_mem_cons.mpr ⟨lw_p33, List.forall_mem_cons.mpr ⟨lw_p34, List.forall_mem_cons.mpr ⟨lw_p35, List.forall_mem_cons.mpr ⟨lw_p36, List.forall_mem_cons.mpr ⟨lw_p37, List.forall_mem_cons.mpr ⟨lw_p38, List.forall_mem_cons.mpr ⟨lw_p39, List.forall_mem_cons.mpr ⟨lw_p40, List.forall_mem_cons.mpr ⟨lw_p41, List.forall_mem_cons.mpr ⟨lw_p42, List.forall_mem_cons.mpr ⟨lw_p43, fun _ h => absurd h List.not_mem_nil⟩⟩⟩⟩⟩⟩⟩⟩⟩⟩⟩⟩
def lw_privs : List (MethodName × Nat) := lw_privs_1 ++ (lw_privs_2 ++ (lw_privs_3))
def lw_tbl : List Cond := k2_sels lw_privs ++ tables_1
theorem lw_privs_ok : ∀ q ∈ lw_privs, lw_okq q := by
  show ∀ q ∈ lw_privs_1 ++ (lw_privs_2 ++ (lw_privs_3)), lw_okq q
  exact List.forall_mem_append.mpr ⟨lw_r1, List.forall_mem_append.mpr ⟨lw_r2, lw_r3⟩⟩
end
section
/-! ===== BEGIN words of one list among another's, by their places ===== -/
theorem goodIn_r {big : List Cond} (ws : List Cond) (ps : List Nat) (hp : ws = ps.filterMap (fun i => big[i]?)) (h : ws.all goodWord = true) : GoodIn big ws := by
  intro w hw
  have h1 := List.all_eq_true.mp h w hw
  rw [hp] at hw
  obtain ⟨i, -, hi⟩ := List.mem_filterMap.mp hw
  have hm : w ∈ big := by first | exact List.mem_of_getElem? hi | exact List.getElem?_mem hi
  exact ⟨hm, good_of_word h1⟩
theorem goodIn_app {big a b : List Cond} (ha : GoodIn big a) (hb : GoodIn big b) : GoodIn big (a ++ b) := fun w h => (List.mem_append.mp h).elim (ha w) (hb w)
theorem goodIn_ca {big a b : List Cond} {c : Cond} (ha : GoodIn big (c :: a)) (hb : GoodIn big b) : GoodIn big (c :: (a ++ b)) := fun w h => (List.mem_cons.mp h).elim (fun e => ha w (List.mem_cons.mpr (Or.inl e))) (fun h => (List.mem_append.mp h).elim (fun h => ha w (List.mem_cons.mpr (Or.inr h))) (hb w))
theorem goodIn_sub {big ws : List Cond} (hm : ∀ w ∈ ws, w ∈ big) (h : ws.all goodWord = true) : GoodIn big ws := fun w hw => ⟨hm w hw, good_of_word (List.all_eq_true.mp h w hw)⟩
/-! ===== END ===== -/

/-! ===== BEGIN exceptions that leave a method, and their catching by the caller (launches without stack traces) ===== -/
section VXA
/-! The laws vx_back, vx_callV, vx_callS, vx_callSW, vx_throw0, vx_throwS follow proofs of the library, with one case more: JvmDerived/Free/Laws.lean (Back.of_free), Shelf42/LK1.lean (callV, callS), Shelf/KitTraced.lean (throwNew0V, throwNewS). -/
/-- where a method has thrown q: the class by its name, the cell, what was written, the world -/
def vx_T (XC : String → State → State → Prop) (st : State) (q : Addr) (t : State) (mc ms : Nat) (free : Addr → Prop) : Prop :=
  ∃ (E : String) (ce : Cell) (L : List Loc), XC E st t ∧ t.heap[q]? = some ce ∧ ce.vm = .none ∧ st.vm.findClass E = some ce.cls ∧ st.WarmedH t.vm ∧ st.sameButNew ({ t with vm := st.vm } : State) L mc ms ∧ ∀ z ∈ L, free z.base
def vx_Q (Qc : Array Value → State → Outcome → State → Prop) (XC : String → State → State → Prop) (mc ms : Nat) (free : Addr → Prop) : Array Value → State → Outcome → State → Prop := fun a st o t =>
  (Qc a st o t ∧ ∃ L, FrameEnd st o t L mc ms ∧ ∀ q ∈ L, free q.base) ∨ ∃ q, o = .threw q ∧ vx_T XC st q t mc ms free
/-- a callee that returns or throws -/
def vx_Met (l : Launch) (y : MethodName) (ws : List Cond) (rm : Room) (Pc : Array Value → State → Prop) (Qc : Array Value → State → Outcome → State → Prop) (XC : String → State → State → Prop) (mc ms : Nat) (free : Addr → Prop) : Prop :=
  MetFree l y (headSpec ws rm) Pc (fun _ _ _ _ _ => True) (vx_Q Qc XC mc ms free)
def vx_Post (XC : String → State → State → Prop) (mc ms : Nat) (free : Addr → Prop) : Pt → Array Value → Addr → Pt → Prop := fun A a q B =>
  ∃ (g : JFrame) (mk : MethodId) (t : State) (L : List Loc) (E : String) (ce : Cell), B.U.heap = t.heap ∧ B.U.vm = t.vm ∧ XC E (A.U.calling g mk a) t ∧ t.heap[q]? = some ce ∧ ce.vm = .none ∧ A.U.vm.findClass E = some ce.cls ∧ B.locs = A.locs ++ L ∧ (∀ z ∈ L, free z.base) ∧ B.cells = A.cells + mc ∧ B.slots = A.slots + ms
def vx_Back (l : Launch) (R : Room) (p : Program) (e : Env) (below : List Frame) (s : State) (sargs : Array Value) (y : MethodName) (len W9 : Nat)
    (Pre : Pt → Array Value → Prop) (Post : Pt → Array Value → Option Value → Pt → Prop) (PostX : Pt → Array Value → Addr → Pt → Prop) : Prop :=
  ∀ (m : MethodId) (meth : Method) (c : Code) (A : Pt) (g : JFrame) (ig : Instr) (mk : MethodId) (a : Array Value),
    Stand p l e R s m sargs below meth c A.U A.locs A.cells A.slots → g.method = m → g.locals.size = c.maxLocals → decode c.code g.pc = .ok (ig, len) →
    2 * g.monitorRoom + (g.stack.map fun v => v.category).sum ≤ W9 → A.U.methodNamed? y = some mk → Pre A a →
    (∃ (v : Option Value) (B : Pt), Stand p l e R s m sargs below meth c B.U B.locs B.cells B.slots ∧ Post A a v B ∧
      Steps p.tables e below (doInvoke e (A.U.setTop g) [] mk a).1 (B.U.setTop { g with pc := g.pc + len, stack := v.toList ++ g.stack })) ∨
    (∃ (q : Addr) (B : Pt), Stand p l e R s m sargs below meth c B.U B.locs B.cells B.slots ∧ PostX A a q B ∧
      Steps p.tables e below (doInvoke e (A.U.setTop g) [] mk a).1 ((B.U.setTop g).pushFrame (.throwing q)))
section Payer
variable {l : Launch} {R : Room} {p : Program} {e : Env} {below : List Frame} {s : State} {sargs : Array Value} {y : MethodName} {len W9 : Nat}
theorem vx_back {ws : List Cond} {rm : Room} {Pc : Array Value → State → Prop} {Qc : Array Value → State → Outcome → State → Prop} {XC : String → State → State → Prop} {mc ms : Nat} {free : Addr → Prop} {bytes : ByteArray} {maxL : Nat} {ret : Option FieldType}
    (hM : vx_Met l y ws rm Pc Qc XC mc ms free) (hblind : FrameBlind Pc) (hrc : rm.cells = mc) (hrs : rm.slots = ms)
    (hframes : rm.frames + 1 ≤ R.frames) (hlocals : W9 + (maxL + 11) + rm.locals ≤ R.locals)
    (hws : ∀ w ∈ ws, ∀ a' U, s.WarmedH U.vm → w.before a' U = true) (hcode : Cond.code y bytes maxL ret ∈ ws) (hinit : ∀ a' U, s.WarmedH U.vm → (Cond.initialized y.cls).before a' U = true) :
    vx_Back l R p e below s sargs y len W9 (PreOf R mc ms Pc) (PostOf Qc mc ms free) (vx_Post XC mc ms free) := by
  intro m meth c A g ig mk a X hg hsize hdg hW hn hp
  have h1 : (headSpec ws rm).pre.before a A.U = true := atoms_intro fun w hw => hws w hw _ _ X.warmed
  have h2 : (Cond.code y bytes maxL ret).before a A.U = true := hws _ hcode _ _ X.warmed
  have h3 : (Cond.initialized y.cls).before a A.U = true := hinit _ _ X.warmed
  have h4 : A.cells + (headSpec ws rm).room.cells ≤ R.cells := by rw [show (headSpec ws rm).room.cells = mc from hrc]; exact hp.1
  have h5 : A.slots + (headSpec ws rm).room.slots ≤ R.slots := by rw [show (headSpec ws rm).room.slots = ms from hrs]; exact hp.2.1
  have hPc : Pc a (A.U.calling g mk a) := hblind _ _ _ _ hp.2.2
  obtain ⟨U, Ls, c0, s0⟩ := A
  dsimp only [Pt.U, Pt.locs, Pt.cells, Pt.slots] at h1 h2 h3 h4 h5 X hn hPc ⊢
  obtain ⟨methY, cY, hmY, hcY, -, hlY, -, -, -, -⟩ := Cond.code_spec hn h2
  obtain ⟨kY, hkY, -⟩ := className_of_methodNamed hn
  have hinitY : kY.init = .initialized := Cond.initialized_spec (findClass_of_methodNamed hn) hkY h3
  have h : At U g.method c below := by rw [hg]; exact X.here
  have hlocals9 : W9 + (maxL + 11) + (headSpec ws rm).room.locals ≤ R.locals := hlocals
  have happ : (headSpec ws rm).appliesLoose y e.platform (U.calling g mk a) = true :=
    Spec.appliesLoose_calling (g := g) h hdg hn hkY hinitY
      (X.room_calling (g := g) (R' := (headSpec ws rm).room) hsize hmY hcY hframes (by rw [hlY]; omega) h4 h5) h1
  obtain ⟨mid, hmid⟩ := h.above
  have hfr : (U.setTop g).frames = (.java g :: mid) ++ below := by rw [State.frames_setTop' g h.top, hmid]; rfl
  obtain ⟨o, s₂, hsteps, -, hend, hq⟩ := Steps.callFree hM p X.admits X.cas X.clock (acts := []) hfr happ hPc trivial
  have hq' : vx_Q Qc XC mc ms free a (U.calling g mk a) o s₂ := hq
  rw [State.frames_setTop' g h.top] at hend
  obtain ⟨g₀, hg0⟩ := Option.isSome_iff_exists.mp h.top
  obtain ⟨r, hr⟩ := State.topJava?_eq_some.mp hg0
  have hr' : (({ U with heap := s₂.heap, slotsUsed := s₂.slotsUsed } : State).setVm s₂.vm).frames = .java g₀ :: r := hr
  rcases hq' with ⟨hqc, L, hfe, hL⟩ | ⟨q, rfl, E, ce, L, hx, hce, hcv, hcl, hW₂, hsm, hL⟩
  · obtain ⟨⟨v, rfl⟩, hW₂, e2, q2, q3, q4, q5, q6⟩ := id hfe
    have e3 : s₂ = ({ (U.calling g mk a).setFrames s₂.frames with heap := s₂.heap, slotsUsed := s₂.slotsUsed } : State).setVm s₂.vm := by
      have : s₂ = ({ s₂ with vm := (U.calling g mk a).vm } : State).setVm s₂.vm := rfl
      rw [e2] at this
      exact this
    obtain ⟨c₂, i₂, len₂, hc₂, hd₂, hf₂⟩ := hend
    have hW' : U.WarmedH s₂.vm := hW₂
    have hcc : c₂ = c := by
      have h1 : s₂.code? g.method = U.code? g.method := by
        rw [State.code?_eq, State.code?_eq, hW'.alike.method?]
      exact Option.some.inj (hc₂.symm.trans (h1.trans h.code))
    subst hcc
    have hlen : len₂ = len := by rw [hdg] at hd₂; cases hd₂; rfl
    subst hlen
    have hs₂ : s₂ = (({ U with heap := s₂.heap, slotsUsed := s₂.slotsUsed } : State).setVm s₂.vm).setTop { g with pc := g.pc + len₂, stack := v.toList ++ g.stack } := by
      refine e3.trans ?_
      rw [hf₂, State.calling_eq h.top, State.setFrames_setFrames, State.setTop_of_frames _ hr', hr]
      rfl
    have hsame : U.sameButNew ({ U with heap := s₂.heap, slotsUsed := s₂.slotsUsed } : State) L mc ms := by
      refine ⟨?_, q2, q3, q4, q5, q6⟩
      obtain ⟨t, ht, -⟩ := State.frames_cons hr
      show ({ U with heap := s₂.heap, slotsUsed := s₂.slotsUsed } : State) = { U.setFrames U.frames with heap := s₂.heap, slotsUsed := s₂.slotsUsed }
      rw [State.setFrames_self ht]
    subst hg
    refine Or.inl ⟨v, ⟨(({ U with heap := s₂.heap, slotsUsed := s₂.slotsUsed } : State).setVm s₂.vm), Ls ++ L, c0 + mc, s0 + ms⟩,
      ⟨X.admits, X.cas, X.clock, X.frames, X.room, X.hears, X.method, X.code, (X.here.setHeapUsed s₂.heap s₂.slotsUsed).setVm hW'.alike, X.tail, State.WarmedH.trans X.warmed hW', X.limits, X.bytes, X.same.trans (hsame.setVm s.vm)⟩,
      ⟨g, mk, s₂, L, rfl, rfl, hqc, rfl, hL, rfl, rfl⟩, ?_⟩
    show Steps p.tables e below _ ((({ U with heap := s₂.heap, slotsUsed := s₂.slotsUsed } : State).setVm s₂.vm).setTop { g with pc := g.pc + len₂, stack := v.toList ++ g.stack })
    rw [← hs₂]
    exact hsteps
  · obtain ⟨e2, q2, q3, q4, q5, q6⟩ := id hsm
    have e3 : s₂ = ({ (U.calling g mk a).setFrames s₂.frames with heap := s₂.heap, slotsUsed := s₂.slotsUsed } : State).setVm s₂.vm := by
      have : s₂ = ({ s₂ with vm := (U.calling g mk a).vm } : State).setVm s₂.vm := rfl
      rw [e2] at this
      exact this
    have hf₂ : s₂.frames = .throwing q :: .java g :: U.frames.tail := hend
    have hW' : U.WarmedH s₂.vm := hW₂
    have hs₂ : s₂ = ((({ U with heap := s₂.heap, slotsUsed := s₂.slotsUsed } : State).setVm s₂.vm).setTop g).pushFrame (.throwing q) := by
      refine e3.trans ?_
      rw [hf₂, State.calling_eq h.top, State.setFrames_setFrames, State.pushFrame, State.frames_setTop _ hr', State.setTop_of_frames _ hr', State.setFrames_setFrames, hr]
      rfl
    have hsame : U.sameButNew ({ U with heap := s₂.heap, slotsUsed := s₂.slotsUsed } : State) L mc ms := by
      refine ⟨?_, q2, q3, q4, q5, q6⟩
      obtain ⟨t, ht, -⟩ := State.frames_cons hr
      show ({ U with heap := s₂.heap, slotsUsed := s₂.slotsUsed } : State) = { U.setFrames U.frames with heap := s₂.heap, slotsUsed := s₂.slotsUsed }
      rw [State.setFrames_self ht]
    subst hg
    refine Or.inr ⟨q, ⟨(({ U with heap := s₂.heap, slotsUsed := s₂.slotsUsed } : State).setVm s₂.vm), Ls ++ L, c0 + mc, s0 + ms⟩,
      ⟨X.admits, X.cas, X.clock, X.frames, X.room, X.hears, X.method, X.code, (X.here.setHeapUsed s₂.heap s₂.slotsUsed).setVm hW'.alike, X.tail, State.WarmedH.trans X.warmed hW', X.limits, X.bytes, X.same.trans (hsame.setVm s.vm)⟩,
      ⟨g, mk, s₂, L, E, ce, rfl, rfl, hx, hce, hcv, hcl, rfl, hL, rfl, rfl⟩, ?_⟩
    show Steps p.tables e below _ (((({ U with heap := s₂.heap, slotsUsed := s₂.slotsUsed } : State).setVm s₂.vm).setTop g).pushFrame (.throwing q))
    rw [← hs₂]
    exact hsteps
end Payer
section Calls
variable {p : Program} {l : Launch} {e : Env} {R : Room} {s : State} {m : MethodId} {args : Array Value} {below : List Frame} {meth : Method} {c : Code} {T : State} {locs : List Loc} {cells slots : Nat}
theorem vx_callV (X : Stand p l e R s m args below meth c T locs cells slots) (hexec : p.tables.exec = Jvm.exec) {own C : String} {index : Nat} {y : MethodName} {bytes : ByteArray} {maxL : Nat} {ret : Option FieldType}
    (hown : s.vm.findClass own = some m.cls) (hlink : (Cond.methodLink own index y).before args s = true) (hinst : (Cond.instanceMethod y).before args s = true) (hsel : (Cond.selects C y y).before args s = true)
    (hcode : (Cond.code y bytes maxL ret).before args s = true) (hy : y.cls ≠ "java/lang/invoke/MethodHandle" ∧ y.cls ≠ "java/lang/invoke/VarHandle")
    {W9 : Nat} {Pre : Pt → Array Value → Prop} {Post : Pt → Array Value → Option Value → Pt → Prop} {PostX : Pt → Array Value → Addr → Pt → Prop} (hK : vx_Back l R p e below s args y 3 W9 Pre Post PostX)
    {b : Addr} {cellB : Cell} (hcell : T.heap[b]? = some cellB) (hobj : cellB.vm.isStatics = false) (hcls : s.vm.findClass C = some cellB.cls)
    {g : JFrame} (hg : g.method = m) (hsize : g.locals.size = c.maxLocals) {argsL rest : List Value} (hlen : ∀ sig, parseMethodDescriptor y.desc = some sig → argsL.length = sig.parameters.length)
    (hstack : g.stack = argsL.reverse ++ .ref b :: rest) (hW : 2 * g.monitorRoom + (rest.map fun v => v.category).sum ≤ W9) (hdg : decode c.code g.pc = .ok (.invokevirtual index, 3))
    (hpre : ∀ vm₁, s.WarmedH vm₁ → Pre ⟨T.setVm vm₁, locs, cells, slots⟩ (Value.ref b :: argsL).toArray) :
    (∃ (v : Option Value) (vm₁ : Vm) (B : Pt), s.WarmedH vm₁ ∧ Stand p l e R s m args below meth c B.U B.locs B.cells B.slots ∧ Post ⟨T.setVm vm₁, locs, cells, slots⟩ (Value.ref b :: argsL).toArray v B ∧
      ∀ target, Steps p.tables e below (B.U.setTop { g with pc := g.pc + 3, stack := v.toList ++ rest }) target → Steps p.tables e below (T.setTop g) target) ∨
    (∃ (q : Addr) (vm₁ : Vm) (B : Pt), s.WarmedH vm₁ ∧ Stand p l e R s m args below meth c B.U B.locs B.cells B.slots ∧ PostX ⟨T.setVm vm₁, locs, cells, slots⟩ (Value.ref b :: argsL).toArray q B ∧
      Steps p.tables e below (T.setTop g) ((B.U.setTop { g with stack := rest }).pushFrame (.throwing q))) := by
  obtain ⟨mk, methM, hnamed, hmethM, hstM, habM⟩ := Cond.instanceMethod_spec hinst
  obtain ⟨methM', cM, hmethM', -, -, -, -, -, -, hsigM⟩ := Cond.code_spec hnamed hcode
  cases hmethM.symm.trans hmethM'
  obtain ⟨c2, r2, m2, q1, q2, q3, q4, kP, hkP, hkPi⟩ := Cond.selects_spec hsel
  cases hcls.symm.trans q1
  cases (State.methodFound?_of_named hnamed hy).symm.trans q2
  cases hnamed.symm.trans q3
  have hselP : selectMethod e.platform s.vm cellB.cls mk = .method mk := by rw [Launch.admits_selectMethod X.admits]; exact q4
  obtain ⟨vm₁, X₁, hstep₁⟩ := X.invokevirtual hexec hown hlink hnamed hmethM hstM hkP hkPi hy (a := b) (cell := cellB) hcell
    (fun z h => by rw [h] at hobj; cases hobj) hselP hmethM habM hkP hkPi (g := g) hg (argsL := argsL) (rest := rest) (hlen _ hsigM) hstack hdg
  rcases hK m meth c ⟨T.setVm vm₁, locs, cells, slots⟩ { g with stack := rest } (.invokevirtual index) mk (Value.ref b :: argsL).toArray X₁ hg hsize hdg hW (X₁.named hnamed) (hpre vm₁ X₁.warmed) with ⟨v, B, X', hpost, hsteps⟩ | ⟨q, B, X', hpost, hsteps⟩
  · exact Or.inl ⟨v, vm₁, B, X₁.warmed, X', hpost, fun target h => hstep₁ _ fun acts => by rw [doInvoke_state]; exact hsteps.trans h⟩
  · exact Or.inr ⟨q, vm₁, B, X₁.warmed, X', hpost, hstep₁ _ fun acts => by rw [doInvoke_state]; exact hsteps⟩
theorem vx_callS (X : Stand p l e R s m args below meth c T locs cells slots) (hexec : p.tables.exec = Jvm.exec) {own : String} {index : Nat} {y : MethodName} {bytes : ByteArray} {maxL : Nat} {ret : Option FieldType}
    (hown : s.vm.findClass own = some m.cls) (hlink : (Cond.methodLink own index y).before args s = true) (hstat : (Cond.static y).before args s = true) (hinit : (Cond.initialized y.cls).before args s = true)
    (hcode : (Cond.code y bytes maxL ret).before args s = true) (hy : y.cls ≠ "java/lang/invoke/MethodHandle" ∧ y.cls ≠ "java/lang/invoke/VarHandle")
    {W9 : Nat} {Pre : Pt → Array Value → Prop} {Post : Pt → Array Value → Option Value → Pt → Prop} {PostX : Pt → Array Value → Addr → Pt → Prop} (hK : vx_Back l R p e below s args y 3 W9 Pre Post PostX)
    {g : JFrame} (hg : g.method = m) (hsize : g.locals.size = c.maxLocals) {argsL rest : List Value} (hlen : ∀ sig, parseMethodDescriptor y.desc = some sig → argsL.length = sig.parameters.length)
    (hstack : g.stack = argsL.reverse ++ rest) (hW : 2 * g.monitorRoom + (rest.map fun v => v.category).sum ≤ W9) (hdg : decode c.code g.pc = .ok (.invokestatic index, 3))
    (hpre : ∀ vm₁, s.WarmedH vm₁ → Pre ⟨T.setVm vm₁, locs, cells, slots⟩ argsL.toArray) :
    (∃ (v : Option Value) (vm₁ : Vm) (B : Pt), s.WarmedH vm₁ ∧ Stand p l e R s m args below meth c B.U B.locs B.cells B.slots ∧ Post ⟨T.setVm vm₁, locs, cells, slots⟩ argsL.toArray v B ∧
      ∀ target, Steps p.tables e below (B.U.setTop { g with pc := g.pc + 3, stack := v.toList ++ rest }) target → Steps p.tables e below (T.setTop g) target) ∨
    (∃ (q : Addr) (vm₁ : Vm) (B : Pt), s.WarmedH vm₁ ∧ Stand p l e R s m args below meth c B.U B.locs B.cells B.slots ∧ PostX ⟨T.setVm vm₁, locs, cells, slots⟩ argsL.toArray q B ∧
      Steps p.tables e below (T.setTop g) ((B.U.setTop { g with stack := rest }).pushFrame (.throwing q))) := by
  obtain ⟨mk, hnamed⟩ := Cond.code_named hcode
  obtain ⟨methM, cM, hmethM, -, -, -, -, -, -, hsigM⟩ := Cond.code_spec hnamed hcode
  have hstatic : methM.isStatic = true := Cond.static_spec hnamed hmethM hstat
  obtain ⟨kP, hkP, -⟩ := className_of_methodNamed hnamed
  have hinitP : kP.init = .initialized := Cond.initialized_spec (findClass_of_methodNamed hnamed) hkP hinit
  obtain ⟨vm₁, X₁, hstep₁⟩ := X.invokestatic hexec hown hlink hnamed hmethM hstatic hkP hinitP hy (g := g) hg (argsL := argsL) (rest := rest) (hlen _ hsigM) hstack hdg
  rcases hK m meth c ⟨T.setVm vm₁, locs, cells, slots⟩ { g with stack := rest } (.invokestatic index) mk argsL.toArray X₁ hg hsize hdg hW (X₁.named hnamed) (hpre vm₁ X₁.warmed) with ⟨v, B, X', hpost, hsteps⟩ | ⟨q, B, X', hpost, hsteps⟩
  · exact Or.inl ⟨v, vm₁, B, X₁.warmed, X', hpost, fun target h => hstep₁ _ fun acts => by rw [doInvoke_state]; exact hsteps.trans h⟩
  · exact Or.inr ⟨q, vm₁, B, X₁.warmed, X', hpost, hstep₁ _ fun acts => by rw [doInvoke_state]; exact hsteps⟩
end Calls
theorem vx_cls {s : State} {T : State} {vm₁ : Vm} {E : String} {k : ClassId} (hW : s.WarmedH vm₁) (h : (T.setVm vm₁).vm.findClass E = some k) : s.vm.findClass E = some k := by
  have h1 : vm₁.findClass E = some k := h
  rw [hW.alike.findClass] at h1
  exact h1
/-- the method's frame g, with q thrown over it -/
def vx_W (p : Program) (l : Launch) (e : Env) (R : Room) (s : State) (m : MethodId) (args : Array Value) (below : List Frame) (meth : Method) (c : Code) (H : Heap) (locs : List Loc) (cells slots : Nat) (Q : State → Prop) (g : JFrame) (q : Addr) : Prop :=
  ∀ T : State, T.heap = H → Stand p l e R s m args below meth c T locs cells slots → ∃ t, Steps p.tables e below ((T.setTop g).pushFrame (.throwing q)) t ∧ Q t
def vx_Run (p : Program) (l : Launch) (e : Env) (R : Room) (s : State) (m : MethodId) (args : Array Value) (below : List Frame) (meth : Method) (c : Code) (H : Heap) (locs : List Loc) (cells slots mc ms : Nat) (g : JFrame) (rest : List Value) (Qa : State → Outcome → State → Prop) (XC : String → State → State → Prop) (free : Addr → Prop) : Prop :=
  ∀ T : State, T.heap = H → Stand p l e R s m args below meth c T locs cells slots →
    (∃ (v : Option Value) (st₀ t T' : State) (L : List Loc), st₀.heap = H ∧ Stand p l e R s m args below meth c T' (locs ++ L) (cells + mc) (slots + ms) ∧ (∀ q ∈ L, free q.base) ∧ T'.heap = t.heap ∧ T'.vm = t.vm ∧ Qa st₀ (.returned v) t ∧
      Goes p e below T g T' { g with pc := g.pc + 3, stack := v.toList ++ rest }) ∨
    (∃ (q : Addr) (st₀ t T' : State) (L : List Loc) (E : String) (ce : Cell), st₀.heap = H ∧ Stand p l e R s m args below meth c T' (locs ++ L) (cells + mc) (slots + ms) ∧ (∀ z ∈ L, free z.base) ∧ T'.heap = t.heap ∧ T'.vm = t.vm ∧ XC E st₀ t ∧ t.heap[q]? = some ce ∧ ce.vm = .none ∧ s.vm.findClass E = some ce.cls ∧
      Steps p.tables e below (T.setTop g) ((T'.setTop { g with stack := rest }).pushFrame (.throwing q)))
def vx_X {S : Type} (px : S → Prop) (B : String → S → State → Prop) (A : Nat → Prop) : String → State → State → Prop := fun E st t => ∃ u : S, px u ∧ B E u t ∧ va_F A st t
section Runs
variable {p : Program} {l : Launch} {e : Env} {R : Room} {s : State} {m : MethodId} {args : Array Value} {below : List Frame} {meth : Method} {c : Code} {H : Heap} {locs : List Loc} {cells slots : Nat}
variable {y : MethodName} {bytes cc : ByteArray} {maxL nL mc ms n index : Nat} {ret : Option FieldType} {ws : List Cond} {rm : Room} {Pc : Array Value → State → Prop} {Qc : Array Value → State → Outcome → State → Prop} {XC : String → State → State → Prop} {free : Addr → Prop} {Ts : List Cond} {own C : String} {b : Addr} {As rest : List Value} {g : JFrame}
theorem vx_callBack (cb : CallB R s args own index y bytes maxL ret ws rm mc ms n) (hM : vx_Met l y ws rm Pc Qc XC mc ms free) (hbl : FrameBlind Pc) : vx_Back l R p e below s args y 3 8 (PreOf R mc ms Pc) (PostOf Qc mc ms free) (vx_Post XC mc ms free) := by
  obtain ⟨hrc, hrs, hfr, hlo, hws, hcw, -, hini, -⟩ := cb
  exact vx_back (bytes := bytes) (maxL := maxL) (ret := ret) hM hbl hrc hrs hfr hlo hws hcw (fun a' U hW => word_at hW (Or.inl (by first | rfl | simp [Cond.onTables, Cond.keeps, Cond.steady])) hini)
theorem vx_runV (S : CallFix p m c cc nL s args Ts own) (hM : vx_Met l y ws rm Pc Qc XC mc ms free) (cw : CallW R s args own C index y bytes maxL ret ws rm mc ms n) (hp : PreV s H C b Pc As)
    (hg : g.method = m) (hn : As.length = n) (hsize : g.locals.size = nL) (hstack : g.stack = As.reverse ++ .ref b :: rest) (hW : 2 * g.monitorRoom + (rest.map fun v => v.category).sum ≤ 8) (hdg : decode cc g.pc = .ok (.invokevirtual index, 3)) (hf : cells + mc ≤ R.cells ∧ slots + ms ≤ R.slots) :
    vx_Run p l e R s m args below meth c H locs cells slots mc ms g rest (Qc (Value.ref b :: As).toArray) XC free := by
  have hK : vx_Back l R p e below s args y 3 8 (PreOf R mc ms Pc) (PostOf Qc mc ms free) (vx_Post XC mc ms free) := vx_callBack cw.1 hM hp.1
  obtain ⟨⟨-, -, -, -, -, -, hcode, -, hy, hlen, hl⟩, hin, hse⟩ := cw
  obtain ⟨hx, hb, hml, ho, -⟩ := S
  obtain ⟨-, ⟨cellB, hcB, hoB, hclB⟩, hPc⟩ := hp
  intro T hT X
  rcases vx_callV X hx (C := C) (bytes := bytes) (maxL := maxL) (ret := ret) ho hl hin hse hcode hy hK (by rw [hT]; exact hcB) hoB hclB hg (hsize.trans hml.symm) (argsL := As) (rest := rest) (fun sig h => hn.trans (hlen sig h)) hstack hW (by rw [hb]; exact hdg)
    (fun vm₁ hW₁ => ⟨hf.1, hf.2, hPc (T.setVm vm₁) hT hW₁⟩) with ⟨v, vm₁, ⟨U', l2, c2, s2⟩, hW₁, X', ⟨g', mk, t, L, e1, e2, hq, h1, hL, h2, h3⟩, st⟩ | ⟨q, vm₁, ⟨U', l2, c2, s2⟩, hW₁, X', ⟨g', mk, t, L, E, ce, e1, e2, hq, hce, hcv, hcl, h1, hL, h2, h3⟩, st⟩
  · dsimp only [Pt.U, Pt.locs, Pt.cells, Pt.slots] at X' e1 e2 h1 h2 h3 st
    subst h1; subst h2; subst h3
    exact Or.inl ⟨v, (T.setVm vm₁).calling g' mk (Value.ref b :: As).toArray, t, U', L, hT, X', hL, e1, e2, hq, st⟩
  · dsimp only [Pt.U, Pt.locs, Pt.cells, Pt.slots] at X' e1 e2 h1 h2 h3 st hcl
    subst h1; subst h2; subst h3
    exact Or.inr ⟨q, (T.setVm vm₁).calling g' mk (Value.ref b :: As).toArray, t, U', L, E, ce, hT, X', hL, e1, e2, hq, hce, hcv, vx_cls hW₁ hcl, st⟩
theorem vx_runS (S : CallFix p m c cc nL s args Ts own) (hM : vx_Met l y ws rm Pc Qc XC mc ms free) (cw : CallB R s args own index y bytes maxL ret ws rm mc ms n ∧ (Cond.static y).before args s = true) (hp : PreS s H Pc As)
    (hg : g.method = m) (hn : As.length = n) (hsize : g.locals.size = nL) (hstack : g.stack = As.reverse ++ rest) (hW : 2 * g.monitorRoom + (rest.map fun v => v.category).sum ≤ 8) (hdg : decode cc g.pc = .ok (.invokestatic index, 3)) (hf : cells + mc ≤ R.cells ∧ slots + ms ≤ R.slots) :
    vx_Run p l e R s m args below meth c H locs cells slots mc ms g rest (Qc As.toArray) XC free := by
  have hK : vx_Back l R p e below s args y 3 8 (PreOf R mc ms Pc) (PostOf Qc mc ms free) (vx_Post XC mc ms free) := vx_callBack cw.1 hM hp.1
  obtain ⟨⟨-, -, -, -, -, -, hcode, hini, hy, hlen, hl⟩, hstt⟩ := cw
  obtain ⟨hx, hb, hml, ho, -⟩ := S
  intro T hT X
  rcases vx_callS X hx (bytes := bytes) (maxL := maxL) (ret := ret) ho hl hstt hini hcode hy hK hg (hsize.trans hml.symm) (argsL := As) (rest := rest) (fun sig h => hn.trans (hlen sig h)) hstack hW (by rw [hb]; exact hdg)
    (fun vm₁ hW₁ => ⟨hf.1, hf.2, hp.2 (T.setVm vm₁) hT hW₁⟩) with ⟨v, vm₁, ⟨U', l2, c2, s2⟩, hW₁, X', ⟨g', mk, t, L, e1, e2, hq, h1, hL, h2, h3⟩, st⟩ | ⟨q, vm₁, ⟨U', l2, c2, s2⟩, hW₁, X', ⟨g', mk, t, L, E, ce, e1, e2, hq, hce, hcv, hcl, h1, hL, h2, h3⟩, st⟩
  · dsimp only [Pt.U, Pt.locs, Pt.cells, Pt.slots] at X' e1 e2 h1 h2 h3 st
    subst h1; subst h2; subst h3
    exact Or.inl ⟨v, (T.setVm vm₁).calling g' mk As.toArray, t, U', L, hT, X', hL, e1, e2, hq, st⟩
  · dsimp only [Pt.U, Pt.locs, Pt.cells, Pt.slots] at X' e1 e2 h1 h2 h3 st hcl
    subst h1; subst h2; subst h3
    exact Or.inr ⟨q, (T.setVm vm₁).calling g' mk As.toArray, t, U', L, E, ce, hT, X', hL, e1, e2, hq, hce, hcv, vx_cls hW₁ hcl, st⟩
end Runs
section Rows
variable {p : Program} {l : Launch} {e : Env} {R : Room} {s : State} {m : MethodId} {args : Array Value} {below : List Frame} {meth : Method} {c : Code} {H : Heap} {locs : List Loc} {cells slots : Nat} {Q : State → Prop}
variable {mc ms : Nat} {free : Addr → Prop} {A0 A1 : Nat → Prop} {H0 : Heap} {a : Array Value} {pc : Nat} {ls : Array Slot} {st0 rest : List Value}
theorem vx_keep {st₀ t T' : State} {L : List Loc} (h0 : st₀.heap = H) (e1 : T'.heap = t.heap) (hS : va_S A0 H0 H locs) (hA : ∀ q, q < H.size → A1 q → A0 q) (hf : ∀ q, free q → A0 q) (hL : ∀ q ∈ L, free q.base) (hF : va_F A1 st₀ t) :
    H.size ≤ T'.heap.size ∧ (∀ q : Nat, q < H.size → ¬ A1 q → T'.heap[q]? = H[q]?) ∧ va_S A0 H0 T'.heap (locs ++ L) := by
  obtain ⟨hz, hk⟩ := hF
  rw [h0] at hz hk
  exact ⟨by rw [e1]; exact hz, fun q h1 h2 => by rw [e1]; exact hk q h1 h2,
    ⟨Nat.le_trans hS.1 (by rw [e1]; exact hz), fun q h1 h2 => by rw [e1, hk q (Nat.lt_of_lt_of_le h1 hS.1) (fun z => h2 (hA q (Nat.lt_of_lt_of_le h1 hS.1) z))]; exact hS.2.1 q h1 h2, fun q hq => by
      rcases List.mem_append.mp hq with h | h
      · exact hS.2.2 q h
      · exact hf _ (hL q h)⟩⟩
theorem vx_calli {S SX : Type} {post : Int32 → S → Prop} {px : SX → Prop} {B : S → State → Prop} {BX : String → SX → State → Prop} {AX : Nat → Prop} (hr : vx_Run p l e R s m args below meth c H locs cells slots mc ms (F0 m pc ls st0) rest (va_Qi post B A1 a) (vx_X px BX AX) free) (hS : va_S A0 H0 H locs) (hA : ∀ q, q < H.size → A1 q → A0 q) (hf : ∀ q, free q → A0 q) (hAX : ∀ q, q < H.size → AX q → A0 q)
    (kx : ∀ (E : String) (ce : Cell) (q9 : Addr) (u : SX) (t : State) (H1 : Heap) (locs1 : List Loc), t.heap = H1 → s.vm.Alike t.vm → px u → BX E u t → H.size ≤ H1.size → (∀ q : Nat, q < H.size → ¬ AX q → H1[q]? = H[q]?) → va_S A0 H0 H1 locs1 → H1[q9]? = some ce → ce.vm = .none → s.vm.findClass E = some ce.cls → vx_W p l e R s m args below meth c H1 locs1 (cells + mc) (slots + ms) Q (F0 m pc ls rest) q9)
    (kk : ∀ (r : Int32) (u : S) (t : State) (H1 : Heap) (locs1 : List Loc), t.heap = H1 → s.vm.Alike t.vm → post r u → B u t → H.size ≤ H1.size → (∀ q : Nat, q < H.size → ¬ A1 q → H1[q]? = H[q]?) → va_S A0 H0 H1 locs1 → W p l e R s m args below meth c H1 locs1 (cells + mc) (slots + ms) Q (F0 m (pc + 3) ls (.int r :: rest))) : W p l e R s m args below meth c H locs cells slots Q (F0 m pc ls st0) := by
  intro T hT X
  rcases hr T hT X with ⟨v, st₀, t, T', L, h0, X', hL, e1, e2, ⟨⟨r, u, hv, hp, hb⟩, hF⟩, st⟩ | ⟨q, st₀, t, T', L, E, ce, h0, X', hL, e1, e2, ⟨u, hp, hb, hF⟩, hce, hcv, hcl, st⟩
  · cases hv
    obtain ⟨k1, k2, k3⟩ := vx_keep h0 e1 hS hA hf hL hF
    obtain ⟨t2, a1, b1⟩ := kk r u t T'.heap (locs ++ L) e1.symm (by rw [← e2]; exact X'.warmed.alike) hp hb k1 k2 k3 T' rfl X'
    exact ⟨t2, st t2 a1, b1⟩
  · obtain ⟨k1, k2, k3⟩ := vx_keep h0 e1 hS hAX hf hL hF
    obtain ⟨t2, a1, b1⟩ := kx E ce q u t T'.heap (locs ++ L) e1.symm (by rw [← e2]; exact X'.warmed.alike) hp hb k1 k2 k3 (by rw [e1]; exact hce) hcv hcl T' rfl X'
    exact ⟨t2, st.trans a1, b1⟩
theorem vx_calll {S SX : Type} {post : Int64 → S → Prop} {px : SX → Prop} {B : S → State → Prop} {BX : String → SX → State → Prop} {AX : Nat → Prop} (hr : vx_Run p l e R s m args below meth c H locs cells slots mc ms (F0 m pc ls st0) rest (va_Ql post B A1 a) (vx_X px BX AX) free) (hS : va_S A0 H0 H locs) (hA : ∀ q, q < H.size → A1 q → A0 q) (hf : ∀ q, free q → A0 q) (hAX : ∀ q, q < H.size → AX q → A0 q)
    (kx : ∀ (E : String) (ce : Cell) (q9 : Addr) (u : SX) (t : State) (H1 : Heap) (locs1 : List Loc), t.heap = H1 → s.vm.Alike t.vm → px u → BX E u t → H.size ≤ H1.size → (∀ q : Nat, q < H.size → ¬ AX q → H1[q]? = H[q]?) → va_S A0 H0 H1 locs1 → H1[q9]? = some ce → ce.vm = .none → s.vm.findClass E = some ce.cls → vx_W p l e R s m args below meth c H1 locs1 (cells + mc) (slots + ms) Q (F0 m pc ls rest) q9)
    (kk : ∀ (r : Int64) (u : S) (t : State) (H1 : Heap) (locs1 : List Loc), t.heap = H1 → s.vm.Alike t.vm → post r u → B u t → H.size ≤ H1.size → (∀ q : Nat, q < H.size → ¬ A1 q → H1[q]? = H[q]?) → va_S A0 H0 H1 locs1 → W p l e R s m args below meth c H1 locs1 (cells + mc) (slots + ms) Q (F0 m (pc + 3) ls (.long r :: rest))) : W p l e R s m args below meth c H locs cells slots Q (F0 m pc ls st0) := by
  intro T hT X
  rcases hr T hT X with ⟨v, st₀, t, T', L, h0, X', hL, e1, e2, ⟨⟨r, u, hv, hp, hb⟩, hF⟩, st⟩ | ⟨q, st₀, t, T', L, E, ce, h0, X', hL, e1, e2, ⟨u, hp, hb, hF⟩, hce, hcv, hcl, st⟩
  · cases hv
    obtain ⟨k1, k2, k3⟩ := vx_keep h0 e1 hS hA hf hL hF
    obtain ⟨t2, a1, b1⟩ := kk r u t T'.heap (locs ++ L) e1.symm (by rw [← e2]; exact X'.warmed.alike) hp hb k1 k2 k3 T' rfl X'
    exact ⟨t2, st t2 a1, b1⟩
  · obtain ⟨k1, k2, k3⟩ := vx_keep h0 e1 hS hAX hf hL hF
    obtain ⟨t2, a1, b1⟩ := kx E ce q u t T'.heap (locs ++ L) e1.symm (by rw [← e2]; exact X'.warmed.alike) hp hb k1 k2 k3 (by rw [e1]; exact hce) hcv hcl T' rfl X'
    exact ⟨t2, st.trans a1, b1⟩
theorem vx_callf {S SX : Type} {post : UInt32 → S → Prop} {px : SX → Prop} {B : S → State → Prop} {BX : String → SX → State → Prop} {AX : Nat → Prop} (hr : vx_Run p l e R s m args below meth c H locs cells slots mc ms (F0 m pc ls st0) rest (va_Qf post B A1 a) (vx_X px BX AX) free) (hS : va_S A0 H0 H locs) (hA : ∀ q, q < H.size → A1 q → A0 q) (hf : ∀ q, free q → A0 q) (hAX : ∀ q, q < H.size → AX q → A0 q)
    (kx : ∀ (E : String) (ce : Cell) (q9 : Addr) (u : SX) (t : State) (H1 : Heap) (locs1 : List Loc), t.heap = H1 → s.vm.Alike t.vm → px u → BX E u t → H.size ≤ H1.size → (∀ q : Nat, q < H.size → ¬ AX q → H1[q]? = H[q]?) → va_S A0 H0 H1 locs1 → H1[q9]? = some ce → ce.vm = .none → s.vm.findClass E = some ce.cls → vx_W p l e R s m args below meth c H1 locs1 (cells + mc) (slots + ms) Q (F0 m pc ls rest) q9)
    (kk : ∀ (r : UInt32) (u : S) (t : State) (H1 : Heap) (locs1 : List Loc), t.heap = H1 → s.vm.Alike t.vm → post r u → B u t → H.size ≤ H1.size → (∀ q : Nat, q < H.size → ¬ A1 q → H1[q]? = H[q]?) → va_S A0 H0 H1 locs1 → W p l e R s m args below meth c H1 locs1 (cells + mc) (slots + ms) Q (F0 m (pc + 3) ls (.float r :: rest))) : W p l e R s m args below meth c H locs cells slots Q (F0 m pc ls st0) := by
  intro T hT X
  rcases hr T hT X with ⟨v, st₀, t, T', L, h0, X', hL, e1, e2, ⟨⟨r, u, hv, hp, hb⟩, hF⟩, st⟩ | ⟨q, st₀, t, T', L, E, ce, h0, X', hL, e1, e2, ⟨u, hp, hb, hF⟩, hce, hcv, hcl, st⟩
  · cases hv
    obtain ⟨k1, k2, k3⟩ := vx_keep h0 e1 hS hA hf hL hF
    obtain ⟨t2, a1, b1⟩ := kk r u t T'.heap (locs ++ L) e1.symm (by rw [← e2]; exact X'.warmed.alike) hp hb k1 k2 k3 T' rfl X'
    exact ⟨t2, st t2 a1, b1⟩
  · obtain ⟨k1, k2, k3⟩ := vx_keep h0 e1 hS hAX hf hL hF
    obtain ⟨t2, a1, b1⟩ := kx E ce q u t T'.heap (locs ++ L) e1.symm (by rw [← e2]; exact X'.warmed.alike) hp hb k1 k2 k3 (by rw [e1]; exact hce) hcv hcl T' rfl X'
    exact ⟨t2, st.trans a1, b1⟩
theorem vx_calld {S SX : Type} {post : UInt64 → S → Prop} {px : SX → Prop} {B : S → State → Prop} {BX : String → SX → State → Prop} {AX : Nat → Prop} (hr : vx_Run p l e R s m args below meth c H locs cells slots mc ms (F0 m pc ls st0) rest (va_Qd post B A1 a) (vx_X px BX AX) free) (hS : va_S A0 H0 H locs) (hA : ∀ q, q < H.size → A1 q → A0 q) (hf : ∀ q, free q → A0 q) (hAX : ∀ q, q < H.size → AX q → A0 q)
    (kx : ∀ (E : String) (ce : Cell) (q9 : Addr) (u : SX) (t : State) (H1 : Heap) (locs1 : List Loc), t.heap = H1 → s.vm.Alike t.vm → px u → BX E u t → H.size ≤ H1.size → (∀ q : Nat, q < H.size → ¬ AX q → H1[q]? = H[q]?) → va_S A0 H0 H1 locs1 → H1[q9]? = some ce → ce.vm = .none → s.vm.findClass E = some ce.cls → vx_W p l e R s m args below meth c H1 locs1 (cells + mc) (slots + ms) Q (F0 m pc ls rest) q9)
    (kk : ∀ (r : UInt64) (u : S) (t : State) (H1 : Heap) (locs1 : List Loc), t.heap = H1 → s.vm.Alike t.vm → post r u → B u t → H.size ≤ H1.size → (∀ q : Nat, q < H.size → ¬ A1 q → H1[q]? = H[q]?) → va_S A0 H0 H1 locs1 → W p l e R s m args below meth c H1 locs1 (cells + mc) (slots + ms) Q (F0 m (pc + 3) ls (.double r :: rest))) : W p l e R s m args below meth c H locs cells slots Q (F0 m pc ls st0) := by
  intro T hT X
  rcases hr T hT X with ⟨v, st₀, t, T', L, h0, X', hL, e1, e2, ⟨⟨r, u, hv, hp, hb⟩, hF⟩, st⟩ | ⟨q, st₀, t, T', L, E, ce, h0, X', hL, e1, e2, ⟨u, hp, hb, hF⟩, hce, hcv, hcl, st⟩
  · cases hv
    obtain ⟨k1, k2, k3⟩ := vx_keep h0 e1 hS hA hf hL hF
    obtain ⟨t2, a1, b1⟩ := kk r u t T'.heap (locs ++ L) e1.symm (by rw [← e2]; exact X'.warmed.alike) hp hb k1 k2 k3 T' rfl X'
    exact ⟨t2, st t2 a1, b1⟩
  · obtain ⟨k1, k2, k3⟩ := vx_keep h0 e1 hS hAX hf hL hF
    obtain ⟨t2, a1, b1⟩ := kx E ce q u t T'.heap (locs ++ L) e1.symm (by rw [← e2]; exact X'.warmed.alike) hp hb k1 k2 k3 (by rw [e1]; exact hce) hcv hcl T' rfl X'
    exact ⟨t2, st.trans a1, b1⟩
theorem vx_callv {S SX : Type} {post : S → Prop} {px : SX → Prop} {B : S → State → Prop} {BX : String → SX → State → Prop} {AX : Nat → Prop} (hr : vx_Run p l e R s m args below meth c H locs cells slots mc ms (F0 m pc ls st0) rest (va_Qv post B A1 a) (vx_X px BX AX) free) (hS : va_S A0 H0 H locs) (hA : ∀ q, q < H.size → A1 q → A0 q) (hf : ∀ q, free q → A0 q) (hAX : ∀ q, q < H.size → AX q → A0 q)
    (kx : ∀ (E : String) (ce : Cell) (q9 : Addr) (u : SX) (t : State) (H1 : Heap) (locs1 : List Loc), t.heap = H1 → s.vm.Alike t.vm → px u → BX E u t → H.size ≤ H1.size → (∀ q : Nat, q < H.size → ¬ AX q → H1[q]? = H[q]?) → va_S A0 H0 H1 locs1 → H1[q9]? = some ce → ce.vm = .none → s.vm.findClass E = some ce.cls → vx_W p l e R s m args below meth c H1 locs1 (cells + mc) (slots + ms) Q (F0 m pc ls rest) q9)
    (kk : ∀ (u : S) (t : State) (H1 : Heap) (locs1 : List Loc), t.heap = H1 → s.vm.Alike t.vm → post u → B u t → H.size ≤ H1.size → (∀ q : Nat, q < H.size → ¬ A1 q → H1[q]? = H[q]?) → va_S A0 H0 H1 locs1 → W p l e R s m args below meth c H1 locs1 (cells + mc) (slots + ms) Q (F0 m (pc + 3) ls (rest))) : W p l e R s m args below meth c H locs cells slots Q (F0 m pc ls st0) := by
  intro T hT X
  rcases hr T hT X with ⟨v, st₀, t, T', L, h0, X', hL, e1, e2, ⟨⟨u, hv, hp, hb⟩, hF⟩, st⟩ | ⟨q, st₀, t, T', L, E, ce, h0, X', hL, e1, e2, ⟨u, hp, hb, hF⟩, hce, hcv, hcl, st⟩
  · cases hv
    obtain ⟨k1, k2, k3⟩ := vx_keep h0 e1 hS hA hf hL hF
    obtain ⟨t2, a1, b1⟩ := kk u t T'.heap (locs ++ L) e1.symm (by rw [← e2]; exact X'.warmed.alike) hp hb k1 k2 k3 T' rfl X'
    exact ⟨t2, st t2 a1, b1⟩
  · obtain ⟨k1, k2, k3⟩ := vx_keep h0 e1 hS hAX hf hL hF
    obtain ⟨t2, a1, b1⟩ := kx E ce q u t T'.heap (locs ++ L) e1.symm (by rw [← e2]; exact X'.warmed.alike) hp hb k1 k2 k3 (by rw [e1]; exact hce) hcv hcl T' rfl X'
    exact ⟨t2, st.trans a1, b1⟩
end Rows
section Ends
variable {p : Program} {l : Launch} {e : Env} {R : Room} {s : State} {m : MethodId} {args : Array Value} {below : List Frame} {meth : Method} {c : Code} {H : Heap} {locs : List Loc} {cells slots : Nat} {Q : State → Prop}
variable {mc ms : Nat} {free : Addr → Prop} {A0 A1 : Nat → Prop} {H0 : Heap} {a : Array Value} {ls : Array Slot} {st0 rest : List Value}
variable {Qc : Array Value → State → Outcome → State → Prop} {XC : String → State → State → Prop}
/-- what a body that may throw owes at its end -/
def vx_MQ (below : List Frame) (Qc : Array Value → State → Outcome → State → Prop) (XC : String → State → State → Prop) (a : Array Value) (s : State) (mc ms : Nat) (free : Addr → Prop) : State → Prop := fun t =>
  ∃ o, t.status = .running ∧ Ended t below o ∧ vx_Q Qc XC mc ms free a s o t
theorem vx_ret {g : JFrame} {mc ms : Nat} (k : W p l e R s m args below meth c H locs cells slots (MQ below Qc args s mc ms free) g) : W p l e R s m args below meth c H locs cells slots (vx_MQ below Qc XC args s mc ms free) g := by
  intro T hT X
  obtain ⟨t, a1, o, b1, b2, b3, b4⟩ := k T hT X
  exact ⟨t, a1, o, b1, b2, Or.inl ⟨b3, b4⟩⟩
/-- not caught here: it goes on to the caller -/
theorem vx_widen {g : JFrame} {q : Addr} {k n : Nat} (h1 : cells ≤ k) (h2 : slots ≤ n) (kk : vx_W p l e R s m args below meth c H locs k n Q g q) : vx_W p l e R s m args below meth c H locs cells slots Q g q := fun T hT X => kk T hT (stand_widen X h1 h2)
theorem vx_out {pc : Nat} {E : String} {ce : Cell} {q : Addr} {mc ms : Nat} (hout : ∀ x ∈ c.exceptionTable.toList, covers x pc = false) (hlocks : meth.locks = false) (hcell : H[q]? = some ce) (hv : ce.vm = .none) (hcl : s.vm.findClass E = some ce.cls)
    (hx : ∀ t : State, t.heap = H → s.vm.Alike t.vm → XC E s t) (hf : ∀ z ∈ locs, free z.base) (hc : cells ≤ mc) (hs : slots ≤ ms) :
    vx_W p l e R s m args below meth c H locs cells slots (vx_MQ below Qc XC args s mc ms free) (F0 m pc ls rest) q := by
  intro T hT X
  obtain ⟨st1, hrun, hend, hW, hsm⟩ := X.leaveThrown q (g := F0 m pc ls rest) rfl rfl rfl hout hlocks
  have hcell9 : (T.setFrames (.throwing q :: below)).heap[q]? = some ce := by
    show T.heap[q]? = some ce
    rw [hT]; exact hcell
  exact ⟨_, st1, .threw q, hrun, hend, Or.inr ⟨q, rfl, E, ce, locs, hx _ hT hW.alike, hcell9, hv, hcl, hW, hsm.mono hc hs, hf⟩⟩
theorem vx_frame {U : State} {k n : Nat} (h : s.sameButNew ({ U with vm := s.vm } : State) locs k n) : s.heap.size ≤ U.heap.size ∧ ∀ q : Nat, q < s.heap.size → (∀ z ∈ locs, z.base ≠ q) → U.heap[q]? = s.heap[q]? := by
  obtain ⟨-, h2, -, -, -, h6⟩ := h
  refine ⟨h2, fun q hq hz => ?_⟩
  obtain ⟨c9, e1, e2, e3, e4⟩ := h6 q _ (Array.getElem?_eq_getElem hq)
  have hs : c9.slots = (s.heap[q]).slots := Array.ext_getElem? fun i => e4 i fun hm => hz _ hm rfl
  have h9 : c9 = s.heap[q] := by
    rw [hs] at e2
    exact e2
  have e5 : U.heap[q]? = some c9 := e1
  rw [e5, h9, Array.getElem?_eq_getElem hq]
/-- the words of a throw but the four that speak of the heap -/
def vx_no (w : Cond) : Bool := decide (w ≠ .isRef (.static Bundle.tN "UNASSIGNED_STACK" Bundle.steD)) && decide (w ≠ .isRef (.static Bundle.tN "SUPPRESSED_SENTINEL" Bundle.listD)) && decide (w ≠ .laysStatic Bundle.tN "UNASSIGNED_STACK" Bundle.steD) && decide (w ≠ .laysStatic Bundle.tN "SUPPRESSED_SENTINEL" Bundle.listD)
def vx_at0 (own : String) (ic : Nat) (X : String) (names : List String) : List Cond := (Bundle.ownAtoms0 own ic X names).filter vx_no
def vx_atS (own : String) (ic : Nat) (X : String) (names : List String) : List Cond := (Bundle.ownAtoms own ic X names).filter vx_no
/-- a word that the tables alone decide, or a good one -/
def vx_ot (w : Cond) : Bool := w.onTables || goodWord w
theorem vx_ot_at {args a' : Array Value} {s U : State} {w : Cond} (hW : s.WarmedH U.vm) (hvm : s.vm = U.vm) (hg : vx_ot w = true) (h : w.before args s = true) : w.before a' U = true := by
  simp only [vx_ot, Bool.or_eq_true] at hg
  rcases hg with hg | hg
  · exact va_tabs hg hvm h
  · exact word_at hW (good_of_word hg) h
/-- a list's words: the good ones out of the method's own list, the others by premises of their own -/
theorem vx_hat {args : Array Value} {s : State} {L B : List Cond} (h1 : ∀ w ∈ L.filter goodWord, w.before args s = true) (h2 : ∀ w ∈ L.filter (fun w => !goodWord w), w ∈ B) (h3 : ∀ w ∈ B, w.before args s = true) : ∀ w ∈ L, w.before args s = true := by
  intro w hw
  by_cases g : goodWord w = true
  · exact h1 w (List.mem_filter.mpr ⟨hw, g⟩)
  · refine h3 w (h2 w (List.mem_filter.mpr ⟨hw, ?_⟩))
    show (!goodWord w) = true
    cases hgw : goodWord w
    · rfl
    · exact absurd hgw g
theorem vx_c {args : Array Value} {s : State} {w : Cond} {B : List Cond} (h : w.before args s = true) (t : ∀ w ∈ B, w.before args s = true) : ∀ w' ∈ w :: B, w'.before args s = true := fun w' h' => (List.mem_cons.mp h').elim (fun e => by rw [e]; exact h) (t w')
theorem vx_n {args : Array Value} {s : State} : ∀ w ∈ ([] : List Cond), w.before args s = true := fun _ h => nomatch h
theorem vx_own {args : Array Value} {s : State} {L : List Cond} (h1 : ∀ w ∈ L.filter vx_no, w.before args s = true)
    (hU : (Cond.isRef (.static Bundle.tN "UNASSIGNED_STACK" Bundle.steD)).before args s = true) (hN : (Cond.isRef (.static Bundle.tN "SUPPRESSED_SENTINEL" Bundle.listD)).before args s = true)
    (lU : (Cond.laysStatic Bundle.tN "UNASSIGNED_STACK" Bundle.steD).before args s = true) (lN : (Cond.laysStatic Bundle.tN "SUPPRESSED_SENTINEL" Bundle.listD).before args s = true) : ∀ w ∈ L, w.before args s = true := by
  intro w hw
  by_cases e1 : w = .isRef (.static Bundle.tN "UNASSIGNED_STACK" Bundle.steD)
  · rw [e1]; exact hU
  · by_cases e2 : w = .isRef (.static Bundle.tN "SUPPRESSED_SENTINEL" Bundle.listD)
    · rw [e2]; exact hN
    · by_cases e3 : w = .laysStatic Bundle.tN "UNASSIGNED_STACK" Bundle.steD
      · rw [e3]; exact lU
      · by_cases e4 : w = .laysStatic Bundle.tN "SUPPRESSED_SENTINEL" Bundle.listD
        · rw [e4]; exact lN
        · exact h1 w (List.mem_filter.mpr ⟨hw, by unfold vx_no; rw [decide_eq_true e1, decide_eq_true e2, decide_eq_true e3, decide_eq_true e4]; rfl⟩)
/-- where a static field lies, its class's statics cell in H -/
def vx_L (C n d : String) (A : Nat → Prop) (U : State) (H : Heap) : Prop := ∃ (c : ClassId) (k : Class) (i : Nat) (f : Field) (a : Nat) (cell : Cell), U.vm.findClass C = some c ∧ U.fieldFound? C n d = some (c, k, i, f) ∧ f.isStatic = true ∧ k.statics = some a ∧ H[a]? = some cell ∧ cell.vm.isStatics = true ∧ cell.cls = c ∧ f.slot < cell.slots.size ∧ k.staticTypes[f.slot]? = some f.type ∧ ¬ A a
theorem vx_L.moved {C n d : String} {A : Nat → Prop} {u U : State} {H : Heap} (hvm : u.vm.Alike U.vm) (h : vx_L C n d A u H) : vx_L C n d A U H := by
  obtain ⟨c, k, i, f, a, cell, h1, h2, h3, h4, h5, h6, h7, h8, h9, h10⟩ := h
  obtain ⟨k', hi', he⟩ := State.fieldFound?_setVm hvm h2
  exact ⟨c, k', i, f, a, cell, by rw [hvm.findClass]; exact h1, hi', h3, by rw [he]; exact h4, h5, h6, h7, h8, by rw [he]; exact h9, h10⟩
theorem vx_L.kept {C n d : String} {A : Nat → Prop} {U : State} {H H1 : Heap} (h : vx_L C n d A U H) (hq : ∀ a : Nat, a < H.size → ¬ A a → H1[a]? = H[a]?) : vx_L C n d A U H1 := by
  obtain ⟨c, k, i, f, a, cell, h1, h2, h3, h4, h5, h6, h7, h8, h9, h10⟩ := h
  exact ⟨c, k, i, f, a, cell, h1, h2, h3, h4, by rw [hq a (Array.getElem?_eq_some_iff.mp h5).1 h10]; exact h5, h6, h7, h8, h9, h10⟩
theorem vx_L.narrow {C n d : String} {A B : Nat → Prop} {U : State} {H : Heap} (h : vx_L C n d A U H) (hAB : ∀ q, B q → A q) : vx_L C n d B U H := by
  obtain ⟨c, k, i, f, a, cell, h1, h2, h3, h4, h5, h6, h7, h8, h9, h10⟩ := h
  exact ⟨c, k, i, f, a, cell, h1, h2, h3, h4, h5, h6, h7, h8, h9, fun z => h10 (hAB _ z)⟩
theorem vx_L.word {C n d : String} {A : Nat → Prop} {s : State} {args : Array Value} (h : vx_L C n d A s s.heap) : (Cond.laysStatic C n d).before args s = true := by
  obtain ⟨c, k, i, f, a, cell, h1, h2, h3, h4, h5, h6, h7, h8, h9, -⟩ := h
  show (Cond.laysStatic C n d).holds args s none s [] = true
  exact Cond.laysStatic_of h1 h2 h3 h4 h5 h6 h7 h8 h9
/-- .. and what it holds: null or some reference -/
def vx_Zq (C n d : String) (A : Nat → Prop) (U : State) (H : Heap) : Prop := va_Zq C n d A U H ∧ vx_L C n d A U H
theorem vx_Zq.moved {C n d : String} {A : Nat → Prop} {u U : State} {H : Heap} (hvm : u.vm.Alike U.vm) (h : vx_Zq C n d A u H) : vx_Zq C n d A U H := ⟨va_Zq.moved hvm h.1, vx_L.moved hvm h.2⟩
theorem vx_Zq.kept {C n d : String} {A : Nat → Prop} {U : State} {H H1 : Heap} (h : vx_Zq C n d A U H) (hq : ∀ a : Nat, a < H.size → ¬ A a → H1[a]? = H[a]?) : vx_Zq C n d A U H1 := ⟨va_Zq.kept h.1 hq, vx_L.kept h.2 hq⟩
theorem vx_Zq.narrow {C n d : String} {A B : Nat → Prop} {U : State} {H : Heap} (h : vx_Zq C n d A U H) (hAB : ∀ q, B q → A q) : vx_Zq C n d B U H := ⟨va_Zq.narrow h.1 hAB, vx_L.narrow h.2 hAB⟩
theorem vx_Zqof {args : Array Value} {s : State} {C n d : String} {A : Nat → Prop} (hl : (Cond.laysStatic C n d).before args s = true) (hini : (Cond.initialized C).before args s = true) (h : (Cond.isRef (.static C n d)).before args s = true) (hA : ∀ a : Nat, a < s.heap.size → ¬ A a) : vx_Zq C n d A s s.heap := by
  refine ⟨va_Zqof hl hini h hA, ?_⟩
  obtain ⟨c, k, i, f, a, cell, h1, h2, h3, h4, h5, h6, h7, h8, h9⟩ := Cond.laysStatic_spec hl
  exact ⟨c, k, i, f, a, cell, h1, h2, h3, h4, h5, h6, h7, h8, h9, hA a (Array.getElem?_eq_some_iff.mp h5).1⟩
theorem vx_isRef {C n d : String} {v : Value} {A : Nat → Prop} {s : State} {args : Array Value} (h : va_Z C n d v A s s.heap) (hv : v.isRef = true) : (Cond.isRef (.static C n d)).before args s = true := by
  obtain ⟨cf, kf, fi, f, a, cell, h1, h2, h3, h4, h5, h6, h7, -⟩ := h
  have he : (Term.static C n d).eval args s none [] s = some v := by
    simp [Term.eval, State.fieldNamed?, h1, h2, h4, h5, h6, h7]
  simp only [Cond.before, Cond.holds, Cond.value, he]
  cases v <;> simp_all [Value.isRef]
theorem vx_isRefq {C n d : String} {A : Nat → Prop} {s : State} {args : Array Value} (h : va_Zq C n d A s s.heap) : (Cond.isRef (.static C n d)).before args s = true := by
  rcases h with h | ⟨t, h⟩
  · exact vx_isRef h rfl
  · exact vx_isRef h rfl
/-- the same frame, seen from here: as if the method were called anew in this heap -/
theorem vx_rebase {T : State} (X : Stand p l e R s m args below meth c T locs cells slots) {R' : Room} (hf : R'.frames ≤ R.frames) (hl : R'.locals ≤ R.locals) (hc : cells + R'.cells ≤ R.cells) (hs : slots + R'.slots ≤ R.slots) :
    Stand p l e R' ((T.setVm s.vm).setFrames (.invoking m args :: below)) m args below meth c T [] 0 0 := by
  have htop : (T.setVm s.vm).topJava?.isSome := X.here.top
  have hF : ((T.setVm s.vm).setFrames (.invoking m args :: below)).frames = .invoking m args :: below := State.frames_setFrames _ (State.cur_lt_of_top htop)
  obtain ⟨g₀, hg0⟩ := Option.isSome_iff_exists.mp htop
  obtain ⟨r, hr⟩ := State.topJava?_eq_some.mp hg0
  have hl9 : e.platform.stackLimits (T.setVm s.vm).me = e.platform.stackLimits s.me := X.limits
  have hb9 : (T.setVm s.vm).me.stackBytes = s.me.stackBytes := X.bytes
  refine ⟨X.admits, X.cas, X.clock, hF, ?_, X.hears, X.method, X.code, X.here, X.tail, X.warmed, ?_, ?_, ?_⟩
  · have h := X.room
    have hU : ((T.setVm s.vm).setFrames (.invoking m args :: below)).localsInUse = s.localsInUse := by
      rw [State.localsInUse_invoking hF (meth := meth) (c := c) X.method X.code, State.localsInUse_invoking X.frames X.method X.code]
    simp only [State.hasRoom, Bool.and_eq_true, decide_eq_true_eq] at h ⊢
    obtain ⟨⟨⟨⟨h1, h2, h3, h4, h5, h6⟩, h7⟩, h8⟩, h9⟩ := h
    rw [X.frames, List.length_cons] at h2 h3
    have q1 := X.heapSize
    have q2 := X.used
    simp only [hF, hU, List.length_cons, State.stackLimits_setFrames, State.stackBytes_setFrames, hl9, hb9]
    refine ⟨⟨⟨⟨by omega, by omega, by omega, by omega, by omega, h6⟩, ?_⟩, ?_⟩, X.book⟩
    · show T.heap.size + R'.cells ≤ e.platform.maxCells
      omega
    · show T.slotsUsed + R'.slots ≤ e.platform.maxSlots
      omega
  · rw [State.stackLimits_setFrames]; rfl
  · rw [State.stackBytes_setFrames]; rfl
  · refine ⟨?_, Nat.le_refl _, Nat.le_refl _, ?_, ?_, fun a c9 h9 => ⟨c9, h9, rfl, rfl, fun _ _ => rfl⟩⟩
    · obtain ⟨t, ht, -⟩ := State.frames_cons hr
      show T.setVm s.vm = { ((T.setVm s.vm).setFrames (.invoking m args :: below)).setFrames (T.setVm s.vm).frames with heap := T.heap, slotsUsed := T.slotsUsed }
      rw [State.setFrames_setFrames, State.setFrames_self ht]
      rfl
    · show T.slotsUsed = T.slotsUsed + ((T.heap.toList.drop T.heap.size).map (·.slots.size)).sum
      rw [List.drop_eq_nil_of_le (Nat.le_of_eq Array.length_toList)]
      rfl
    · show ((T.heap.toList.drop T.heap.size).map (·.slots.size)).sum ≤ 0
      rw [List.drop_eq_nil_of_le (Nat.le_of_eq Array.length_toList)]
      exact Nat.le_refl _
/-- 'throw new E()': new; dup; invokespecial; athrow -/
theorem vx_throw0 {cc : ByteArray} {pc : Nat} (hexec : p.tables.exec = Jvm.exec) (hb : c.code = cc) (hl : l.stackTraces = false) {own cls : String} {names : List String} {ik ic mc ms : Nat} {A : Nat → Prop}
    (hown : s.vm.findClass own = some m.cls) (hcls : Bundle.fit cls = true) (hnames : ∀ n ∈ names, Bundle.fit n = true)
    (hk : (Cond.classLink own ik cls).before args s = true) (hini : (Cond.initialized cls).before args s = true) (hat : ∀ w ∈ vx_at0 own ic cls names, w.before args s = true)
    (hgood : ∀ w ∈ Cond.classLink own ik cls :: Cond.initialized cls :: vx_at0 own ic cls names, vx_ot w = true)
    (hU : vx_Zq Bundle.tN "UNASSIGNED_STACK" Bundle.steD A s s.heap) (hN : vx_Zq Bundle.tN "SUPPRESSED_SENTINEL" Bundle.listD A s s.heap) (hS : va_S A s.heap H locs) (hsize : ls.size = c.maxLocals)
    (d0 : decode cc pc = .ok (.new ik, 3)) (d3 : decode cc (pc + 3) = .ok (.dup, 1)) (d4 : decode cc (pc + 4) = .ok (.invokespecial ic, 3)) (d7 : decode cc (pc + 7) = .ok (.athrow, 1))
    (hout : ∀ x ∈ c.exceptionTable.toList, covers x (pc + 7) = false)
    (hRframes : names.length + 3 < R.frames) (hRlocals : (rest.map fun v => v.category).sum + (13 * (names.length + 1) + 42) ≤ R.locals) (hRcells : cells + 1 ≤ R.cells) (hRslots : slots + 6 ≤ R.slots) (hlocks : meth.locks = false)
    (hx : ∀ t : State, s.vm.Alike t.vm → H.size ≤ t.heap.size → (∀ q : Nat, q < H.size → t.heap[q]? = H[q]?) → XC cls s t)
    (hf : ∀ z ∈ locs, free z.base) (hc : cells + 1 ≤ mc) (hs : slots + 6 ≤ ms) :
    W p l e R s m args below meth c H locs cells slots (vx_MQ below Qc XC args s mc ms free) (F0 m pc ls rest) := by
  intro T hT X
  have htr : e.platform.stackTraces = false := (show e.platform.stackTraces = l.stackTraces by rw [X.admits.platform]).trans hl
  have Y := vx_rebase X (R' := { frames := R.frames, locals := R.locals, cells := 1, slots := 6 }) (Nat.le_refl _) (Nat.le_refl _) hRcells hRslots
  obtain ⟨s', hA⟩ : ∃ z, z = (T.setVm s.vm).setFrames (.invoking m args :: below) := ⟨_, rfl⟩
  rw [← hA] at Y
  have hvm : s'.vm = s.vm := by rw [hA]; rfl
  have hhp : s'.heap = H := by rw [hA]; exact hT
  have hW0 : s.WarmedH s'.vm := by rw [hvm]; exact State.WarmedH.refl s
  have hat' : ∀ w ∈ vx_at0 own ic cls names, w.before args s' = true := fun w hw => vx_ot_at hW0 hvm.symm (hgood w (List.mem_cons_of_mem _ (List.mem_cons_of_mem _ hw))) (hat w hw)
  have hk' : (Cond.classLink own ik cls).before args s' = true := vx_ot_at hW0 hvm.symm (hgood _ List.mem_cons_self) hk
  have hini' : (Cond.initialized cls).before args s' = true := vx_ot_at hW0 hvm.symm (hgood _ (List.mem_cons_of_mem _ List.mem_cons_self)) hini
  have hU' : vx_Zq Bundle.tN "UNASSIGNED_STACK" Bundle.steD A s' s'.heap := by rw [hhp]; exact vx_Zq.moved hW0.alike (hU.kept hS.2.1)
  have hN' : vx_Zq Bundle.tN "SUPPRESSED_SENTINEL" Bundle.listD A s' s'.heap := by rw [hhp]; exact vx_Zq.moved hW0.alike (hN.kept hS.2.1)
  have h : ∀ w ∈ Bundle.ownAtoms0 own ic cls names, w.before args s' = true := vx_own hat' (vx_isRefq hU'.1) (vx_isRefq hN'.1) hU'.2.word hN'.2.word
  have hown' : s'.vm.findClass own = some m.cls := by rw [hvm]; exact hown
  have hins : (Cond.instantiable cls 6).before args s' = true := h _ (by simp [Bundle.ownAtoms0])
  obtain ⟨vm₁, cX, kX, hfX, hkX, -, -, X₁, st1⟩ := Y.newCold hexec (own := own) (C := cls) (index := ik) (n := 6) hown' hk' hins hini'
    (g := F0 m pc ls rest) rfl (by rw [hb]; exact d0) (Nat.le_refl _) (Nat.le_refl _)
  generalize hT1 : (T.setVm vm₁).pushCell { cls := cX, slots := kX.instanceTypes.map defaultValue, vm := .none } = T1 at X₁ st1
  have hcat : (Value.ref T.heap.size).category = 1 := rfl
  have hcellA : T1.heap[T.heap.size]? = some (freshCell cX kX) := by rw [← hT1]; exact State.heap_pushCell_size _ _
  have d3' : decode c.code (pc + 3) = .ok (.dup, 1) := by rw [hb]; exact d3
  obtain ⟨U, hsteps, hrun, hend, hW, hsame, ce, hce, hO⟩ := X₁.ctorThrow0 hexec htr (own := own) (cls := cls) (names := names) (ic := ic) hown' hcls hnames h (fun x hx => nomatch hx) hfX hkX hcellA (by rw [hhp, hT]; exact Nat.le_refl _)
    (g := { method := m, pc := pc + 4, locals := ls, stack := .ref T.heap.size :: .ref T.heap.size :: rest, locked := none }) rfl hsize rfl rfl (rest := rest) rfl
    (by rw [hb]; exact d4) (by rw [hb]; exact d7) hout hRframes (by simp only [List.map_cons, List.sum_cons, hcat]; omega) hlocks
  obtain ⟨f1, f2⟩ := vx_frame hsame
  rw [hhp] at f1 f2
  have hWs : s.WarmedH U.vm := State.WarmedH.trans hW0 hW
  have hcl : s.vm.findClass cls = some ce.cls := by
    have h9 := hO.cls
    rw [hvm] at h9
    exact h9
  have hall : s.sameButNew ({ U with vm := s.vm } : State) locs mc ms := by
    subst hA
    obtain ⟨e1, e2⟩ := hsame
    rw [State.setFrames_setFrames] at e1
    have h2 : (T.setVm s.vm).sameButNew ({ U with vm := s.vm } : State) [] (0 + 1) (0 + 6) := ⟨e1, e2⟩
    have h3 := X.same.trans h2
    rw [List.append_nil] at h3
    exact h3.mono hc hs
  refine ⟨U, ?_, .threw T.heap.size, hrun, hend, Or.inr ⟨T.heap.size, rfl, cls, ce, locs, hx U hWs.alike f1 (fun q hq => f2 q hq (fun z hz => nomatch hz)), hce, hO.vm, hcl, hWs, hall, hf⟩⟩
  refine st1 _ ?_
  show Steps p.tables e below (T1.setTop { method := m, pc := pc + 3, locals := ls, stack := .ref T.heap.size :: rest, locked := none }) _
  jvm_step X₁.here [X₁.here.top, hexec, d3', Value.category]
  exact hsteps
/-- 'throw new E("text")': new; dup; ldc; invokespecial; athrow -/
theorem vx_throwS {cc : ByteArray} {pc : Nat} (hexec : p.tables.exec = Jvm.exec) (hb : c.code = cc) (hl : l.stackTraces = false) {own cls text : String} {names : List String} {ik is ic mc ms sa : Nat} {A : Nat → Prop}
    (hown : s.vm.findClass own = some m.cls) (hcls : Bundle.fit cls = true) (hnames : ∀ n ∈ names, Bundle.fit n = true)
    (hk : (Cond.classLink own ik cls).before args s = true) (hini : (Cond.initialized cls).before args s = true) (hstr : vk_R own is text sa s) (hat : ∀ w ∈ vx_atS own ic cls names, w.before args s = true)
    (hgood : ∀ w ∈ Cond.classLink own ik cls :: Cond.initialized cls :: vx_atS own ic cls names, vx_ot w = true)
    (hU : vx_Zq Bundle.tN "UNASSIGNED_STACK" Bundle.steD A s s.heap) (hN : vx_Zq Bundle.tN "SUPPRESSED_SENTINEL" Bundle.listD A s s.heap) (hS : va_S A s.heap H locs) (hsize : ls.size = c.maxLocals)
    (d0 : decode cc pc = .ok (.new ik, 3)) (d3 : decode cc (pc + 3) = .ok (.dup, 1)) (d4 : decode cc (pc + 4) = .ok (.ldc is, 2)) (d6 : decode cc (pc + 6) = .ok (.invokespecial ic, 3)) (d9 : decode cc (pc + 9) = .ok (.athrow, 1))
    (hout : ∀ x ∈ c.exceptionTable.toList, covers x (pc + 9) = false)
    (hRframes : names.length + 3 < R.frames) (hRlocals : (rest.map fun v => v.category).sum + (13 * (names.length + 1) + 43) ≤ R.locals) (hRcells : cells + 1 ≤ R.cells) (hRslots : slots + 6 ≤ R.slots) (hlocks : meth.locks = false)
    (hx : ∀ t : State, s.vm.Alike t.vm → H.size ≤ t.heap.size → (∀ q : Nat, q < H.size → t.heap[q]? = H[q]?) → XC cls s t)
    (hf : ∀ z ∈ locs, free z.base) (hc : cells + 1 ≤ mc) (hs : slots + 6 ≤ ms) :
    W p l e R s m args below meth c H locs cells slots (vx_MQ below Qc XC args s mc ms free) (F0 m pc ls rest) := by
  intro T hT X
  have htr : e.platform.stackTraces = false := (show e.platform.stackTraces = l.stackTraces by rw [X.admits.platform]).trans hl
  have Y := vx_rebase X (R' := { frames := R.frames, locals := R.locals, cells := 1, slots := 6 }) (Nat.le_refl _) (Nat.le_refl _) hRcells hRslots
  obtain ⟨s', hA⟩ : ∃ z, z = (T.setVm s.vm).setFrames (.invoking m args :: below) := ⟨_, rfl⟩
  rw [← hA] at Y
  have hvm : s'.vm = s.vm := by rw [hA]; rfl
  have hhp : s'.heap = H := by rw [hA]; exact hT
  have hW0 : s.WarmedH s'.vm := by rw [hvm]; exact State.WarmedH.refl s
  have hat' : ∀ w ∈ vx_atS own ic cls names, w.before args s' = true := fun w hw => vx_ot_at hW0 hvm.symm (hgood w (List.mem_cons_of_mem _ (List.mem_cons_of_mem _ hw))) (hat w hw)
  have hk' : (Cond.classLink own ik cls).before args s' = true := vx_ot_at hW0 hvm.symm (hgood _ List.mem_cons_self) hk
  have hini' : (Cond.initialized cls).before args s' = true := vx_ot_at hW0 hvm.symm (hgood _ (List.mem_cons_of_mem _ List.mem_cons_self)) hini
  have hU' : vx_Zq Bundle.tN "UNASSIGNED_STACK" Bundle.steD A s' s'.heap := by rw [hhp]; exact vx_Zq.moved hW0.alike (hU.kept hS.2.1)
  have hN' : vx_Zq Bundle.tN "SUPPRESSED_SENTINEL" Bundle.listD A s' s'.heap := by rw [hhp]; exact vx_Zq.moved hW0.alike (hN.kept hS.2.1)
  have h : ∀ w ∈ Bundle.ownAtoms own ic cls names, w.before args s' = true := vx_own hat' (vx_isRefq hU'.1) (vx_isRefq hN'.1) hU'.2.word hN'.2.word
  have hown' : s'.vm.findClass own = some m.cls := by rw [hvm]; exact hown
  have hins : (Cond.instantiable cls 6).before args s' = true := h _ (by simp [Bundle.ownAtoms])
  obtain ⟨vm₁, cX, kX, hfX, hkX, -, -, X₁, st1⟩ := Y.newCold hexec (own := own) (C := cls) (index := ik) (n := 6) hown' hk' hins hini'
    (g := F0 m pc ls rest) rfl (by rw [hb]; exact d0) (Nat.le_refl _) (Nat.le_refl _)
  generalize hT1 : (T.setVm vm₁).pushCell { cls := cX, slots := kX.instanceTypes.map defaultValue, vm := .none } = T1 at X₁ st1
  have hcat : (Value.ref T.heap.size).category = 1 := rfl
  have hcellA : T1.heap[T.heap.size]? = some (freshCell cX kX) := by rw [← hT1]; exact State.heap_pushCell_size _ _
  have d3' : decode c.code (pc + 3) = .ok (.dup, 1) := by rw [hb]; exact d3
  have d4' : decode c.code (pc + 4) = .ok (.ldc is, 2) := by rw [hb]; exact d4
  have hstr' : vk_R own is text sa s' := vk_R.warm hW0 hstr
  obtain ⟨U, hsteps, hrun, hend, hW, hsame, ce, hce, hO⟩ := X₁.ctorThrowS hexec htr (own := own) (cls := cls) (names := names) (ic := ic) hown' hcls hnames h (fun x hx => nomatch hx) hfX hkX hcellA (by rw [hhp, hT]; exact Nat.le_refl _) (msg := .ref sa) rfl
    (g := { method := m, pc := pc + 6, locals := ls, stack := .ref sa :: .ref T.heap.size :: .ref T.heap.size :: rest, locked := none }) rfl hsize rfl rfl (rest := rest) rfl
    (by rw [hb]; exact d6) (by rw [hb]; exact d9) hout hRframes (by simp only [List.map_cons, List.sum_cons, hcat]; omega) hlocks
  obtain ⟨f1, f2⟩ := vx_frame hsame
  rw [hhp] at f1 f2
  have hWs : s.WarmedH U.vm := State.WarmedH.trans hW0 hW
  have hcl : s.vm.findClass cls = some ce.cls := by
    have h9 := hO.cls
    rw [hvm] at h9
    exact h9
  have hall : s.sameButNew ({ U with vm := s.vm } : State) locs mc ms := by
    subst hA
    obtain ⟨e1, e2⟩ := hsame
    rw [State.setFrames_setFrames] at e1
    have h2 : (T.setVm s.vm).sameButNew ({ U with vm := s.vm } : State) [] (0 + 1) (0 + 6) := ⟨e1, e2⟩
    have h3 := X.same.trans h2
    rw [List.append_nil] at h3
    exact h3.mono hc hs
  refine ⟨U, ?_, .threw T.heap.size, hrun, hend, Or.inr ⟨T.heap.size, rfl, cls, ce, locs, hx U hWs.alike f1 (fun q hq => f2 q hq (fun z hz => nomatch hz)), hce, hO.vm, hcl, hWs, hall, hf⟩⟩
  refine st1 _ ?_
  show Steps p.tables e below (T1.setTop { method := m, pc := pc + 3, locals := ls, stack := .ref T.heap.size :: rest, locked := none }) _
  jvm_step X₁.here [X₁.here.top, hexec, d3', Value.category]
  exact X₁.ldcString hexec (own := own) (text := text) (index := is) (a := sa) hown' hstr'.1 hstr'.2
    (g := { method := m, pc := pc + 4, locals := ls, stack := .ref T.heap.size :: .ref T.heap.size :: rest, locked := none }) rfl d4' _ hsteps
/-- 'throw new E("text")', the text by a wide index -/
theorem vx_throwSW {cc : ByteArray} {pc : Nat} (hexec : p.tables.exec = Jvm.exec) (hb : c.code = cc) (hl : l.stackTraces = false) {own cls text : String} {names : List String} {ik is ic mc ms sa : Nat} {A : Nat → Prop}
    (hown : s.vm.findClass own = some m.cls) (hcls : Bundle.fit cls = true) (hnames : ∀ n ∈ names, Bundle.fit n = true)
    (hk : (Cond.classLink own ik cls).before args s = true) (hini : (Cond.initialized cls).before args s = true) (hstr : vk_R own is text sa s) (hat : ∀ w ∈ vx_atS own ic cls names, w.before args s = true)
    (hgood : ∀ w ∈ Cond.classLink own ik cls :: Cond.initialized cls :: vx_atS own ic cls names, vx_ot w = true)
    (hU : vx_Zq Bundle.tN "UNASSIGNED_STACK" Bundle.steD A s s.heap) (hN : vx_Zq Bundle.tN "SUPPRESSED_SENTINEL" Bundle.listD A s s.heap) (hS : va_S A s.heap H locs) (hsize : ls.size = c.maxLocals)
    (d0 : decode cc pc = .ok (.new ik, 3)) (d3 : decode cc (pc + 3) = .ok (.dup, 1)) (d4 : decode cc (pc + 4) = .ok (.ldc_w is, 3)) (d7 : decode cc (pc + 7) = .ok (.invokespecial ic, 3)) (d10 : decode cc (pc + 10) = .ok (.athrow, 1))
    (hout : ∀ x ∈ c.exceptionTable.toList, covers x (pc + 10) = false)
    (hRframes : names.length + 3 < R.frames) (hRlocals : (rest.map fun v => v.category).sum + (13 * (names.length + 1) + 43) ≤ R.locals) (hRcells : cells + 1 ≤ R.cells) (hRslots : slots + 6 ≤ R.slots) (hlocks : meth.locks = false)
    (hx : ∀ t : State, s.vm.Alike t.vm → H.size ≤ t.heap.size → (∀ q : Nat, q < H.size → t.heap[q]? = H[q]?) → XC cls s t)
    (hf : ∀ z ∈ locs, free z.base) (hc : cells + 1 ≤ mc) (hs : slots + 6 ≤ ms) :
    W p l e R s m args below meth c H locs cells slots (vx_MQ below Qc XC args s mc ms free) (F0 m pc ls rest) := by
  intro T hT X
  have htr : e.platform.stackTraces = false := (show e.platform.stackTraces = l.stackTraces by rw [X.admits.platform]).trans hl
  have Y := vx_rebase X (R' := { frames := R.frames, locals := R.locals, cells := 1, slots := 6 }) (Nat.le_refl _) (Nat.le_refl _) hRcells hRslots
  obtain ⟨s', hA⟩ : ∃ z, z = (T.setVm s.vm).setFrames (.invoking m args :: below) := ⟨_, rfl⟩
  rw [← hA] at Y
  have hvm : s'.vm = s.vm := by rw [hA]; rfl
  have hhp : s'.heap = H := by rw [hA]; exact hT
  have hW0 : s.WarmedH s'.vm := by rw [hvm]; exact State.WarmedH.refl s
  have hat' : ∀ w ∈ vx_atS own ic cls names, w.before args s' = true := fun w hw => vx_ot_at hW0 hvm.symm (hgood w (List.mem_cons_of_mem _ (List.mem_cons_of_mem _ hw))) (hat w hw)
  have hk' : (Cond.classLink own ik cls).before args s' = true := vx_ot_at hW0 hvm.symm (hgood _ List.mem_cons_self) hk
  have hini' : (Cond.initialized cls).before args s' = true := vx_ot_at hW0 hvm.symm (hgood _ (List.mem_cons_of_mem _ List.mem_cons_self)) hini
  have hU' : vx_Zq Bundle.tN "UNASSIGNED_STACK" Bundle.steD A s' s'.heap := by rw [hhp]; exact vx_Zq.moved hW0.alike (hU.kept hS.2.1)
  have hN' : vx_Zq Bundle.tN "SUPPRESSED_SENTINEL" Bundle.listD A s' s'.heap := by rw [hhp]; exact vx_Zq.moved hW0.alike (hN.kept hS.2.1)
  have h : ∀ w ∈ Bundle.ownAtoms own ic cls names, w.before args s' = true := vx_own hat' (vx_isRefq hU'.1) (vx_isRefq hN'.1) hU'.2.word hN'.2.word
  have hown' : s'.vm.findClass own = some m.cls := by rw [hvm]; exact hown
  have hins : (Cond.instantiable cls 6).before args s' = true := h _ (by simp [Bundle.ownAtoms])
  obtain ⟨vm₁, cX, kX, hfX, hkX, -, -, X₁, st1⟩ := Y.newCold hexec (own := own) (C := cls) (index := ik) (n := 6) hown' hk' hins hini'
    (g := F0 m pc ls rest) rfl (by rw [hb]; exact d0) (Nat.le_refl _) (Nat.le_refl _)
  generalize hT1 : (T.setVm vm₁).pushCell { cls := cX, slots := kX.instanceTypes.map defaultValue, vm := .none } = T1 at X₁ st1
  have hcat : (Value.ref T.heap.size).category = 1 := rfl
  have hcellA : T1.heap[T.heap.size]? = some (freshCell cX kX) := by rw [← hT1]; exact State.heap_pushCell_size _ _
  have d3' : decode c.code (pc + 3) = .ok (.dup, 1) := by rw [hb]; exact d3
  have d4' : decode c.code (pc + 4) = .ok (.ldc_w is, 3) := by rw [hb]; exact d4
  have hstr' : vk_R own is text sa s' := vk_R.warm hW0 hstr
  obtain ⟨U, hsteps, hrun, hend, hW, hsame, ce, hce, hO⟩ := X₁.ctorThrowS hexec htr (own := own) (cls := cls) (names := names) (ic := ic) hown' hcls hnames h (fun x hx => nomatch hx) hfX hkX hcellA (by rw [hhp, hT]; exact Nat.le_refl _) (msg := .ref sa) rfl
    (g := { method := m, pc := pc + 7, locals := ls, stack := .ref sa :: .ref T.heap.size :: .ref T.heap.size :: rest, locked := none }) rfl hsize rfl rfl (rest := rest) rfl
    (by rw [hb]; exact d7) (by rw [hb]; exact d10) hout hRframes (by simp only [List.map_cons, List.sum_cons, hcat]; omega) hlocks
  obtain ⟨f1, f2⟩ := vx_frame hsame
  rw [hhp] at f1 f2
  have hWs : s.WarmedH U.vm := State.WarmedH.trans hW0 hW
  have hcl : s.vm.findClass cls = some ce.cls := by
    have h9 := hO.cls
    rw [hvm] at h9
    exact h9
  have hall : s.sameButNew ({ U with vm := s.vm } : State) locs mc ms := by
    subst hA
    obtain ⟨e1, e2⟩ := hsame
    rw [State.setFrames_setFrames] at e1
    have h2 : (T.setVm s.vm).sameButNew ({ U with vm := s.vm } : State) [] (0 + 1) (0 + 6) := ⟨e1, e2⟩
    have h3 := X.same.trans h2
    rw [List.append_nil] at h3
    exact h3.mono hc hs
  refine ⟨U, ?_, .threw T.heap.size, hrun, hend, Or.inr ⟨T.heap.size, rfl, cls, ce, locs, hx U hWs.alike f1 (fun q hq => f2 q hq (fun z hz => nomatch hz)), hce, hO.vm, hcl, hWs, hall, hf⟩⟩
  refine st1 _ ?_
  show Steps p.tables e below (T1.setTop { method := m, pc := pc + 3, locals := ls, stack := .ref T.heap.size :: rest, locked := none }) _
  jvm_step X₁.here [X₁.here.top, hexec, d3', Value.category]
  exact X₁.ldcStringW hexec (own := own) (text := text) (index := is) (a := sa) hown' hstr'.1 hstr'.2
    (g := { method := m, pc := pc + 4, locals := ls, stack := .ref T.heap.size :: .ref T.heap.size :: rest, locked := none }) rfl d4' _ hsteps
end Ends
section Bodies
variable {l : Launch}
theorem vx_ofW {y : MethodName} {ws ws' : List Cond} {rm : Room} {Pc : Array Value → State → Prop} {Qc : Array Value → State → Outcome → State → Prop} {XC : String → State → State → Prop} {mc ms : Nat} {free : Addr → Prop} {cc : ByteArray} {maxL : Nat} {ret : Option FieldType}
    (hy : plainName y.cls = true) (hw : ws = Cond.code y cc maxL ret :: ws')
    (body : ∀ p e s m args below meth c s₁, BodyLoose p l y (headSpec ws rm) cc maxL ret e s m args below meth c s₁ → c.maxLocals = maxL → (∀ x ∈ c.exceptionTable.toList, False) → Pc args s →
      W p l e (headSpec ws rm).room s m args below meth c s.heap [] 0 0 (vx_MQ below Qc XC args s mc ms free) (entryFrame m args maxL)) : vx_Met l y ws rm Pc Qc XC mc ms free := by
  refine MetFree.of_bodyS (code := cc) (maxLocals := maxL) (ret := ret) hy ?_ ?_
  · intro args s m h hn
    obtain ⟨meth, c, h1, h2, h3, h4, h5, h6, -, -⟩ := Cond.code_spec hn (atoms_spec (ws := ws) h _ (by rw [hw]; exact List.mem_cons_self))
    exact ⟨meth, c, h1, h2, h3, h4, h5, h6⟩
  · intro p e s m args below meth c s₁ B hml hP _
    have hh0 : s₁.heap = s.heap := by rw [B.state]; rfl
    have ht : ∀ x ∈ c.exceptionTable.toList, False := by
      obtain ⟨meth9, c9, h1, h2, -, -, -, -, h7, -⟩ := Cond.code_spec B.named (atoms_spec (ws := ws) B.pre _ (by rw [hw]; exact List.mem_cons_self))
      cases Option.some.inj (h1.symm.trans B.method)
      cases Option.some.inj (h2.symm.trans (Stand.of_body B).code)
      intro x hx
      rw [Array.isEmpty_iff.mp h7] at hx
      cases hx
    obtain ⟨t, a1, o, b1, b2, b3⟩ := body p e s m args below meth c s₁ B hml ht hP s₁ hh0 (Stand.of_body B)
    exact ⟨t, o, a1, b1, b2, b3⟩
/-- the table of a body with handlers -/
theorem vx_table {p : Program} {x y : MethodName} {S : Spec} {cc bytes : ByteArray} {maxL maxL' : Nat} {ret ret' : Option FieldType} {e : Env} {s s₁ : State} {m : MethodId} {args : Array Value} {below : List Frame} {meth : Method} {c : Code} {hh : List (Nat × Nat × Nat × Nat)}
    (B : BodyLoose p l y S cc maxL ret e s m args below meth c s₁) (h : (Cond.codeWith y bytes maxL' ret' hh).before args s = true) : c.exceptionTable.toList = tableOf hh := by
  obtain ⟨m9, meth9, c9, hn9, h1, h2, -, -, h6, -⟩ := Cond.codeWith_spec h
  cases Option.some.inj (hn9.symm.trans B.named)
  cases Option.some.inj (h1.symm.trans B.method)
  cases Option.some.inj (h2.symm.trans (Stand.of_body B).code)
  rw [← h6, table_eq]
end Bodies
end VXA
/-! ===== END ===== -/
/-! ===== BEGIN a static call of a method with an exception table ===== -/
section VXS
variable {p : Program} {l : Launch} {e : Env} {R : Room} {s : State} {m : MethodId} {args : Array Value} {below : List Frame} {meth : Method} {c : Code} {T : State} {H : Heap} {locs : List Loc} {cells slots : Nat}
abbrev vx_CSW (R : Room) (s : State) (args : Array Value) (own : String) (index : Nat) (y : MethodName) (bytes : ByteArray) (maxL : Nat) (ret : Option FieldType) (hh : List (Nat × Nat × Nat × Nat)) (ws : List Cond) (rm : Room) (mc ms n : Nat) : Prop :=
  (rm.cells = mc ∧ rm.slots = ms ∧ rm.frames + 1 ≤ R.frames ∧ 8 + (maxL + 11) + rm.locals ≤ R.locals ∧ (∀ w ∈ ws, ∀ (a' : Array Value) (U : State), s.WarmedH U.vm → w.before a' U = true) ∧ Cond.codeWith y bytes maxL ret hh ∈ ws) ∧
  (Cond.codeWith y bytes maxL ret hh).before args s = true ∧ (Cond.initialized y.cls).before args s = true ∧ (y.cls ≠ "java/lang/invoke/MethodHandle" ∧ y.cls ≠ "java/lang/invoke/VarHandle") ∧
  (∀ sig, parseMethodDescriptor y.desc = some sig → n = sig.parameters.length) ∧ (Cond.methodLink own index y).before args s = true ∧ (Cond.static y).before args s = true
theorem vx_cwSW {own : String} {index maxL mc ms : Nat} {y : MethodName} {bytes : ByteArray} {ret : Option FieldType} {hh : List (Nat × Nat × Nat × Nat)} {Ts ws ws' : List Cond} {rm : Room} (n : Nat) (ht : ∀ w ∈ Ts, w.before args s = true) (hT : GoodIn Ts (va_wsS own index y ws)) (hw : ws = Cond.codeWith y bytes maxL ret hh :: ws') (hrc : rm.cells = mc) (hrs : rm.slots = ms)
    (hd : y.cls ≠ "java/lang/invoke/MethodHandle" ∧ y.cls ≠ "java/lang/invoke/VarHandle" ∧ (parseMethodDescriptor y.desc).map (fun d => d.parameters.length) = some n) (hR : rm.frames + 1 ≤ R.frames ∧ 8 + (maxL + 11) + rm.locals ≤ R.locals) :
    vx_CSW R s args own index y bytes maxL ret hh ws rm mc ms n := by
  have ok : ∀ w ∈ va_wsS own index y ws, w.before args s = true := fun w h => ht w (hT w h).1
  have hG : GoodIn Ts ws := fun w h => hT w (by unfold va_wsS; exact List.mem_append_right _ h)
  have hc : Cond.codeWith y bytes maxL ret hh ∈ ws := by rw [hw]; exact List.mem_cons_self
  refine ⟨⟨hrc, hrs, hR.1, hR.2, pay_in ht hG, hc⟩, ht _ (hG _ hc).1, ok _ (by simp [va_wsS]), ⟨hd.1, hd.2.1⟩, fun sig h => ?_, ok _ (by simp [va_wsS]), ok _ (by simp [va_wsS])⟩
  have h2 := hd.2.2
  rw [h] at h2
  exact (Option.some.inj h2).symm
theorem vx_callSW (X : Stand p l e R s m args below meth c T locs cells slots) (hexec : p.tables.exec = Jvm.exec) {own : String} {index : Nat} {y : MethodName} {bytes : ByteArray} {maxL : Nat} {ret : Option FieldType} {hh : List (Nat × Nat × Nat × Nat)}
    (hown : s.vm.findClass own = some m.cls) (hlink : (Cond.methodLink own index y).before args s = true) (hstat : (Cond.static y).before args s = true) (hinit : (Cond.initialized y.cls).before args s = true)
    (hcode : (Cond.codeWith y bytes maxL ret hh).before args s = true) (hy : y.cls ≠ "java/lang/invoke/MethodHandle" ∧ y.cls ≠ "java/lang/invoke/VarHandle")
    {W9 : Nat} {Pre : Pt → Array Value → Prop} {Post : Pt → Array Value → Option Value → Pt → Prop} (hK : Back l R p e below s args y 3 W9 Pre Post)
    {g : JFrame} (hg : g.method = m) (hsize : g.locals.size = c.maxLocals) {argsL rest : List Value} (hlen : ∀ sig, parseMethodDescriptor y.desc = some sig → argsL.length = sig.parameters.length)
    (hstack : g.stack = argsL.reverse ++ rest) (hW : 2 * g.monitorRoom + (rest.map fun v => v.category).sum ≤ W9) (hdg : decode c.code g.pc = .ok (.invokestatic index, 3))
    (hpre : ∀ vm₁, s.WarmedH vm₁ → Pre ⟨T.setVm vm₁, locs, cells, slots⟩ argsL.toArray) :
    ∃ (v : Option Value) (vm₁ : Vm) (B : Pt), s.WarmedH vm₁ ∧ Stand p l e R s m args below meth c B.U B.locs B.cells B.slots ∧ Post ⟨T.setVm vm₁, locs, cells, slots⟩ argsL.toArray v B ∧
      ∀ target, Steps p.tables e below (B.U.setTop { g with pc := g.pc + 3, stack := v.toList ++ rest }) target → Steps p.tables e below (T.setTop g) target := by
  obtain ⟨mk, methM, cM, hnamed, hmethM, -, -, -, -, -, -, hsigM⟩ := Cond.codeWith_spec hcode
  have hstatic : methM.isStatic = true := Cond.static_spec hnamed hmethM hstat
  obtain ⟨kP, hkP, -⟩ := className_of_methodNamed hnamed
  have hinitP : kP.init = .initialized := Cond.initialized_spec (findClass_of_methodNamed hnamed) hkP hinit
  obtain ⟨vm₁, X₁, hstep₁⟩ := X.invokestatic hexec hown hlink hnamed hmethM hstatic hkP hinitP hy (g := g) hg (argsL := argsL) (rest := rest) (hlen _ hsigM) hstack hdg
  obtain ⟨v, B, X', hpost, hsteps⟩ := hK m meth c ⟨T.setVm vm₁, locs, cells, slots⟩ { g with stack := rest } (.invokestatic index) mk argsL.toArray X₁ hg hsize hdg hW (X₁.named hnamed) (hpre vm₁ X₁.warmed)
  exact ⟨v, vm₁, B, X₁.warmed, X', hpost, fun target h => hstep₁ _ fun acts => by rw [doInvoke_state]; exact hsteps.trans h⟩
theorem vx_runSW {y : MethodName} {bytes cc : ByteArray} {maxL nL mc ms n index : Nat} {ret : Option FieldType} {hh : List (Nat × Nat × Nat × Nat)} {ws : List Cond} {rm : Room} {Pc : Array Value → State → Prop} {Qc : Array Value → State → Outcome → State → Prop} {free : Addr → Prop} {Ts : List Cond} {own : String} {As rest : List Value} {g : JFrame}
    (S : CallFix p m c cc nL s args Ts own) (hM : Met l y ws rm Pc Qc mc ms free) (cw : vx_CSW R s args own index y bytes maxL ret hh ws rm mc ms n) (hp : PreS s H Pc As)
    (hg : g.method = m) (hn : As.length = n) (hsize : g.locals.size = nL) (hstack : g.stack = As.reverse ++ rest) (hW : 2 * g.monitorRoom + (rest.map fun v => v.category).sum ≤ 8) (hdg : decode cc g.pc = .ok (.invokestatic index, 3)) (hf : cells + mc ≤ R.cells ∧ slots + ms ≤ R.slots) :
    va_Run p l e R s m args below meth c H locs cells slots mc ms g rest (Qc As.toArray) (free) := by
  obtain ⟨⟨hrc, hrs, hfr, hlo, hws, hcw⟩, hcode, hini, hy, hlen, hl, hstt⟩ := cw
  have hK : Back l R p e below s args y 3 8 (PreOf R mc ms Pc) (PostOf Qc mc ms free) := va_backW (hh := hh) (bytes := bytes) (maxL := maxL) (ret := ret) hM hp.1 hrc hrs hfr hlo hws hcw (fun a' U hW => word_at hW (Or.inl (by first | rfl | simp [Cond.onTables, Cond.keeps, Cond.steady])) hini)
  obtain ⟨hx, hb, hml, ho, -⟩ := S
  intro T hT X
  obtain ⟨v, vm₁, ⟨U', l2, c2, s2⟩, hW₁, X', ⟨g', mk, t, L, e1, e2, hq, h1, hL, h2, h3⟩, st⟩ := vx_callSW X hx (hh := hh) (bytes := bytes) (maxL := maxL) (ret := ret) ho hl hstt hini hcode hy hK hg (hsize.trans hml.symm) (argsL := As) (rest := rest) (fun sig h => hn.trans (hlen sig h)) hstack hW (by rw [hb]; exact hdg)
    (fun vm₁ hW₁ => ⟨hf.1, hf.2, hp.2 (T.setVm vm₁) hT hW₁⟩)
  dsimp only [Pt.U, Pt.locs, Pt.cells, Pt.slots] at X' e1 e2 h1 h2 h3 st
  subst h1; subst h2; subst h3
  exact ⟨v, (T.setVm vm₁).calling g' mk As.toArray, t, U', L, hT, X', hL, e1, e2, hq, st⟩
/-- a thing of a world lies in the heap -/
theorem vx_lt {D : va_G} {cl : List vw_C} {ws : va_W} {H1 : Heap} (h : va_P D cl ws H1) {k : Nat} {q : Nat × va_E} (hk : ws[k]? = some q) : q.1 < H1.size := (h k q hk).lt
end VXS
/-! ===== END ===== -/
/-! ===== BEGIN methods with a table of their own: called by a name, returning or throwing ===== -/
section VXH
/-! vx_backW, vx_callVX, vx_callSX, vx_callVW, vx_runVW, vx_runVX, vx_runSX, vx_ofWH follow the same proofs as their sisters above (Free/Laws.lean, Shelf42/LK1.lean); vx_outP calls Shelf42/NT130.lean (outThrough). -/
section
variable {l : Launch} {R : Room} {p : Program} {e : Env} {below : List Frame} {s : State} {sargs : Array Value} {y : MethodName} {len W9 : Nat}
theorem vx_backW {ws : List Cond} {rm : Room} {Pc : Array Value → State → Prop} {Qc : Array Value → State → Outcome → State → Prop} {XC : String → State → State → Prop} {mc ms : Nat} {free : Addr → Prop} {bytes : ByteArray} {maxL : Nat} {ret : Option FieldType} {hh : List (Nat × Nat × Nat × Nat)}
    (hM : vx_Met l y ws rm Pc Qc XC mc ms free) (hblind : FrameBlind Pc) (hrc : rm.cells = mc) (hrs : rm.slots = ms)
    (hframes : rm.frames + 1 ≤ R.frames) (hlocals : W9 + (maxL + 11) + rm.locals ≤ R.locals)
    (hws : ∀ w ∈ ws, ∀ a' U, s.WarmedH U.vm → w.before a' U = true) (hcode : Cond.codeWith y bytes maxL ret hh ∈ ws) (hinit : ∀ a' U, s.WarmedH U.vm → (Cond.initialized y.cls).before a' U = true) :
    vx_Back l R p e below s sargs y len W9 (PreOf R mc ms Pc) (PostOf Qc mc ms free) (vx_Post XC mc ms free) := by
  intro m meth c A g ig mk a X hg hsize hdg hW hn hp
  have h1 : (headSpec ws rm).pre.before a A.U = true := atoms_intro fun w hw => hws w hw _ _ X.warmed
  have h2 : (Cond.codeWith y bytes maxL ret hh).before a A.U = true := hws _ hcode _ _ X.warmed
  have h3 : (Cond.initialized y.cls).before a A.U = true := hinit _ _ X.warmed
  have h4 : A.cells + (headSpec ws rm).room.cells ≤ R.cells := by rw [show (headSpec ws rm).room.cells = mc from hrc]; exact hp.1
  have h5 : A.slots + (headSpec ws rm).room.slots ≤ R.slots := by rw [show (headSpec ws rm).room.slots = ms from hrs]; exact hp.2.1
  have hPc : Pc a (A.U.calling g mk a) := hblind _ _ _ _ hp.2.2
  obtain ⟨U, Ls, c0, s0⟩ := A
  dsimp only [Pt.U, Pt.locs, Pt.cells, Pt.slots] at h1 h2 h3 h4 h5 X hn hPc ⊢
  obtain ⟨m9, methY, cY, hn9, hmY, hcY, -, hlY, -⟩ := Cond.codeWith_spec h2
  cases Option.some.inj (hn9.symm.trans hn)
  obtain ⟨kY, hkY, -⟩ := className_of_methodNamed hn
  have hinitY : kY.init = .initialized := Cond.initialized_spec (findClass_of_methodNamed hn) hkY h3
  have h : At U g.method c below := by rw [hg]; exact X.here
  have hlocals9 : W9 + (maxL + 11) + (headSpec ws rm).room.locals ≤ R.locals := hlocals
  have happ : (headSpec ws rm).appliesLoose y e.platform (U.calling g mk a) = true :=
    Spec.appliesLoose_calling (g := g) h hdg hn hkY hinitY
      (X.room_calling (g := g) (R' := (headSpec ws rm).room) hsize hmY hcY hframes (by rw [hlY]; omega) h4 h5) h1
  obtain ⟨mid, hmid⟩ := h.above
  have hfr : (U.setTop g).frames = (.java g :: mid) ++ below := by rw [State.frames_setTop' g h.top, hmid]; rfl
  obtain ⟨o, s₂, hsteps, -, hend, hq⟩ := Steps.callFree hM p X.admits X.cas X.clock (acts := []) hfr happ hPc trivial
  have hq' : vx_Q Qc XC mc ms free a (U.calling g mk a) o s₂ := hq
  rw [State.frames_setTop' g h.top] at hend
  obtain ⟨g₀, hg0⟩ := Option.isSome_iff_exists.mp h.top
  obtain ⟨r, hr⟩ := State.topJava?_eq_some.mp hg0
  have hr' : (({ U with heap := s₂.heap, slotsUsed := s₂.slotsUsed } : State).setVm s₂.vm).frames = .java g₀ :: r := hr
  rcases hq' with ⟨hqc, L, hfe, hL⟩ | ⟨q, rfl, E, ce, L, hx, hce, hcv, hcl, hW₂, hsm, hL⟩
  · obtain ⟨⟨v, rfl⟩, hW₂, e2, q2, q3, q4, q5, q6⟩ := id hfe
    have e3 : s₂ = ({ (U.calling g mk a).setFrames s₂.frames with heap := s₂.heap, slotsUsed := s₂.slotsUsed } : State).setVm s₂.vm := by
      have : s₂ = ({ s₂ with vm := (U.calling g mk a).vm } : State).setVm s₂.vm := rfl
      rw [e2] at this
      exact this
    obtain ⟨c₂, i₂, len₂, hc₂, hd₂, hf₂⟩ := hend
    have hW' : U.WarmedH s₂.vm := hW₂
    have hcc : c₂ = c := by
      have h1 : s₂.code? g.method = U.code? g.method := by
        rw [State.code?_eq, State.code?_eq, hW'.alike.method?]
      exact Option.some.inj (hc₂.symm.trans (h1.trans h.code))
    subst hcc
    have hlen : len₂ = len := by rw [hdg] at hd₂; cases hd₂; rfl
    subst hlen
    have hs₂ : s₂ = (({ U with heap := s₂.heap, slotsUsed := s₂.slotsUsed } : State).setVm s₂.vm).setTop { g with pc := g.pc + len₂, stack := v.toList ++ g.stack } := by
      refine e3.trans ?_
      rw [hf₂, State.calling_eq h.top, State.setFrames_setFrames, State.setTop_of_frames _ hr', hr]
      rfl
    have hsame : U.sameButNew ({ U with heap := s₂.heap, slotsUsed := s₂.slotsUsed } : State) L mc ms := by
      refine ⟨?_, q2, q3, q4, q5, q6⟩
      obtain ⟨t, ht, -⟩ := State.frames_cons hr
      show ({ U with heap := s₂.heap, slotsUsed := s₂.slotsUsed } : State) = { U.setFrames U.frames with heap := s₂.heap, slotsUsed := s₂.slotsUsed }
      rw [State.setFrames_self ht]
    subst hg
    refine Or.inl ⟨v, ⟨(({ U with heap := s₂.heap, slotsUsed := s₂.slotsUsed } : State).setVm s₂.vm), Ls ++ L, c0 + mc, s0 + ms⟩,
      ⟨X.admits, X.cas, X.clock, X.frames, X.room, X.hears, X.method, X.code, (X.here.setHeapUsed s₂.heap s₂.slotsUsed).setVm hW'.alike, X.tail, State.WarmedH.trans X.warmed hW', X.limits, X.bytes, X.same.trans (hsame.setVm s.vm)⟩,
      ⟨g, mk, s₂, L, rfl, rfl, hqc, rfl, hL, rfl, rfl⟩, ?_⟩
    show Steps p.tables e below _ ((({ U with heap := s₂.heap, slotsUsed := s₂.slotsUsed } : State).setVm s₂.vm).setTop { g with pc := g.pc + len₂, stack := v.toList ++ g.stack })
    rw [← hs₂]
    exact hsteps
  · obtain ⟨e2, q2, q3, q4, q5, q6⟩ := id hsm
    have e3 : s₂ = ({ (U.calling g mk a).setFrames s₂.frames with heap := s₂.heap, slotsUsed := s₂.slotsUsed } : State).setVm s₂.vm := by
      have : s₂ = ({ s₂ with vm := (U.calling g mk a).vm } : State).setVm s₂.vm := rfl
      rw [e2] at this
      exact this
    have hf₂ : s₂.frames = .throwing q :: .java g :: U.frames.tail := hend
    have hW' : U.WarmedH s₂.vm := hW₂
    have hs₂ : s₂ = ((({ U with heap := s₂.heap, slotsUsed := s₂.slotsUsed } : State).setVm s₂.vm).setTop g).pushFrame (.throwing q) := by
      refine e3.trans ?_
      rw [hf₂, State.calling_eq h.top, State.setFrames_setFrames, State.pushFrame, State.frames_setTop _ hr', State.setTop_of_frames _ hr', State.setFrames_setFrames, hr]
      rfl
    have hsame : U.sameButNew ({ U with heap := s₂.heap, slotsUsed := s₂.slotsUsed } : State) L mc ms := by
      refine ⟨?_, q2, q3, q4, q5, q6⟩
      obtain ⟨t, ht, -⟩ := State.frames_cons hr
      show ({ U with heap := s₂.heap, slotsUsed := s₂.slotsUsed } : State) = { U.setFrames U.frames with heap := s₂.heap, slotsUsed := s₂.slotsUsed }
      rw [State.setFrames_self ht]
    subst hg
    refine Or.inr ⟨q, ⟨(({ U with heap := s₂.heap, slotsUsed := s₂.slotsUsed } : State).setVm s₂.vm), Ls ++ L, c0 + mc, s0 + ms⟩,
      ⟨X.admits, X.cas, X.clock, X.frames, X.room, X.hears, X.method, X.code, (X.here.setHeapUsed s₂.heap s₂.slotsUsed).setVm hW'.alike, X.tail, State.WarmedH.trans X.warmed hW', X.limits, X.bytes, X.same.trans (hsame.setVm s.vm)⟩,
      ⟨g, mk, s₂, L, E, ce, rfl, rfl, hx, hce, hcv, hcl, rfl, hL, rfl, rfl⟩, ?_⟩
    show Steps p.tables e below _ (((({ U with heap := s₂.heap, slotsUsed := s₂.slotsUsed } : State).setVm s₂.vm).setTop g).pushFrame (.throwing q))
    rw [← hs₂]
    exact hsteps
end
variable {p : Program} {l : Launch} {e : Env} {R : Room} {s : State} {m : MethodId} {args : Array Value} {below : List Frame} {meth : Method} {c : Code} {T : State} {H : Heap} {locs : List Loc} {cells slots : Nat}
theorem vx_callVX (X : Stand p l e R s m args below meth c T locs cells slots) (hexec : p.tables.exec = Jvm.exec) {own C : String} {index : Nat} {y : MethodName} {bytes : ByteArray} {maxL : Nat} {ret : Option FieldType} {hh : List (Nat × Nat × Nat × Nat)}
    (hown : s.vm.findClass own = some m.cls) (hlink : (Cond.methodLink own index y).before args s = true) (hinst : (Cond.instanceMethod y).before args s = true) (hsel : (Cond.selects C y y).before args s = true)
    (hcode : (Cond.codeWith y bytes maxL ret hh).before args s = true) (hy : y.cls ≠ "java/lang/invoke/MethodHandle" ∧ y.cls ≠ "java/lang/invoke/VarHandle")
    {W9 : Nat} {Pre : Pt → Array Value → Prop} {Post : Pt → Array Value → Option Value → Pt → Prop} {PostX : Pt → Array Value → Addr → Pt → Prop} (hK : vx_Back l R p e below s args y 3 W9 Pre Post PostX)
    {b : Addr} {cellB : Cell} (hcell : T.heap[b]? = some cellB) (hobj : cellB.vm.isStatics = false) (hcls : s.vm.findClass C = some cellB.cls)
    {g : JFrame} (hg : g.method = m) (hsize : g.locals.size = c.maxLocals) {argsL rest : List Value} (hlen : ∀ sig, parseMethodDescriptor y.desc = some sig → argsL.length = sig.parameters.length)
    (hstack : g.stack = argsL.reverse ++ .ref b :: rest) (hW : 2 * g.monitorRoom + (rest.map fun v => v.category).sum ≤ W9) (hdg : decode c.code g.pc = .ok (.invokevirtual index, 3))
    (hpre : ∀ vm₁, s.WarmedH vm₁ → Pre ⟨T.setVm vm₁, locs, cells, slots⟩ (Value.ref b :: argsL).toArray) :
    (∃ (v : Option Value) (vm₁ : Vm) (B : Pt), s.WarmedH vm₁ ∧ Stand p l e R s m args below meth c B.U B.locs B.cells B.slots ∧ Post ⟨T.setVm vm₁, locs, cells, slots⟩ (Value.ref b :: argsL).toArray v B ∧
      ∀ target, Steps p.tables e below (B.U.setTop { g with pc := g.pc + 3, stack := v.toList ++ rest }) target → Steps p.tables e below (T.setTop g) target) ∨
    (∃ (q : Addr) (vm₁ : Vm) (B : Pt), s.WarmedH vm₁ ∧ Stand p l e R s m args below meth c B.U B.locs B.cells B.slots ∧ PostX ⟨T.setVm vm₁, locs, cells, slots⟩ (Value.ref b :: argsL).toArray q B ∧
      Steps p.tables e below (T.setTop g) ((B.U.setTop { g with stack := rest }).pushFrame (.throwing q))) := by
  obtain ⟨mk, methM, hnamed, hmethM, hstM, habM⟩ := Cond.instanceMethod_spec hinst
  obtain ⟨m8, methM', cM, hn8, hmethM', -, -, -, -, -, -, hsigM⟩ := Cond.codeWith_spec hcode
  cases Option.some.inj (hn8.symm.trans hnamed)
  cases hmethM.symm.trans hmethM'
  obtain ⟨c2, r2, m2, q1, q2, q3, q4, kP, hkP, hkPi⟩ := Cond.selects_spec hsel
  cases hcls.symm.trans q1
  cases (State.methodFound?_of_named hnamed hy).symm.trans q2
  cases hnamed.symm.trans q3
  have hselP : selectMethod e.platform s.vm cellB.cls mk = .method mk := by rw [Launch.admits_selectMethod X.admits]; exact q4
  obtain ⟨vm₁, X₁, hstep₁⟩ := X.invokevirtual hexec hown hlink hnamed hmethM hstM hkP hkPi hy (a := b) (cell := cellB) hcell
    (fun z h => by rw [h] at hobj; cases hobj) hselP hmethM habM hkP hkPi (g := g) hg (argsL := argsL) (rest := rest) (hlen _ hsigM) hstack hdg
  rcases hK m meth c ⟨T.setVm vm₁, locs, cells, slots⟩ { g with stack := rest } (.invokevirtual index) mk (Value.ref b :: argsL).toArray X₁ hg hsize hdg hW (X₁.named hnamed) (hpre vm₁ X₁.warmed) with ⟨v, B, X', hpost, hsteps⟩ | ⟨q, B, X', hpost, hsteps⟩
  · exact Or.inl ⟨v, vm₁, B, X₁.warmed, X', hpost, fun target h => hstep₁ _ fun acts => by rw [doInvoke_state]; exact hsteps.trans h⟩
  · exact Or.inr ⟨q, vm₁, B, X₁.warmed, X', hpost, hstep₁ _ fun acts => by rw [doInvoke_state]; exact hsteps⟩
theorem vx_callSX (X : Stand p l e R s m args below meth c T locs cells slots) (hexec : p.tables.exec = Jvm.exec) {own : String} {index : Nat} {y : MethodName} {bytes : ByteArray} {maxL : Nat} {ret : Option FieldType} {hh : List (Nat × Nat × Nat × Nat)}
    (hown : s.vm.findClass own = some m.cls) (hlink : (Cond.methodLink own index y).before args s = true) (hstat : (Cond.static y).before args s = true) (hinit : (Cond.initialized y.cls).before args s = true)
    (hcode : (Cond.codeWith y bytes maxL ret hh).before args s = true) (hy : y.cls ≠ "java/lang/invoke/MethodHandle" ∧ y.cls ≠ "java/lang/invoke/VarHandle")
    {W9 : Nat} {Pre : Pt → Array Value → Prop} {Post : Pt → Array Value → Option Value → Pt → Prop} {PostX : Pt → Array Value → Addr → Pt → Prop} (hK : vx_Back l R p e below s args y 3 W9 Pre Post PostX)
    {g : JFrame} (hg : g.method = m) (hsize : g.locals.size = c.maxLocals) {argsL rest : List Value} (hlen : ∀ sig, parseMethodDescriptor y.desc = some sig → argsL.length = sig.parameters.length)
    (hstack : g.stack = argsL.reverse ++ rest) (hW : 2 * g.monitorRoom + (rest.map fun v => v.category).sum ≤ W9) (hdg : decode c.code g.pc = .ok (.invokestatic index, 3))
    (hpre : ∀ vm₁, s.WarmedH vm₁ → Pre ⟨T.setVm vm₁, locs, cells, slots⟩ argsL.toArray) :
    (∃ (v : Option Value) (vm₁ : Vm) (B : Pt), s.WarmedH vm₁ ∧ Stand p l e R s m args below meth c B.U B.locs B.cells B.slots ∧ Post ⟨T.setVm vm₁, locs, cells, slots⟩ argsL.toArray v B ∧
      ∀ target, Steps p.tables e below (B.U.setTop { g with pc := g.pc + 3, stack := v.toList ++ rest }) target → Steps p.tables e below (T.setTop g) target) ∨
    (∃ (q : Addr) (vm₁ : Vm) (B : Pt), s.WarmedH vm₁ ∧ Stand p l e R s m args below meth c B.U B.locs B.cells B.slots ∧ PostX ⟨T.setVm vm₁, locs, cells, slots⟩ argsL.toArray q B ∧
      Steps p.tables e below (T.setTop g) ((B.U.setTop { g with stack := rest }).pushFrame (.throwing q))) := by
  obtain ⟨mk, methM, cM, hnamed, hmethM, -, -, -, -, -, -, hsigM⟩ := Cond.codeWith_spec hcode
  have hstatic : methM.isStatic = true := Cond.static_spec hnamed hmethM hstat
  obtain ⟨kP, hkP, -⟩ := className_of_methodNamed hnamed
  have hinitP : kP.init = .initialized := Cond.initialized_spec (findClass_of_methodNamed hnamed) hkP hinit
  obtain ⟨vm₁, X₁, hstep₁⟩ := X.invokestatic hexec hown hlink hnamed hmethM hstatic hkP hinitP hy (g := g) hg (argsL := argsL) (rest := rest) (hlen _ hsigM) hstack hdg
  rcases hK m meth c ⟨T.setVm vm₁, locs, cells, slots⟩ { g with stack := rest } (.invokestatic index) mk argsL.toArray X₁ hg hsize hdg hW (X₁.named hnamed) (hpre vm₁ X₁.warmed) with ⟨v, B, X', hpost, hsteps⟩ | ⟨q, B, X', hpost, hsteps⟩
  · exact Or.inl ⟨v, vm₁, B, X₁.warmed, X', hpost, fun target h => hstep₁ _ fun acts => by rw [doInvoke_state]; exact hsteps.trans h⟩
  · exact Or.inr ⟨q, vm₁, B, X₁.warmed, X', hpost, hstep₁ _ fun acts => by rw [doInvoke_state]; exact hsteps⟩
theorem vx_callVW (X : Stand p l e R s m args below meth c T locs cells slots) (hexec : p.tables.exec = Jvm.exec) {own C : String} {index : Nat} {y : MethodName} {bytes : ByteArray} {maxL : Nat} {ret : Option FieldType} {hh : List (Nat × Nat × Nat × Nat)}
    (hown : s.vm.findClass own = some m.cls) (hlink : (Cond.methodLink own index y).before args s = true) (hinst : (Cond.instanceMethod y).before args s = true) (hsel : (Cond.selects C y y).before args s = true)
    (hcode : (Cond.codeWith y bytes maxL ret hh).before args s = true) (hy : y.cls ≠ "java/lang/invoke/MethodHandle" ∧ y.cls ≠ "java/lang/invoke/VarHandle")
    {W9 : Nat} {Pre : Pt → Array Value → Prop} {Post : Pt → Array Value → Option Value → Pt → Prop} (hK : Back l R p e below s args y 3 W9 Pre Post)
    {b : Addr} {cellB : Cell} (hcell : T.heap[b]? = some cellB) (hobj : cellB.vm.isStatics = false) (hcls : s.vm.findClass C = some cellB.cls)
    {g : JFrame} (hg : g.method = m) (hsize : g.locals.size = c.maxLocals) {argsL rest : List Value} (hlen : ∀ sig, parseMethodDescriptor y.desc = some sig → argsL.length = sig.parameters.length)
    (hstack : g.stack = argsL.reverse ++ .ref b :: rest) (hW : 2 * g.monitorRoom + (rest.map fun v => v.category).sum ≤ W9) (hdg : decode c.code g.pc = .ok (.invokevirtual index, 3))
    (hpre : ∀ vm₁, s.WarmedH vm₁ → Pre ⟨T.setVm vm₁, locs, cells, slots⟩ (Value.ref b :: argsL).toArray) :
    ∃ (v : Option Value) (vm₁ : Vm) (B : Pt), s.WarmedH vm₁ ∧ Stand p l e R s m args below meth c B.U B.locs B.cells B.slots ∧ Post ⟨T.setVm vm₁, locs, cells, slots⟩ (Value.ref b :: argsL).toArray v B ∧
      ∀ target, Steps p.tables e below (B.U.setTop { g with pc := g.pc + 3, stack := v.toList ++ rest }) target → Steps p.tables e below (T.setTop g) target := by
  obtain ⟨mk, methM, hnamed, hmethM, hstM, habM⟩ := Cond.instanceMethod_spec hinst
  obtain ⟨m8, methM', cM, hn8, hmethM', -, -, -, -, -, -, hsigM⟩ := Cond.codeWith_spec hcode
  cases Option.some.inj (hn8.symm.trans hnamed)
  cases hmethM.symm.trans hmethM'
  obtain ⟨c2, r2, m2, q1, q2, q3, q4, kP, hkP, hkPi⟩ := Cond.selects_spec hsel
  cases hcls.symm.trans q1
  cases (State.methodFound?_of_named hnamed hy).symm.trans q2
  cases hnamed.symm.trans q3
  have hselP : selectMethod e.platform s.vm cellB.cls mk = .method mk := by rw [Launch.admits_selectMethod X.admits]; exact q4
  obtain ⟨vm₁, X₁, hstep₁⟩ := X.invokevirtual hexec hown hlink hnamed hmethM hstM hkP hkPi hy (a := b) (cell := cellB) hcell
    (fun z h => by rw [h] at hobj; cases hobj) hselP hmethM habM hkP hkPi (g := g) hg (argsL := argsL) (rest := rest) (hlen _ hsigM) hstack hdg
  obtain ⟨v, B, X', hpost, hsteps⟩ := hK m meth c ⟨T.setVm vm₁, locs, cells, slots⟩ { g with stack := rest } (.invokevirtual index) mk (Value.ref b :: argsL).toArray X₁ hg hsize hdg hW (X₁.named hnamed) (hpre vm₁ X₁.warmed)
  exact ⟨v, vm₁, B, X₁.warmed, X', hpost, fun target h => hstep₁ _ fun acts => by rw [doInvoke_state]; exact hsteps.trans h⟩
abbrev vx_CVW (R : Room) (s : State) (args : Array Value) (own C : String) (index : Nat) (y : MethodName) (bytes : ByteArray) (maxL : Nat) (ret : Option FieldType) (hh : List (Nat × Nat × Nat × Nat)) (ws : List Cond) (rm : Room) (mc ms n : Nat) : Prop :=
  (rm.cells = mc ∧ rm.slots = ms ∧ rm.frames + 1 ≤ R.frames ∧ 8 + (maxL + 11) + rm.locals ≤ R.locals ∧ (∀ w ∈ ws, ∀ (a' : Array Value) (U : State), s.WarmedH U.vm → w.before a' U = true) ∧ Cond.codeWith y bytes maxL ret hh ∈ ws) ∧
  (Cond.codeWith y bytes maxL ret hh).before args s = true ∧ (Cond.initialized y.cls).before args s = true ∧ (y.cls ≠ "java/lang/invoke/MethodHandle" ∧ y.cls ≠ "java/lang/invoke/VarHandle") ∧
  (∀ sig, parseMethodDescriptor y.desc = some sig → n = sig.parameters.length) ∧ (Cond.methodLink own index y).before args s = true ∧ (Cond.instanceMethod y).before args s = true ∧ (Cond.selects C y y).before args s = true
theorem vx_cwVW {own C : String} {index maxL mc ms : Nat} {y : MethodName} {bytes : ByteArray} {ret : Option FieldType} {hh : List (Nat × Nat × Nat × Nat)} {Ts ws ws' : List Cond} {rm : Room} (n : Nat) (ht : ∀ w ∈ Ts, w.before args s = true) (hT : GoodIn Ts (wsV own index C y ws)) (hw : ws = Cond.codeWith y bytes maxL ret hh :: ws') (hrc : rm.cells = mc) (hrs : rm.slots = ms)
    (hd : y.cls = C ∧ y.cls ≠ "java/lang/invoke/MethodHandle" ∧ y.cls ≠ "java/lang/invoke/VarHandle" ∧ (parseMethodDescriptor y.desc).map (fun d => d.parameters.length) = some n) (hR : rm.frames + 1 ≤ R.frames ∧ 8 + (maxL + 11) + rm.locals ≤ R.locals) :
    vx_CVW R s args own C index y bytes maxL ret hh ws rm mc ms n := by
  obtain ⟨hC, hd⟩ := hd
  subst hC
  have ok : ∀ w ∈ wsV own index y.cls y ws, w.before args s = true := fun w h => ht w (hT w h).1
  have hG : GoodIn Ts ws := fun w h => hT w (by unfold wsV; exact List.mem_append_right _ h)
  have hc : Cond.codeWith y bytes maxL ret hh ∈ ws := by rw [hw]; exact List.mem_cons_self
  refine ⟨⟨hrc, hrs, hR.1, hR.2, pay_in ht hG, hc⟩, ht _ (hG _ hc).1, ok _ (by simp [wsV]), ⟨hd.1, hd.2.1⟩, fun sig h => ?_, ok _ (by simp [wsV]), ok _ (by simp [wsV]), ok _ (by simp [wsV])⟩
  have h2 := hd.2.2
  rw [h] at h2
  exact (Option.some.inj h2).symm
theorem vx_runVW {y : MethodName} {bytes cc : ByteArray} {maxL nL mc ms n index : Nat} {ret : Option FieldType} {hh : List (Nat × Nat × Nat × Nat)} {ws : List Cond} {rm : Room} {Pc : Array Value → State → Prop} {Qc : Array Value → State → Outcome → State → Prop} {free : Addr → Prop} {Ts : List Cond} {own C : String} {b : Addr} {As rest : List Value} {g : JFrame}
    (S : CallFix p m c cc nL s args Ts own) (hM : Met l y ws rm Pc Qc mc ms free) (cw : vx_CVW R s args own C index y bytes maxL ret hh ws rm mc ms n) (hp : PreV s H C b Pc As)
    (hg : g.method = m) (hn : As.length = n) (hsize : g.locals.size = nL) (hstack : g.stack = As.reverse ++ .ref b :: rest) (hW : 2 * g.monitorRoom + (rest.map fun v => v.category).sum ≤ 8) (hdg : decode cc g.pc = .ok (.invokevirtual index, 3)) (hf : cells + mc ≤ R.cells ∧ slots + ms ≤ R.slots) :
    va_Run p l e R s m args below meth c H locs cells slots mc ms g rest (Qc (Value.ref b :: As).toArray) free := by
  obtain ⟨⟨hrc, hrs, hfr, hlo, hws, hcw⟩, hcode, hini, hy, hlen, hl, hin, hse⟩ := cw
  have hK : Back l R p e below s args y 3 8 (PreOf R mc ms Pc) (PostOf Qc mc ms free) := va_backW (hh := hh) (bytes := bytes) (maxL := maxL) (ret := ret) hM hp.1 hrc hrs hfr hlo hws hcw (fun a' U hW => word_at hW (Or.inl (by first | rfl | simp [Cond.onTables, Cond.keeps, Cond.steady])) hini)
  obtain ⟨hx, hb, hml, ho, -⟩ := S
  obtain ⟨-, ⟨cellB, hcB, hoB, hclB⟩, hPc⟩ := hp
  intro T hT X
  obtain ⟨v, vm₁, ⟨U', l2, c2, s2⟩, hW₁, X', ⟨g', mk, t, L, e1, e2, hq, h1, hL, h2, h3⟩, st⟩ := vx_callVW X hx (C := C) (hh := hh) (bytes := bytes) (maxL := maxL) (ret := ret) ho hl hin hse hcode hy hK (by rw [hT]; exact hcB) hoB hclB hg (hsize.trans hml.symm) (argsL := As) (rest := rest) (fun sig h => hn.trans (hlen sig h)) hstack hW (by rw [hb]; exact hdg)
    (fun vm₁ hW₁ => ⟨hf.1, hf.2, hPc (T.setVm vm₁) hT hW₁⟩)
  dsimp only [Pt.U, Pt.locs, Pt.cells, Pt.slots] at X' e1 e2 h1 h2 h3 st
  subst h1; subst h2; subst h3
  exact ⟨v, (T.setVm vm₁).calling g' mk (Value.ref b :: As).toArray, t, U', L, hT, X', hL, e1, e2, hq, st⟩
section
variable {y : MethodName} {bytes cc : ByteArray} {maxL nL mc ms n index : Nat} {ret : Option FieldType} {ws : List Cond} {rm : Room} {Pc : Array Value → State → Prop} {Qc : Array Value → State → Outcome → State → Prop} {XC : String → State → State → Prop} {free : Addr → Prop} {Ts : List Cond} {own C : String} {b : Addr} {As rest : List Value} {g : JFrame}
theorem vx_runVX {hh : List (Nat × Nat × Nat × Nat)} (S : CallFix p m c cc nL s args Ts own) (hM : vx_Met l y ws rm Pc Qc XC mc ms free) (cw : vx_CVW R s args own C index y bytes maxL ret hh ws rm mc ms n) (hp : PreV s H C b Pc As)
    (hg : g.method = m) (hn : As.length = n) (hsize : g.locals.size = nL) (hstack : g.stack = As.reverse ++ .ref b :: rest) (hW : 2 * g.monitorRoom + (rest.map fun v => v.category).sum ≤ 8) (hdg : decode cc g.pc = .ok (.invokevirtual index, 3)) (hf : cells + mc ≤ R.cells ∧ slots + ms ≤ R.slots) :
    vx_Run p l e R s m args below meth c H locs cells slots mc ms g rest (Qc (Value.ref b :: As).toArray) XC free := by
  obtain ⟨⟨hrc, hrs, hfr, hlo, hws, hcw⟩, hcode, hini, hy, hlen, hl, hin, hse⟩ := cw
  have hK : vx_Back l R p e below s args y 3 8 (PreOf R mc ms Pc) (PostOf Qc mc ms free) (vx_Post XC mc ms free) := vx_backW (hh := hh) (bytes := bytes) (maxL := maxL) (ret := ret) hM hp.1 hrc hrs hfr hlo hws hcw (fun a' U hW => word_at hW (Or.inl (by first | rfl | simp [Cond.onTables, Cond.keeps, Cond.steady])) hini)
  obtain ⟨hx, hb, hml, ho, -⟩ := S
  obtain ⟨-, ⟨cellB, hcB, hoB, hclB⟩, hPc⟩ := hp
  intro T hT X
  rcases vx_callVX X hx (C := C) (hh := hh) (bytes := bytes) (maxL := maxL) (ret := ret) ho hl hin hse hcode hy hK (by rw [hT]; exact hcB) hoB hclB hg (hsize.trans hml.symm) (argsL := As) (rest := rest) (fun sig h => hn.trans (hlen sig h)) hstack hW (by rw [hb]; exact hdg)
    (fun vm₁ hW₁ => ⟨hf.1, hf.2, hPc (T.setVm vm₁) hT hW₁⟩) with ⟨v, vm₁, ⟨U', l2, c2, s2⟩, hW₁, X', ⟨g', mk, t, L, e1, e2, hq, h1, hL, h2, h3⟩, st⟩ | ⟨q, vm₁, ⟨U', l2, c2, s2⟩, hW₁, X', ⟨g', mk, t, L, E, ce, e1, e2, hq, hce, hcv, hcl, h1, hL, h2, h3⟩, st⟩
  · dsimp only [Pt.U, Pt.locs, Pt.cells, Pt.slots] at X' e1 e2 h1 h2 h3 st
    subst h1; subst h2; subst h3
    exact Or.inl ⟨v, (T.setVm vm₁).calling g' mk (Value.ref b :: As).toArray, t, U', L, hT, X', hL, e1, e2, hq, st⟩
  · dsimp only [Pt.U, Pt.locs, Pt.cells, Pt.slots] at X' e1 e2 h1 h2 h3 st hcl
    subst h1; subst h2; subst h3
    exact Or.inr ⟨q, (T.setVm vm₁).calling g' mk (Value.ref b :: As).toArray, t, U', L, E, ce, hT, X', hL, e1, e2, hq, hce, hcv, vx_cls hW₁ hcl, st⟩
theorem vx_runSX {hh : List (Nat × Nat × Nat × Nat)} (S : CallFix p m c cc nL s args Ts own) (hM : vx_Met l y ws rm Pc Qc XC mc ms free) (cw : vx_CSW R s args own index y bytes maxL ret hh ws rm mc ms n) (hp : PreS s H Pc As)
    (hg : g.method = m) (hn : As.length = n) (hsize : g.locals.size = nL) (hstack : g.stack = As.reverse ++ rest) (hW : 2 * g.monitorRoom + (rest.map fun v => v.category).sum ≤ 8) (hdg : decode cc g.pc = .ok (.invokestatic index, 3)) (hf : cells + mc ≤ R.cells ∧ slots + ms ≤ R.slots) :
    vx_Run p l e R s m args below meth c H locs cells slots mc ms g rest (Qc As.toArray) XC free := by
  obtain ⟨⟨hrc, hrs, hfr, hlo, hws, hcw⟩, hcode, hini, hy, hlen, hl, hstt⟩ := cw
  have hK : vx_Back l R p e below s args y 3 8 (PreOf R mc ms Pc) (PostOf Qc mc ms free) (vx_Post XC mc ms free) := vx_backW (hh := hh) (bytes := bytes) (maxL := maxL) (ret := ret) hM hp.1 hrc hrs hfr hlo hws hcw (fun a' U hW => word_at hW (Or.inl (by first | rfl | simp [Cond.onTables, Cond.keeps, Cond.steady])) hini)
  obtain ⟨hx, hb, hml, ho, -⟩ := S
  intro T hT X
  rcases vx_callSX X hx (hh := hh) (bytes := bytes) (maxL := maxL) (ret := ret) ho hl hstt hini hcode hy hK hg (hsize.trans hml.symm) (argsL := As) (rest := rest) (fun sig h => hn.trans (hlen sig h)) hstack hW (by rw [hb]; exact hdg)
    (fun vm₁ hW₁ => ⟨hf.1, hf.2, hp.2 (T.setVm vm₁) hT hW₁⟩) with ⟨v, vm₁, ⟨U', l2, c2, s2⟩, hW₁, X', ⟨g', mk, t, L, e1, e2, hq, h1, hL, h2, h3⟩, st⟩ | ⟨q, vm₁, ⟨U', l2, c2, s2⟩, hW₁, X', ⟨g', mk, t, L, E, ce, e1, e2, hq, hce, hcv, hcl, h1, hL, h2, h3⟩, st⟩
  · dsimp only [Pt.U, Pt.locs, Pt.cells, Pt.slots] at X' e1 e2 h1 h2 h3 st
    subst h1; subst h2; subst h3
    exact Or.inl ⟨v, (T.setVm vm₁).calling g' mk As.toArray, t, U', L, hT, X', hL, e1, e2, hq, st⟩
  · dsimp only [Pt.U, Pt.locs, Pt.cells, Pt.slots] at X' e1 e2 h1 h2 h3 st hcl
    subst h1; subst h2; subst h3
    exact Or.inr ⟨q, (T.setVm vm₁).calling g' mk As.toArray, t, U', L, E, ce, hT, X', hL, e1, e2, hq, hce, hcv, vx_cls hW₁ hcl, st⟩
end
end VXH
theorem vx_ofWH {l : Launch} {y : MethodName} {ws ws' : List Cond} {rm : Room} {Pc : Array Value → State → Prop} {Qc : Array Value → State → Outcome → State → Prop} {XC : String → State → State → Prop} {mc ms : Nat} {free : Addr → Prop} {cc : ByteArray} {maxL : Nat} {ret : Option FieldType} {hh : List (Nat × Nat × Nat × Nat)}
    (hy : plainName y.cls = true) (hw : ws = Cond.codeWith y cc maxL ret hh :: ws')
    (body : ∀ p e s m args below meth c s₁, BodyLoose p l y (headSpec ws rm) cc maxL ret e s m args below meth c s₁ → c.maxLocals = maxL → Pc args s →
      W p l e (headSpec ws rm).room s m args below meth c s.heap [] 0 0 (vx_MQ below Qc XC args s mc ms free) (entryFrame m args maxL)) : vx_Met l y ws rm Pc Qc XC mc ms free := by
  refine MetFree.of_bodyS (code := cc) (maxLocals := maxL) (ret := ret) hy ?_ ?_
  · intro args s m h hn
    obtain ⟨m9, meth, c, hn9, h1, h2, h3, h4, -, h5, h6, -⟩ := Cond.codeWith_spec (atoms_spec (ws := ws) h _ (by rw [hw]; exact List.mem_cons_self))
    cases hn.symm.trans hn9
    exact ⟨meth, c, h1, h2, h3, h4, h5, h6⟩
  · intro p e s m args below meth c s₁ B hml hP _
    have hh0 : s₁.heap = s.heap := by rw [B.state]; rfl
    obtain ⟨t, a1, o, b1, b2, b3⟩ := body p e s m args below meth c s₁ B hml hP s₁ hh0 (Stand.of_body B)
    exact ⟨t, o, a1, b1, b2, b3⟩
/-! ===== END ===== -/

def vx_atN (n : Nat) : List Cond := (Bundle.npeArmAtoms n).filter vx_no
def vx_atM (X : String) (names : List String) : List Cond := (Bundle.messageArmAtoms X names).filter vx_no
end
section
/-! ===== BEGIN printed: names, fields, word lists, decode rows ===== -/
def RX0 : String := "TrainedSegments$Dictionary"
def TX0 : u_T := fun k => match k with
  | 0 => ("TrainedSegments$Dictionary", "words", "LTrainedSegments$Row;", true)
  | 1 => ("TrainedSegments$Dictionary", "pieceLength", "I", false)
  | 2 => ("TrainedSegments$Dictionary", "pieces", "I", false)
  | _ => ("TrainedSegments$Dictionary", "id", "I", false)
def tyX0 : Nat → FieldType := fun k => match k with
  | 0 => .object "TrainedSegments$Row"
  | 1 => .int
  | 2 => .int
  | _ => .int
abbrev wsX00 : List Cond := u_ws RX0 TX0 4
theorem nmX0 : ∀ a, a < 4 → ∀ b, b < 4 → a ≠ b → (TX0 a).2.1 ≠ (TX0 b).2.1 := by decide +kernel
theorem tyX0_ok : ∀ k, k < 4 → parseFieldDescriptor (TX0 k).2.2.1 = some (tyX0 k) := by decide +kernel
abbrev cX0_init : ByteArray := prog_2_method_1_code
def yX0_init : MethodName := ⟨RX0, "<init>", "()V"⟩
abbrev cX0_words : ByteArray := prog_2_method_2_code
def yX0_words : MethodName := ⟨RX0, "words", "()LTrainedSegments$Row;"⟩
abbrev cX0_id : ByteArray := prog_2_method_3_code
def yX0_id : MethodName := ⟨RX0, "id", "()I"⟩
abbrev cX0_isThere : ByteArray := prog_2_method_4_code
def yX0_isThere : MethodName := ⟨RX0, "isThere", "()Z"⟩
abbrev cX0_pieces : ByteArray := prog_2_method_5_code
def yX0_pieces : MethodName := ⟨RX0, "pieces", "()I"⟩
abbrev cX0_pieceLength : ByteArray := prog_2_method_6_code
def yX0_pieceLength : MethodName := ⟨RX0, "pieceLength", "()I"⟩
abbrev cX0_sum : ByteArray := prog_2_method_7_code
def yX0_sum : MethodName := ⟨RX0, "sum", "()I"⟩
abbrev cX0_begin : ByteArray := prog_2_method_8_code
def yX0_begin : MethodName := ⟨RX0, "begin", "(II)V"⟩
abbrev cX0_addPiece : ByteArray := prog_2_method_9_code
def yX0_addPiece : MethodName := ⟨RX0, "addPiece", "(LTrainedSegments$Row;I)V"⟩
abbrev cX0_copyWithout : ByteArray := prog_2_method_10_code
def yX0_copyWithout : MethodName := ⟨RX0, "copyWithout", "(ILTrainedSegments$Row;)V"⟩
abbrev cX0_removePiece : ByteArray := prog_2_method_11_code
def yX0_removePiece : MethodName := ⟨RX0, "removePiece", "(I)V"⟩
def RX1 : String := "TrainedSegments$Opener"
def TX1 : u_T := fun k => match k with
  | 0 => ("TrainedSegments$Opener", "joined", "LTrainedSegments$Row;", true)
  | 1 => ("TrainedSegments$Opener", "start", "I", false)
  | 2 => ("TrainedSegments$Opener", "wanted", "I", false)
  | _ => ("TrainedSegments$Opener", "place", "I", false)
def tyX1 : Nat → FieldType := fun k => match k with
  | 0 => .object "TrainedSegments$Row"
  | 1 => .int
  | 2 => .int
  | _ => .int
abbrev wsX10 : List Cond := u_ws RX1 TX1 4
theorem nmX1 : ∀ a, a < 4 → ∀ b, b < 4 → a ≠ b → (TX1 a).2.1 ≠ (TX1 b).2.1 := by decide +kernel
theorem tyX1_ok : ∀ k, k < 4 → parseFieldDescriptor (TX1 k).2.2.1 = some (tyX1 k) := by decide +kernel
abbrev cX1_init : ByteArray := prog_3_method_1_code
def yX1_init : MethodName := ⟨RX1, "<init>", "()V"⟩
abbrev cX1_decode : ByteArray := prog_3_method_2_code
def yX1_decode : MethodName := ⟨RX1, "decode", "(LTrainedSegments$Row;LTrainedSegments$Dictionary;)I"⟩
abbrev cX1_handOver : ByteArray := prog_3_method_3_code
def yX1_handOver : MethodName := ⟨RX1, "handOver", "(LTrainedSegments$Row;)V"⟩
abbrev cX1_wrongInHeader : ByteArray := prog_3_method_4_code
def yX1_wrongInHeader : MethodName := ⟨RX1, "wrongInHeader", "(LTrainedSegments$Row;LTrainedSegments$Dictionary;)I"⟩
abbrev cX1_readItem : ByteArray := prog_3_method_5_code
def yX1_readItem : MethodName := ⟨RX1, "readItem", "(LTrainedSegments$Row;)I"⟩
abbrev cX1_readPlain : ByteArray := prog_3_method_6_code
def yX1_readPlain : MethodName := ⟨RX1, "readPlain", "(LTrainedSegments$Row;I)I"⟩
abbrev cX1_readMatch : ByteArray := prog_3_method_7_code
def yX1_readMatch : MethodName := ⟨RX1, "readMatch", "(LTrainedSegments$Row;II)I"⟩
def RX2 : String := "TrainedSegments$Output"
def TX2 : u_T := fun k => match k with
  | 0 => ("TrainedSegments$Output", "bytes", "LTrainedSegments$Row;", true)
  | 1 => ("TrainedSegments$Output", "items", "I", false)
  | _ => ("TrainedSegments$Output", "matches", "I", false)
def tyX2 : Nat → FieldType := fun k => match k with
  | 0 => .object "TrainedSegments$Row"
  | 1 => .int
  | _ => .int
abbrev wsX20 : List Cond := u_ws RX2 TX2 3
theorem nmX2 : ∀ a, a < 3 → ∀ b, b < 3 → a ≠ b → (TX2 a).2.1 ≠ (TX2 b).2.1 := by decide +kernel
theorem tyX2_ok : ∀ k, k < 3 → parseFieldDescriptor (TX2 k).2.2.1 = some (tyX2 k) := by decide +kernel
abbrev cX2_init : ByteArray := prog_4_method_1_code
def yX2_init : MethodName := ⟨RX2, "<init>", "()V"⟩
abbrev cX2_bytes : ByteArray := prog_4_method_2_code
def yX2_bytes : MethodName := ⟨RX2, "bytes", "()LTrainedSegments$Row;"⟩
abbrev cX2_items : ByteArray := prog_4_method_3_code
def yX2_items : MethodName := ⟨RX2, "items", "()I"⟩
abbrev cX2_matches : ByteArray := prog_4_method_4_code
def yX2_matches : MethodName := ⟨RX2, "matches", "()I"⟩
abbrev cX2_begin : ByteArray := prog_4_method_5_code
def yX2_begin : MethodName := ⟨RX2, "begin", "(LTrainedSegments$Dictionary;I)V"⟩
abbrev cX2_addMatch : ByteArray := prog_4_method_6_code
def yX2_addMatch : MethodName := ⟨RX2, "addMatch", "(II)V"⟩
abbrev cX2_addPlain : ByteArray := prog_4_method_7_code
def yX2_addPlain : MethodName := ⟨RX2, "addPlain", "([BII)V"⟩
def RX3 : String := "TrainedSegments$Packer"
def TX3 : u_T := fun k => match k with
  | 0 => ("TrainedSegments$Packer", "joined", "[B", true)
  | 1 => ("TrainedSegments$Packer", "earlier", "[I", true)
  | 2 => ("TrainedSegments$Packer", "latest", "[I", true)
  | 3 => ("TrainedSegments$Packer", "cost", "[I", true)
  | 4 => ("TrainedSegments$Packer", "choice", "[I", true)
  | 5 => ("TrainedSegments$Packer", "start", "I", false)
  | _ => ("TrainedSegments$Packer", "length", "I", false)
def tyX3 : Nat → FieldType := fun k => match k with
  | 0 => .array .byte
  | 1 => .array .int
  | 2 => .array .int
  | 3 => .array .int
  | 4 => .array .int
  | 5 => .int
  | _ => .int
abbrev wsX30 : List Cond := u_ws RX3 TX3 7
theorem nmX3 : ∀ a, a < 7 → ∀ b, b < 7 → a ≠ b → (TX3 a).2.1 ≠ (TX3 b).2.1 := by decide +kernel
theorem tyX3_ok : ∀ k, k < 7 → parseFieldDescriptor (TX3 k).2.2.1 = some (tyX3 k) := by decide +kernel
abbrev cX3_init : ByteArray := prog_5_method_1_code
def yX3_init : MethodName := ⟨RX3, "<init>", "()V"⟩
abbrev cX3_measure : ByteArray := prog_5_method_2_code
def yX3_measure : MethodName := ⟨RX3, "measure", "(LTrainedSegments$Row;LTrainedSegments$Row;)I"⟩
abbrev cX3_write : ByteArray := prog_5_method_3_code
def yX3_write : MethodName := ⟨RX3, "write", "(LTrainedSegments$Output;)V"⟩
abbrev cX3_linkSameBytes : ByteArray := prog_5_method_4_code
def yX3_linkSameBytes : MethodName := ⟨RX3, "linkSameBytes", "()V"⟩
abbrev cX3_tryMatches : ByteArray := prog_5_method_5_code
def yX3_tryMatches : MethodName := ⟨RX3, "tryMatches", "(I)V"⟩
abbrev cX3_tryPlain : ByteArray := prog_5_method_6_code
def yX3_tryPlain : MethodName := ⟨RX3, "tryPlain", "(I)V"⟩
abbrev cX3_longestMatch : ByteArray := prog_5_method_7_code
def yX3_longestMatch : MethodName := ⟨RX3, "longestMatch", "(I)I"⟩
abbrev cX3_leastDistance : ByteArray := prog_5_method_8_code
def yX3_leastDistance : MethodName := ⟨RX3, "leastDistance", "(II)I"⟩
abbrev cX3_sameBytes : ByteArray := prog_5_method_9_code
def yX3_sameBytes : MethodName := ⟨RX3, "sameBytes", "(III)I"⟩
def RX4 : String := "TrainedSegments$Row"
def TX4 : u_T := fun k => match k with
  | 0 => ("TrainedSegments$Row", "bytes", "[B", true)
  | _ => ("TrainedSegments$Row", "length", "I", false)
def tyX4 : Nat → FieldType := fun k => match k with
  | 0 => .array .byte
  | _ => .int
abbrev wsX40 : List Cond := u_ws RX4 TX4 2
theorem nmX4 : ∀ a, a < 2 → ∀ b, b < 2 → a ≠ b → (TX4 a).2.1 ≠ (TX4 b).2.1 := by decide +kernel
theorem tyX4_ok : ∀ k, k < 2 → parseFieldDescriptor (TX4 k).2.2.1 = some (tyX4 k) := by decide +kernel
abbrev cX4_init : ByteArray := prog_6_method_1_code
def yX4_init : MethodName := ⟨RX4, "<init>", "(I)V"⟩
abbrev cX4_length : ByteArray := prog_6_method_2_code
def yX4_length : MethodName := ⟨RX4, "length", "()I"⟩
abbrev cX4_has : ByteArray := prog_6_method_3_code
def yX4_has : MethodName := ⟨RX4, "has", "(I)Z"⟩
abbrev cX4_hasRoom : ByteArray := prog_6_method_4_code
def yX4_hasRoom : MethodName := ⟨RX4, "hasRoom", "(I)Z"⟩
abbrev cX4_signedAt : ByteArray := prog_6_method_5_code
def yX4_signedAt : MethodName := ⟨RX4, "signedAt", "(I)B"⟩
abbrev cX4_at : ByteArray := prog_6_method_6_code
def yX4_at : MethodName := ⟨RX4, "at", "(I)I"⟩
abbrev cX4_clear : ByteArray := prog_6_method_7_code
def yX4_clear : MethodName := ⟨RX4, "clear", "()V"⟩
abbrev cX4_add : ByteArray := prog_6_method_8_code
def yX4_add : MethodName := ⟨RX4, "add", "(I)V"⟩
abbrev cX4_addFrom : ByteArray := prog_6_method_9_code
def yX4_addFrom : MethodName := ⟨RX4, "addFrom", "(LTrainedSegments$Row;II)V"⟩
abbrev cX4_become : ByteArray := prog_6_method_10_code
def yX4_become : MethodName := ⟨RX4, "become", "(LTrainedSegments$Row;)V"⟩
abbrev cX4_cutOut : ByteArray := prog_6_method_11_code
def yX4_cutOut : MethodName := ⟨RX4, "cutOut", "(II)V"⟩
abbrev cX4_copyTo : ByteArray := prog_6_method_12_code
def yX4_copyTo : MethodName := ⟨RX4, "copyTo", "([BI)I"⟩
abbrev cX4_sum : ByteArray := prog_6_method_13_code
def yX4_sum : MethodName := ⟨RX4, "sum", "()I"⟩
def RX5 : String := "TrainedSegments$Trainer"
def TX5 : u_T := fun k => match k with
  | 0 => ("TrainedSegments$Trainer", "places", "LTrainedSegments$Row;", true)
  | 1 => ("TrainedSegments$Trainer", "covered", "[Z", true)
  | 2 => ("TrainedSegments$Trainer", "kind", "[I", true)
  | 3 => ("TrainedSegments$Trainer", "count", "[I", true)
  | 4 => ("TrainedSegments$Trainer", "freeFrom", "[I", true)
  | 5 => ("TrainedSegments$Trainer", "taken", "[I", true)
  | 6 => ("TrainedSegments$Trainer", "takenCount", "I", false)
  | _ => ("TrainedSegments$Trainer", "n", "I", false)
def tyX5 : Nat → FieldType := fun k => match k with
  | 0 => .object "TrainedSegments$Row"
  | 1 => .array .boolean
  | 2 => .array .int
  | 3 => .array .int
  | 4 => .array .int
  | 5 => .array .int
  | 6 => .int
  | _ => .int
abbrev wsX50 : List Cond := u_ws RX5 TX5 8
theorem nmX5 : ∀ a, a < 8 → ∀ b, b < 8 → a ≠ b → (TX5 a).2.1 ≠ (TX5 b).2.1 := by decide +kernel
theorem tyX5_ok : ∀ k, k < 8 → parseFieldDescriptor (TX5 k).2.2.1 = some (tyX5 k) := by decide +kernel
abbrev cX5_init : ByteArray := prog_7_method_1_code
def yX5_init : MethodName := ⟨RX5, "<init>", "()V"⟩
abbrev cX5_load : ByteArray := prog_7_method_2_code
def yX5_load : MethodName := ⟨RX5, "load", "([LTrainedSegments$Row;II)V"⟩
abbrev cX5_takeRows : ByteArray := prog_7_method_3_code
def yX5_takeRows : MethodName := ⟨RX5, "takeRows", "(I)V"⟩
abbrev cX5_handOver : ByteArray := prog_7_method_4_code
def yX5_handOver : MethodName := ⟨RX5, "handOver", "(LTrainedSegments$Dictionary;)V"⟩
abbrev cX5_markKinds : ByteArray := prog_7_method_5_code
def yX5_markKinds : MethodName := ⟨RX5, "markKinds", "(II)V"⟩
abbrev cX5_firstSameRow : ByteArray := prog_7_method_6_code
def yX5_firstSameRow : MethodName := ⟨RX5, "firstSameRow", "(I)I"⟩
abbrev cX5_isSameRow : ByteArray := prog_7_method_7_code
def yX5_isSameRow : MethodName := ⟨RX5, "isSameRow", "(II)Z"⟩
abbrev cX5_isFreeRow : ByteArray := prog_7_method_8_code
def yX5_isFreeRow : MethodName := ⟨RX5, "isFreeRow", "(I)Z"⟩
abbrev cX5_countRows : ByteArray := prog_7_method_9_code
def yX5_countRows : MethodName := ⟨RX5, "countRows", "()V"⟩
abbrev cX5_placeOfMost : ByteArray := prog_7_method_10_code
def yX5_placeOfMost : MethodName := ⟨RX5, "placeOfMost", "()I"⟩
abbrev cX5_cover : ByteArray := prog_7_method_11_code
def yX5_cover : MethodName := ⟨RX5, "cover", "(I)V"⟩
abbrev cX5_coverFrom : ByteArray := prog_7_method_12_code
def yX5_coverFrom : MethodName := ⟨RX5, "coverFrom", "(IIZ)V"⟩
def RX6 : String := "TrainedSegments"
def TX6 : u_T := fun k => match k with
  | 0 => ("TrainedSegments", "tape", "LTrainedSegments$Row;", true)
  | 1 => ("TrainedSegments", "samples", "[LTrainedSegments$Row;", true)
  | 2 => ("TrainedSegments", "dictionaries", "[LTrainedSegments$Dictionary;", true)
  | 3 => ("TrainedSegments", "none", "LTrainedSegments$Dictionary;", true)
  | 4 => ("TrainedSegments", "trial", "LTrainedSegments$Row;", true)
  | 5 => ("TrainedSegments", "opened", "LTrainedSegments$Row;", true)
  | 6 => ("TrainedSegments", "output", "LTrainedSegments$Output;", true)
  | 7 => ("TrainedSegments", "packer", "LTrainedSegments$Packer;", true)
  | 8 => ("TrainedSegments", "trainer", "LTrainedSegments$Trainer;", true)
  | 9 => ("TrainedSegments", "opener", "LTrainedSegments$Opener;", true)
  | _ => ("TrainedSegments", "sampleCount", "I", false)
def tyX6 : Nat → FieldType := fun k => match k with
  | 0 => .object "TrainedSegments$Row"
  | 1 => .array (.object "TrainedSegments$Row")
  | 2 => .array (.object "TrainedSegments$Dictionary")
  | 3 => .object "TrainedSegments$Dictionary"
  | 4 => .object "TrainedSegments$Row"
  | 5 => .object "TrainedSegments$Row"
  | 6 => .object "TrainedSegments$Output"
  | 7 => .object "TrainedSegments$Packer"
  | 8 => .object "TrainedSegments$Trainer"
  | 9 => .object "TrainedSegments$Opener"
  | _ => .int
abbrev wsX60 : List Cond := u_ws RX6 TX6 11
theorem nmX6 : ∀ a, a < 11 → ∀ b, b < 11 → a ≠ b → (TX6 a).2.1 ≠ (TX6 b).2.1 := by decide +kernel
theorem tyX6_ok : ∀ k, k < 11 → parseFieldDescriptor (TX6 k).2.2.1 = some (tyX6 k) := by decide +kernel
abbrev cX6_init : ByteArray := prog_1_method_1_code
def yX6_init : MethodName := ⟨RX6, "<init>", "()V"⟩
abbrev cX6_feed : ByteArray := prog_1_method_2_code
def yX6_feed : MethodName := ⟨RX6, "feed", "(IJ)I"⟩
abbrev cX6_sample : ByteArray := prog_1_method_3_code
def yX6_sample : MethodName := ⟨RX6, "sample", "()I"⟩
abbrev cX6_forget : ByteArray := prog_1_method_4_code
def yX6_forget : MethodName := ⟨RX6, "forget", "()I"⟩
abbrev cX6_train : ByteArray := prog_1_method_5_code
def yX6_train : MethodName := ⟨RX6, "train", "(IIII)I"⟩
abbrev cX6_give : ByteArray := prog_1_method_6_code
def yX6_give : MethodName := ⟨RX6, "give", "(II)I"⟩
abbrev cX6_trim : ByteArray := prog_1_method_7_code
def yX6_trim : MethodName := ⟨RX6, "trim", "(I)I"⟩
abbrev cX6_drop : ByteArray := prog_1_method_8_code
def yX6_drop : MethodName := ⟨RX6, "drop", "(I)I"⟩
abbrev cX6_told : ByteArray := prog_1_method_9_code
def yX6_told : MethodName := ⟨RX6, "told", "(II)I"⟩
abbrev cX6_content : ByteArray := prog_1_method_10_code
def yX6_content : MethodName := ⟨RX6, "content", "(II)B"⟩
abbrev cX6_pack : ByteArray := prog_1_method_11_code
def yX6_pack : MethodName := ⟨RX6, "pack", "(I)I"⟩
abbrev cX6_out : ByteArray := prog_1_method_12_code
def yX6_out : MethodName := ⟨RX6, "out", "(I)I"⟩
abbrev cX6_open : ByteArray := prog_1_method_13_code
def yX6_open : MethodName := ⟨RX6, "open", "()I"⟩
abbrev cX6_text : ByteArray := prog_1_method_14_code
def yX6_text : MethodName := ⟨RX6, "text", "(I)I"⟩
abbrev cX6_size : ByteArray := prog_1_method_15_code
def yX6_size : MethodName := ⟨RX6, "size", "(II)I"⟩
abbrev cX6_best : ByteArray := prog_1_method_16_code
def yX6_best : MethodName := ⟨RX6, "best", "(I)I"⟩
abbrev cX6_share : ByteArray := prog_1_method_17_code
def yX6_share : MethodName := ⟨RX6, "share", "(I)I"⟩
abbrev cX6_about : ByteArray := prog_1_method_18_code
def yX6_about : MethodName := ⟨RX6, "about", "(I)I"⟩
abbrev cX6_isNumber : ByteArray := prog_1_method_19_code
def yX6_isNumber : MethodName := ⟨RX6, "isNumber", "(I)Z"⟩
abbrev cX6_isId : ByteArray := prog_1_method_20_code
def yX6_isId : MethodName := ⟨RX6, "isId", "(I)Z"⟩
abbrev cX6_isSample : ByteArray := prog_1_method_21_code
def yX6_isSample : MethodName := ⟨RX6, "isSample", "(I)Z"⟩
abbrev cX6_thereAt : ByteArray := prog_1_method_22_code
def yX6_thereAt : MethodName := ⟨RX6, "thereAt", "(I)LTrainedSegments$Dictionary;"⟩
abbrev cX6_noneOrThereAt : ByteArray := prog_1_method_23_code
def yX6_noneOrThereAt : MethodName := ⟨RX6, "noneOrThereAt", "(I)LTrainedSegments$Dictionary;"⟩
abbrev cX6_firstWithId : ByteArray := prog_1_method_24_code
def yX6_firstWithId : MethodName := ⟨RX6, "firstWithId", "(I)LTrainedSegments$Dictionary;"⟩
abbrev cX6_countThere : ByteArray := prog_1_method_25_code
def yX6_countThere : MethodName := ⟨RX6, "countThere", "()I"⟩
abbrev cX6_bytesOfSamples : ByteArray := prog_1_method_26_code
def yX6_bytesOfSamples : MethodName := ⟨RX6, "bytesOfSamples", "(LTrainedSegments$Row;)I"⟩
abbrev cX6_leaveOutIdlePieces : ByteArray := prog_1_method_27_code
def yX6_leaveOutIdlePieces : MethodName := ⟨RX6, "leaveOutIdlePieces", "(LTrainedSegments$Dictionary;)I"⟩
def RX7 : String := "TrainedSegmentsModel"
def TX7 : u_T := fun k => match k with
  | 0 => ("TrainedSegmentsModel", "thrown", "I", false)
  | 1 => ("TrainedSegmentsModel", "tape", "[I", true)
  | 2 => ("TrainedSegmentsModel", "taped", "I", false)
  | 3 => ("TrainedSegmentsModel", "samples", "I", false)
  | 4 => ("TrainedSegmentsModel", "sampleLong", "[I", true)
  | 5 => ("TrainedSegmentsModel", "sampleByte", "[I", true)
  | 6 => ("TrainedSegmentsModel", "idOf", "[I", true)
  | 7 => ("TrainedSegmentsModel", "pieces", "[I", true)
  | 8 => ("TrainedSegmentsModel", "pieceLong", "[I", true)
  | 9 => ("TrainedSegmentsModel", "bytesOf", "[I", true)
  | 10 => ("TrainedSegmentsModel", "dictionary", "[I", true)
  | 11 => ("TrainedSegmentsModel", "covered", "[Z", true)
  | 12 => ("TrainedSegmentsModel", "taken", "[I", true)
  | 13 => ("TrainedSegmentsModel", "takenMany", "I", false)
  | 14 => ("TrainedSegmentsModel", "row", "[I", true)
  | 15 => ("TrainedSegmentsModel", "ahead", "I", false)
  | 16 => ("TrainedSegmentsModel", "textLong", "I", false)
  | 17 => ("TrainedSegmentsModel", "cost", "[I", true)
  | 18 => ("TrainedSegmentsModel", "leastD", "[I", true)
  | 19 => ("TrainedSegmentsModel", "out", "[I", true)
  | 20 => ("TrainedSegmentsModel", "outMany", "I", false)
  | 21 => ("TrainedSegmentsModel", "items", "I", false)
  | 22 => ("TrainedSegmentsModel", "matches", "I", false)
  | 23 => ("TrainedSegmentsModel", "text", "[I", true)
  | _ => ("TrainedSegmentsModel", "textMany", "I", false)
def tyX7 : Nat → FieldType := fun k => match k with
  | 0 => .int
  | 1 => .array .int
  | 2 => .int
  | 3 => .int
  | 4 => .array .int
  | 5 => .array .int
  | 6 => .array .int
  | 7 => .array .int
  | 8 => .array .int
  | 9 => .array .int
  | 10 => .array .int
  | 11 => .array .boolean
  | 12 => .array .int
  | 13 => .int
  | 14 => .array .int
  | 15 => .int
  | 16 => .int
  | 17 => .array .int
  | 18 => .array .int
  | 19 => .array .int
  | 20 => .int
  | 21 => .int
  | 22 => .int
  | 23 => .array .int
  | _ => .int
abbrev wsX70 : List Cond := u_ws RX7 TX7 25
theorem nmX7 : ∀ a, a < 25 → ∀ b, b < 25 → a ≠ b → (TX7 a).2.1 ≠ (TX7 b).2.1 := by decide +kernel
theorem tyX7_ok : ∀ k, k < 25 → parseFieldDescriptor (TX7 k).2.2.1 = some (tyX7 k) := by decide +kernel
abbrev cX7_init : ByteArray := prog_9_method_1_code
def yX7_init : MethodName := ⟨RX7, "<init>", "()V"⟩
abbrev cX7_thrown : ByteArray := prog_9_method_2_code
def yX7_thrown : MethodName := ⟨RX7, "thrown", "()I"⟩
abbrev cX7_in : ByteArray := prog_9_method_3_code
def yX7_in : MethodName := ⟨RX7, "in", "(JJJ)Z"⟩
abbrev cX7_feed : ByteArray := prog_9_method_4_code
def yX7_feed : MethodName := ⟨RX7, "feed", "(IJ)I"⟩
abbrev cX7_sample : ByteArray := prog_9_method_5_code
def yX7_sample : MethodName := ⟨RX7, "sample", "()I"⟩
abbrev cX7_forget : ByteArray := prog_9_method_6_code
def yX7_forget : MethodName := ⟨RX7, "forget", "()I"⟩
abbrev cX7_isOpen : ByteArray := prog_9_method_7_code
def yX7_isOpen : MethodName := ⟨RX7, "isOpen", "(III)Z"⟩
abbrev cX7_areAlike : ByteArray := prog_9_method_8_code
def yX7_areAlike : MethodName := ⟨RX7, "areAlike", "(III)Z"⟩
abbrev cX7_counted : ByteArray := prog_9_method_9_code
def yX7_counted : MethodName := ⟨RX7, "counted", "(IIZ)I"⟩
abbrev cX7_train : ByteArray := prog_9_method_10_code
def yX7_train : MethodName := ⟨RX7, "train", "(IIII)I"⟩
abbrev cX7_give : ByteArray := prog_9_method_11_code
def yX7_give : MethodName := ⟨RX7, "give", "(II)I"⟩
abbrev cX7_isThere : ByteArray := prog_9_method_12_code
def yX7_isThere : MethodName := ⟨RX7, "isThere", "(I)Z"⟩
abbrev cX7_pieceAt : ByteArray := prog_9_method_13_code
def yX7_pieceAt : MethodName := ⟨RX7, "pieceAt", "(II)I"⟩
abbrev cX7_layAhead : ByteArray := prog_9_method_14_code
def yX7_layAhead : MethodName := ⟨RX7, "layAhead", "(II)V"⟩
abbrev cX7_laySample : ByteArray := prog_9_method_15_code
def yX7_laySample : MethodName := ⟨RX7, "laySample", "(I)V"⟩
abbrev cX7_findMatches : ByteArray := prog_9_method_16_code
def yX7_findMatches : MethodName := ⟨RX7, "findMatches", "(I)V"⟩
abbrev cX7_packedLong : ByteArray := prog_9_method_17_code
def yX7_packedLong : MethodName := ⟨RX7, "packedLong", "()I"⟩
abbrev cX7_sizeOf : ByteArray := prog_9_method_18_code
def yX7_sizeOf : MethodName := ⟨RX7, "sizeOf", "(III)I"⟩
abbrev cX7_sizeOfAll : ByteArray := prog_9_method_19_code
def yX7_sizeOfAll : MethodName := ⟨RX7, "sizeOfAll", "(II)I"⟩
abbrev cX7_trim : ByteArray := prog_9_method_20_code
def yX7_trim : MethodName := ⟨RX7, "trim", "(I)I"⟩
abbrev cX7_goes : ByteArray := prog_9_method_21_code
def yX7_goes : MethodName := ⟨RX7, "goes", "(II)V"⟩
abbrev cX7_drop : ByteArray := prog_9_method_22_code
def yX7_drop : MethodName := ⟨RX7, "drop", "(I)I"⟩
abbrev cX7_sumOf : ByteArray := prog_9_method_23_code
def yX7_sumOf : MethodName := ⟨RX7, "sumOf", "(I)I"⟩
abbrev cX7_told : ByteArray := prog_9_method_24_code
def yX7_told : MethodName := ⟨RX7, "told", "(II)I"⟩
abbrev cX7_content : ByteArray := prog_9_method_25_code
def yX7_content : MethodName := ⟨RX7, "content", "(II)B"⟩
abbrev cX7_put : ByteArray := prog_9_method_26_code
def yX7_put : MethodName := ⟨RX7, "put", "(I)V"⟩
abbrev cX7_putItem : ByteArray := prog_9_method_27_code
def yX7_putItem : MethodName := ⟨RX7, "putItem", "(I)I"⟩
abbrev cX7_pack : ByteArray := prog_9_method_28_code
def yX7_pack : MethodName := ⟨RX7, "pack", "(I)I"⟩
abbrev cX7_out : ByteArray := prog_9_method_29_code
def yX7_out : MethodName := ⟨RX7, "out", "(I)I"⟩
abbrev cX7_firstWith : ByteArray := prog_9_method_30_code
def yX7_firstWith : MethodName := ⟨RX7, "firstWith", "(I)I"⟩
abbrev cX7_wrong : ByteArray := prog_9_method_31_code
def yX7_wrong : MethodName := ⟨RX7, "wrong", "()I"⟩
abbrev cX7_open : ByteArray := prog_9_method_32_code
def yX7_open : MethodName := ⟨RX7, "open", "()I"⟩
abbrev cX7_text : ByteArray := prog_9_method_33_code
def yX7_text : MethodName := ⟨RX7, "text", "(I)I"⟩
abbrev cX7_size : ByteArray := prog_9_method_34_code
def yX7_size : MethodName := ⟨RX7, "size", "(II)I"⟩
abbrev cX7_best : ByteArray := prog_9_method_35_code
def yX7_best : MethodName := ⟨RX7, "best", "(I)I"⟩
abbrev cX7_share : ByteArray := prog_9_method_36_code
def yX7_share : MethodName := ⟨RX7, "share", "(I)I"⟩
abbrev cX7_about : ByteArray := prog_9_method_37_code
def yX7_about : MethodName := ⟨RX7, "about", "(I)I"⟩
def RJx00060 : String := "java/lang/ArrayIndexOutOfBoundsException"
def TJx00060 : u_T := fun k => match k with
  | 0 => ("java/lang/Throwable", "backtrace", "Ljava/lang/Object;", false)
  | 1 => ("java/lang/Throwable", "detailMessage", "Ljava/lang/String;", false)
  | 2 => ("java/lang/Throwable", "cause", "Ljava/lang/Throwable;", false)
  | 3 => ("java/lang/Throwable", "stackTrace", "[Ljava/lang/StackTraceElement;", false)
  | 4 => ("java/lang/Throwable", "depth", "I", false)
  | _ => ("java/lang/Throwable", "suppressedExceptions", "Ljava/util/List;", false)
def tyJx00060 : Nat → FieldType := fun k => match k with
  | 0 => .object "java/lang/Object"
  | 1 => .object "java/lang/String"
  | 2 => .object "java/lang/Throwable"
  | 3 => .array (.object "java/lang/StackTraceElement")
  | 4 => .int
  | _ => .object "java/util/List"
abbrev wsJx000600 : List Cond := u_ws RJx00060 TJx00060 6
theorem nmJx00060 : ∀ a, a < 6 → ∀ b, b < 6 → a ≠ b → (TJx00060 a).2.1 ≠ (TJx00060 b).2.1 := by decide +kernel
theorem tyJx00060_ok : ∀ k, k < 6 → parseFieldDescriptor (TJx00060 k).2.2.1 = some (tyJx00060 k) := by decide +kernel
abbrev cJx00060_init_a7421 : ByteArray := prog_11_method_2_code
def yJx00060_init_a7421 : MethodName := ⟨RJx00060, "<init>", "(Ljava/lang/String;)V"⟩
def RJ9 : String := "java/lang/Math"
def TJ9 : u_T := fun k => match k with
  | _ => ("", "", "", false)
def tyJ9 : Nat → FieldType := fun k => match k with
  | _ => .int
abbrev wsJ90 : List Cond := u_ws RJ9 TJ9 0
theorem nmJ9 : ∀ a, a < 0 → ∀ b, b < 0 → a ≠ b → (TJ9 a).2.1 ≠ (TJ9 b).2.1 := by decide +kernel
theorem tyJ9_ok : ∀ k, k < 0 → parseFieldDescriptor (TJ9 k).2.2.1 = some (tyJ9 k) := by decide +kernel
abbrev cJ9_abs_0f7a4 : ByteArray := prog_14_method_59_code
def yJ9_abs_0f7a4 : MethodName := ⟨RJ9, "abs", "(I)I"⟩
abbrev cJ9_max_7cf53 : ByteArray := prog_14_method_65_code
def yJ9_max_7cf53 : MethodName := ⟨RJ9, "max", "(II)I"⟩
abbrev cJ9_min_7cf53 : ByteArray := prog_14_method_69_code
def yJ9_min_7cf53 : MethodName := ⟨RJ9, "min", "(II)I"⟩
def RJx5d777 : String := "java/lang/NullPointerException"
def TJx5d777 : u_T := fun k => match k with
  | 0 => ("java/lang/Throwable", "backtrace", "Ljava/lang/Object;", false)
  | 1 => ("java/lang/Throwable", "detailMessage", "Ljava/lang/String;", false)
  | 2 => ("java/lang/Throwable", "cause", "Ljava/lang/Throwable;", false)
  | 3 => ("java/lang/Throwable", "stackTrace", "[Ljava/lang/StackTraceElement;", false)
  | 4 => ("java/lang/Throwable", "depth", "I", false)
  | 5 => ("java/lang/Throwable", "suppressedExceptions", "Ljava/util/List;", false)
  | 6 => ("java/lang/NullPointerException", "extendedMessageState", "I", false)
  | _ => ("java/lang/NullPointerException", "extendedMessage", "Ljava/lang/String;", false)
def tyJx5d777 : Nat → FieldType := fun k => match k with
  | 0 => .object "java/lang/Object"
  | 1 => .object "java/lang/String"
  | 2 => .object "java/lang/Throwable"
  | 3 => .array (.object "java/lang/StackTraceElement")
  | 4 => .int
  | 5 => .object "java/util/List"
  | 6 => .int
  | _ => .object "java/lang/String"
abbrev wsJx5d7770 : List Cond := u_ws RJx5d777 TJx5d777 8
theorem nmJx5d777 : ∀ a, a < 8 → ∀ b, b < 8 → a ≠ b → (TJx5d777 a).2.1 ≠ (TJx5d777 b).2.1 := by decide +kernel
theorem tyJx5d777_ok : ∀ k, k < 8 → parseFieldDescriptor (TJx5d777 k).2.2.1 = some (tyJx5d777 k) := by decide +kernel
abbrev cJx5d777_init_da8c8 : ByteArray := prog_15_method_1_code
def yJx5d777_init_da8c8 : MethodName := ⟨RJx5d777, "<init>", "()V"⟩
abbrev cJx5d777_init_a7421 : ByteArray := prog_15_method_2_code
def yJx5d777_init_a7421 : MethodName := ⟨RJx5d777, "<init>", "(Ljava/lang/String;)V"⟩
abbrev cJx5d777_fillInStackTrace_cddbd : ByteArray := prog_15_method_3_code
def yJx5d777_fillInStackTrace_cddbd : MethodName := ⟨RJx5d777, "fillInStackTrace", "()Ljava/lang/Throwable;"⟩
def RJ0 : String := "java/lang/String"
def TJ0 : u_T := fun k => match k with
  | 0 => ("java/lang/String", "value", "[B", true)
  | _ => ("java/lang/String", "coder", "B", true)
def tyJ0 : Nat → FieldType := fun k => match k with
  | 0 => .array .byte
  | _ => .byte
abbrev wsJ00 : List Cond := u_ws RJ0 TJ0 2
theorem nmJ0 : ∀ a, a < 2 → ∀ b, b < 2 → a ≠ b → (TJ0 a).2.1 ≠ (TJ0 b).2.1 := by decide +kernel
theorem tyJ0_ok : ∀ k, k < 2 → parseFieldDescriptor (TJ0 k).2.2.1 = some (tyJ0 k) := by decide +kernel
def RJ7 : String := "java/util/Arrays"
def TJ7 : u_T := fun k => match k with
  | _ => ("", "", "", false)
def tyJ7 : Nat → FieldType := fun k => match k with
  | _ => .int
abbrev wsJ70 : List Cond := u_ws RJ7 TJ7 0
theorem nmJ7 : ∀ a, a < 0 → ∀ b, b < 0 → a ≠ b → (TJ7 a).2.1 ≠ (TJ7 b).2.1 := by decide +kernel
theorem tyJ7_ok : ∀ k, k < 0 → parseFieldDescriptor (TJ7 k).2.2.1 = some (tyJ7 k) := by decide +kernel
abbrev cJ7_fill_53178 : ByteArray := prog_19_method_103_code
def yJ7_fill_53178 : MethodName := ⟨RJ7, "fill", "([II)V"⟩
def RL : String := "TrainedSegmentsLaw"
abbrev cL_content : ByteArray := method_3_code
def yL_content : MethodName := ⟨RL, "content", "(LTrainedSegments;II[J)I"⟩
abbrev cL_out : ByteArray := method_4_code
def yL_out : MethodName := ⟨RL, "out", "(LTrainedSegments;I[J)I"⟩
abbrev cL_text : ByteArray := method_5_code
def yL_text : MethodName := ⟨RL, "text", "(LTrainedSegments;I[J)I"⟩
abbrev cL_share : ByteArray := method_6_code
def yL_share : MethodName := ⟨RL, "share", "(LTrainedSegments;I[J)I"⟩
abbrev cL_law : ByteArray := code
def yL_law : MethodName := ⟨RL, "law", "([I)Z"⟩
def wsX4_init : List Cond := .code yX4_init cX4_init 2 none :: ([.methodLink RX4 1 objectInit, .instanceMethod objectInit, .code objectInit ⟨#[0xb1]⟩ 1 none, .methodLink RX4 7 Lib.Math.max.name, .static Lib.Math.max.name, .initialized "java/lang/Math", .code Lib.Math.max.name Lib.Math.max.code 2 (some .int), .arrayClass .byte, .fieldLink RX4 13 "TrainedSegments$Row" "bytes" "[B"] ++ wsX40)
def wsX0_init : List Cond := .code yX0_init cX0_init 1 none :: ([.methodLink RX0 3 objectInit, .instanceMethod objectInit, .code objectInit ⟨#[0xb1]⟩ 1 none, .classLink RX0 9 RX4, .instantiable RX4 2, .initialized RX4, .fieldLink RX0 14 "TrainedSegments$Dictionary" "words" "LTrainedSegments$Row;", .methodLink RX0 11 yX4_init, .instanceMethod yX4_init, .code yX4_init cX4_init 2 none, .methodLink RX4 1 objectInit, .methodLink RX4 7 Lib.Math.max.name, .static Lib.Math.max.name, .initialized "java/lang/Math", .code Lib.Math.max.name Lib.Math.max.code 2 (some .int), .arrayClass .byte, .fieldLink RX4 13 "TrainedSegments$Row" "bytes" "[B"] ++ wsX40 ++ wsX00)
def wsX0_words : List Cond := .code yX0_words cX0_words 1 (some (.object "TrainedSegments$Row")) :: ([.fieldLink RX0 14 "TrainedSegments$Dictionary" "words" "LTrainedSegments$Row;"] ++ wsX00)
def wsX0_id : List Cond := .code yX0_id cX0_id 1 (some .int) :: ([.fieldLink RX0 20 "TrainedSegments$Dictionary" "id" "I"] ++ wsX00)
def wsX0_isThere : List Cond := .code yX0_isThere cX0_isThere 1 (some .boolean) :: ([.fieldLink RX0 20 "TrainedSegments$Dictionary" "id" "I"] ++ wsX00)
def wsX0_pieces : List Cond := .code yX0_pieces cX0_pieces 1 (some .int) :: ([.fieldLink RX0 24 "TrainedSegments$Dictionary" "pieces" "I"] ++ wsX00)
def wsX0_pieceLength : List Cond := .code yX0_pieceLength cX0_pieceLength 1 (some .int) :: ([.fieldLink RX0 27 "TrainedSegments$Dictionary" "pieceLength" "I"] ++ wsX00)
def wsX4_has : List Cond := .code yX4_has cX4_has 2 (some .boolean) :: ([.fieldLink RX4 19 "TrainedSegments$Row" "length" "I"] ++ wsX40)
def wsX4_signedAt : List Cond := .code yX4_signedAt cX4_signedAt 2 (some .byte) :: ([.fieldLink RX4 13 "TrainedSegments$Row" "bytes" "[B", .methodLink RX4 23 yX4_has, .instanceMethod yX4_has, .selects RX4 yX4_has yX4_has, .initialized RX4, .code yX4_has cX4_has 2 (some .boolean), .fieldLink RX4 19 "TrainedSegments$Row" "length" "I"] ++ wsX40 ++ (vx_atN 8).filter goodWord ++ (vx_atM "java/lang/ArrayIndexOutOfBoundsException" ["java/lang/IndexOutOfBoundsException", "java/lang/RuntimeException", "java/lang/Exception"]).filter goodWord)
def wsX4_at : List Cond := .code yX4_at cX4_at 2 (some .int) :: ([.methodLink RX4 27 yX4_signedAt, .instanceMethod yX4_signedAt, .selects RX4 yX4_signedAt yX4_signedAt, .initialized RX4, .code yX4_signedAt cX4_signedAt 2 (some .byte), .fieldLink RX4 13 "TrainedSegments$Row" "bytes" "[B", .methodLink RX4 23 yX4_has, .instanceMethod yX4_has, .selects RX4 yX4_has yX4_has, .code yX4_has cX4_has 2 (some .boolean), .fieldLink RX4 19 "TrainedSegments$Row" "length" "I"] ++ wsX40 ++ (vx_atN 8).filter goodWord ++ (vx_atM "java/lang/ArrayIndexOutOfBoundsException" ["java/lang/IndexOutOfBoundsException", "java/lang/RuntimeException", "java/lang/Exception"]).filter goodWord)
def wsX4_sum : List Cond := .code yX4_sum cX4_sum 4 (some .int) :: ([.fieldLink RX4 19 "TrainedSegments$Row" "length" "I", .methodLink RX4 45 yX4_at, .instanceMethod yX4_at, .selects RX4 yX4_at yX4_at, .initialized RX4, .code yX4_at cX4_at 2 (some .int), .methodLink RX4 27 yX4_signedAt, .instanceMethod yX4_signedAt, .selects RX4 yX4_signedAt yX4_signedAt, .code yX4_signedAt cX4_signedAt 2 (some .byte), .fieldLink RX4 13 "TrainedSegments$Row" "bytes" "[B", .methodLink RX4 23 yX4_has, .instanceMethod yX4_has, .selects RX4 yX4_has yX4_has, .code yX4_has cX4_has 2 (some .boolean)] ++ wsX40 ++ (vx_atN 8).filter goodWord ++ (vx_atM "java/lang/ArrayIndexOutOfBoundsException" ["java/lang/IndexOutOfBoundsException", "java/lang/RuntimeException", "java/lang/Exception"]).filter goodWord)
def wsX0_sum : List Cond := .code yX0_sum cX0_sum 1 (some .int) :: ([.fieldLink RX0 20 "TrainedSegments$Dictionary" "id" "I", .fieldLink RX0 14 "TrainedSegments$Dictionary" "words" "LTrainedSegments$Row;", .methodLink RX0 30 yX4_sum, .instanceMethod yX4_sum, .selects RX4 yX4_sum yX4_sum, .initialized RX4, .code yX4_sum cX4_sum 4 (some .int), .fieldLink RX4 19 "TrainedSegments$Row" "length" "I", .methodLink RX4 45 yX4_at, .instanceMethod yX4_at, .selects RX4 yX4_at yX4_at, .code yX4_at cX4_at 2 (some .int), .methodLink RX4 27 yX4_signedAt, .instanceMethod yX4_signedAt, .selects RX4 yX4_signedAt yX4_signedAt, .code yX4_signedAt cX4_signedAt 2 (some .byte), .fieldLink RX4 13 "TrainedSegments$Row" "bytes" "[B", .methodLink RX4 23 yX4_has, .instanceMethod yX4_has, .selects RX4 yX4_has yX4_has, .code yX4_has cX4_has 2 (some .boolean)] ++ wsX00 ++ wsX40 ++ (vx_atN 8).filter goodWord ++ (vx_atM "java/lang/ArrayIndexOutOfBoundsException" ["java/lang/IndexOutOfBoundsException", "java/lang/RuntimeException", "java/lang/Exception"]).filter goodWord)
def wsX4_clear : List Cond := .code yX4_clear cX4_clear 1 none :: ([.fieldLink RX4 19 "TrainedSegments$Row" "length" "I"] ++ wsX40)
def wsX0_begin : List Cond := .code yX0_begin cX0_begin 3 none :: ([.fieldLink RX0 20 "TrainedSegments$Dictionary" "id" "I", .fieldLink RX0 27 "TrainedSegments$Dictionary" "pieceLength" "I", .fieldLink RX0 24 "TrainedSegments$Dictionary" "pieces" "I", .fieldLink RX0 14 "TrainedSegments$Dictionary" "words" "LTrainedSegments$Row;", .methodLink RX0 34 yX4_clear, .instanceMethod yX4_clear, .selects RX4 yX4_clear yX4_clear, .initialized RX4, .code yX4_clear cX4_clear 1 none, .fieldLink RX4 19 "TrainedSegments$Row" "length" "I"] ++ wsX00 ++ wsX40 ++ (vx_atN 8).filter goodWord)
def wsX4_hasRoom : List Cond := .code yX4_hasRoom cX4_hasRoom 2 (some .boolean) :: ([.fieldLink RX4 13 "TrainedSegments$Row" "bytes" "[B", .fieldLink RX4 19 "TrainedSegments$Row" "length" "I"] ++ wsX40 ++ (vx_atN 8).filter goodWord)
def wsX4_add : List Cond := .code yX4_add cX4_add 2 none :: ([.fieldLink RX4 19 "TrainedSegments$Row" "length" "I", .fieldLink RX4 13 "TrainedSegments$Row" "bytes" "[B"] ++ wsX40 ++ (vx_atN 8).filter goodWord ++ (vx_atM "java/lang/ArrayIndexOutOfBoundsException" ["java/lang/IndexOutOfBoundsException", "java/lang/RuntimeException", "java/lang/Exception"]).filter goodWord)
def wsX4_addFrom : List Cond := .code yX4_addFrom cX4_addFrom 5 none :: ([.methodLink RX4 27 yX4_signedAt, .instanceMethod yX4_signedAt, .selects RX4 yX4_signedAt yX4_signedAt, .initialized RX4, .code yX4_signedAt cX4_signedAt 2 (some .byte), .fieldLink RX4 13 "TrainedSegments$Row" "bytes" "[B", .methodLink RX4 23 yX4_has, .instanceMethod yX4_has, .selects RX4 yX4_has yX4_has, .code yX4_has cX4_has 2 (some .boolean), .fieldLink RX4 19 "TrainedSegments$Row" "length" "I", .methodLink RX4 31 yX4_add, .instanceMethod yX4_add, .selects RX4 yX4_add yX4_add, .code yX4_add cX4_add 2 none] ++ wsX40 ++ (vx_atN 8).filter goodWord ++ (vx_atM "java/lang/ArrayIndexOutOfBoundsException" ["java/lang/IndexOutOfBoundsException", "java/lang/RuntimeException", "java/lang/Exception"]).filter goodWord)
def wsX0_addPiece_r1 : List Cond := [Cond.fieldLink RX0 27 "TrainedSegments$Dictionary" "pieceLength" "I", Cond.fieldLink RX0 14 "TrainedSegments$Dictionary" "words" "LTrainedSegments$Row;", Cond.fieldLink RX0 24 "TrainedSegments$Dictionary" "pieces" "I", Cond.methodLink RX0 37 yX4_hasRoom, Cond.instanceMethod yX4_hasRoom, Cond.selects RX4 yX4_hasRoom yX4_hasRoom, Cond.initialized RX4, Cond.code yX4_hasRoom cX4_hasRoom 2 (some .boolean), Cond.fieldLink RX4 13 "TrainedSegments$Row" "bytes" "[B", Cond.fieldLink RX4 19 "TrainedSegments$Row" "length" "I", Cond.methodLink RX0 41 yX4_addFrom, Cond.instanceMethod yX4_addFrom, Cond.selects RX4 yX4_addFrom yX4_addFrom, Cond.code yX4_addFrom cX4_addFrom 5 none, Cond.methodLink RX4 27 yX4_signedAt, Cond.instanceMethod yX4_signedAt, Cond.selects RX4 yX4_signedAt yX4_signedAt, Cond.code yX4_signedAt cX4_signedAt 2 (some .byte), Cond.methodLink RX4 23 yX4_has, Cond.instanceMethod yX4_has, Cond.selects RX4 yX4_has yX4_has, Cond.code yX4_has cX4_has 2 (some .boolean), Cond.methodLink RX4 31 yX4_add, Cond.instanceMethod yX4_add]
def wsX0_addPiece_r2 : List Cond := [Cond.selects RX4 yX4_add yX4_add, Cond.code yX4_add cX4_add 2 none]
def wsX0_addPiece : List Cond := .code yX0_addPiece cX0_addPiece 3 none :: ((wsX0_addPiece_r1 ++ wsX0_addPiece_r2) ++ wsX00 ++ wsX40 ++ (vx_atN 8).filter goodWord ++ (vx_atM "java/lang/ArrayIndexOutOfBoundsException" ["java/lang/IndexOutOfBoundsException", "java/lang/RuntimeException", "java/lang/Exception"]).filter goodWord)
def wsX4_become : List Cond := .code yX4_become cX4_become 2 none :: ([.fieldLink RX4 19 "TrainedSegments$Row" "length" "I", .methodLink RX4 35 yX4_clear, .instanceMethod yX4_clear, .selects RX4 yX4_clear yX4_clear, .initialized RX4, .code yX4_clear cX4_clear 1 none, .methodLink RX4 38 yX4_addFrom, .instanceMethod yX4_addFrom, .selects RX4 yX4_addFrom yX4_addFrom, .code yX4_addFrom cX4_addFrom 5 none, .methodLink RX4 27 yX4_signedAt, .instanceMethod yX4_signedAt, .selects RX4 yX4_signedAt yX4_signedAt, .code yX4_signedAt cX4_signedAt 2 (some .byte), .fieldLink RX4 13 "TrainedSegments$Row" "bytes" "[B", .methodLink RX4 23 yX4_has, .instanceMethod yX4_has, .selects RX4 yX4_has yX4_has, .code yX4_has cX4_has 2 (some .boolean), .methodLink RX4 31 yX4_add, .instanceMethod yX4_add, .selects RX4 yX4_add yX4_add, .code yX4_add cX4_add 2 none] ++ wsX40 ++ (vx_atN 8).filter goodWord ++ (vx_atM "java/lang/ArrayIndexOutOfBoundsException" ["java/lang/IndexOutOfBoundsException", "java/lang/RuntimeException", "java/lang/Exception"]).filter goodWord)
def wsX4_cutOut : List Cond := .code yX4_cutOut cX4_cutOut 5 none :: ([.fieldLink RX4 19 "TrainedSegments$Row" "length" "I", .fieldLink RX4 13 "TrainedSegments$Row" "bytes" "[B", .methodLink RX4 31 yX4_add, .instanceMethod yX4_add, .selects RX4 yX4_add yX4_add, .initialized RX4, .code yX4_add cX4_add 2 none] ++ wsX40 ++ (vx_atM "java/lang/ArrayIndexOutOfBoundsException" ["java/lang/IndexOutOfBoundsException", "java/lang/RuntimeException", "java/lang/Exception"]).filter goodWord ++ (vx_atN 8).filter goodWord)
def wsX0_copyWithout_r1 : List Cond := [Cond.fieldLink RX0 14 "TrainedSegments$Dictionary" "words" "LTrainedSegments$Row;", Cond.fieldLink RX0 27 "TrainedSegments$Dictionary" "pieceLength" "I", Cond.methodLink RX0 45 yX4_become, Cond.instanceMethod yX4_become, Cond.selects RX4 yX4_become yX4_become, Cond.initialized RX4, Cond.code yX4_become cX4_become 2 none, Cond.fieldLink RX4 19 "TrainedSegments$Row" "length" "I", Cond.methodLink RX4 35 yX4_clear, Cond.instanceMethod yX4_clear, Cond.selects RX4 yX4_clear yX4_clear, Cond.code yX4_clear cX4_clear 1 none, Cond.methodLink RX4 38 yX4_addFrom, Cond.instanceMethod yX4_addFrom, Cond.selects RX4 yX4_addFrom yX4_addFrom, Cond.code yX4_addFrom cX4_addFrom 5 none, Cond.methodLink RX4 27 yX4_signedAt, Cond.instanceMethod yX4_signedAt, Cond.selects RX4 yX4_signedAt yX4_signedAt, Cond.code yX4_signedAt cX4_signedAt 2 (some .byte), Cond.fieldLink RX4 13 "TrainedSegments$Row" "bytes" "[B", Cond.methodLink RX4 23 yX4_has, Cond.instanceMethod yX4_has, Cond.selects RX4 yX4_has yX4_has]
def wsX0_copyWithout_r2 : List Cond := [Cond.code yX4_has cX4_has 2 (some .boolean), Cond.methodLink RX4 31 yX4_add, Cond.instanceMethod yX4_add, Cond.selects RX4 yX4_add yX4_add, Cond.code yX4_add cX4_add 2 none, Cond.methodLink RX0 49 yX4_cutOut, Cond.instanceMethod yX4_cutOut, Cond.selects RX4 yX4_cutOut yX4_cutOut, Cond.code yX4_cutOut cX4_cutOut 5 none]
def wsX0_copyWithout : List Cond := .code yX0_copyWithout cX0_copyWithout 3 none :: ((wsX0_copyWithout_r1 ++ wsX0_copyWithout_r2) ++ wsX00 ++ wsX40 ++ (vx_atN 8).filter goodWord ++ (vx_atM "java/lang/ArrayIndexOutOfBoundsException" ["java/lang/IndexOutOfBoundsException", "java/lang/RuntimeException", "java/lang/Exception"]).filter goodWord)
def wsX0_removePiece : List Cond := .code yX0_removePiece cX0_removePiece 2 none :: ([.fieldLink RX0 24 "TrainedSegments$Dictionary" "pieces" "I", .fieldLink RX0 14 "TrainedSegments$Dictionary" "words" "LTrainedSegments$Row;", .fieldLink RX0 27 "TrainedSegments$Dictionary" "pieceLength" "I", .methodLink RX0 49 yX4_cutOut, .instanceMethod yX4_cutOut, .selects RX4 yX4_cutOut yX4_cutOut, .initialized RX4, .code yX4_cutOut cX4_cutOut 5 none, .fieldLink RX4 19 "TrainedSegments$Row" "length" "I", .fieldLink RX4 13 "TrainedSegments$Row" "bytes" "[B", .methodLink RX4 31 yX4_add, .instanceMethod yX4_add, .selects RX4 yX4_add yX4_add, .code yX4_add cX4_add 2 none] ++ wsX00 ++ wsX40 ++ (vx_atN 8).filter goodWord ++ (vx_atM "java/lang/ArrayIndexOutOfBoundsException" ["java/lang/IndexOutOfBoundsException", "java/lang/RuntimeException", "java/lang/Exception"]).filter goodWord)
def wsX1_init : List Cond := .code yX1_init cX1_init 1 none :: ([.methodLink RX1 3 objectInit, .instanceMethod objectInit, .code objectInit ⟨#[0xb1]⟩ 1 none, .classLink RX1 9 RX4, .instantiable RX4 2, .initialized RX4, .fieldLink RX1 14 "TrainedSegments$Opener" "joined" "LTrainedSegments$Row;", .methodLink RX1 11 yX4_init, .instanceMethod yX4_init, .code yX4_init cX4_init 2 none, .methodLink RX4 1 objectInit, .methodLink RX4 7 Lib.Math.max.name, .static Lib.Math.max.name, .initialized "java/lang/Math", .code Lib.Math.max.name Lib.Math.max.code 2 (some .int), .arrayClass .byte, .fieldLink RX4 13 "TrainedSegments$Row" "bytes" "[B"] ++ wsX40 ++ wsX10)
def wsX4_length : List Cond := .code yX4_length cX4_length 1 (some .int) :: ([.fieldLink RX4 19 "TrainedSegments$Row" "length" "I"] ++ wsX40)
def wsX1_wrongInHeader_r1 : List Cond := [Cond.methodLink RX1 20 yX4_length, Cond.instanceMethod yX4_length, Cond.selects RX4 yX4_length yX4_length, Cond.initialized RX4, Cond.code yX4_length cX4_length 1 (some .int), Cond.fieldLink RX4 19 "TrainedSegments$Row" "length" "I", Cond.methodLink RX1 42 yX4_at, Cond.instanceMethod yX4_at, Cond.selects RX4 yX4_at yX4_at, Cond.code yX4_at cX4_at 2 (some .int), Cond.methodLink RX4 27 yX4_signedAt, Cond.instanceMethod yX4_signedAt, Cond.selects RX4 yX4_signedAt yX4_signedAt, Cond.code yX4_signedAt cX4_signedAt 2 (some .byte), Cond.fieldLink RX4 13 "TrainedSegments$Row" "bytes" "[B", Cond.methodLink RX4 23 yX4_has, Cond.instanceMethod yX4_has, Cond.selects RX4 yX4_has yX4_has, Cond.code yX4_has cX4_has 2 (some .boolean), Cond.methodLink RX1 63 yX0_sum, Cond.instanceMethod yX0_sum, Cond.selects RX0 yX0_sum yX0_sum, Cond.initialized RX0, Cond.code yX0_sum cX0_sum 1 (some .int)]
def wsX1_wrongInHeader_r2 : List Cond := [Cond.fieldLink RX0 20 "TrainedSegments$Dictionary" "id" "I", Cond.fieldLink RX0 14 "TrainedSegments$Dictionary" "words" "LTrainedSegments$Row;", Cond.methodLink RX0 30 yX4_sum, Cond.instanceMethod yX4_sum, Cond.selects RX4 yX4_sum yX4_sum, Cond.code yX4_sum cX4_sum 4 (some .int), Cond.methodLink RX4 45 yX4_at]
def wsX1_wrongInHeader : List Cond := .code yX1_wrongInHeader cX1_wrongInHeader 3 (some .int) :: ((wsX1_wrongInHeader_r1 ++ wsX1_wrongInHeader_r2) ++ wsX40 ++ wsX00 ++ (vx_atN 8).filter goodWord ++ (vx_atM "java/lang/ArrayIndexOutOfBoundsException" ["java/lang/IndexOutOfBoundsException", "java/lang/RuntimeException", "java/lang/Exception"]).filter goodWord)
def wsX1_readPlain_r1 : List Cond := [Cond.fieldLink RX1 49 "TrainedSegments$Opener" "place" "I", Cond.fieldLink RX1 14 "TrainedSegments$Opener" "joined" "LTrainedSegments$Row;", Cond.methodLink RX1 20 yX4_length, Cond.instanceMethod yX4_length, Cond.selects RX4 yX4_length yX4_length, Cond.initialized RX4, Cond.code yX4_length cX4_length 1 (some .int), Cond.fieldLink RX4 19 "TrainedSegments$Row" "length" "I", Cond.methodLink RX1 59 yX4_addFrom, Cond.instanceMethod yX4_addFrom, Cond.selects RX4 yX4_addFrom yX4_addFrom, Cond.code yX4_addFrom cX4_addFrom 5 none, Cond.methodLink RX4 27 yX4_signedAt, Cond.instanceMethod yX4_signedAt, Cond.selects RX4 yX4_signedAt yX4_signedAt, Cond.code yX4_signedAt cX4_signedAt 2 (some .byte), Cond.fieldLink RX4 13 "TrainedSegments$Row" "bytes" "[B", Cond.methodLink RX4 23 yX4_has, Cond.instanceMethod yX4_has, Cond.selects RX4 yX4_has yX4_has, Cond.code yX4_has cX4_has 2 (some .boolean), Cond.methodLink RX4 31 yX4_add, Cond.instanceMethod yX4_add, Cond.selects RX4 yX4_add yX4_add]
def wsX1_readPlain_r2 : List Cond := [Cond.code yX4_add cX4_add 2 none]
def wsX1_readPlain : List Cond := .code yX1_readPlain cX1_readPlain 3 (some .int) :: ((wsX1_readPlain_r1 ++ wsX1_readPlain_r2) ++ wsX10 ++ wsX40 ++ (vx_atN 8).filter goodWord ++ (vx_atM "java/lang/ArrayIndexOutOfBoundsException" ["java/lang/IndexOutOfBoundsException", "java/lang/RuntimeException", "java/lang/Exception"]).filter goodWord)
def wsX1_readMatch_r1 : List Cond := [Cond.fieldLink RX1 49 "TrainedSegments$Opener" "place" "I", Cond.fieldLink RX1 14 "TrainedSegments$Opener" "joined" "LTrainedSegments$Row;", Cond.methodLink RX1 20 yX4_length, Cond.instanceMethod yX4_length, Cond.selects RX4 yX4_length yX4_length, Cond.initialized RX4, Cond.code yX4_length cX4_length 1 (some .int), Cond.fieldLink RX4 19 "TrainedSegments$Row" "length" "I", Cond.methodLink RX1 42 yX4_at, Cond.instanceMethod yX4_at, Cond.selects RX4 yX4_at yX4_at, Cond.code yX4_at cX4_at 2 (some .int), Cond.methodLink RX4 27 yX4_signedAt, Cond.instanceMethod yX4_signedAt, Cond.selects RX4 yX4_signedAt yX4_signedAt, Cond.code yX4_signedAt cX4_signedAt 2 (some .byte), Cond.fieldLink RX4 13 "TrainedSegments$Row" "bytes" "[B", Cond.methodLink RX4 23 yX4_has, Cond.instanceMethod yX4_has, Cond.selects RX4 yX4_has yX4_has, Cond.code yX4_has cX4_has 2 (some .boolean), Cond.methodLink RX1 74 yX4_add, Cond.instanceMethod yX4_add, Cond.selects RX4 yX4_add yX4_add]
def wsX1_readMatch_r2 : List Cond := [Cond.code yX4_add cX4_add 2 none]
def wsX1_readMatch : List Cond := .code yX1_readMatch cX1_readMatch 6 (some .int) :: ((wsX1_readMatch_r1 ++ wsX1_readMatch_r2) ++ wsX10 ++ wsX40 ++ (vx_atN 8).filter goodWord ++ (vx_atM "java/lang/ArrayIndexOutOfBoundsException" ["java/lang/IndexOutOfBoundsException", "java/lang/RuntimeException", "java/lang/Exception"]).filter goodWord)
def wsX1_readItem_r1 : List Cond := [Cond.fieldLink RX1 49 "TrainedSegments$Opener" "place" "I", Cond.fieldLink RX1 46 "TrainedSegments$Opener" "wanted" "I", Cond.methodLink RX1 20 yX4_length, Cond.instanceMethod yX4_length, Cond.selects RX4 yX4_length yX4_length, Cond.initialized RX4, Cond.code yX4_length cX4_length 1 (some .int), Cond.fieldLink RX4 19 "TrainedSegments$Row" "length" "I", Cond.methodLink RX1 42 yX4_at, Cond.instanceMethod yX4_at, Cond.selects RX4 yX4_at yX4_at, Cond.code yX4_at cX4_at 2 (some .int), Cond.methodLink RX4 27 yX4_signedAt, Cond.instanceMethod yX4_signedAt, Cond.selects RX4 yX4_signedAt yX4_signedAt, Cond.code yX4_signedAt cX4_signedAt 2 (some .byte), Cond.fieldLink RX4 13 "TrainedSegments$Row" "bytes" "[B", Cond.methodLink RX4 23 yX4_has, Cond.instanceMethod yX4_has, Cond.selects RX4 yX4_has yX4_has, Cond.code yX4_has cX4_has 2 (some .boolean), Cond.methodLink RX1 66 yX1_readPlain, Cond.instanceMethod yX1_readPlain, Cond.selects RX1 yX1_readPlain yX1_readPlain]
def wsX1_readItem_r2 : List Cond := [Cond.initialized RX1, Cond.code yX1_readPlain cX1_readPlain 3 (some .int), Cond.fieldLink RX1 14 "TrainedSegments$Opener" "joined" "LTrainedSegments$Row;", Cond.methodLink RX1 59 yX4_addFrom, Cond.instanceMethod yX4_addFrom, Cond.selects RX4 yX4_addFrom yX4_addFrom, Cond.code yX4_addFrom cX4_addFrom 5 none, Cond.methodLink RX4 31 yX4_add, Cond.instanceMethod yX4_add, Cond.selects RX4 yX4_add yX4_add, Cond.code yX4_add cX4_add 2 none, Cond.methodLink RX1 70 yX1_readMatch, Cond.instanceMethod yX1_readMatch, Cond.selects RX1 yX1_readMatch yX1_readMatch, Cond.code yX1_readMatch cX1_readMatch 6 (some .int), Cond.methodLink RX1 74 yX4_add]
def wsX1_readItem : List Cond := .code yX1_readItem cX1_readItem 4 (some .int) :: ((wsX1_readItem_r1 ++ wsX1_readItem_r2) ++ wsX10 ++ wsX40 ++ (vx_atN 8).filter goodWord ++ (vx_atM "java/lang/ArrayIndexOutOfBoundsException" ["java/lang/IndexOutOfBoundsException", "java/lang/RuntimeException", "java/lang/Exception"]).filter goodWord)
def wsX1_decode_r1 : List Cond := [Cond.fieldLink RX1 14 "TrainedSegments$Opener" "joined" "LTrainedSegments$Row;", Cond.fieldLink RX1 38 "TrainedSegments$Opener" "start" "I", Cond.fieldLink RX1 46 "TrainedSegments$Opener" "wanted" "I", Cond.fieldLink RX1 49 "TrainedSegments$Opener" "place" "I", Cond.methodLink RX1 20 yX4_length, Cond.instanceMethod yX4_length, Cond.selects RX4 yX4_length yX4_length, Cond.initialized RX4, Cond.code yX4_length cX4_length 1 (some .int), Cond.fieldLink RX4 19 "TrainedSegments$Row" "length" "I", Cond.methodLink RX1 24 yX1_wrongInHeader, Cond.instanceMethod yX1_wrongInHeader, Cond.selects RX1 yX1_wrongInHeader yX1_wrongInHeader, Cond.initialized RX1, Cond.code yX1_wrongInHeader cX1_wrongInHeader 3 (some .int), Cond.methodLink RX1 42 yX4_at, Cond.instanceMethod yX4_at, Cond.selects RX4 yX4_at yX4_at, Cond.code yX4_at cX4_at 2 (some .int), Cond.methodLink RX4 27 yX4_signedAt, Cond.instanceMethod yX4_signedAt, Cond.selects RX4 yX4_signedAt yX4_signedAt, Cond.code yX4_signedAt cX4_signedAt 2 (some .byte), Cond.fieldLink RX4 13 "TrainedSegments$Row" "bytes" "[B"]
def wsX1_decode_r2 : List Cond := [Cond.methodLink RX4 23 yX4_has, Cond.instanceMethod yX4_has, Cond.selects RX4 yX4_has yX4_has, Cond.code yX4_has cX4_has 2 (some .boolean), Cond.methodLink RX1 63 yX0_sum, Cond.instanceMethod yX0_sum, Cond.selects RX0 yX0_sum yX0_sum, Cond.initialized RX0, Cond.code yX0_sum cX0_sum 1 (some .int), Cond.fieldLink RX0 20 "TrainedSegments$Dictionary" "id" "I", Cond.fieldLink RX0 14 "TrainedSegments$Dictionary" "words" "LTrainedSegments$Row;", Cond.methodLink RX0 30 yX4_sum, Cond.instanceMethod yX4_sum, Cond.selects RX4 yX4_sum yX4_sum, Cond.code yX4_sum cX4_sum 4 (some .int), Cond.methodLink RX4 45 yX4_at, Cond.methodLink RX1 28 yX0_words, Cond.instanceMethod yX0_words, Cond.selects RX0 yX0_words yX0_words, Cond.code yX0_words cX0_words 1 (some (.object "TrainedSegments$Row")), Cond.methodLink RX1 34 yX4_become, Cond.instanceMethod yX4_become, Cond.selects RX4 yX4_become yX4_become, Cond.code yX4_become cX4_become 2 none]
def wsX1_decode_r3 : List Cond := [Cond.methodLink RX4 35 yX4_clear, Cond.instanceMethod yX4_clear, Cond.selects RX4 yX4_clear yX4_clear, Cond.code yX4_clear cX4_clear 1 none, Cond.methodLink RX4 38 yX4_addFrom, Cond.instanceMethod yX4_addFrom, Cond.selects RX4 yX4_addFrom yX4_addFrom, Cond.code yX4_addFrom cX4_addFrom 5 none, Cond.methodLink RX4 31 yX4_add, Cond.instanceMethod yX4_add, Cond.selects RX4 yX4_add yX4_add, Cond.code yX4_add cX4_add 2 none, Cond.methodLink RX1 52 yX1_readItem, Cond.instanceMethod yX1_readItem, Cond.selects RX1 yX1_readItem yX1_readItem, Cond.code yX1_readItem cX1_readItem 4 (some .int), Cond.methodLink RX1 66 yX1_readPlain, Cond.instanceMethod yX1_readPlain, Cond.selects RX1 yX1_readPlain yX1_readPlain, Cond.code yX1_readPlain cX1_readPlain 3 (some .int), Cond.methodLink RX1 59 yX4_addFrom, Cond.methodLink RX1 70 yX1_readMatch, Cond.instanceMethod yX1_readMatch, Cond.selects RX1 yX1_readMatch yX1_readMatch]
def wsX1_decode_r4 : List Cond := [Cond.code yX1_readMatch cX1_readMatch 6 (some .int), Cond.methodLink RX1 74 yX4_add]
def wsX1_decode : List Cond := .code yX1_decode cX1_decode 5 (some .int) :: ((wsX1_decode_r1 ++ (wsX1_decode_r2 ++ (wsX1_decode_r3 ++ wsX1_decode_r4))) ++ wsX10 ++ wsX40 ++ wsX00 ++ (vx_atN 8).filter goodWord ++ (vx_atM "java/lang/ArrayIndexOutOfBoundsException" ["java/lang/IndexOutOfBoundsException", "java/lang/RuntimeException", "java/lang/Exception"]).filter goodWord)
def wsX1_handOver_r1 : List Cond := [Cond.fieldLink RX1 14 "TrainedSegments$Opener" "joined" "LTrainedSegments$Row;", Cond.fieldLink RX1 38 "TrainedSegments$Opener" "start" "I", Cond.methodLink RX1 56 yX4_clear, Cond.instanceMethod yX4_clear, Cond.selects RX4 yX4_clear yX4_clear, Cond.initialized RX4, Cond.code yX4_clear cX4_clear 1 none, Cond.fieldLink RX4 19 "TrainedSegments$Row" "length" "I", Cond.methodLink RX1 20 yX4_length, Cond.instanceMethod yX4_length, Cond.selects RX4 yX4_length yX4_length, Cond.code yX4_length cX4_length 1 (some .int), Cond.methodLink RX1 59 yX4_addFrom, Cond.instanceMethod yX4_addFrom, Cond.selects RX4 yX4_addFrom yX4_addFrom, Cond.code yX4_addFrom cX4_addFrom 5 none, Cond.methodLink RX4 27 yX4_signedAt, Cond.instanceMethod yX4_signedAt, Cond.selects RX4 yX4_signedAt yX4_signedAt, Cond.code yX4_signedAt cX4_signedAt 2 (some .byte), Cond.fieldLink RX4 13 "TrainedSegments$Row" "bytes" "[B", Cond.methodLink RX4 23 yX4_has, Cond.instanceMethod yX4_has, Cond.selects RX4 yX4_has yX4_has]
def wsX1_handOver_r2 : List Cond := [Cond.code yX4_has cX4_has 2 (some .boolean), Cond.methodLink RX4 31 yX4_add, Cond.instanceMethod yX4_add, Cond.selects RX4 yX4_add yX4_add, Cond.code yX4_add cX4_add 2 none]
def wsX1_handOver : List Cond := .code yX1_handOver cX1_handOver 2 none :: ((wsX1_handOver_r1 ++ wsX1_handOver_r2) ++ wsX10 ++ wsX40 ++ (vx_atN 8).filter goodWord ++ (vx_atM "java/lang/ArrayIndexOutOfBoundsException" ["java/lang/IndexOutOfBoundsException", "java/lang/RuntimeException", "java/lang/Exception"]).filter goodWord)
def wsX2_init : List Cond := .code yX2_init cX2_init 1 none :: ([.methodLink RX2 3 objectInit, .instanceMethod objectInit, .code objectInit ⟨#[0xb1]⟩ 1 none, .classLink RX2 9 RX4, .instantiable RX4 2, .initialized RX4, .fieldLink RX2 14 "TrainedSegments$Output" "bytes" "LTrainedSegments$Row;", .methodLink RX2 11 yX4_init, .instanceMethod yX4_init, .code yX4_init cX4_init 2 none, .methodLink RX4 1 objectInit, .methodLink RX4 7 Lib.Math.max.name, .static Lib.Math.max.name, .initialized "java/lang/Math", .code Lib.Math.max.name Lib.Math.max.code 2 (some .int), .arrayClass .byte, .fieldLink RX4 13 "TrainedSegments$Row" "bytes" "[B"] ++ wsX40 ++ wsX20)
def wsX2_bytes : List Cond := .code yX2_bytes cX2_bytes 1 (some (.object "TrainedSegments$Row")) :: ([.fieldLink RX2 14 "TrainedSegments$Output" "bytes" "LTrainedSegments$Row;"] ++ wsX20)
def wsX2_items : List Cond := .code yX2_items cX2_items 1 (some .int) :: ([.fieldLink RX2 20 "TrainedSegments$Output" "items" "I"] ++ wsX20)
def wsX2_matches : List Cond := .code yX2_matches cX2_matches 1 (some .int) :: ([.fieldLink RX2 24 "TrainedSegments$Output" "matches" "I"] ++ wsX20)
def wsX2_begin_r1 : List Cond := [Cond.fieldLink RX2 20 "TrainedSegments$Output" "items" "I", Cond.fieldLink RX2 24 "TrainedSegments$Output" "matches" "I", Cond.fieldLink RX2 14 "TrainedSegments$Output" "bytes" "LTrainedSegments$Row;", Cond.methodLink RX2 27 yX4_clear, Cond.instanceMethod yX4_clear, Cond.selects RX4 yX4_clear yX4_clear, Cond.initialized RX4, Cond.code yX4_clear cX4_clear 1 none, Cond.fieldLink RX4 19 "TrainedSegments$Row" "length" "I", Cond.methodLink RX2 30 yX0_id, Cond.instanceMethod yX0_id, Cond.selects RX0 yX0_id yX0_id, Cond.initialized RX0, Cond.code yX0_id cX0_id 1 (some .int), Cond.fieldLink RX0 20 "TrainedSegments$Dictionary" "id" "I", Cond.methodLink RX2 36 yX4_add, Cond.instanceMethod yX4_add, Cond.selects RX4 yX4_add yX4_add, Cond.code yX4_add cX4_add 2 none, Cond.fieldLink RX4 13 "TrainedSegments$Row" "bytes" "[B", Cond.methodLink RX2 39 yX0_sum, Cond.instanceMethod yX0_sum, Cond.selects RX0 yX0_sum yX0_sum, Cond.code yX0_sum cX0_sum 1 (some .int)]
def wsX2_begin_r2 : List Cond := [Cond.fieldLink RX0 14 "TrainedSegments$Dictionary" "words" "LTrainedSegments$Row;", Cond.methodLink RX0 30 yX4_sum, Cond.instanceMethod yX4_sum, Cond.selects RX4 yX4_sum yX4_sum, Cond.code yX4_sum cX4_sum 4 (some .int), Cond.methodLink RX4 45 yX4_at, Cond.instanceMethod yX4_at, Cond.selects RX4 yX4_at yX4_at, Cond.code yX4_at cX4_at 2 (some .int), Cond.methodLink RX4 27 yX4_signedAt, Cond.instanceMethod yX4_signedAt, Cond.selects RX4 yX4_signedAt yX4_signedAt, Cond.code yX4_signedAt cX4_signedAt 2 (some .byte), Cond.methodLink RX4 23 yX4_has, Cond.instanceMethod yX4_has, Cond.selects RX4 yX4_has yX4_has, Cond.code yX4_has cX4_has 2 (some .boolean)]
def wsX2_begin : List Cond := .code yX2_begin cX2_begin 3 none :: ((wsX2_begin_r1 ++ wsX2_begin_r2) ++ wsX20 ++ wsX40 ++ wsX00 ++ (vx_atN 8).filter goodWord ++ (vx_atM "java/lang/ArrayIndexOutOfBoundsException" ["java/lang/IndexOutOfBoundsException", "java/lang/RuntimeException", "java/lang/Exception"]).filter goodWord)
def wsX2_addMatch : List Cond := .code yX2_addMatch cX2_addMatch 3 none :: ([.fieldLink RX2 14 "TrainedSegments$Output" "bytes" "LTrainedSegments$Row;", .fieldLink RX2 20 "TrainedSegments$Output" "items" "I", .fieldLink RX2 24 "TrainedSegments$Output" "matches" "I", .methodLink RX2 36 yX4_add, .instanceMethod yX4_add, .selects RX4 yX4_add yX4_add, .initialized RX4, .code yX4_add cX4_add 2 none, .fieldLink RX4 19 "TrainedSegments$Row" "length" "I", .fieldLink RX4 13 "TrainedSegments$Row" "bytes" "[B"] ++ wsX20 ++ wsX40 ++ (vx_atN 8).filter goodWord ++ (vx_atM "java/lang/ArrayIndexOutOfBoundsException" ["java/lang/IndexOutOfBoundsException", "java/lang/RuntimeException", "java/lang/Exception"]).filter goodWord)
def wsX2_addPlain : List Cond := .code yX2_addPlain cX2_addPlain 5 none :: ([.fieldLink RX2 14 "TrainedSegments$Output" "bytes" "LTrainedSegments$Row;", .fieldLink RX2 20 "TrainedSegments$Output" "items" "I", .methodLink RX2 36 yX4_add, .instanceMethod yX4_add, .selects RX4 yX4_add yX4_add, .initialized RX4, .code yX4_add cX4_add 2 none, .fieldLink RX4 19 "TrainedSegments$Row" "length" "I", .fieldLink RX4 13 "TrainedSegments$Row" "bytes" "[B"] ++ wsX20 ++ wsX40 ++ (vx_atN 8).filter goodWord ++ (vx_atM "java/lang/ArrayIndexOutOfBoundsException" ["java/lang/IndexOutOfBoundsException", "java/lang/RuntimeException", "java/lang/Exception"]).filter goodWord)
def wsX3_init : List Cond := .code yX3_init cX3_init 1 none :: ([.methodLink RX3 3 objectInit, .instanceMethod objectInit, .code objectInit ⟨#[0xb1]⟩ 1 none, .arrayClass .byte, .fieldLink RX3 9 "TrainedSegments$Packer" "joined" "[B", .arrayClass .int, .fieldLink RX3 15 "TrainedSegments$Packer" "earlier" "[I", .fieldLink RX3 19 "TrainedSegments$Packer" "latest" "[I", .fieldLink RX3 22 "TrainedSegments$Packer" "cost" "[I", .fieldLink RX3 25 "TrainedSegments$Packer" "choice" "[I"] ++ wsX30)
def wsX4_copyTo : List Cond := .code yX4_copyTo cX4_copyTo 5 (some .int) :: ([.fieldLink RX4 19 "TrainedSegments$Row" "length" "I", .methodLink RX4 42 Lib.Math.min.name, .static Lib.Math.min.name, .initialized "java/lang/Math", .code Lib.Math.min.name Lib.Math.min.code 2 (some .int), .methodLink RX4 7 Lib.Math.max.name, .static Lib.Math.max.name, .code Lib.Math.max.name Lib.Math.max.code 2 (some .int), .fieldLink RX4 13 "TrainedSegments$Row" "bytes" "[B"] ++ wsX40 ++ (vx_atN 8).filter goodWord ++ (vx_atM "java/lang/ArrayIndexOutOfBoundsException" ["java/lang/IndexOutOfBoundsException", "java/lang/RuntimeException", "java/lang/Exception"]).filter goodWord)
def wsJ7_fill_53178 : List Cond := .code yJ7_fill_53178 cJ7_fill_53178 4 none :: ([])
def wsX3_linkSameBytes : List Cond := .code yX3_linkSameBytes cX3_linkSameBytes 3 none :: ([.fieldLink RX3 19 "TrainedSegments$Packer" "latest" "[I", .fieldLink RX3 34 "TrainedSegments$Packer" "start" "I", .fieldLink RX3 44 "TrainedSegments$Packer" "length" "I", .fieldLink RX3 9 "TrainedSegments$Packer" "joined" "[B", .fieldLink RX3 15 "TrainedSegments$Packer" "earlier" "[I", .methodLink RX3 77 yJ7_fill_53178, .static yJ7_fill_53178, .initialized RJ7, .code yJ7_fill_53178 cJ7_fill_53178 4 none] ++ wsX30 ++ (vx_atM "java/lang/ArrayIndexOutOfBoundsException" ["java/lang/IndexOutOfBoundsException", "java/lang/RuntimeException", "java/lang/Exception"]).filter goodWord ++ (vx_atN 8).filter goodWord)
def wsX3_sameBytes : List Cond := .code yX3_sameBytes cX3_sameBytes 5 (some .int) :: ([.fieldLink RX3 9 "TrainedSegments$Packer" "joined" "[B"] ++ wsX30 ++ (vx_atM "java/lang/ArrayIndexOutOfBoundsException" ["java/lang/IndexOutOfBoundsException", "java/lang/RuntimeException", "java/lang/Exception"]).filter goodWord ++ (vx_atN 8).filter goodWord)
def wsX3_longestMatch : List Cond := .code yX3_longestMatch cX3_longestMatch 6 (some .int) :: ([.fieldLink RX3 44 "TrainedSegments$Packer" "length" "I", .methodLink RX3 38 Lib.Math.min.name, .static Lib.Math.min.name, .initialized "java/lang/Math", .code Lib.Math.min.name Lib.Math.min.code 2 (some .int), .fieldLink RX3 15 "TrainedSegments$Packer" "earlier" "[I", .fieldLink RX3 34 "TrainedSegments$Packer" "start" "I", .fieldLink RX3 9 "TrainedSegments$Packer" "joined" "[B", .methodLink RX3 90 Lib.Math.max.name, .static Lib.Math.max.name, .code Lib.Math.max.name Lib.Math.max.code 2 (some .int), .methodLink RX3 86 yX3_sameBytes, .instanceMethod yX3_sameBytes, .selects RX3 yX3_sameBytes yX3_sameBytes, .initialized RX3, .code yX3_sameBytes cX3_sameBytes 5 (some .int)] ++ wsX30 ++ (vx_atM "java/lang/ArrayIndexOutOfBoundsException" ["java/lang/IndexOutOfBoundsException", "java/lang/RuntimeException", "java/lang/Exception"]).filter goodWord ++ (vx_atN 8).filter goodWord)
def wsX3_tryMatches : List Cond := .code yX3_tryMatches cX3_tryMatches 3 none :: ([.fieldLink RX3 22 "TrainedSegments$Packer" "cost" "[I", .fieldLink RX3 25 "TrainedSegments$Packer" "choice" "[I", .methodLink RX3 83 yX3_longestMatch, .instanceMethod yX3_longestMatch, .selects RX3 yX3_longestMatch yX3_longestMatch, .initialized RX3, .code yX3_longestMatch cX3_longestMatch 6 (some .int), .fieldLink RX3 44 "TrainedSegments$Packer" "length" "I", .methodLink RX3 38 Lib.Math.min.name, .static Lib.Math.min.name, .initialized "java/lang/Math", .code Lib.Math.min.name Lib.Math.min.code 2 (some .int), .fieldLink RX3 15 "TrainedSegments$Packer" "earlier" "[I", .fieldLink RX3 34 "TrainedSegments$Packer" "start" "I", .fieldLink RX3 9 "TrainedSegments$Packer" "joined" "[B", .methodLink RX3 90 Lib.Math.max.name, .static Lib.Math.max.name, .code Lib.Math.max.name Lib.Math.max.code 2 (some .int), .methodLink RX3 86 yX3_sameBytes, .instanceMethod yX3_sameBytes, .selects RX3 yX3_sameBytes yX3_sameBytes, .code yX3_sameBytes cX3_sameBytes 5 (some .int)] ++ wsX30 ++ (vx_atN 8).filter goodWord ++ (vx_atM "java/lang/ArrayIndexOutOfBoundsException" ["java/lang/IndexOutOfBoundsException", "java/lang/RuntimeException", "java/lang/Exception"]).filter goodWord)
def wsX3_tryPlain : List Cond := .code yX3_tryPlain cX3_tryPlain 3 none :: ([.fieldLink RX3 44 "TrainedSegments$Packer" "length" "I", .methodLink RX3 38 Lib.Math.min.name, .static Lib.Math.min.name, .initialized "java/lang/Math", .code Lib.Math.min.name Lib.Math.min.code 2 (some .int), .fieldLink RX3 22 "TrainedSegments$Packer" "cost" "[I", .fieldLink RX3 25 "TrainedSegments$Packer" "choice" "[I"] ++ wsX30 ++ (vx_atM "java/lang/ArrayIndexOutOfBoundsException" ["java/lang/IndexOutOfBoundsException", "java/lang/RuntimeException", "java/lang/Exception"]).filter goodWord ++ (vx_atN 8).filter goodWord)
def wsX3_measure_r1 : List Cond := [Cond.fieldLink RX3 9 "TrainedSegments$Packer" "joined" "[B", Cond.fieldLink RX3 34 "TrainedSegments$Packer" "start" "I", Cond.methodLink RX3 38 Lib.Math.min.name, Cond.static Lib.Math.min.name, Cond.initialized "java/lang/Math", Cond.code Lib.Math.min.name Lib.Math.min.code 2 (some .int), Cond.fieldLink RX3 44 "TrainedSegments$Packer" "length" "I", Cond.fieldLink RX3 22 "TrainedSegments$Packer" "cost" "[I", Cond.constant RX3 52 (2147483647), Cond.methodLink RX3 28 yX4_copyTo, Cond.instanceMethod yX4_copyTo, Cond.selects RX4 yX4_copyTo yX4_copyTo, Cond.initialized RX4, Cond.code yX4_copyTo cX4_copyTo 5 (some .int), Cond.fieldLink RX4 19 "TrainedSegments$Row" "length" "I", Cond.methodLink RX4 42 Lib.Math.min.name, Cond.methodLink RX4 7 Lib.Math.max.name, Cond.static Lib.Math.max.name, Cond.code Lib.Math.max.name Lib.Math.max.code 2 (some .int), Cond.fieldLink RX4 13 "TrainedSegments$Row" "bytes" "[B", Cond.methodLink RX3 47 yX3_linkSameBytes, Cond.instanceMethod yX3_linkSameBytes, Cond.selects RX3 yX3_linkSameBytes yX3_linkSameBytes, Cond.initialized RX3]
def wsX3_measure_r2 : List Cond := [Cond.code yX3_linkSameBytes cX3_linkSameBytes 3 none, Cond.fieldLink RX3 19 "TrainedSegments$Packer" "latest" "[I", Cond.fieldLink RX3 15 "TrainedSegments$Packer" "earlier" "[I", Cond.methodLink RX3 77 yJ7_fill_53178, Cond.static yJ7_fill_53178, Cond.initialized RJ7, Cond.code yJ7_fill_53178 cJ7_fill_53178 4 none, Cond.methodLink RX3 53 yX3_tryMatches, Cond.instanceMethod yX3_tryMatches, Cond.selects RX3 yX3_tryMatches yX3_tryMatches, Cond.code yX3_tryMatches cX3_tryMatches 3 none, Cond.fieldLink RX3 25 "TrainedSegments$Packer" "choice" "[I", Cond.methodLink RX3 83 yX3_longestMatch, Cond.instanceMethod yX3_longestMatch, Cond.selects RX3 yX3_longestMatch yX3_longestMatch, Cond.code yX3_longestMatch cX3_longestMatch 6 (some .int), Cond.methodLink RX3 90 Lib.Math.max.name, Cond.methodLink RX3 86 yX3_sameBytes, Cond.instanceMethod yX3_sameBytes, Cond.selects RX3 yX3_sameBytes yX3_sameBytes, Cond.code yX3_sameBytes cX3_sameBytes 5 (some .int), Cond.methodLink RX3 57 yX3_tryPlain, Cond.instanceMethod yX3_tryPlain, Cond.selects RX3 yX3_tryPlain yX3_tryPlain]
def wsX3_measure_r3 : List Cond := [Cond.code yX3_tryPlain cX3_tryPlain 3 none]
def wsX3_measure : List Cond := .code yX3_measure cX3_measure 4 (some .int) :: ((wsX3_measure_r1 ++ (wsX3_measure_r2 ++ wsX3_measure_r3)) ++ wsX30 ++ wsX40 ++ (vx_atN 8).filter goodWord ++ (vx_atM "java/lang/ArrayIndexOutOfBoundsException" ["java/lang/IndexOutOfBoundsException", "java/lang/RuntimeException", "java/lang/Exception"]).filter goodWord)
def wsX3_leastDistance : List Cond := .code yX3_leastDistance cX3_leastDistance 5 (some .int) :: ([.fieldLink RX3 15 "TrainedSegments$Packer" "earlier" "[I", .fieldLink RX3 9 "TrainedSegments$Packer" "joined" "[B", .methodLink RX3 86 yX3_sameBytes, .instanceMethod yX3_sameBytes, .selects RX3 yX3_sameBytes yX3_sameBytes, .initialized RX3, .code yX3_sameBytes cX3_sameBytes 5 (some .int)] ++ wsX30 ++ (vx_atM "java/lang/ArrayIndexOutOfBoundsException" ["java/lang/IndexOutOfBoundsException", "java/lang/RuntimeException", "java/lang/Exception"]).filter goodWord ++ (vx_atN 8).filter goodWord)
def wsX3_write_r1 : List Cond := [Cond.fieldLink RX3 44 "TrainedSegments$Packer" "length" "I", Cond.fieldLink RX3 25 "TrainedSegments$Packer" "choice" "[I", Cond.fieldLink RX3 34 "TrainedSegments$Packer" "start" "I", Cond.fieldLink RX3 9 "TrainedSegments$Packer" "joined" "[B", Cond.methodLink RX3 73 Lib.Math.abs.name, Cond.static Lib.Math.abs.name, Cond.initialized "java/lang/Math", Cond.code Lib.Math.abs.name Lib.Math.abs.code 1 (some .int), Cond.methodLink RX3 60 yX3_leastDistance, Cond.instanceMethod yX3_leastDistance, Cond.selects RX3 yX3_leastDistance yX3_leastDistance, Cond.initialized RX3, Cond.code yX3_leastDistance cX3_leastDistance 5 (some .int), Cond.fieldLink RX3 15 "TrainedSegments$Packer" "earlier" "[I", Cond.methodLink RX3 86 yX3_sameBytes, Cond.instanceMethod yX3_sameBytes, Cond.selects RX3 yX3_sameBytes yX3_sameBytes, Cond.code yX3_sameBytes cX3_sameBytes 5 (some .int), Cond.methodLink RX3 63 yX2_addMatch, Cond.instanceMethod yX2_addMatch, Cond.selects RX2 yX2_addMatch yX2_addMatch, Cond.initialized RX2, Cond.code yX2_addMatch cX2_addMatch 3 none, Cond.fieldLink RX2 14 "TrainedSegments$Output" "bytes" "LTrainedSegments$Row;"]
def wsX3_write_r2 : List Cond := [Cond.fieldLink RX2 20 "TrainedSegments$Output" "items" "I", Cond.fieldLink RX2 24 "TrainedSegments$Output" "matches" "I", Cond.methodLink RX2 36 yX4_add, Cond.instanceMethod yX4_add, Cond.selects RX4 yX4_add yX4_add, Cond.initialized RX4, Cond.code yX4_add cX4_add 2 none, Cond.fieldLink RX4 19 "TrainedSegments$Row" "length" "I", Cond.fieldLink RX4 13 "TrainedSegments$Row" "bytes" "[B", Cond.methodLink RX3 69 yX2_addPlain, Cond.instanceMethod yX2_addPlain, Cond.selects RX2 yX2_addPlain yX2_addPlain, Cond.code yX2_addPlain cX2_addPlain 5 none]
def wsX3_write : List Cond := .code yX3_write cX3_write 5 none :: ((wsX3_write_r1 ++ wsX3_write_r2) ++ wsX30 ++ wsX20 ++ wsX40 ++ (vx_atM "java/lang/ArrayIndexOutOfBoundsException" ["java/lang/IndexOutOfBoundsException", "java/lang/RuntimeException", "java/lang/Exception"]).filter goodWord ++ (vx_atN 8).filter goodWord)
def wsX5_init : List Cond := .code yX5_init cX5_init 1 none :: ([.methodLink RX5 3 objectInit, .instanceMethod objectInit, .code objectInit ⟨#[0xb1]⟩ 1 none, .classLink RX5 9 RX4, .instantiable RX4 2, .initialized RX4, .fieldLink RX5 16 "TrainedSegments$Trainer" "places" "LTrainedSegments$Row;", .arrayClass .boolean, .fieldLink RX5 20 "TrainedSegments$Trainer" "covered" "[Z", .arrayClass .int, .fieldLink RX5 24 "TrainedSegments$Trainer" "kind" "[I", .fieldLink RX5 28 "TrainedSegments$Trainer" "count" "[I", .fieldLink RX5 31 "TrainedSegments$Trainer" "freeFrom" "[I", .fieldLink RX5 34 "TrainedSegments$Trainer" "taken" "[I", .methodLink RX5 13 yX4_init, .instanceMethod yX4_init, .code yX4_init cX4_init 2 none, .methodLink RX4 1 objectInit, .methodLink RX4 7 Lib.Math.max.name, .static Lib.Math.max.name, .initialized "java/lang/Math", .code Lib.Math.max.name Lib.Math.max.code 2 (some .int), .arrayClass .byte, .fieldLink RX4 13 "TrainedSegments$Row" "bytes" "[B"] ++ wsX40 ++ wsX50)
def wsX5_coverFrom : List Cond := .code yX5_coverFrom cX5_coverFrom 5 none :: ([.fieldLink RX5 20 "TrainedSegments$Trainer" "covered" "[Z"] ++ wsX50 ++ (vx_atM "java/lang/ArrayIndexOutOfBoundsException" ["java/lang/IndexOutOfBoundsException", "java/lang/RuntimeException", "java/lang/Exception"]).filter goodWord ++ (vx_atN 8).filter goodWord)
def wsX5_isSameRow : List Cond := .code yX5_isSameRow cX5_isSameRow 4 (some .boolean) :: ([.fieldLink RX5 37 "TrainedSegments$Trainer" "n" "I", .fieldLink RX5 16 "TrainedSegments$Trainer" "places" "LTrainedSegments$Row;", .methodLink RX5 92 yX4_signedAt, .instanceMethod yX4_signedAt, .selects RX4 yX4_signedAt yX4_signedAt, .initialized RX4, .code yX4_signedAt cX4_signedAt 2 (some .byte), .fieldLink RX4 13 "TrainedSegments$Row" "bytes" "[B", .methodLink RX4 23 yX4_has, .instanceMethod yX4_has, .selects RX4 yX4_has yX4_has, .code yX4_has cX4_has 2 (some .boolean), .fieldLink RX4 19 "TrainedSegments$Row" "length" "I"] ++ wsX50 ++ wsX40 ++ (vx_atN 8).filter goodWord ++ (vx_atM "java/lang/ArrayIndexOutOfBoundsException" ["java/lang/IndexOutOfBoundsException", "java/lang/RuntimeException", "java/lang/Exception"]).filter goodWord)
def wsX5_firstSameRow : List Cond := .code yX5_firstSameRow cX5_firstSameRow 3 (some .int) :: ([.fieldLink RX5 24 "TrainedSegments$Trainer" "kind" "[I", .methodLink RX5 88 yX5_isSameRow, .instanceMethod yX5_isSameRow, .selects RX5 yX5_isSameRow yX5_isSameRow, .initialized RX5, .code yX5_isSameRow cX5_isSameRow 4 (some .boolean), .fieldLink RX5 37 "TrainedSegments$Trainer" "n" "I", .fieldLink RX5 16 "TrainedSegments$Trainer" "places" "LTrainedSegments$Row;", .methodLink RX5 92 yX4_signedAt, .instanceMethod yX4_signedAt, .selects RX4 yX4_signedAt yX4_signedAt, .initialized RX4, .code yX4_signedAt cX4_signedAt 2 (some .byte), .fieldLink RX4 13 "TrainedSegments$Row" "bytes" "[B", .methodLink RX4 23 yX4_has, .instanceMethod yX4_has, .selects RX4 yX4_has yX4_has, .code yX4_has cX4_has 2 (some .boolean), .fieldLink RX4 19 "TrainedSegments$Row" "length" "I"] ++ wsX50 ++ wsX40 ++ (vx_atM "java/lang/ArrayIndexOutOfBoundsException" ["java/lang/IndexOutOfBoundsException", "java/lang/RuntimeException", "java/lang/Exception"]).filter goodWord ++ (vx_atN 8).filter goodWord)
def wsX5_markKinds : List Cond := .code yX5_markKinds cX5_markKinds 4 none :: ([.fieldLink RX5 24 "TrainedSegments$Trainer" "kind" "[I", .methodLink RX5 84 yX5_firstSameRow, .instanceMethod yX5_firstSameRow, .selects RX5 yX5_firstSameRow yX5_firstSameRow, .initialized RX5, .code yX5_firstSameRow cX5_firstSameRow 3 (some .int), .methodLink RX5 88 yX5_isSameRow, .instanceMethod yX5_isSameRow, .selects RX5 yX5_isSameRow yX5_isSameRow, .code yX5_isSameRow cX5_isSameRow 4 (some .boolean), .fieldLink RX5 37 "TrainedSegments$Trainer" "n" "I", .fieldLink RX5 16 "TrainedSegments$Trainer" "places" "LTrainedSegments$Row;", .methodLink RX5 92 yX4_signedAt, .instanceMethod yX4_signedAt, .selects RX4 yX4_signedAt yX4_signedAt, .initialized RX4, .code yX4_signedAt cX4_signedAt 2 (some .byte), .fieldLink RX4 13 "TrainedSegments$Row" "bytes" "[B", .methodLink RX4 23 yX4_has, .instanceMethod yX4_has, .selects RX4 yX4_has yX4_has, .code yX4_has cX4_has 2 (some .boolean), .fieldLink RX4 19 "TrainedSegments$Row" "length" "I"] ++ wsX50 ++ wsX40 ++ (vx_atN 8).filter goodWord ++ (vx_atM "java/lang/ArrayIndexOutOfBoundsException" ["java/lang/IndexOutOfBoundsException", "java/lang/RuntimeException", "java/lang/Exception"]).filter goodWord)
def wsX5_load_r1 : List Cond := [Cond.fieldLink RX5 37 "TrainedSegments$Trainer" "n" "I", Cond.fieldLink RX5 41 "TrainedSegments$Trainer" "takenCount" "I", Cond.fieldLink RX5 16 "TrainedSegments$Trainer" "places" "LTrainedSegments$Row;", Cond.fieldLink RX5 24 "TrainedSegments$Trainer" "kind" "[I", Cond.methodLink RX5 44 yX4_clear, Cond.instanceMethod yX4_clear, Cond.selects RX4 yX4_clear yX4_clear, Cond.initialized RX4, Cond.code yX4_clear cX4_clear 1 none, Cond.fieldLink RX4 19 "TrainedSegments$Row" "length" "I", Cond.methodLink RX5 47 yX5_coverFrom, Cond.instanceMethod yX5_coverFrom, Cond.selects RX5 yX5_coverFrom yX5_coverFrom, Cond.initialized RX5, Cond.code yX5_coverFrom cX5_coverFrom 5 none, Cond.fieldLink RX5 20 "TrainedSegments$Trainer" "covered" "[Z", Cond.methodLink RX5 51 yJ7_fill_53178, Cond.static yJ7_fill_53178, Cond.initialized RJ7, Cond.code yJ7_fill_53178 cJ7_fill_53178 4 none, Cond.methodLink RX5 57 yX4_addFrom, Cond.instanceMethod yX4_addFrom, Cond.selects RX4 yX4_addFrom yX4_addFrom, Cond.code yX4_addFrom cX4_addFrom 5 none]
def wsX5_load_r2 : List Cond := [Cond.methodLink RX4 27 yX4_signedAt, Cond.instanceMethod yX4_signedAt, Cond.selects RX4 yX4_signedAt yX4_signedAt, Cond.code yX4_signedAt cX4_signedAt 2 (some .byte), Cond.fieldLink RX4 13 "TrainedSegments$Row" "bytes" "[B", Cond.methodLink RX4 23 yX4_has, Cond.instanceMethod yX4_has, Cond.selects RX4 yX4_has yX4_has, Cond.code yX4_has cX4_has 2 (some .boolean), Cond.methodLink RX4 31 yX4_add, Cond.instanceMethod yX4_add, Cond.selects RX4 yX4_add yX4_add, Cond.code yX4_add cX4_add 2 none, Cond.methodLink RX5 61 yX4_length, Cond.instanceMethod yX4_length, Cond.selects RX4 yX4_length yX4_length, Cond.code yX4_length cX4_length 1 (some .int), Cond.methodLink RX5 65 yX5_markKinds, Cond.instanceMethod yX5_markKinds, Cond.selects RX5 yX5_markKinds yX5_markKinds, Cond.code yX5_markKinds cX5_markKinds 4 none, Cond.methodLink RX5 84 yX5_firstSameRow, Cond.instanceMethod yX5_firstSameRow, Cond.selects RX5 yX5_firstSameRow yX5_firstSameRow]
def wsX5_load_r3 : List Cond := [Cond.code yX5_firstSameRow cX5_firstSameRow 3 (some .int), Cond.methodLink RX5 88 yX5_isSameRow, Cond.instanceMethod yX5_isSameRow, Cond.selects RX5 yX5_isSameRow yX5_isSameRow, Cond.code yX5_isSameRow cX5_isSameRow 4 (some .boolean), Cond.methodLink RX5 92 yX4_signedAt]
def wsX5_load : List Cond := .code yX5_load cX5_load 5 none :: ((wsX5_load_r1 ++ (wsX5_load_r2 ++ wsX5_load_r3)) ++ wsX50 ++ wsX40 ++ (vx_atN 8).filter goodWord ++ (vx_atM "java/lang/ArrayIndexOutOfBoundsException" ["java/lang/IndexOutOfBoundsException", "java/lang/RuntimeException", "java/lang/Exception"]).filter goodWord)
def wsX5_isFreeRow : List Cond := .code yX5_isFreeRow cX5_isFreeRow 3 (some .boolean) :: ([.fieldLink RX5 24 "TrainedSegments$Trainer" "kind" "[I", .fieldLink RX5 37 "TrainedSegments$Trainer" "n" "I", .fieldLink RX5 20 "TrainedSegments$Trainer" "covered" "[Z"] ++ wsX50 ++ (vx_atM "java/lang/ArrayIndexOutOfBoundsException" ["java/lang/IndexOutOfBoundsException", "java/lang/RuntimeException", "java/lang/Exception"]).filter goodWord ++ (vx_atN 8).filter goodWord)
def wsX5_countRows : List Cond := .code yX5_countRows cX5_countRows 2 none :: ([.fieldLink RX5 28 "TrainedSegments$Trainer" "count" "[I", .fieldLink RX5 31 "TrainedSegments$Trainer" "freeFrom" "[I", .fieldLink RX5 24 "TrainedSegments$Trainer" "kind" "[I", .fieldLink RX5 37 "TrainedSegments$Trainer" "n" "I", .methodLink RX5 51 yJ7_fill_53178, .static yJ7_fill_53178, .initialized RJ7, .code yJ7_fill_53178 cJ7_fill_53178 4 none, .methodLink RX5 96 yX5_isFreeRow, .instanceMethod yX5_isFreeRow, .selects RX5 yX5_isFreeRow yX5_isFreeRow, .initialized RX5, .code yX5_isFreeRow cX5_isFreeRow 3 (some .boolean), .fieldLink RX5 20 "TrainedSegments$Trainer" "covered" "[Z"] ++ wsX50 ++ (vx_atN 8).filter goodWord ++ (vx_atM "java/lang/ArrayIndexOutOfBoundsException" ["java/lang/IndexOutOfBoundsException", "java/lang/RuntimeException", "java/lang/Exception"]).filter goodWord)
def wsX5_placeOfMost : List Cond := .code yX5_placeOfMost cX5_placeOfMost 4 (some .int) :: ([.fieldLink RX5 24 "TrainedSegments$Trainer" "kind" "[I", .fieldLink RX5 28 "TrainedSegments$Trainer" "count" "[I", .methodLink RX5 96 yX5_isFreeRow, .instanceMethod yX5_isFreeRow, .selects RX5 yX5_isFreeRow yX5_isFreeRow, .initialized RX5, .code yX5_isFreeRow cX5_isFreeRow 3 (some .boolean), .fieldLink RX5 37 "TrainedSegments$Trainer" "n" "I", .fieldLink RX5 20 "TrainedSegments$Trainer" "covered" "[Z"] ++ wsX50 ++ (vx_atM "java/lang/ArrayIndexOutOfBoundsException" ["java/lang/IndexOutOfBoundsException", "java/lang/RuntimeException", "java/lang/Exception"]).filter goodWord ++ (vx_atN 8).filter goodWord)
def wsX5_cover : List Cond := .code yX5_cover cX5_cover 3 none :: ([.fieldLink RX5 24 "TrainedSegments$Trainer" "kind" "[I", .fieldLink RX5 37 "TrainedSegments$Trainer" "n" "I", .methodLink RX5 96 yX5_isFreeRow, .instanceMethod yX5_isFreeRow, .selects RX5 yX5_isFreeRow yX5_isFreeRow, .initialized RX5, .code yX5_isFreeRow cX5_isFreeRow 3 (some .boolean), .fieldLink RX5 20 "TrainedSegments$Trainer" "covered" "[Z", .methodLink RX5 47 yX5_coverFrom, .instanceMethod yX5_coverFrom, .selects RX5 yX5_coverFrom yX5_coverFrom, .code yX5_coverFrom cX5_coverFrom 5 none] ++ wsX50 ++ (vx_atM "java/lang/ArrayIndexOutOfBoundsException" ["java/lang/IndexOutOfBoundsException", "java/lang/RuntimeException", "java/lang/Exception"]).filter goodWord ++ (vx_atN 8).filter goodWord)
def wsX5_takeRows_r1 : List Cond := [Cond.fieldLink RX5 41 "TrainedSegments$Trainer" "takenCount" "I", Cond.fieldLink RX5 37 "TrainedSegments$Trainer" "n" "I", Cond.fieldLink RX5 28 "TrainedSegments$Trainer" "count" "[I", Cond.fieldLink RX5 24 "TrainedSegments$Trainer" "kind" "[I", Cond.fieldLink RX5 34 "TrainedSegments$Trainer" "taken" "[I", Cond.methodLink RX5 69 yX5_countRows, Cond.instanceMethod yX5_countRows, Cond.selects RX5 yX5_countRows yX5_countRows, Cond.initialized RX5, Cond.code yX5_countRows cX5_countRows 2 none, Cond.fieldLink RX5 31 "TrainedSegments$Trainer" "freeFrom" "[I", Cond.methodLink RX5 51 yJ7_fill_53178, Cond.static yJ7_fill_53178, Cond.initialized RJ7, Cond.code yJ7_fill_53178 cJ7_fill_53178 4 none, Cond.methodLink RX5 96 yX5_isFreeRow, Cond.instanceMethod yX5_isFreeRow, Cond.selects RX5 yX5_isFreeRow yX5_isFreeRow, Cond.code yX5_isFreeRow cX5_isFreeRow 3 (some .boolean), Cond.fieldLink RX5 20 "TrainedSegments$Trainer" "covered" "[Z", Cond.methodLink RX5 72 yX5_placeOfMost, Cond.instanceMethod yX5_placeOfMost, Cond.selects RX5 yX5_placeOfMost yX5_placeOfMost, Cond.code yX5_placeOfMost cX5_placeOfMost 4 (some .int)]
def wsX5_takeRows_r2 : List Cond := [Cond.methodLink RX5 75 yX5_cover, Cond.instanceMethod yX5_cover, Cond.selects RX5 yX5_cover yX5_cover, Cond.code yX5_cover cX5_cover 3 none, Cond.methodLink RX5 47 yX5_coverFrom, Cond.instanceMethod yX5_coverFrom, Cond.selects RX5 yX5_coverFrom yX5_coverFrom, Cond.code yX5_coverFrom cX5_coverFrom 5 none]
def wsX5_takeRows : List Cond := .code yX5_takeRows cX5_takeRows 3 none :: ((wsX5_takeRows_r1 ++ wsX5_takeRows_r2) ++ wsX50 ++ (vx_atN 8).filter goodWord ++ (vx_atM "java/lang/ArrayIndexOutOfBoundsException" ["java/lang/IndexOutOfBoundsException", "java/lang/RuntimeException", "java/lang/Exception"]).filter goodWord)
def wsX5_handOver_r1 : List Cond := [Cond.fieldLink RX5 41 "TrainedSegments$Trainer" "takenCount" "I", Cond.fieldLink RX5 16 "TrainedSegments$Trainer" "places" "LTrainedSegments$Row;", Cond.fieldLink RX5 34 "TrainedSegments$Trainer" "taken" "[I", Cond.methodLink RX5 78 yX0_addPiece, Cond.instanceMethod yX0_addPiece, Cond.selects RX0 yX0_addPiece yX0_addPiece, Cond.initialized RX0, Cond.code yX0_addPiece cX0_addPiece 3 none, Cond.fieldLink RX0 27 "TrainedSegments$Dictionary" "pieceLength" "I", Cond.fieldLink RX0 14 "TrainedSegments$Dictionary" "words" "LTrainedSegments$Row;", Cond.fieldLink RX0 24 "TrainedSegments$Dictionary" "pieces" "I", Cond.methodLink RX0 37 yX4_hasRoom, Cond.instanceMethod yX4_hasRoom, Cond.selects RX4 yX4_hasRoom yX4_hasRoom, Cond.initialized RX4, Cond.code yX4_hasRoom cX4_hasRoom 2 (some .boolean), Cond.fieldLink RX4 13 "TrainedSegments$Row" "bytes" "[B", Cond.fieldLink RX4 19 "TrainedSegments$Row" "length" "I", Cond.methodLink RX0 41 yX4_addFrom, Cond.instanceMethod yX4_addFrom, Cond.selects RX4 yX4_addFrom yX4_addFrom, Cond.code yX4_addFrom cX4_addFrom 5 none, Cond.methodLink RX4 27 yX4_signedAt, Cond.instanceMethod yX4_signedAt]
def wsX5_handOver_r2 : List Cond := [Cond.selects RX4 yX4_signedAt yX4_signedAt, Cond.code yX4_signedAt cX4_signedAt 2 (some .byte), Cond.methodLink RX4 23 yX4_has, Cond.instanceMethod yX4_has, Cond.selects RX4 yX4_has yX4_has, Cond.code yX4_has cX4_has 2 (some .boolean), Cond.methodLink RX4 31 yX4_add, Cond.instanceMethod yX4_add, Cond.selects RX4 yX4_add yX4_add, Cond.code yX4_add cX4_add 2 none]
def wsX5_handOver : List Cond := .code yX5_handOver cX5_handOver 3 none :: ((wsX5_handOver_r1 ++ wsX5_handOver_r2) ++ wsX50 ++ wsX00 ++ wsX40 ++ (vx_atM "java/lang/ArrayIndexOutOfBoundsException" ["java/lang/IndexOutOfBoundsException", "java/lang/RuntimeException", "java/lang/Exception"]).filter goodWord ++ (vx_atN 8).filter goodWord)
def wsX6_init_r1 : List Cond := [Cond.methodLink RX6 3 objectInit, Cond.instanceMethod objectInit, Cond.code objectInit ⟨#[0xb1]⟩ 1 none, Cond.classLink RX6 9 RX4, Cond.instantiable RX4 2, Cond.initialized RX4, Cond.fieldLink RX6 14 "TrainedSegments" "tape" "LTrainedSegments$Row;", Cond.fieldLink RX6 18 "TrainedSegments" "samples" "[LTrainedSegments$Row;", Cond.classLink RX6 22 RX0, Cond.fieldLink RX6 24 "TrainedSegments" "dictionaries" "[LTrainedSegments$Dictionary;", Cond.instantiable RX0 4, Cond.initialized RX0, Cond.fieldLink RX6 29 "TrainedSegments" "none" "LTrainedSegments$Dictionary;", Cond.fieldLink RX6 33 "TrainedSegments" "trial" "LTrainedSegments$Row;", Cond.fieldLink RX6 36 "TrainedSegments" "opened" "LTrainedSegments$Row;", Cond.classLink RX6 39 RX2, Cond.instantiable RX2 3, Cond.initialized RX2, Cond.fieldLink RX6 42 "TrainedSegments" "output" "LTrainedSegments$Output;", Cond.classLink RX6 46 RX3, Cond.instantiable RX3 7, Cond.initialized RX3, Cond.fieldLink RX6 49 "TrainedSegments" "packer" "LTrainedSegments$Packer;", Cond.classLink RX6 53 RX5]
def wsX6_init_r2 : List Cond := [Cond.instantiable RX5 8, Cond.initialized RX5, Cond.fieldLink RX6 56 "TrainedSegments" "trainer" "LTrainedSegments$Trainer;", Cond.classLink RX6 60 RX1, Cond.instantiable RX1 4, Cond.initialized RX1, Cond.fieldLink RX6 63 "TrainedSegments" "opener" "LTrainedSegments$Opener;", Cond.methodLink RX6 11 yX4_init, Cond.instanceMethod yX4_init, Cond.code yX4_init cX4_init 2 none, Cond.methodLink RX4 1 objectInit, Cond.methodLink RX4 7 Lib.Math.max.name, Cond.static Lib.Math.max.name, Cond.initialized "java/lang/Math", Cond.code Lib.Math.max.name Lib.Math.max.code 2 (some .int), Cond.arrayClass .byte, Cond.fieldLink RX4 13 "TrainedSegments$Row" "bytes" "[B", Cond.methodLink RX6 28 yX0_init, Cond.instanceMethod yX0_init, Cond.code yX0_init cX0_init 1 none, Cond.methodLink RX0 3 objectInit, Cond.classLink RX0 9 RX4, Cond.fieldLink RX0 14 "TrainedSegments$Dictionary" "words" "LTrainedSegments$Row;", Cond.methodLink RX0 11 yX4_init]
def wsX6_init_r3 : List Cond := [Cond.methodLink RX6 41 yX2_init, Cond.instanceMethod yX2_init, Cond.code yX2_init cX2_init 1 none, Cond.methodLink RX2 3 objectInit, Cond.classLink RX2 9 RX4, Cond.fieldLink RX2 14 "TrainedSegments$Output" "bytes" "LTrainedSegments$Row;", Cond.methodLink RX2 11 yX4_init, Cond.methodLink RX6 48 yX3_init, Cond.instanceMethod yX3_init, Cond.code yX3_init cX3_init 1 none, Cond.methodLink RX3 3 objectInit, Cond.fieldLink RX3 9 "TrainedSegments$Packer" "joined" "[B", Cond.arrayClass .int, Cond.fieldLink RX3 15 "TrainedSegments$Packer" "earlier" "[I", Cond.fieldLink RX3 19 "TrainedSegments$Packer" "latest" "[I", Cond.fieldLink RX3 22 "TrainedSegments$Packer" "cost" "[I", Cond.fieldLink RX3 25 "TrainedSegments$Packer" "choice" "[I", Cond.methodLink RX6 55 yX5_init, Cond.instanceMethod yX5_init, Cond.code yX5_init cX5_init 1 none, Cond.methodLink RX5 3 objectInit, Cond.classLink RX5 9 RX4, Cond.fieldLink RX5 16 "TrainedSegments$Trainer" "places" "LTrainedSegments$Row;", Cond.arrayClass .boolean]
def wsX6_init_r4 : List Cond := [Cond.fieldLink RX5 20 "TrainedSegments$Trainer" "covered" "[Z", Cond.fieldLink RX5 24 "TrainedSegments$Trainer" "kind" "[I", Cond.fieldLink RX5 28 "TrainedSegments$Trainer" "count" "[I", Cond.fieldLink RX5 31 "TrainedSegments$Trainer" "freeFrom" "[I", Cond.fieldLink RX5 34 "TrainedSegments$Trainer" "taken" "[I", Cond.methodLink RX5 13 yX4_init, Cond.methodLink RX6 62 yX1_init, Cond.instanceMethod yX1_init, Cond.code yX1_init cX1_init 1 none, Cond.methodLink RX1 3 objectInit, Cond.classLink RX1 9 RX4, Cond.fieldLink RX1 14 "TrainedSegments$Opener" "joined" "LTrainedSegments$Row;", Cond.methodLink RX1 11 yX4_init]
def wsX6_init : List Cond := .code yX6_init cX6_init 2 none :: ((wsX6_init_r1 ++ (wsX6_init_r2 ++ (wsX6_init_r3 ++ wsX6_init_r4))) ++ wsX40 ++ wsX60 ++ wsX00 ++ wsX20 ++ wsX30 ++ wsX50 ++ wsX10)
def wsX6_feed : List Cond := .code yX6_feed cX6_feed 5 (some .int) :: ([.fieldLink RX6 14 "TrainedSegments" "tape" "LTrainedSegments$Row;", .methodLink RX6 67 yX4_hasRoom, .instanceMethod yX4_hasRoom, .selects RX4 yX4_hasRoom yX4_hasRoom, .initialized RX4, .code yX4_hasRoom cX4_hasRoom 2 (some .boolean), .fieldLink RX4 13 "TrainedSegments$Row" "bytes" "[B", .fieldLink RX4 19 "TrainedSegments$Row" "length" "I", .methodLink RX6 71 yX4_add, .instanceMethod yX4_add, .selects RX4 yX4_add yX4_add, .code yX4_add cX4_add 2 none, .methodLink RX6 74 yX4_length, .instanceMethod yX4_length, .selects RX4 yX4_length yX4_length, .code yX4_length cX4_length 1 (some .int)] ++ wsX60 ++ wsX40 ++ (vx_atN 8).filter goodWord ++ (vx_atM "java/lang/ArrayIndexOutOfBoundsException" ["java/lang/IndexOutOfBoundsException", "java/lang/RuntimeException", "java/lang/Exception"]).filter goodWord)
def wsX6_sample_r1 : List Cond := [Cond.fieldLink RX6 14 "TrainedSegments" "tape" "LTrainedSegments$Row;", Cond.fieldLink RX6 78 "TrainedSegments" "sampleCount" "I", Cond.fieldLink RX6 18 "TrainedSegments" "samples" "[LTrainedSegments$Row;", Cond.methodLink RX6 74 yX4_length, Cond.instanceMethod yX4_length, Cond.selects RX4 yX4_length yX4_length, Cond.initialized RX4, Cond.code yX4_length cX4_length 1 (some .int), Cond.fieldLink RX4 19 "TrainedSegments$Row" "length" "I", Cond.methodLink RX6 82 yX4_become, Cond.instanceMethod yX4_become, Cond.selects RX4 yX4_become yX4_become, Cond.code yX4_become cX4_become 2 none, Cond.methodLink RX4 35 yX4_clear, Cond.instanceMethod yX4_clear, Cond.selects RX4 yX4_clear yX4_clear, Cond.code yX4_clear cX4_clear 1 none, Cond.methodLink RX4 38 yX4_addFrom, Cond.instanceMethod yX4_addFrom, Cond.selects RX4 yX4_addFrom yX4_addFrom, Cond.code yX4_addFrom cX4_addFrom 5 none, Cond.methodLink RX4 27 yX4_signedAt, Cond.instanceMethod yX4_signedAt, Cond.selects RX4 yX4_signedAt yX4_signedAt]
def wsX6_sample_r2 : List Cond := [Cond.code yX4_signedAt cX4_signedAt 2 (some .byte), Cond.fieldLink RX4 13 "TrainedSegments$Row" "bytes" "[B", Cond.methodLink RX4 23 yX4_has, Cond.instanceMethod yX4_has, Cond.selects RX4 yX4_has yX4_has, Cond.code yX4_has cX4_has 2 (some .boolean), Cond.methodLink RX4 31 yX4_add, Cond.instanceMethod yX4_add, Cond.selects RX4 yX4_add yX4_add, Cond.code yX4_add cX4_add 2 none, Cond.methodLink RX6 86 yX4_clear]
def wsX6_sample : List Cond := .code yX6_sample cX6_sample 2 (some .int) :: ((wsX6_sample_r1 ++ wsX6_sample_r2) ++ wsX60 ++ wsX40 ++ (vx_atN 8).filter goodWord ++ (vx_atM "java/lang/ArrayIndexOutOfBoundsException" ["java/lang/IndexOutOfBoundsException", "java/lang/RuntimeException", "java/lang/Exception"]).filter goodWord)
def wsX6_forget : List Cond := .code yX6_forget cX6_forget 2 (some .int) :: ([.fieldLink RX6 78 "TrainedSegments" "sampleCount" "I"] ++ wsX60)
def wsX6_isNumber : List Cond := .code yX6_isNumber cX6_isNumber 1 (some .boolean) :: ([])
def wsX6_isId : List Cond := .code yX6_isId cX6_isId 1 (some .boolean) :: ([])
def wsX6_train_r1 : List Cond := [Cond.fieldLink RX6 78 "TrainedSegments" "sampleCount" "I", Cond.fieldLink RX6 56 "TrainedSegments" "trainer" "LTrainedSegments$Trainer;", Cond.fieldLink RX6 18 "TrainedSegments" "samples" "[LTrainedSegments$Row;", Cond.fieldLink RX6 24 "TrainedSegments" "dictionaries" "[LTrainedSegments$Dictionary;", Cond.methodLink RX6 89 yX6_isNumber, Cond.static yX6_isNumber, Cond.initialized RX6, Cond.code yX6_isNumber cX6_isNumber 1 (some .boolean), Cond.methodLink RX6 92 yX6_isId, Cond.static yX6_isId, Cond.code yX6_isId cX6_isId 1 (some .boolean), Cond.methodLink RX6 95 yX5_load, Cond.instanceMethod yX5_load, Cond.selects RX5 yX5_load yX5_load, Cond.initialized RX5, Cond.code yX5_load cX5_load 5 none, Cond.fieldLink RX5 37 "TrainedSegments$Trainer" "n" "I", Cond.fieldLink RX5 41 "TrainedSegments$Trainer" "takenCount" "I", Cond.fieldLink RX5 16 "TrainedSegments$Trainer" "places" "LTrainedSegments$Row;", Cond.fieldLink RX5 24 "TrainedSegments$Trainer" "kind" "[I", Cond.methodLink RX5 44 yX4_clear, Cond.instanceMethod yX4_clear, Cond.selects RX4 yX4_clear yX4_clear, Cond.initialized RX4]
def wsX6_train_r2 : List Cond := [Cond.code yX4_clear cX4_clear 1 none, Cond.fieldLink RX4 19 "TrainedSegments$Row" "length" "I", Cond.methodLink RX5 47 yX5_coverFrom, Cond.instanceMethod yX5_coverFrom, Cond.selects RX5 yX5_coverFrom yX5_coverFrom, Cond.code yX5_coverFrom cX5_coverFrom 5 none, Cond.fieldLink RX5 20 "TrainedSegments$Trainer" "covered" "[Z", Cond.methodLink RX5 51 yJ7_fill_53178, Cond.static yJ7_fill_53178, Cond.initialized RJ7, Cond.code yJ7_fill_53178 cJ7_fill_53178 4 none, Cond.methodLink RX5 57 yX4_addFrom, Cond.instanceMethod yX4_addFrom, Cond.selects RX4 yX4_addFrom yX4_addFrom, Cond.code yX4_addFrom cX4_addFrom 5 none, Cond.methodLink RX4 27 yX4_signedAt, Cond.instanceMethod yX4_signedAt, Cond.selects RX4 yX4_signedAt yX4_signedAt, Cond.code yX4_signedAt cX4_signedAt 2 (some .byte), Cond.fieldLink RX4 13 "TrainedSegments$Row" "bytes" "[B", Cond.methodLink RX4 23 yX4_has, Cond.instanceMethod yX4_has, Cond.selects RX4 yX4_has yX4_has, Cond.code yX4_has cX4_has 2 (some .boolean)]
def wsX6_train_r3 : List Cond := [Cond.methodLink RX4 31 yX4_add, Cond.instanceMethod yX4_add, Cond.selects RX4 yX4_add yX4_add, Cond.code yX4_add cX4_add 2 none, Cond.methodLink RX5 61 yX4_length, Cond.instanceMethod yX4_length, Cond.selects RX4 yX4_length yX4_length, Cond.code yX4_length cX4_length 1 (some .int), Cond.methodLink RX5 65 yX5_markKinds, Cond.instanceMethod yX5_markKinds, Cond.selects RX5 yX5_markKinds yX5_markKinds, Cond.code yX5_markKinds cX5_markKinds 4 none, Cond.methodLink RX5 84 yX5_firstSameRow, Cond.instanceMethod yX5_firstSameRow, Cond.selects RX5 yX5_firstSameRow yX5_firstSameRow, Cond.code yX5_firstSameRow cX5_firstSameRow 3 (some .int), Cond.methodLink RX5 88 yX5_isSameRow, Cond.instanceMethod yX5_isSameRow, Cond.selects RX5 yX5_isSameRow yX5_isSameRow, Cond.code yX5_isSameRow cX5_isSameRow 4 (some .boolean), Cond.methodLink RX5 92 yX4_signedAt, Cond.methodLink RX6 99 yX5_takeRows, Cond.instanceMethod yX5_takeRows, Cond.selects RX5 yX5_takeRows yX5_takeRows]
def wsX6_train_r4 : List Cond := [Cond.code yX5_takeRows cX5_takeRows 3 none, Cond.fieldLink RX5 28 "TrainedSegments$Trainer" "count" "[I", Cond.fieldLink RX5 34 "TrainedSegments$Trainer" "taken" "[I", Cond.methodLink RX5 69 yX5_countRows, Cond.instanceMethod yX5_countRows, Cond.selects RX5 yX5_countRows yX5_countRows, Cond.code yX5_countRows cX5_countRows 2 none, Cond.fieldLink RX5 31 "TrainedSegments$Trainer" "freeFrom" "[I", Cond.methodLink RX5 96 yX5_isFreeRow, Cond.instanceMethod yX5_isFreeRow, Cond.selects RX5 yX5_isFreeRow yX5_isFreeRow, Cond.code yX5_isFreeRow cX5_isFreeRow 3 (some .boolean), Cond.methodLink RX5 72 yX5_placeOfMost, Cond.instanceMethod yX5_placeOfMost, Cond.selects RX5 yX5_placeOfMost yX5_placeOfMost, Cond.code yX5_placeOfMost cX5_placeOfMost 4 (some .int), Cond.methodLink RX5 75 yX5_cover, Cond.instanceMethod yX5_cover, Cond.selects RX5 yX5_cover yX5_cover, Cond.code yX5_cover cX5_cover 3 none, Cond.methodLink RX6 102 yX0_begin, Cond.instanceMethod yX0_begin, Cond.selects RX0 yX0_begin yX0_begin, Cond.initialized RX0]
def wsX6_train_r5 : List Cond := [Cond.code yX0_begin cX0_begin 3 none, Cond.fieldLink RX0 20 "TrainedSegments$Dictionary" "id" "I", Cond.fieldLink RX0 27 "TrainedSegments$Dictionary" "pieceLength" "I", Cond.fieldLink RX0 24 "TrainedSegments$Dictionary" "pieces" "I", Cond.fieldLink RX0 14 "TrainedSegments$Dictionary" "words" "LTrainedSegments$Row;", Cond.methodLink RX0 34 yX4_clear, Cond.methodLink RX6 106 yX5_handOver, Cond.instanceMethod yX5_handOver, Cond.selects RX5 yX5_handOver yX5_handOver, Cond.code yX5_handOver cX5_handOver 3 none, Cond.methodLink RX5 78 yX0_addPiece, Cond.instanceMethod yX0_addPiece, Cond.selects RX0 yX0_addPiece yX0_addPiece, Cond.code yX0_addPiece cX0_addPiece 3 none, Cond.methodLink RX0 37 yX4_hasRoom, Cond.instanceMethod yX4_hasRoom, Cond.selects RX4 yX4_hasRoom yX4_hasRoom, Cond.code yX4_hasRoom cX4_hasRoom 2 (some .boolean), Cond.methodLink RX0 41 yX4_addFrom, Cond.methodLink RX6 110 yX0_pieces, Cond.instanceMethod yX0_pieces, Cond.selects RX0 yX0_pieces yX0_pieces, Cond.code yX0_pieces cX0_pieces 1 (some .int)]
def wsX6_train : List Cond := .code yX6_train cX6_train 6 (some .int) :: ((wsX6_train_r1 ++ (wsX6_train_r2 ++ (wsX6_train_r3 ++ (wsX6_train_r4 ++ wsX6_train_r5)))) ++ wsX60 ++ wsX50 ++ wsX40 ++ wsX00 ++ (vx_atN 8).filter goodWord ++ (vx_atM "java/lang/ArrayIndexOutOfBoundsException" ["java/lang/IndexOutOfBoundsException", "java/lang/RuntimeException", "java/lang/Exception"]).filter goodWord)
def wsX6_give_r1 : List Cond := [Cond.fieldLink RX6 14 "TrainedSegments" "tape" "LTrainedSegments$Row;", Cond.fieldLink RX6 24 "TrainedSegments" "dictionaries" "[LTrainedSegments$Dictionary;", Cond.methodLink RX6 89 yX6_isNumber, Cond.static yX6_isNumber, Cond.initialized RX6, Cond.code yX6_isNumber cX6_isNumber 1 (some .boolean), Cond.methodLink RX6 92 yX6_isId, Cond.static yX6_isId, Cond.code yX6_isId cX6_isId 1 (some .boolean), Cond.methodLink RX6 74 yX4_length, Cond.instanceMethod yX4_length, Cond.selects RX4 yX4_length yX4_length, Cond.initialized RX4, Cond.code yX4_length cX4_length 1 (some .int), Cond.fieldLink RX4 19 "TrainedSegments$Row" "length" "I", Cond.methodLink RX6 102 yX0_begin, Cond.instanceMethod yX0_begin, Cond.selects RX0 yX0_begin yX0_begin, Cond.initialized RX0, Cond.code yX0_begin cX0_begin 3 none, Cond.fieldLink RX0 20 "TrainedSegments$Dictionary" "id" "I", Cond.fieldLink RX0 27 "TrainedSegments$Dictionary" "pieceLength" "I", Cond.fieldLink RX0 24 "TrainedSegments$Dictionary" "pieces" "I", Cond.fieldLink RX0 14 "TrainedSegments$Dictionary" "words" "LTrainedSegments$Row;"]
def wsX6_give_r2 : List Cond := [Cond.methodLink RX0 34 yX4_clear, Cond.instanceMethod yX4_clear, Cond.selects RX4 yX4_clear yX4_clear, Cond.code yX4_clear cX4_clear 1 none, Cond.methodLink RX6 113 yX0_addPiece, Cond.instanceMethod yX0_addPiece, Cond.selects RX0 yX0_addPiece yX0_addPiece, Cond.code yX0_addPiece cX0_addPiece 3 none, Cond.methodLink RX0 37 yX4_hasRoom, Cond.instanceMethod yX4_hasRoom, Cond.selects RX4 yX4_hasRoom yX4_hasRoom, Cond.code yX4_hasRoom cX4_hasRoom 2 (some .boolean), Cond.fieldLink RX4 13 "TrainedSegments$Row" "bytes" "[B", Cond.methodLink RX0 41 yX4_addFrom, Cond.instanceMethod yX4_addFrom, Cond.selects RX4 yX4_addFrom yX4_addFrom, Cond.code yX4_addFrom cX4_addFrom 5 none, Cond.methodLink RX4 27 yX4_signedAt, Cond.instanceMethod yX4_signedAt, Cond.selects RX4 yX4_signedAt yX4_signedAt, Cond.code yX4_signedAt cX4_signedAt 2 (some .byte), Cond.methodLink RX4 23 yX4_has, Cond.instanceMethod yX4_has, Cond.selects RX4 yX4_has yX4_has]
def wsX6_give_r3 : List Cond := [Cond.code yX4_has cX4_has 2 (some .boolean), Cond.methodLink RX4 31 yX4_add, Cond.instanceMethod yX4_add, Cond.selects RX4 yX4_add yX4_add, Cond.code yX4_add cX4_add 2 none, Cond.methodLink RX6 86 yX4_clear, Cond.methodLink RX6 117 yX0_words, Cond.instanceMethod yX0_words, Cond.selects RX0 yX0_words yX0_words, Cond.code yX0_words cX0_words 1 (some (.object "TrainedSegments$Row"))]
def wsX6_give : List Cond := .code yX6_give cX6_give 4 (some .int) :: ((wsX6_give_r1 ++ (wsX6_give_r2 ++ wsX6_give_r3)) ++ wsX60 ++ wsX40 ++ wsX00 ++ (vx_atN 8).filter goodWord ++ (vx_atM "java/lang/ArrayIndexOutOfBoundsException" ["java/lang/IndexOutOfBoundsException", "java/lang/RuntimeException", "java/lang/Exception"]).filter goodWord)
def wsX6_thereAt : List Cond := .code yX6_thereAt cX6_thereAt 2 (some (.object "TrainedSegments$Dictionary")) :: ([.fieldLink RX6 24 "TrainedSegments" "dictionaries" "[LTrainedSegments$Dictionary;", .methodLink RX6 89 yX6_isNumber, .static yX6_isNumber, .initialized RX6, .code yX6_isNumber cX6_isNumber 1 (some .boolean), .methodLink RX6 196 yX0_isThere, .instanceMethod yX0_isThere, .selects RX0 yX0_isThere yX0_isThere, .initialized RX0, .code yX0_isThere cX0_isThere 1 (some .boolean), .fieldLink RX0 20 "TrainedSegments$Dictionary" "id" "I"] ++ wsX60 ++ wsX00 ++ (vx_atN 8).filter goodWord)
def wsX6_bytesOfSamples_r1 : List Cond := [Cond.fieldLink RX6 78 "TrainedSegments" "sampleCount" "I", Cond.fieldLink RX6 49 "TrainedSegments" "packer" "LTrainedSegments$Packer;", Cond.fieldLink RX6 18 "TrainedSegments" "samples" "[LTrainedSegments$Row;", Cond.methodLink RX6 162 yX3_measure, Cond.instanceMethod yX3_measure, Cond.selects RX3 yX3_measure yX3_measure, Cond.initialized RX3, Cond.code yX3_measure cX3_measure 4 (some .int), Cond.fieldLink RX3 9 "TrainedSegments$Packer" "joined" "[B", Cond.fieldLink RX3 34 "TrainedSegments$Packer" "start" "I", Cond.methodLink RX3 38 Lib.Math.min.name, Cond.static Lib.Math.min.name, Cond.initialized "java/lang/Math", Cond.code Lib.Math.min.name Lib.Math.min.code 2 (some .int), Cond.fieldLink RX3 44 "TrainedSegments$Packer" "length" "I", Cond.fieldLink RX3 22 "TrainedSegments$Packer" "cost" "[I", Cond.constant RX3 52 (2147483647), Cond.methodLink RX3 28 yX4_copyTo, Cond.instanceMethod yX4_copyTo, Cond.selects RX4 yX4_copyTo yX4_copyTo, Cond.initialized RX4, Cond.code yX4_copyTo cX4_copyTo 5 (some .int), Cond.fieldLink RX4 19 "TrainedSegments$Row" "length" "I", Cond.methodLink RX4 42 Lib.Math.min.name]
def wsX6_bytesOfSamples_r2 : List Cond := [Cond.methodLink RX4 7 Lib.Math.max.name, Cond.static Lib.Math.max.name, Cond.code Lib.Math.max.name Lib.Math.max.code 2 (some .int), Cond.fieldLink RX4 13 "TrainedSegments$Row" "bytes" "[B", Cond.methodLink RX3 47 yX3_linkSameBytes, Cond.instanceMethod yX3_linkSameBytes, Cond.selects RX3 yX3_linkSameBytes yX3_linkSameBytes, Cond.code yX3_linkSameBytes cX3_linkSameBytes 3 none, Cond.fieldLink RX3 19 "TrainedSegments$Packer" "latest" "[I", Cond.fieldLink RX3 15 "TrainedSegments$Packer" "earlier" "[I", Cond.methodLink RX3 77 yJ7_fill_53178, Cond.static yJ7_fill_53178, Cond.initialized RJ7, Cond.code yJ7_fill_53178 cJ7_fill_53178 4 none, Cond.methodLink RX3 53 yX3_tryMatches, Cond.instanceMethod yX3_tryMatches, Cond.selects RX3 yX3_tryMatches yX3_tryMatches, Cond.code yX3_tryMatches cX3_tryMatches 3 none, Cond.fieldLink RX3 25 "TrainedSegments$Packer" "choice" "[I", Cond.methodLink RX3 83 yX3_longestMatch, Cond.instanceMethod yX3_longestMatch, Cond.selects RX3 yX3_longestMatch yX3_longestMatch, Cond.code yX3_longestMatch cX3_longestMatch 6 (some .int), Cond.methodLink RX3 90 Lib.Math.max.name]
def wsX6_bytesOfSamples_r3 : List Cond := [Cond.methodLink RX3 86 yX3_sameBytes, Cond.instanceMethod yX3_sameBytes, Cond.selects RX3 yX3_sameBytes yX3_sameBytes, Cond.code yX3_sameBytes cX3_sameBytes 5 (some .int), Cond.methodLink RX3 57 yX3_tryPlain, Cond.instanceMethod yX3_tryPlain, Cond.selects RX3 yX3_tryPlain yX3_tryPlain, Cond.code yX3_tryPlain cX3_tryPlain 3 none]
def wsX6_bytesOfSamples : List Cond := .code yX6_bytesOfSamples cX6_bytesOfSamples 4 (some .int) :: ((wsX6_bytesOfSamples_r1 ++ (wsX6_bytesOfSamples_r2 ++ wsX6_bytesOfSamples_r3)) ++ wsX60 ++ wsX30 ++ wsX40 ++ (vx_atN 8).filter goodWord ++ (vx_atM "java/lang/ArrayIndexOutOfBoundsException" ["java/lang/IndexOutOfBoundsException", "java/lang/RuntimeException", "java/lang/Exception"]).filter goodWord)
def wsX6_leaveOutIdlePieces_r1 : List Cond := [Cond.fieldLink RX6 33 "TrainedSegments" "trial" "LTrainedSegments$Row;", Cond.methodLink RX6 110 yX0_pieces, Cond.instanceMethod yX0_pieces, Cond.selects RX0 yX0_pieces yX0_pieces, Cond.initialized RX0, Cond.code yX0_pieces cX0_pieces 1 (some .int), Cond.fieldLink RX0 24 "TrainedSegments$Dictionary" "pieces" "I", Cond.methodLink RX6 117 yX0_words, Cond.instanceMethod yX0_words, Cond.selects RX0 yX0_words yX0_words, Cond.code yX0_words cX0_words 1 (some (.object "TrainedSegments$Row")), Cond.fieldLink RX0 14 "TrainedSegments$Dictionary" "words" "LTrainedSegments$Row;", Cond.methodLink RX6 200 yX6_bytesOfSamples, Cond.instanceMethod yX6_bytesOfSamples, Cond.selects RX6 yX6_bytesOfSamples yX6_bytesOfSamples, Cond.initialized RX6, Cond.code yX6_bytesOfSamples cX6_bytesOfSamples 4 (some .int), Cond.fieldLink RX6 78 "TrainedSegments" "sampleCount" "I", Cond.fieldLink RX6 49 "TrainedSegments" "packer" "LTrainedSegments$Packer;", Cond.fieldLink RX6 18 "TrainedSegments" "samples" "[LTrainedSegments$Row;", Cond.methodLink RX6 162 yX3_measure, Cond.instanceMethod yX3_measure, Cond.selects RX3 yX3_measure yX3_measure, Cond.initialized RX3]
def wsX6_leaveOutIdlePieces_r2 : List Cond := [Cond.code yX3_measure cX3_measure 4 (some .int), Cond.fieldLink RX3 9 "TrainedSegments$Packer" "joined" "[B", Cond.fieldLink RX3 34 "TrainedSegments$Packer" "start" "I", Cond.methodLink RX3 38 Lib.Math.min.name, Cond.static Lib.Math.min.name, Cond.initialized "java/lang/Math", Cond.code Lib.Math.min.name Lib.Math.min.code 2 (some .int), Cond.fieldLink RX3 44 "TrainedSegments$Packer" "length" "I", Cond.fieldLink RX3 22 "TrainedSegments$Packer" "cost" "[I", Cond.constant RX3 52 (2147483647), Cond.methodLink RX3 28 yX4_copyTo, Cond.instanceMethod yX4_copyTo, Cond.selects RX4 yX4_copyTo yX4_copyTo, Cond.initialized RX4, Cond.code yX4_copyTo cX4_copyTo 5 (some .int), Cond.fieldLink RX4 19 "TrainedSegments$Row" "length" "I", Cond.methodLink RX4 42 Lib.Math.min.name, Cond.methodLink RX4 7 Lib.Math.max.name, Cond.static Lib.Math.max.name, Cond.code Lib.Math.max.name Lib.Math.max.code 2 (some .int), Cond.fieldLink RX4 13 "TrainedSegments$Row" "bytes" "[B", Cond.methodLink RX3 47 yX3_linkSameBytes, Cond.instanceMethod yX3_linkSameBytes, Cond.selects RX3 yX3_linkSameBytes yX3_linkSameBytes]
def wsX6_leaveOutIdlePieces_r3 : List Cond := [Cond.code yX3_linkSameBytes cX3_linkSameBytes 3 none, Cond.fieldLink RX3 19 "TrainedSegments$Packer" "latest" "[I", Cond.fieldLink RX3 15 "TrainedSegments$Packer" "earlier" "[I", Cond.methodLink RX3 77 yJ7_fill_53178, Cond.static yJ7_fill_53178, Cond.initialized RJ7, Cond.code yJ7_fill_53178 cJ7_fill_53178 4 none, Cond.methodLink RX3 53 yX3_tryMatches, Cond.instanceMethod yX3_tryMatches, Cond.selects RX3 yX3_tryMatches yX3_tryMatches, Cond.code yX3_tryMatches cX3_tryMatches 3 none, Cond.fieldLink RX3 25 "TrainedSegments$Packer" "choice" "[I", Cond.methodLink RX3 83 yX3_longestMatch, Cond.instanceMethod yX3_longestMatch, Cond.selects RX3 yX3_longestMatch yX3_longestMatch, Cond.code yX3_longestMatch cX3_longestMatch 6 (some .int), Cond.methodLink RX3 90 Lib.Math.max.name, Cond.methodLink RX3 86 yX3_sameBytes, Cond.instanceMethod yX3_sameBytes, Cond.selects RX3 yX3_sameBytes yX3_sameBytes, Cond.code yX3_sameBytes cX3_sameBytes 5 (some .int), Cond.methodLink RX3 57 yX3_tryPlain, Cond.instanceMethod yX3_tryPlain, Cond.selects RX3 yX3_tryPlain yX3_tryPlain]
def wsX6_leaveOutIdlePieces_r4 : List Cond := [Cond.code yX3_tryPlain cX3_tryPlain 3 none, Cond.methodLink RX6 218 yX0_copyWithout, Cond.instanceMethod yX0_copyWithout, Cond.selects RX0 yX0_copyWithout yX0_copyWithout, Cond.code yX0_copyWithout cX0_copyWithout 3 none, Cond.fieldLink RX0 27 "TrainedSegments$Dictionary" "pieceLength" "I", Cond.methodLink RX0 45 yX4_become, Cond.instanceMethod yX4_become, Cond.selects RX4 yX4_become yX4_become, Cond.code yX4_become cX4_become 2 none, Cond.methodLink RX4 35 yX4_clear, Cond.instanceMethod yX4_clear, Cond.selects RX4 yX4_clear yX4_clear, Cond.code yX4_clear cX4_clear 1 none, Cond.methodLink RX4 38 yX4_addFrom, Cond.instanceMethod yX4_addFrom, Cond.selects RX4 yX4_addFrom yX4_addFrom, Cond.code yX4_addFrom cX4_addFrom 5 none, Cond.methodLink RX4 27 yX4_signedAt, Cond.instanceMethod yX4_signedAt, Cond.selects RX4 yX4_signedAt yX4_signedAt, Cond.code yX4_signedAt cX4_signedAt 2 (some .byte), Cond.methodLink RX4 23 yX4_has, Cond.instanceMethod yX4_has]
def wsX6_leaveOutIdlePieces_r5 : List Cond := [Cond.selects RX4 yX4_has yX4_has, Cond.code yX4_has cX4_has 2 (some .boolean), Cond.methodLink RX4 31 yX4_add, Cond.instanceMethod yX4_add, Cond.selects RX4 yX4_add yX4_add, Cond.code yX4_add cX4_add 2 none, Cond.methodLink RX0 49 yX4_cutOut, Cond.instanceMethod yX4_cutOut, Cond.selects RX4 yX4_cutOut yX4_cutOut, Cond.code yX4_cutOut cX4_cutOut 5 none, Cond.methodLink RX6 222 yX0_removePiece, Cond.instanceMethod yX0_removePiece, Cond.selects RX0 yX0_removePiece yX0_removePiece, Cond.code yX0_removePiece cX0_removePiece 2 none]
def wsX6_leaveOutIdlePieces : List Cond := .code yX6_leaveOutIdlePieces cX6_leaveOutIdlePieces 7 (some .int) :: ((wsX6_leaveOutIdlePieces_r1 ++ (wsX6_leaveOutIdlePieces_r2 ++ (wsX6_leaveOutIdlePieces_r3 ++ (wsX6_leaveOutIdlePieces_r4 ++ wsX6_leaveOutIdlePieces_r5)))) ++ wsX60 ++ wsX00 ++ wsX30 ++ wsX40 ++ (vx_atN 8).filter goodWord ++ (vx_atM "java/lang/ArrayIndexOutOfBoundsException" ["java/lang/IndexOutOfBoundsException", "java/lang/RuntimeException", "java/lang/Exception"]).filter goodWord)
def wsX6_trim_r1 : List Cond := [Cond.fieldLink RX6 78 "TrainedSegments" "sampleCount" "I", Cond.methodLink RX6 121 yX6_thereAt, Cond.instanceMethod yX6_thereAt, Cond.selects RX6 yX6_thereAt yX6_thereAt, Cond.initialized RX6, Cond.code yX6_thereAt cX6_thereAt 2 (some (.object "TrainedSegments$Dictionary")), Cond.fieldLink RX6 24 "TrainedSegments" "dictionaries" "[LTrainedSegments$Dictionary;", Cond.methodLink RX6 89 yX6_isNumber, Cond.static yX6_isNumber, Cond.code yX6_isNumber cX6_isNumber 1 (some .boolean), Cond.methodLink RX6 196 yX0_isThere, Cond.instanceMethod yX0_isThere, Cond.selects RX0 yX0_isThere yX0_isThere, Cond.initialized RX0, Cond.code yX0_isThere cX0_isThere 1 (some .boolean), Cond.fieldLink RX0 20 "TrainedSegments$Dictionary" "id" "I", Cond.methodLink RX6 125 yX6_leaveOutIdlePieces, Cond.instanceMethod yX6_leaveOutIdlePieces, Cond.selects RX6 yX6_leaveOutIdlePieces yX6_leaveOutIdlePieces, Cond.code yX6_leaveOutIdlePieces cX6_leaveOutIdlePieces 7 (some .int), Cond.fieldLink RX6 33 "TrainedSegments" "trial" "LTrainedSegments$Row;", Cond.methodLink RX6 110 yX0_pieces, Cond.instanceMethod yX0_pieces, Cond.selects RX0 yX0_pieces yX0_pieces]
def wsX6_trim_r2 : List Cond := [Cond.code yX0_pieces cX0_pieces 1 (some .int), Cond.fieldLink RX0 24 "TrainedSegments$Dictionary" "pieces" "I", Cond.methodLink RX6 117 yX0_words, Cond.instanceMethod yX0_words, Cond.selects RX0 yX0_words yX0_words, Cond.code yX0_words cX0_words 1 (some (.object "TrainedSegments$Row")), Cond.fieldLink RX0 14 "TrainedSegments$Dictionary" "words" "LTrainedSegments$Row;", Cond.methodLink RX6 200 yX6_bytesOfSamples, Cond.instanceMethod yX6_bytesOfSamples, Cond.selects RX6 yX6_bytesOfSamples yX6_bytesOfSamples, Cond.code yX6_bytesOfSamples cX6_bytesOfSamples 4 (some .int), Cond.fieldLink RX6 49 "TrainedSegments" "packer" "LTrainedSegments$Packer;", Cond.fieldLink RX6 18 "TrainedSegments" "samples" "[LTrainedSegments$Row;", Cond.methodLink RX6 162 yX3_measure, Cond.instanceMethod yX3_measure, Cond.selects RX3 yX3_measure yX3_measure, Cond.initialized RX3, Cond.code yX3_measure cX3_measure 4 (some .int), Cond.fieldLink RX3 9 "TrainedSegments$Packer" "joined" "[B", Cond.fieldLink RX3 34 "TrainedSegments$Packer" "start" "I", Cond.methodLink RX3 38 Lib.Math.min.name, Cond.static Lib.Math.min.name, Cond.initialized "java/lang/Math", Cond.code Lib.Math.min.name Lib.Math.min.code 2 (some .int)]
def wsX6_trim_r3 : List Cond := [Cond.fieldLink RX3 44 "TrainedSegments$Packer" "length" "I", Cond.fieldLink RX3 22 "TrainedSegments$Packer" "cost" "[I", Cond.constant RX3 52 (2147483647), Cond.methodLink RX3 28 yX4_copyTo, Cond.instanceMethod yX4_copyTo, Cond.selects RX4 yX4_copyTo yX4_copyTo, Cond.initialized RX4, Cond.code yX4_copyTo cX4_copyTo 5 (some .int), Cond.fieldLink RX4 19 "TrainedSegments$Row" "length" "I", Cond.methodLink RX4 42 Lib.Math.min.name, Cond.methodLink RX4 7 Lib.Math.max.name, Cond.static Lib.Math.max.name, Cond.code Lib.Math.max.name Lib.Math.max.code 2 (some .int), Cond.fieldLink RX4 13 "TrainedSegments$Row" "bytes" "[B", Cond.methodLink RX3 47 yX3_linkSameBytes, Cond.instanceMethod yX3_linkSameBytes, Cond.selects RX3 yX3_linkSameBytes yX3_linkSameBytes, Cond.code yX3_linkSameBytes cX3_linkSameBytes 3 none, Cond.fieldLink RX3 19 "TrainedSegments$Packer" "latest" "[I", Cond.fieldLink RX3 15 "TrainedSegments$Packer" "earlier" "[I", Cond.methodLink RX3 77 yJ7_fill_53178, Cond.static yJ7_fill_53178, Cond.initialized RJ7, Cond.code yJ7_fill_53178 cJ7_fill_53178 4 none]
def wsX6_trim_r4 : List Cond := [Cond.methodLink RX3 53 yX3_tryMatches, Cond.instanceMethod yX3_tryMatches, Cond.selects RX3 yX3_tryMatches yX3_tryMatches, Cond.code yX3_tryMatches cX3_tryMatches 3 none, Cond.fieldLink RX3 25 "TrainedSegments$Packer" "choice" "[I", Cond.methodLink RX3 83 yX3_longestMatch, Cond.instanceMethod yX3_longestMatch, Cond.selects RX3 yX3_longestMatch yX3_longestMatch, Cond.code yX3_longestMatch cX3_longestMatch 6 (some .int), Cond.methodLink RX3 90 Lib.Math.max.name, Cond.methodLink RX3 86 yX3_sameBytes, Cond.instanceMethod yX3_sameBytes, Cond.selects RX3 yX3_sameBytes yX3_sameBytes, Cond.code yX3_sameBytes cX3_sameBytes 5 (some .int), Cond.methodLink RX3 57 yX3_tryPlain, Cond.instanceMethod yX3_tryPlain, Cond.selects RX3 yX3_tryPlain yX3_tryPlain, Cond.code yX3_tryPlain cX3_tryPlain 3 none, Cond.methodLink RX6 218 yX0_copyWithout, Cond.instanceMethod yX0_copyWithout, Cond.selects RX0 yX0_copyWithout yX0_copyWithout, Cond.code yX0_copyWithout cX0_copyWithout 3 none, Cond.fieldLink RX0 27 "TrainedSegments$Dictionary" "pieceLength" "I", Cond.methodLink RX0 45 yX4_become]
def wsX6_trim_r5 : List Cond := [Cond.instanceMethod yX4_become, Cond.selects RX4 yX4_become yX4_become, Cond.code yX4_become cX4_become 2 none, Cond.methodLink RX4 35 yX4_clear, Cond.instanceMethod yX4_clear, Cond.selects RX4 yX4_clear yX4_clear, Cond.code yX4_clear cX4_clear 1 none, Cond.methodLink RX4 38 yX4_addFrom, Cond.instanceMethod yX4_addFrom, Cond.selects RX4 yX4_addFrom yX4_addFrom, Cond.code yX4_addFrom cX4_addFrom 5 none, Cond.methodLink RX4 27 yX4_signedAt, Cond.instanceMethod yX4_signedAt, Cond.selects RX4 yX4_signedAt yX4_signedAt, Cond.code yX4_signedAt cX4_signedAt 2 (some .byte), Cond.methodLink RX4 23 yX4_has, Cond.instanceMethod yX4_has, Cond.selects RX4 yX4_has yX4_has, Cond.code yX4_has cX4_has 2 (some .boolean), Cond.methodLink RX4 31 yX4_add, Cond.instanceMethod yX4_add, Cond.selects RX4 yX4_add yX4_add, Cond.code yX4_add cX4_add 2 none, Cond.methodLink RX0 49 yX4_cutOut]
def wsX6_trim_r6 : List Cond := [Cond.instanceMethod yX4_cutOut, Cond.selects RX4 yX4_cutOut yX4_cutOut, Cond.code yX4_cutOut cX4_cutOut 5 none, Cond.methodLink RX6 222 yX0_removePiece, Cond.instanceMethod yX0_removePiece, Cond.selects RX0 yX0_removePiece yX0_removePiece, Cond.code yX0_removePiece cX0_removePiece 2 none]
def wsX6_trim : List Cond := .code yX6_trim cX6_trim 3 (some .int) :: ((wsX6_trim_r1 ++ (wsX6_trim_r2 ++ (wsX6_trim_r3 ++ (wsX6_trim_r4 ++ (wsX6_trim_r5 ++ wsX6_trim_r6))))) ++ wsX60 ++ wsX00 ++ wsX30 ++ wsX40 ++ (vx_atN 8).filter goodWord ++ (vx_atM "java/lang/ArrayIndexOutOfBoundsException" ["java/lang/IndexOutOfBoundsException", "java/lang/RuntimeException", "java/lang/Exception"]).filter goodWord)
def wsX6_drop_r1 : List Cond := [Cond.methodLink RX6 121 yX6_thereAt, Cond.instanceMethod yX6_thereAt, Cond.selects RX6 yX6_thereAt yX6_thereAt, Cond.initialized RX6, Cond.code yX6_thereAt cX6_thereAt 2 (some (.object "TrainedSegments$Dictionary")), Cond.fieldLink RX6 24 "TrainedSegments" "dictionaries" "[LTrainedSegments$Dictionary;", Cond.methodLink RX6 89 yX6_isNumber, Cond.static yX6_isNumber, Cond.code yX6_isNumber cX6_isNumber 1 (some .boolean), Cond.methodLink RX6 196 yX0_isThere, Cond.instanceMethod yX0_isThere, Cond.selects RX0 yX0_isThere yX0_isThere, Cond.initialized RX0, Cond.code yX0_isThere cX0_isThere 1 (some .boolean), Cond.fieldLink RX0 20 "TrainedSegments$Dictionary" "id" "I", Cond.methodLink RX6 110 yX0_pieces, Cond.instanceMethod yX0_pieces, Cond.selects RX0 yX0_pieces yX0_pieces, Cond.code yX0_pieces cX0_pieces 1 (some .int), Cond.fieldLink RX0 24 "TrainedSegments$Dictionary" "pieces" "I", Cond.methodLink RX6 102 yX0_begin, Cond.instanceMethod yX0_begin, Cond.selects RX0 yX0_begin yX0_begin, Cond.code yX0_begin cX0_begin 3 none]
def wsX6_drop_r2 : List Cond := [Cond.fieldLink RX0 27 "TrainedSegments$Dictionary" "pieceLength" "I", Cond.fieldLink RX0 14 "TrainedSegments$Dictionary" "words" "LTrainedSegments$Row;", Cond.methodLink RX0 34 yX4_clear, Cond.instanceMethod yX4_clear, Cond.selects RX4 yX4_clear yX4_clear, Cond.initialized RX4, Cond.code yX4_clear cX4_clear 1 none, Cond.fieldLink RX4 19 "TrainedSegments$Row" "length" "I"]
def wsX6_drop : List Cond := .code yX6_drop cX6_drop 4 (some .int) :: ((wsX6_drop_r1 ++ wsX6_drop_r2) ++ wsX60 ++ wsX00 ++ wsX40 ++ (vx_atN 8).filter goodWord)
def wsX6_told_r1 : List Cond := [Cond.methodLink RX6 121 yX6_thereAt, Cond.instanceMethod yX6_thereAt, Cond.selects RX6 yX6_thereAt yX6_thereAt, Cond.initialized RX6, Cond.code yX6_thereAt cX6_thereAt 2 (some (.object "TrainedSegments$Dictionary")), Cond.fieldLink RX6 24 "TrainedSegments" "dictionaries" "[LTrainedSegments$Dictionary;", Cond.methodLink RX6 89 yX6_isNumber, Cond.static yX6_isNumber, Cond.code yX6_isNumber cX6_isNumber 1 (some .boolean), Cond.methodLink RX6 196 yX0_isThere, Cond.instanceMethod yX0_isThere, Cond.selects RX0 yX0_isThere yX0_isThere, Cond.initialized RX0, Cond.code yX0_isThere cX0_isThere 1 (some .boolean), Cond.fieldLink RX0 20 "TrainedSegments$Dictionary" "id" "I", Cond.methodLink RX6 129 yX0_id, Cond.instanceMethod yX0_id, Cond.selects RX0 yX0_id yX0_id, Cond.code yX0_id cX0_id 1 (some .int), Cond.methodLink RX6 110 yX0_pieces, Cond.instanceMethod yX0_pieces, Cond.selects RX0 yX0_pieces yX0_pieces, Cond.code yX0_pieces cX0_pieces 1 (some .int), Cond.fieldLink RX0 24 "TrainedSegments$Dictionary" "pieces" "I"]
def wsX6_told_r2 : List Cond := [Cond.methodLink RX6 117 yX0_words, Cond.instanceMethod yX0_words, Cond.selects RX0 yX0_words yX0_words, Cond.code yX0_words cX0_words 1 (some (.object "TrainedSegments$Row")), Cond.fieldLink RX0 14 "TrainedSegments$Dictionary" "words" "LTrainedSegments$Row;", Cond.methodLink RX6 74 yX4_length, Cond.instanceMethod yX4_length, Cond.selects RX4 yX4_length yX4_length, Cond.initialized RX4, Cond.code yX4_length cX4_length 1 (some .int), Cond.fieldLink RX4 19 "TrainedSegments$Row" "length" "I", Cond.methodLink RX6 132 yX0_sum, Cond.instanceMethod yX0_sum, Cond.selects RX0 yX0_sum yX0_sum, Cond.code yX0_sum cX0_sum 1 (some .int), Cond.methodLink RX0 30 yX4_sum, Cond.instanceMethod yX4_sum, Cond.selects RX4 yX4_sum yX4_sum, Cond.code yX4_sum cX4_sum 4 (some .int), Cond.methodLink RX4 45 yX4_at, Cond.instanceMethod yX4_at, Cond.selects RX4 yX4_at yX4_at, Cond.code yX4_at cX4_at 2 (some .int), Cond.methodLink RX4 27 yX4_signedAt]
def wsX6_told_r3 : List Cond := [Cond.instanceMethod yX4_signedAt, Cond.selects RX4 yX4_signedAt yX4_signedAt, Cond.code yX4_signedAt cX4_signedAt 2 (some .byte), Cond.fieldLink RX4 13 "TrainedSegments$Row" "bytes" "[B", Cond.methodLink RX4 23 yX4_has, Cond.instanceMethod yX4_has, Cond.selects RX4 yX4_has yX4_has, Cond.code yX4_has cX4_has 2 (some .boolean), Cond.methodLink RX6 135 yX0_pieceLength, Cond.instanceMethod yX0_pieceLength, Cond.selects RX0 yX0_pieceLength yX0_pieceLength, Cond.code yX0_pieceLength cX0_pieceLength 1 (some .int), Cond.fieldLink RX0 27 "TrainedSegments$Dictionary" "pieceLength" "I"]
def wsX6_told : List Cond := .code yX6_told cX6_told 4 (some .int) :: ((wsX6_told_r1 ++ (wsX6_told_r2 ++ wsX6_told_r3)) ++ wsX60 ++ wsX00 ++ wsX40 ++ (vx_atN 8).filter goodWord ++ (vx_atM "java/lang/ArrayIndexOutOfBoundsException" ["java/lang/IndexOutOfBoundsException", "java/lang/RuntimeException", "java/lang/Exception"]).filter goodWord)
def wsX6_content_r1 : List Cond := [Cond.classLink RX6 138 RJx00060, Cond.instantiable RJx00060 6, Cond.initialized RJx00060, Cond.classLink RX6 145 RJx5d777, Cond.instantiable RJx5d777 8, Cond.initialized RJx5d777, Cond.methodLink RX6 89 yX6_isNumber, Cond.static yX6_isNumber, Cond.initialized RX6, Cond.code yX6_isNumber cX6_isNumber 1 (some .boolean), Cond.methodLink RX6 121 yX6_thereAt, Cond.instanceMethod yX6_thereAt, Cond.selects RX6 yX6_thereAt yX6_thereAt, Cond.code yX6_thereAt cX6_thereAt 2 (some (.object "TrainedSegments$Dictionary")), Cond.fieldLink RX6 24 "TrainedSegments" "dictionaries" "[LTrainedSegments$Dictionary;", Cond.methodLink RX6 196 yX0_isThere, Cond.instanceMethod yX0_isThere, Cond.selects RX0 yX0_isThere yX0_isThere, Cond.initialized RX0, Cond.code yX0_isThere cX0_isThere 1 (some .boolean), Cond.fieldLink RX0 20 "TrainedSegments$Dictionary" "id" "I", Cond.methodLink RX6 117 yX0_words, Cond.instanceMethod yX0_words, Cond.selects RX0 yX0_words yX0_words]
def wsX6_content_r2 : List Cond := [Cond.code yX0_words cX0_words 1 (some (.object "TrainedSegments$Row")), Cond.fieldLink RX0 14 "TrainedSegments$Dictionary" "words" "LTrainedSegments$Row;", Cond.methodLink RX6 150 yX4_has, Cond.instanceMethod yX4_has, Cond.selects RX4 yX4_has yX4_has, Cond.initialized RX4, Cond.code yX4_has cX4_has 2 (some .boolean), Cond.fieldLink RX4 19 "TrainedSegments$Row" "length" "I", Cond.methodLink RX6 155 yX4_signedAt, Cond.instanceMethod yX4_signedAt, Cond.selects RX4 yX4_signedAt yX4_signedAt, Cond.code yX4_signedAt cX4_signedAt 2 (some .byte), Cond.fieldLink RX4 13 "TrainedSegments$Row" "bytes" "[B", Cond.methodLink RX4 23 yX4_has]
def wsX6_content : List Cond := .code yX6_content cX6_content 4 (some .byte) :: ((wsX6_content_r1 ++ wsX6_content_r2) ++ wsJx000600 ++ wsJx5d7770 ++ wsX60 ++ wsX00 ++ wsX40 ++ (vx_atN 8).filter goodWord ++ (vx_atM "java/lang/ArrayIndexOutOfBoundsException" ["java/lang/IndexOutOfBoundsException", "java/lang/RuntimeException", "java/lang/Exception"]).filter goodWord)
def wsX6_noneOrThereAt : List Cond := .code yX6_noneOrThereAt cX6_noneOrThereAt 2 (some (.object "TrainedSegments$Dictionary")) :: ([.fieldLink RX6 29 "TrainedSegments" "none" "LTrainedSegments$Dictionary;", .methodLink RX6 121 yX6_thereAt, .instanceMethod yX6_thereAt, .selects RX6 yX6_thereAt yX6_thereAt, .initialized RX6, .code yX6_thereAt cX6_thereAt 2 (some (.object "TrainedSegments$Dictionary")), .fieldLink RX6 24 "TrainedSegments" "dictionaries" "[LTrainedSegments$Dictionary;", .methodLink RX6 89 yX6_isNumber, .static yX6_isNumber, .code yX6_isNumber cX6_isNumber 1 (some .boolean), .methodLink RX6 196 yX0_isThere, .instanceMethod yX0_isThere, .selects RX0 yX0_isThere yX0_isThere, .initialized RX0, .code yX0_isThere cX0_isThere 1 (some .boolean), .fieldLink RX0 20 "TrainedSegments$Dictionary" "id" "I"] ++ wsX60 ++ wsX00 ++ (vx_atN 8).filter goodWord)
def wsX6_pack_r1 : List Cond := [Cond.fieldLink RX6 49 "TrainedSegments" "packer" "LTrainedSegments$Packer;", Cond.fieldLink RX6 14 "TrainedSegments" "tape" "LTrainedSegments$Row;", Cond.fieldLink RX6 42 "TrainedSegments" "output" "LTrainedSegments$Output;", Cond.methodLink RX6 159 yX6_noneOrThereAt, Cond.instanceMethod yX6_noneOrThereAt, Cond.selects RX6 yX6_noneOrThereAt yX6_noneOrThereAt, Cond.initialized RX6, Cond.code yX6_noneOrThereAt cX6_noneOrThereAt 2 (some (.object "TrainedSegments$Dictionary")), Cond.fieldLink RX6 29 "TrainedSegments" "none" "LTrainedSegments$Dictionary;", Cond.methodLink RX6 121 yX6_thereAt, Cond.instanceMethod yX6_thereAt, Cond.selects RX6 yX6_thereAt yX6_thereAt, Cond.code yX6_thereAt cX6_thereAt 2 (some (.object "TrainedSegments$Dictionary")), Cond.fieldLink RX6 24 "TrainedSegments" "dictionaries" "[LTrainedSegments$Dictionary;", Cond.methodLink RX6 89 yX6_isNumber, Cond.static yX6_isNumber, Cond.code yX6_isNumber cX6_isNumber 1 (some .boolean), Cond.methodLink RX6 196 yX0_isThere, Cond.instanceMethod yX0_isThere, Cond.selects RX0 yX0_isThere yX0_isThere, Cond.initialized RX0, Cond.code yX0_isThere cX0_isThere 1 (some .boolean), Cond.fieldLink RX0 20 "TrainedSegments$Dictionary" "id" "I", Cond.methodLink RX6 117 yX0_words]
def wsX6_pack_r2 : List Cond := [Cond.instanceMethod yX0_words, Cond.selects RX0 yX0_words yX0_words, Cond.code yX0_words cX0_words 1 (some (.object "TrainedSegments$Row")), Cond.fieldLink RX0 14 "TrainedSegments$Dictionary" "words" "LTrainedSegments$Row;", Cond.methodLink RX6 162 yX3_measure, Cond.instanceMethod yX3_measure, Cond.selects RX3 yX3_measure yX3_measure, Cond.initialized RX3, Cond.code yX3_measure cX3_measure 4 (some .int), Cond.fieldLink RX3 9 "TrainedSegments$Packer" "joined" "[B", Cond.fieldLink RX3 34 "TrainedSegments$Packer" "start" "I", Cond.methodLink RX3 38 Lib.Math.min.name, Cond.static Lib.Math.min.name, Cond.initialized "java/lang/Math", Cond.code Lib.Math.min.name Lib.Math.min.code 2 (some .int), Cond.fieldLink RX3 44 "TrainedSegments$Packer" "length" "I", Cond.fieldLink RX3 22 "TrainedSegments$Packer" "cost" "[I", Cond.constant RX3 52 (2147483647), Cond.methodLink RX3 28 yX4_copyTo, Cond.instanceMethod yX4_copyTo, Cond.selects RX4 yX4_copyTo yX4_copyTo, Cond.initialized RX4, Cond.code yX4_copyTo cX4_copyTo 5 (some .int), Cond.fieldLink RX4 19 "TrainedSegments$Row" "length" "I"]
def wsX6_pack_r3 : List Cond := [Cond.methodLink RX4 42 Lib.Math.min.name, Cond.methodLink RX4 7 Lib.Math.max.name, Cond.static Lib.Math.max.name, Cond.code Lib.Math.max.name Lib.Math.max.code 2 (some .int), Cond.fieldLink RX4 13 "TrainedSegments$Row" "bytes" "[B", Cond.methodLink RX3 47 yX3_linkSameBytes, Cond.instanceMethod yX3_linkSameBytes, Cond.selects RX3 yX3_linkSameBytes yX3_linkSameBytes, Cond.code yX3_linkSameBytes cX3_linkSameBytes 3 none, Cond.fieldLink RX3 19 "TrainedSegments$Packer" "latest" "[I", Cond.fieldLink RX3 15 "TrainedSegments$Packer" "earlier" "[I", Cond.methodLink RX3 77 yJ7_fill_53178, Cond.static yJ7_fill_53178, Cond.initialized RJ7, Cond.code yJ7_fill_53178 cJ7_fill_53178 4 none, Cond.methodLink RX3 53 yX3_tryMatches, Cond.instanceMethod yX3_tryMatches, Cond.selects RX3 yX3_tryMatches yX3_tryMatches, Cond.code yX3_tryMatches cX3_tryMatches 3 none, Cond.fieldLink RX3 25 "TrainedSegments$Packer" "choice" "[I", Cond.methodLink RX3 83 yX3_longestMatch, Cond.instanceMethod yX3_longestMatch, Cond.selects RX3 yX3_longestMatch yX3_longestMatch, Cond.code yX3_longestMatch cX3_longestMatch 6 (some .int)]
def wsX6_pack_r4 : List Cond := [Cond.methodLink RX3 90 Lib.Math.max.name, Cond.methodLink RX3 86 yX3_sameBytes, Cond.instanceMethod yX3_sameBytes, Cond.selects RX3 yX3_sameBytes yX3_sameBytes, Cond.code yX3_sameBytes cX3_sameBytes 5 (some .int), Cond.methodLink RX3 57 yX3_tryPlain, Cond.instanceMethod yX3_tryPlain, Cond.selects RX3 yX3_tryPlain yX3_tryPlain, Cond.code yX3_tryPlain cX3_tryPlain 3 none, Cond.methodLink RX6 74 yX4_length, Cond.instanceMethod yX4_length, Cond.selects RX4 yX4_length yX4_length, Cond.code yX4_length cX4_length 1 (some .int), Cond.methodLink RX6 166 yX2_begin, Cond.instanceMethod yX2_begin, Cond.selects RX2 yX2_begin yX2_begin, Cond.initialized RX2, Cond.code yX2_begin cX2_begin 3 none, Cond.fieldLink RX2 20 "TrainedSegments$Output" "items" "I", Cond.fieldLink RX2 24 "TrainedSegments$Output" "matches" "I", Cond.fieldLink RX2 14 "TrainedSegments$Output" "bytes" "LTrainedSegments$Row;", Cond.methodLink RX2 27 yX4_clear, Cond.instanceMethod yX4_clear, Cond.selects RX4 yX4_clear yX4_clear]
def wsX6_pack_r5 : List Cond := [Cond.code yX4_clear cX4_clear 1 none, Cond.methodLink RX2 30 yX0_id, Cond.instanceMethod yX0_id, Cond.selects RX0 yX0_id yX0_id, Cond.code yX0_id cX0_id 1 (some .int), Cond.methodLink RX2 36 yX4_add, Cond.instanceMethod yX4_add, Cond.selects RX4 yX4_add yX4_add, Cond.code yX4_add cX4_add 2 none, Cond.methodLink RX2 39 yX0_sum, Cond.instanceMethod yX0_sum, Cond.selects RX0 yX0_sum yX0_sum, Cond.code yX0_sum cX0_sum 1 (some .int), Cond.methodLink RX0 30 yX4_sum, Cond.instanceMethod yX4_sum, Cond.selects RX4 yX4_sum yX4_sum, Cond.code yX4_sum cX4_sum 4 (some .int), Cond.methodLink RX4 45 yX4_at, Cond.instanceMethod yX4_at, Cond.selects RX4 yX4_at yX4_at, Cond.code yX4_at cX4_at 2 (some .int), Cond.methodLink RX4 27 yX4_signedAt, Cond.instanceMethod yX4_signedAt, Cond.selects RX4 yX4_signedAt yX4_signedAt]
def wsX6_pack_r6 : List Cond := [Cond.code yX4_signedAt cX4_signedAt 2 (some .byte), Cond.methodLink RX4 23 yX4_has, Cond.instanceMethod yX4_has, Cond.selects RX4 yX4_has yX4_has, Cond.code yX4_has cX4_has 2 (some .boolean), Cond.methodLink RX6 169 yX3_write, Cond.instanceMethod yX3_write, Cond.selects RX3 yX3_write yX3_write, Cond.code yX3_write cX3_write 5 none, Cond.methodLink RX3 73 Lib.Math.abs.name, Cond.static Lib.Math.abs.name, Cond.code Lib.Math.abs.name Lib.Math.abs.code 1 (some .int), Cond.methodLink RX3 60 yX3_leastDistance, Cond.instanceMethod yX3_leastDistance, Cond.selects RX3 yX3_leastDistance yX3_leastDistance, Cond.code yX3_leastDistance cX3_leastDistance 5 (some .int), Cond.methodLink RX3 63 yX2_addMatch, Cond.instanceMethod yX2_addMatch, Cond.selects RX2 yX2_addMatch yX2_addMatch, Cond.code yX2_addMatch cX2_addMatch 3 none, Cond.methodLink RX3 69 yX2_addPlain, Cond.instanceMethod yX2_addPlain, Cond.selects RX2 yX2_addPlain yX2_addPlain, Cond.code yX2_addPlain cX2_addPlain 5 none]
def wsX6_pack_r7 : List Cond := [Cond.methodLink RX6 86 yX4_clear, Cond.methodLink RX6 173 yX2_bytes, Cond.instanceMethod yX2_bytes, Cond.selects RX2 yX2_bytes yX2_bytes, Cond.code yX2_bytes cX2_bytes 1 (some (.object "TrainedSegments$Row"))]
def wsX6_pack : List Cond := .code yX6_pack cX6_pack 3 (some .int) :: ((wsX6_pack_r1 ++ (wsX6_pack_r2 ++ (wsX6_pack_r3 ++ (wsX6_pack_r4 ++ (wsX6_pack_r5 ++ (wsX6_pack_r6 ++ wsX6_pack_r7)))))) ++ wsX60 ++ wsX00 ++ wsX30 ++ wsX40 ++ wsX20 ++ (vx_atN 8).filter goodWord ++ (vx_atM "java/lang/ArrayIndexOutOfBoundsException" ["java/lang/IndexOutOfBoundsException", "java/lang/RuntimeException", "java/lang/Exception"]).filter goodWord)
def wsX6_out_r1 : List Cond := [Cond.fieldLink RX6 42 "TrainedSegments" "output" "LTrainedSegments$Output;", Cond.classLink RX6 138 RJx00060, Cond.instantiable RJx00060 6, Cond.initialized RJx00060, Cond.methodLink RX6 173 yX2_bytes, Cond.instanceMethod yX2_bytes, Cond.selects RX2 yX2_bytes yX2_bytes, Cond.initialized RX2, Cond.code yX2_bytes cX2_bytes 1 (some (.object "TrainedSegments$Row")), Cond.fieldLink RX2 14 "TrainedSegments$Output" "bytes" "LTrainedSegments$Row;", Cond.methodLink RX6 150 yX4_has, Cond.instanceMethod yX4_has, Cond.selects RX4 yX4_has yX4_has, Cond.initialized RX4, Cond.code yX4_has cX4_has 2 (some .boolean), Cond.fieldLink RX4 19 "TrainedSegments$Row" "length" "I", Cond.methodLink RX6 178 yX4_at, Cond.instanceMethod yX4_at, Cond.selects RX4 yX4_at yX4_at, Cond.code yX4_at cX4_at 2 (some .int), Cond.methodLink RX4 27 yX4_signedAt, Cond.instanceMethod yX4_signedAt, Cond.selects RX4 yX4_signedAt yX4_signedAt, Cond.code yX4_signedAt cX4_signedAt 2 (some .byte)]
def wsX6_out_r2 : List Cond := [Cond.fieldLink RX4 13 "TrainedSegments$Row" "bytes" "[B", Cond.methodLink RX4 23 yX4_has]
def wsX6_out : List Cond := .code yX6_out cX6_out 2 (some .int) :: ((wsX6_out_r1 ++ wsX6_out_r2) ++ wsX60 ++ wsJx000600 ++ wsX20 ++ wsX40 ++ (vx_atN 8).filter goodWord ++ (vx_atM "java/lang/ArrayIndexOutOfBoundsException" ["java/lang/IndexOutOfBoundsException", "java/lang/RuntimeException", "java/lang/Exception"]).filter goodWord)
def wsX6_firstWithId : List Cond := .code yX6_firstWithId cX6_firstWithId 3 (some (.object "TrainedSegments$Dictionary")) :: ([.fieldLink RX6 29 "TrainedSegments" "none" "LTrainedSegments$Dictionary;", .fieldLink RX6 24 "TrainedSegments" "dictionaries" "[LTrainedSegments$Dictionary;", .methodLink RX6 129 yX0_id, .instanceMethod yX0_id, .selects RX0 yX0_id yX0_id, .initialized RX0, .code yX0_id cX0_id 1 (some .int), .fieldLink RX0 20 "TrainedSegments$Dictionary" "id" "I"] ++ wsX60 ++ wsX00 ++ (vx_atN 8).filter goodWord)
def wsX6_open_r1 : List Cond := [Cond.fieldLink RX6 63 "TrainedSegments" "opener" "LTrainedSegments$Opener;", Cond.fieldLink RX6 14 "TrainedSegments" "tape" "LTrainedSegments$Row;", Cond.fieldLink RX6 36 "TrainedSegments" "opened" "LTrainedSegments$Row;", Cond.methodLink RX6 178 yX4_at, Cond.instanceMethod yX4_at, Cond.selects RX4 yX4_at yX4_at, Cond.initialized RX4, Cond.code yX4_at cX4_at 2 (some .int), Cond.methodLink RX4 27 yX4_signedAt, Cond.instanceMethod yX4_signedAt, Cond.selects RX4 yX4_signedAt yX4_signedAt, Cond.code yX4_signedAt cX4_signedAt 2 (some .byte), Cond.fieldLink RX4 13 "TrainedSegments$Row" "bytes" "[B", Cond.methodLink RX4 23 yX4_has, Cond.instanceMethod yX4_has, Cond.selects RX4 yX4_has yX4_has, Cond.code yX4_has cX4_has 2 (some .boolean), Cond.fieldLink RX4 19 "TrainedSegments$Row" "length" "I", Cond.methodLink RX6 182 yX6_firstWithId, Cond.instanceMethod yX6_firstWithId, Cond.selects RX6 yX6_firstWithId yX6_firstWithId, Cond.initialized RX6, Cond.code yX6_firstWithId cX6_firstWithId 3 (some (.object "TrainedSegments$Dictionary")), Cond.fieldLink RX6 29 "TrainedSegments" "none" "LTrainedSegments$Dictionary;"]
def wsX6_open_r2 : List Cond := [Cond.fieldLink RX6 24 "TrainedSegments" "dictionaries" "[LTrainedSegments$Dictionary;", Cond.methodLink RX6 129 yX0_id, Cond.instanceMethod yX0_id, Cond.selects RX0 yX0_id yX0_id, Cond.initialized RX0, Cond.code yX0_id cX0_id 1 (some .int), Cond.fieldLink RX0 20 "TrainedSegments$Dictionary" "id" "I", Cond.methodLink RX6 185 yX1_decode, Cond.instanceMethod yX1_decode, Cond.selects RX1 yX1_decode yX1_decode, Cond.initialized RX1, Cond.code yX1_decode cX1_decode 5 (some .int), Cond.fieldLink RX1 14 "TrainedSegments$Opener" "joined" "LTrainedSegments$Row;", Cond.fieldLink RX1 38 "TrainedSegments$Opener" "start" "I", Cond.fieldLink RX1 46 "TrainedSegments$Opener" "wanted" "I", Cond.fieldLink RX1 49 "TrainedSegments$Opener" "place" "I", Cond.methodLink RX1 20 yX4_length, Cond.instanceMethod yX4_length, Cond.selects RX4 yX4_length yX4_length, Cond.code yX4_length cX4_length 1 (some .int), Cond.methodLink RX1 24 yX1_wrongInHeader, Cond.instanceMethod yX1_wrongInHeader, Cond.selects RX1 yX1_wrongInHeader yX1_wrongInHeader, Cond.code yX1_wrongInHeader cX1_wrongInHeader 3 (some .int)]
def wsX6_open_r3 : List Cond := [Cond.methodLink RX1 42 yX4_at, Cond.methodLink RX1 63 yX0_sum, Cond.instanceMethod yX0_sum, Cond.selects RX0 yX0_sum yX0_sum, Cond.code yX0_sum cX0_sum 1 (some .int), Cond.fieldLink RX0 14 "TrainedSegments$Dictionary" "words" "LTrainedSegments$Row;", Cond.methodLink RX0 30 yX4_sum, Cond.instanceMethod yX4_sum, Cond.selects RX4 yX4_sum yX4_sum, Cond.code yX4_sum cX4_sum 4 (some .int), Cond.methodLink RX4 45 yX4_at, Cond.methodLink RX1 28 yX0_words, Cond.instanceMethod yX0_words, Cond.selects RX0 yX0_words yX0_words, Cond.code yX0_words cX0_words 1 (some (.object "TrainedSegments$Row")), Cond.methodLink RX1 34 yX4_become, Cond.instanceMethod yX4_become, Cond.selects RX4 yX4_become yX4_become, Cond.code yX4_become cX4_become 2 none, Cond.methodLink RX4 35 yX4_clear, Cond.instanceMethod yX4_clear, Cond.selects RX4 yX4_clear yX4_clear, Cond.code yX4_clear cX4_clear 1 none, Cond.methodLink RX4 38 yX4_addFrom]
def wsX6_open_r4 : List Cond := [Cond.instanceMethod yX4_addFrom, Cond.selects RX4 yX4_addFrom yX4_addFrom, Cond.code yX4_addFrom cX4_addFrom 5 none, Cond.methodLink RX4 31 yX4_add, Cond.instanceMethod yX4_add, Cond.selects RX4 yX4_add yX4_add, Cond.code yX4_add cX4_add 2 none, Cond.methodLink RX1 52 yX1_readItem, Cond.instanceMethod yX1_readItem, Cond.selects RX1 yX1_readItem yX1_readItem, Cond.code yX1_readItem cX1_readItem 4 (some .int), Cond.methodLink RX1 66 yX1_readPlain, Cond.instanceMethod yX1_readPlain, Cond.selects RX1 yX1_readPlain yX1_readPlain, Cond.code yX1_readPlain cX1_readPlain 3 (some .int), Cond.methodLink RX1 59 yX4_addFrom, Cond.methodLink RX1 70 yX1_readMatch, Cond.instanceMethod yX1_readMatch, Cond.selects RX1 yX1_readMatch yX1_readMatch, Cond.code yX1_readMatch cX1_readMatch 6 (some .int), Cond.methodLink RX1 74 yX4_add, Cond.methodLink RX6 86 yX4_clear, Cond.methodLink RX6 189 yX1_handOver, Cond.instanceMethod yX1_handOver]
def wsX6_open_r5 : List Cond := [Cond.selects RX1 yX1_handOver yX1_handOver, Cond.code yX1_handOver cX1_handOver 2 none, Cond.methodLink RX1 56 yX4_clear, Cond.methodLink RX6 74 yX4_length]
def wsX6_open : List Cond := .code yX6_open cX6_open 2 (some .int) :: ((wsX6_open_r1 ++ (wsX6_open_r2 ++ (wsX6_open_r3 ++ (wsX6_open_r4 ++ wsX6_open_r5)))) ++ wsX60 ++ wsX40 ++ wsX00 ++ wsX10 ++ (vx_atN 8).filter goodWord ++ (vx_atM "java/lang/ArrayIndexOutOfBoundsException" ["java/lang/IndexOutOfBoundsException", "java/lang/RuntimeException", "java/lang/Exception"]).filter goodWord)
def wsX6_text : List Cond := .code yX6_text cX6_text 2 (some .int) :: ([.fieldLink RX6 36 "TrainedSegments" "opened" "LTrainedSegments$Row;", .classLink RX6 138 RJx00060, .instantiable RJx00060 6, .initialized RJx00060, .methodLink RX6 150 yX4_has, .instanceMethod yX4_has, .selects RX4 yX4_has yX4_has, .initialized RX4, .code yX4_has cX4_has 2 (some .boolean), .fieldLink RX4 19 "TrainedSegments$Row" "length" "I", .methodLink RX6 178 yX4_at, .instanceMethod yX4_at, .selects RX4 yX4_at yX4_at, .code yX4_at cX4_at 2 (some .int), .methodLink RX4 27 yX4_signedAt, .instanceMethod yX4_signedAt, .selects RX4 yX4_signedAt yX4_signedAt, .code yX4_signedAt cX4_signedAt 2 (some .byte), .fieldLink RX4 13 "TrainedSegments$Row" "bytes" "[B", .methodLink RX4 23 yX4_has] ++ wsX60 ++ wsJx000600 ++ wsX40 ++ (vx_atN 8).filter goodWord ++ (vx_atM "java/lang/ArrayIndexOutOfBoundsException" ["java/lang/IndexOutOfBoundsException", "java/lang/RuntimeException", "java/lang/Exception"]).filter goodWord)
def wsX6_isSample : List Cond := .code yX6_isSample cX6_isSample 2 (some .boolean) :: ([.fieldLink RX6 78 "TrainedSegments" "sampleCount" "I"] ++ wsX60)
def wsX6_size_r1 : List Cond := [Cond.fieldLink RX6 49 "TrainedSegments" "packer" "LTrainedSegments$Packer;", Cond.fieldLink RX6 18 "TrainedSegments" "samples" "[LTrainedSegments$Row;", Cond.methodLink RX6 159 yX6_noneOrThereAt, Cond.instanceMethod yX6_noneOrThereAt, Cond.selects RX6 yX6_noneOrThereAt yX6_noneOrThereAt, Cond.initialized RX6, Cond.code yX6_noneOrThereAt cX6_noneOrThereAt 2 (some (.object "TrainedSegments$Dictionary")), Cond.fieldLink RX6 29 "TrainedSegments" "none" "LTrainedSegments$Dictionary;", Cond.methodLink RX6 121 yX6_thereAt, Cond.instanceMethod yX6_thereAt, Cond.selects RX6 yX6_thereAt yX6_thereAt, Cond.code yX6_thereAt cX6_thereAt 2 (some (.object "TrainedSegments$Dictionary")), Cond.fieldLink RX6 24 "TrainedSegments" "dictionaries" "[LTrainedSegments$Dictionary;", Cond.methodLink RX6 89 yX6_isNumber, Cond.static yX6_isNumber, Cond.code yX6_isNumber cX6_isNumber 1 (some .boolean), Cond.methodLink RX6 196 yX0_isThere, Cond.instanceMethod yX0_isThere, Cond.selects RX0 yX0_isThere yX0_isThere, Cond.initialized RX0, Cond.code yX0_isThere cX0_isThere 1 (some .boolean), Cond.fieldLink RX0 20 "TrainedSegments$Dictionary" "id" "I", Cond.methodLink RX6 193 yX6_isSample, Cond.instanceMethod yX6_isSample]
def wsX6_size_r2 : List Cond := [Cond.selects RX6 yX6_isSample yX6_isSample, Cond.code yX6_isSample cX6_isSample 2 (some .boolean), Cond.fieldLink RX6 78 "TrainedSegments" "sampleCount" "I", Cond.methodLink RX6 117 yX0_words, Cond.instanceMethod yX0_words, Cond.selects RX0 yX0_words yX0_words, Cond.code yX0_words cX0_words 1 (some (.object "TrainedSegments$Row")), Cond.fieldLink RX0 14 "TrainedSegments$Dictionary" "words" "LTrainedSegments$Row;", Cond.methodLink RX6 162 yX3_measure, Cond.instanceMethod yX3_measure, Cond.selects RX3 yX3_measure yX3_measure, Cond.initialized RX3, Cond.code yX3_measure cX3_measure 4 (some .int), Cond.fieldLink RX3 9 "TrainedSegments$Packer" "joined" "[B", Cond.fieldLink RX3 34 "TrainedSegments$Packer" "start" "I", Cond.methodLink RX3 38 Lib.Math.min.name, Cond.static Lib.Math.min.name, Cond.initialized "java/lang/Math", Cond.code Lib.Math.min.name Lib.Math.min.code 2 (some .int), Cond.fieldLink RX3 44 "TrainedSegments$Packer" "length" "I", Cond.fieldLink RX3 22 "TrainedSegments$Packer" "cost" "[I", Cond.constant RX3 52 (2147483647), Cond.methodLink RX3 28 yX4_copyTo, Cond.instanceMethod yX4_copyTo]
def wsX6_size_r3 : List Cond := [Cond.selects RX4 yX4_copyTo yX4_copyTo, Cond.initialized RX4, Cond.code yX4_copyTo cX4_copyTo 5 (some .int), Cond.fieldLink RX4 19 "TrainedSegments$Row" "length" "I", Cond.methodLink RX4 42 Lib.Math.min.name, Cond.methodLink RX4 7 Lib.Math.max.name, Cond.static Lib.Math.max.name, Cond.code Lib.Math.max.name Lib.Math.max.code 2 (some .int), Cond.fieldLink RX4 13 "TrainedSegments$Row" "bytes" "[B", Cond.methodLink RX3 47 yX3_linkSameBytes, Cond.instanceMethod yX3_linkSameBytes, Cond.selects RX3 yX3_linkSameBytes yX3_linkSameBytes, Cond.code yX3_linkSameBytes cX3_linkSameBytes 3 none, Cond.fieldLink RX3 19 "TrainedSegments$Packer" "latest" "[I", Cond.fieldLink RX3 15 "TrainedSegments$Packer" "earlier" "[I", Cond.methodLink RX3 77 yJ7_fill_53178, Cond.static yJ7_fill_53178, Cond.initialized RJ7, Cond.code yJ7_fill_53178 cJ7_fill_53178 4 none, Cond.methodLink RX3 53 yX3_tryMatches, Cond.instanceMethod yX3_tryMatches, Cond.selects RX3 yX3_tryMatches yX3_tryMatches, Cond.code yX3_tryMatches cX3_tryMatches 3 none, Cond.fieldLink RX3 25 "TrainedSegments$Packer" "choice" "[I"]
def wsX6_size_r4 : List Cond := [Cond.methodLink RX3 83 yX3_longestMatch, Cond.instanceMethod yX3_longestMatch, Cond.selects RX3 yX3_longestMatch yX3_longestMatch, Cond.code yX3_longestMatch cX3_longestMatch 6 (some .int), Cond.methodLink RX3 90 Lib.Math.max.name, Cond.methodLink RX3 86 yX3_sameBytes, Cond.instanceMethod yX3_sameBytes, Cond.selects RX3 yX3_sameBytes yX3_sameBytes, Cond.code yX3_sameBytes cX3_sameBytes 5 (some .int), Cond.methodLink RX3 57 yX3_tryPlain, Cond.instanceMethod yX3_tryPlain, Cond.selects RX3 yX3_tryPlain yX3_tryPlain, Cond.code yX3_tryPlain cX3_tryPlain 3 none]
def wsX6_size : List Cond := .code yX6_size cX6_size 4 (some .int) :: ((wsX6_size_r1 ++ (wsX6_size_r2 ++ (wsX6_size_r3 ++ wsX6_size_r4))) ++ wsX60 ++ wsX00 ++ wsX30 ++ wsX40 ++ (vx_atN 8).filter goodWord ++ (vx_atM "java/lang/ArrayIndexOutOfBoundsException" ["java/lang/IndexOutOfBoundsException", "java/lang/RuntimeException", "java/lang/Exception"]).filter goodWord)
def wsX6_best_r1 : List Cond := [Cond.fieldLink RX6 49 "TrainedSegments" "packer" "LTrainedSegments$Packer;", Cond.fieldLink RX6 18 "TrainedSegments" "samples" "[LTrainedSegments$Row;", Cond.fieldLink RX6 29 "TrainedSegments" "none" "LTrainedSegments$Dictionary;", Cond.fieldLink RX6 24 "TrainedSegments" "dictionaries" "[LTrainedSegments$Dictionary;", Cond.methodLink RX6 193 yX6_isSample, Cond.instanceMethod yX6_isSample, Cond.selects RX6 yX6_isSample yX6_isSample, Cond.initialized RX6, Cond.code yX6_isSample cX6_isSample 2 (some .boolean), Cond.fieldLink RX6 78 "TrainedSegments" "sampleCount" "I", Cond.methodLink RX6 117 yX0_words, Cond.instanceMethod yX0_words, Cond.selects RX0 yX0_words yX0_words, Cond.initialized RX0, Cond.code yX0_words cX0_words 1 (some (.object "TrainedSegments$Row")), Cond.fieldLink RX0 14 "TrainedSegments$Dictionary" "words" "LTrainedSegments$Row;", Cond.methodLink RX6 162 yX3_measure, Cond.instanceMethod yX3_measure, Cond.selects RX3 yX3_measure yX3_measure, Cond.initialized RX3, Cond.code yX3_measure cX3_measure 4 (some .int), Cond.fieldLink RX3 9 "TrainedSegments$Packer" "joined" "[B", Cond.fieldLink RX3 34 "TrainedSegments$Packer" "start" "I", Cond.methodLink RX3 38 Lib.Math.min.name]
def wsX6_best_r2 : List Cond := [Cond.static Lib.Math.min.name, Cond.initialized "java/lang/Math", Cond.code Lib.Math.min.name Lib.Math.min.code 2 (some .int), Cond.fieldLink RX3 44 "TrainedSegments$Packer" "length" "I", Cond.fieldLink RX3 22 "TrainedSegments$Packer" "cost" "[I", Cond.constant RX3 52 (2147483647), Cond.methodLink RX3 28 yX4_copyTo, Cond.instanceMethod yX4_copyTo, Cond.selects RX4 yX4_copyTo yX4_copyTo, Cond.initialized RX4, Cond.code yX4_copyTo cX4_copyTo 5 (some .int), Cond.fieldLink RX4 19 "TrainedSegments$Row" "length" "I", Cond.methodLink RX4 42 Lib.Math.min.name, Cond.methodLink RX4 7 Lib.Math.max.name, Cond.static Lib.Math.max.name, Cond.code Lib.Math.max.name Lib.Math.max.code 2 (some .int), Cond.fieldLink RX4 13 "TrainedSegments$Row" "bytes" "[B", Cond.methodLink RX3 47 yX3_linkSameBytes, Cond.instanceMethod yX3_linkSameBytes, Cond.selects RX3 yX3_linkSameBytes yX3_linkSameBytes, Cond.code yX3_linkSameBytes cX3_linkSameBytes 3 none, Cond.fieldLink RX3 19 "TrainedSegments$Packer" "latest" "[I", Cond.fieldLink RX3 15 "TrainedSegments$Packer" "earlier" "[I", Cond.methodLink RX3 77 yJ7_fill_53178]
def wsX6_best_r3 : List Cond := [Cond.static yJ7_fill_53178, Cond.initialized RJ7, Cond.code yJ7_fill_53178 cJ7_fill_53178 4 none, Cond.methodLink RX3 53 yX3_tryMatches, Cond.instanceMethod yX3_tryMatches, Cond.selects RX3 yX3_tryMatches yX3_tryMatches, Cond.code yX3_tryMatches cX3_tryMatches 3 none, Cond.fieldLink RX3 25 "TrainedSegments$Packer" "choice" "[I", Cond.methodLink RX3 83 yX3_longestMatch, Cond.instanceMethod yX3_longestMatch, Cond.selects RX3 yX3_longestMatch yX3_longestMatch, Cond.code yX3_longestMatch cX3_longestMatch 6 (some .int), Cond.methodLink RX3 90 Lib.Math.max.name, Cond.methodLink RX3 86 yX3_sameBytes, Cond.instanceMethod yX3_sameBytes, Cond.selects RX3 yX3_sameBytes yX3_sameBytes, Cond.code yX3_sameBytes cX3_sameBytes 5 (some .int), Cond.methodLink RX3 57 yX3_tryPlain, Cond.instanceMethod yX3_tryPlain, Cond.selects RX3 yX3_tryPlain yX3_tryPlain, Cond.code yX3_tryPlain cX3_tryPlain 3 none, Cond.methodLink RX6 196 yX0_isThere, Cond.instanceMethod yX0_isThere, Cond.selects RX0 yX0_isThere yX0_isThere]
def wsX6_best_r4 : List Cond := [Cond.code yX0_isThere cX0_isThere 1 (some .boolean), Cond.fieldLink RX0 20 "TrainedSegments$Dictionary" "id" "I"]
def wsX6_best : List Cond := .code yX6_best cX6_best 6 (some .int) :: ((wsX6_best_r1 ++ (wsX6_best_r2 ++ (wsX6_best_r3 ++ wsX6_best_r4))) ++ wsX60 ++ wsX00 ++ wsX30 ++ wsX40 ++ (vx_atN 8).filter goodWord ++ (vx_atM "java/lang/ArrayIndexOutOfBoundsException" ["java/lang/IndexOutOfBoundsException", "java/lang/RuntimeException", "java/lang/Exception"]).filter goodWord)
def wsX6_share_r1 : List Cond := [Cond.classLink RX6 204 "java/lang/ArithmeticException", Cond.initialized "java/lang/ArithmeticException", Cond.fieldLink RX6 29 "TrainedSegments" "none" "LTrainedSegments$Dictionary;", Cond.methodLink RX6 121 yX6_thereAt, Cond.instanceMethod yX6_thereAt, Cond.selects RX6 yX6_thereAt yX6_thereAt, Cond.initialized RX6, Cond.code yX6_thereAt cX6_thereAt 2 (some (.object "TrainedSegments$Dictionary")), Cond.fieldLink RX6 24 "TrainedSegments" "dictionaries" "[LTrainedSegments$Dictionary;", Cond.methodLink RX6 89 yX6_isNumber, Cond.static yX6_isNumber, Cond.code yX6_isNumber cX6_isNumber 1 (some .boolean), Cond.methodLink RX6 196 yX0_isThere, Cond.instanceMethod yX0_isThere, Cond.selects RX0 yX0_isThere yX0_isThere, Cond.initialized RX0, Cond.code yX0_isThere cX0_isThere 1 (some .boolean), Cond.fieldLink RX0 20 "TrainedSegments$Dictionary" "id" "I", Cond.methodLink RX6 117 yX0_words, Cond.instanceMethod yX0_words, Cond.selects RX0 yX0_words yX0_words, Cond.code yX0_words cX0_words 1 (some (.object "TrainedSegments$Row")), Cond.fieldLink RX0 14 "TrainedSegments$Dictionary" "words" "LTrainedSegments$Row;", Cond.methodLink RX6 200 yX6_bytesOfSamples]
def wsX6_share_r2 : List Cond := [Cond.instanceMethod yX6_bytesOfSamples, Cond.selects RX6 yX6_bytesOfSamples yX6_bytesOfSamples, Cond.code yX6_bytesOfSamples cX6_bytesOfSamples 4 (some .int), Cond.fieldLink RX6 78 "TrainedSegments" "sampleCount" "I", Cond.fieldLink RX6 49 "TrainedSegments" "packer" "LTrainedSegments$Packer;", Cond.fieldLink RX6 18 "TrainedSegments" "samples" "[LTrainedSegments$Row;", Cond.methodLink RX6 162 yX3_measure, Cond.instanceMethod yX3_measure, Cond.selects RX3 yX3_measure yX3_measure, Cond.initialized RX3, Cond.code yX3_measure cX3_measure 4 (some .int), Cond.fieldLink RX3 9 "TrainedSegments$Packer" "joined" "[B", Cond.fieldLink RX3 34 "TrainedSegments$Packer" "start" "I", Cond.methodLink RX3 38 Lib.Math.min.name, Cond.static Lib.Math.min.name, Cond.initialized "java/lang/Math", Cond.code Lib.Math.min.name Lib.Math.min.code 2 (some .int), Cond.fieldLink RX3 44 "TrainedSegments$Packer" "length" "I", Cond.fieldLink RX3 22 "TrainedSegments$Packer" "cost" "[I", Cond.constant RX3 52 (2147483647), Cond.methodLink RX3 28 yX4_copyTo, Cond.instanceMethod yX4_copyTo, Cond.selects RX4 yX4_copyTo yX4_copyTo, Cond.initialized RX4]
def wsX6_share_r3 : List Cond := [Cond.code yX4_copyTo cX4_copyTo 5 (some .int), Cond.fieldLink RX4 19 "TrainedSegments$Row" "length" "I", Cond.methodLink RX4 42 Lib.Math.min.name, Cond.methodLink RX4 7 Lib.Math.max.name, Cond.static Lib.Math.max.name, Cond.code Lib.Math.max.name Lib.Math.max.code 2 (some .int), Cond.fieldLink RX4 13 "TrainedSegments$Row" "bytes" "[B", Cond.methodLink RX3 47 yX3_linkSameBytes, Cond.instanceMethod yX3_linkSameBytes, Cond.selects RX3 yX3_linkSameBytes yX3_linkSameBytes, Cond.code yX3_linkSameBytes cX3_linkSameBytes 3 none, Cond.fieldLink RX3 19 "TrainedSegments$Packer" "latest" "[I", Cond.fieldLink RX3 15 "TrainedSegments$Packer" "earlier" "[I", Cond.methodLink RX3 77 yJ7_fill_53178, Cond.static yJ7_fill_53178, Cond.initialized RJ7, Cond.code yJ7_fill_53178 cJ7_fill_53178 4 none, Cond.methodLink RX3 53 yX3_tryMatches, Cond.instanceMethod yX3_tryMatches, Cond.selects RX3 yX3_tryMatches yX3_tryMatches, Cond.code yX3_tryMatches cX3_tryMatches 3 none, Cond.fieldLink RX3 25 "TrainedSegments$Packer" "choice" "[I", Cond.methodLink RX3 83 yX3_longestMatch, Cond.instanceMethod yX3_longestMatch]
def wsX6_share_r4 : List Cond := [Cond.selects RX3 yX3_longestMatch yX3_longestMatch, Cond.code yX3_longestMatch cX3_longestMatch 6 (some .int), Cond.methodLink RX3 90 Lib.Math.max.name, Cond.methodLink RX3 86 yX3_sameBytes, Cond.instanceMethod yX3_sameBytes, Cond.selects RX3 yX3_sameBytes yX3_sameBytes, Cond.code yX3_sameBytes cX3_sameBytes 5 (some .int), Cond.methodLink RX3 57 yX3_tryPlain, Cond.instanceMethod yX3_tryPlain, Cond.selects RX3 yX3_tryPlain yX3_tryPlain, Cond.code yX3_tryPlain cX3_tryPlain 3 none]
def wsX6_share : List Cond := .code yX6_share cX6_share 4 (some .int) :: ((wsX6_share_r1 ++ (wsX6_share_r2 ++ (wsX6_share_r3 ++ wsX6_share_r4))) ++ wsX60 ++ wsX00 ++ wsX30 ++ wsX40 ++ (vx_atN 8).filter goodWord ++ (vx_atS RX6 208 "java/lang/ArithmeticException" ["java/lang/RuntimeException", "java/lang/Exception"]).filter goodWord ++ (vx_atM "java/lang/ArithmeticException" ["java/lang/RuntimeException", "java/lang/Exception"]).filter goodWord ++ (vx_atM "java/lang/ArrayIndexOutOfBoundsException" ["java/lang/IndexOutOfBoundsException", "java/lang/RuntimeException", "java/lang/Exception"]).filter goodWord)
def wsX6_countThere : List Cond := .code yX6_countThere cX6_countThere 3 (some .int) :: ([.fieldLink RX6 24 "TrainedSegments" "dictionaries" "[LTrainedSegments$Dictionary;", .methodLink RX6 196 yX0_isThere, .instanceMethod yX0_isThere, .selects RX0 yX0_isThere yX0_isThere, .initialized RX0, .code yX0_isThere cX0_isThere 1 (some .boolean), .fieldLink RX0 20 "TrainedSegments$Dictionary" "id" "I"] ++ wsX60 ++ wsX00 ++ (vx_atN 8).filter goodWord)
def wsX6_about_r1 : List Cond := [Cond.fieldLink RX6 14 "TrainedSegments" "tape" "LTrainedSegments$Row;", Cond.fieldLink RX6 78 "TrainedSegments" "sampleCount" "I", Cond.fieldLink RX6 42 "TrainedSegments" "output" "LTrainedSegments$Output;", Cond.fieldLink RX6 36 "TrainedSegments" "opened" "LTrainedSegments$Row;", Cond.methodLink RX6 74 yX4_length, Cond.instanceMethod yX4_length, Cond.selects RX4 yX4_length yX4_length, Cond.initialized RX4, Cond.code yX4_length cX4_length 1 (some .int), Cond.fieldLink RX4 19 "TrainedSegments$Row" "length" "I", Cond.methodLink RX6 209 yX6_countThere, Cond.instanceMethod yX6_countThere, Cond.selects RX6 yX6_countThere yX6_countThere, Cond.initialized RX6, Cond.code yX6_countThere cX6_countThere 3 (some .int), Cond.fieldLink RX6 24 "TrainedSegments" "dictionaries" "[LTrainedSegments$Dictionary;", Cond.methodLink RX6 196 yX0_isThere, Cond.instanceMethod yX0_isThere, Cond.selects RX0 yX0_isThere yX0_isThere, Cond.initialized RX0, Cond.code yX0_isThere cX0_isThere 1 (some .boolean), Cond.fieldLink RX0 20 "TrainedSegments$Dictionary" "id" "I", Cond.methodLink RX6 173 yX2_bytes, Cond.instanceMethod yX2_bytes]
def wsX6_about_r2 : List Cond := [Cond.selects RX2 yX2_bytes yX2_bytes, Cond.initialized RX2, Cond.code yX2_bytes cX2_bytes 1 (some (.object "TrainedSegments$Row")), Cond.fieldLink RX2 14 "TrainedSegments$Output" "bytes" "LTrainedSegments$Row;", Cond.methodLink RX6 212 yX2_items, Cond.instanceMethod yX2_items, Cond.selects RX2 yX2_items yX2_items, Cond.code yX2_items cX2_items 1 (some .int), Cond.fieldLink RX2 20 "TrainedSegments$Output" "items" "I", Cond.methodLink RX6 215 yX2_matches, Cond.instanceMethod yX2_matches, Cond.selects RX2 yX2_matches yX2_matches, Cond.code yX2_matches cX2_matches 1 (some .int), Cond.fieldLink RX2 24 "TrainedSegments$Output" "matches" "I"]
def wsX6_about : List Cond := .code yX6_about cX6_about 2 (some .int) :: ((wsX6_about_r1 ++ wsX6_about_r2) ++ wsX60 ++ wsX40 ++ wsX00 ++ wsX20 ++ (vx_atN 8).filter goodWord)
def wsX7_init : List Cond := .code yX7_init cX7_init 1 none :: ([.methodLink RX7 1 objectInit, .instanceMethod objectInit, .code objectInit ⟨#[0xb1]⟩ 1 none, .arrayClass .int, .fieldLink RX7 7 "TrainedSegmentsModel" "tape" "[I", .fieldLink RX7 13 "TrainedSegmentsModel" "sampleLong" "[I", .fieldLink RX7 16 "TrainedSegmentsModel" "sampleByte" "[I", .fieldLink RX7 19 "TrainedSegmentsModel" "idOf" "[I", .fieldLink RX7 22 "TrainedSegmentsModel" "pieces" "[I", .fieldLink RX7 25 "TrainedSegmentsModel" "pieceLong" "[I", .fieldLink RX7 28 "TrainedSegmentsModel" "bytesOf" "[I", .fieldLink RX7 31 "TrainedSegmentsModel" "dictionary" "[I", .arrayClass .boolean, .fieldLink RX7 34 "TrainedSegmentsModel" "covered" "[Z", .fieldLink RX7 38 "TrainedSegmentsModel" "taken" "[I", .fieldLink RX7 41 "TrainedSegmentsModel" "row" "[I", .fieldLink RX7 44 "TrainedSegmentsModel" "cost" "[I", .fieldLink RX7 47 "TrainedSegmentsModel" "leastD" "[I", .fieldLink RX7 50 "TrainedSegmentsModel" "out" "[I", .fieldLink RX7 53 "TrainedSegmentsModel" "text" "[I", .fieldLink RX7 56 "TrainedSegmentsModel" "taped" "I"] ++ wsX70)
def wsX7_thrown : List Cond := .code yX7_thrown cX7_thrown 1 (some .int) :: ([.fieldLink RX7 60 "TrainedSegmentsModel" "thrown" "I"] ++ wsX70)
def wsX7_in : List Cond := .code yX7_in cX7_in 6 (some .boolean) :: ([])
def wsX7_feed : List Cond := .code yX7_feed cX7_feed 5 (some .int) :: ([.fieldLink RX7 60 "TrainedSegmentsModel" "thrown" "I", .constantLong RX7 63 (8), .fieldLink RX7 56 "TrainedSegmentsModel" "taped" "I", .fieldLink RX7 7 "TrainedSegmentsModel" "tape" "[I", .methodLink RX7 65 yX7_in, .static yX7_in, .initialized RX7, .code yX7_in cX7_in 6 (some .boolean)] ++ wsX70 ++ (vx_atM "java/lang/ArrayIndexOutOfBoundsException" ["java/lang/IndexOutOfBoundsException", "java/lang/RuntimeException", "java/lang/Exception"]).filter goodWord ++ (vx_atN 8).filter goodWord)
def wsX7_sample : List Cond := .code yX7_sample cX7_sample 2 (some .int) :: ([.fieldLink RX7 60 "TrainedSegmentsModel" "thrown" "I", .fieldLink RX7 56 "TrainedSegmentsModel" "taped" "I", .constantLong RX7 69 (40), .fieldLink RX7 71 "TrainedSegmentsModel" "samples" "I", .fieldLink RX7 16 "TrainedSegmentsModel" "sampleByte" "[I", .fieldLink RX7 7 "TrainedSegmentsModel" "tape" "[I", .fieldLink RX7 13 "TrainedSegmentsModel" "sampleLong" "[I", .methodLink RX7 65 yX7_in, .static yX7_in, .initialized RX7, .code yX7_in cX7_in 6 (some .boolean)] ++ wsX70 ++ (vx_atM "java/lang/ArrayIndexOutOfBoundsException" ["java/lang/IndexOutOfBoundsException", "java/lang/RuntimeException", "java/lang/Exception"]).filter goodWord ++ (vx_atN 8).filter goodWord)
def wsX7_forget : List Cond := .code yX7_forget cX7_forget 2 (some .int) :: ([.fieldLink RX7 60 "TrainedSegmentsModel" "thrown" "I", .fieldLink RX7 71 "TrainedSegmentsModel" "samples" "I"] ++ wsX70)
def wsX7_isOpen : List Cond := .code yX7_isOpen cX7_isOpen 6 (some .boolean) :: ([.fieldLink RX7 13 "TrainedSegmentsModel" "sampleLong" "[I", .fieldLink RX7 34 "TrainedSegmentsModel" "covered" "[Z"] ++ wsX70 ++ (vx_atM "java/lang/ArrayIndexOutOfBoundsException" ["java/lang/IndexOutOfBoundsException", "java/lang/RuntimeException", "java/lang/Exception"]).filter goodWord ++ (vx_atN 8).filter goodWord)
def wsX7_areAlike : List Cond := .code yX7_areAlike cX7_areAlike 6 (some .boolean) :: ([.fieldLink RX7 16 "TrainedSegmentsModel" "sampleByte" "[I"] ++ wsX70 ++ (vx_atM "java/lang/ArrayIndexOutOfBoundsException" ["java/lang/IndexOutOfBoundsException", "java/lang/RuntimeException", "java/lang/Exception"]).filter goodWord ++ (vx_atN 8).filter goodWord)
def wsX7_counted : List Cond := .code yX7_counted cX7_counted 8 (some .int) :: ([.fieldLink RX7 71 "TrainedSegmentsModel" "samples" "I", .fieldLink RX7 13 "TrainedSegmentsModel" "sampleLong" "[I", .fieldLink RX7 34 "TrainedSegmentsModel" "covered" "[Z", .methodLink RX7 74 yX7_areAlike, .instanceMethod yX7_areAlike, .selects RX7 yX7_areAlike yX7_areAlike, .initialized RX7, .code yX7_areAlike cX7_areAlike 6 (some .boolean), .fieldLink RX7 16 "TrainedSegmentsModel" "sampleByte" "[I", .methodLink RX7 78 yX7_isOpen, .instanceMethod yX7_isOpen, .selects RX7 yX7_isOpen yX7_isOpen, .code yX7_isOpen cX7_isOpen 6 (some .boolean)] ++ wsX70 ++ (vx_atM "java/lang/ArrayIndexOutOfBoundsException" ["java/lang/IndexOutOfBoundsException", "java/lang/RuntimeException", "java/lang/Exception"]).filter goodWord ++ (vx_atN 8).filter goodWord)
def wsX7_train_r1 : List Cond := [Cond.fieldLink RX7 60 "TrainedSegmentsModel" "thrown" "I", Cond.constantLong RX7 81 (5), Cond.constantLong RX7 83 (255), Cond.constantLong RX7 85 (2), Cond.constantLong RX7 63 (8), Cond.constantLong RX7 87 (80), Cond.fieldLink RX7 71 "TrainedSegmentsModel" "samples" "I", Cond.fieldLink RX7 34 "TrainedSegmentsModel" "covered" "[Z", Cond.fieldLink RX7 89 "TrainedSegmentsModel" "takenMany" "I", Cond.fieldLink RX7 13 "TrainedSegmentsModel" "sampleLong" "[I", Cond.fieldLink RX7 38 "TrainedSegmentsModel" "taken" "[I", Cond.fieldLink RX7 16 "TrainedSegmentsModel" "sampleByte" "[I", Cond.fieldLink RX7 19 "TrainedSegmentsModel" "idOf" "[I", Cond.fieldLink RX7 22 "TrainedSegmentsModel" "pieces" "[I", Cond.fieldLink RX7 28 "TrainedSegmentsModel" "bytesOf" "[I", Cond.fieldLink RX7 25 "TrainedSegmentsModel" "pieceLong" "[I", Cond.fieldLink RX7 31 "TrainedSegmentsModel" "dictionary" "[I", Cond.methodLink RX7 65 yX7_in, Cond.static yX7_in, Cond.initialized RX7, Cond.code yX7_in cX7_in 6 (some .boolean), Cond.methodLink RX7 78 yX7_isOpen, Cond.instanceMethod yX7_isOpen, Cond.selects RX7 yX7_isOpen yX7_isOpen]
def wsX7_train_r2 : List Cond := [Cond.code yX7_isOpen cX7_isOpen 6 (some .boolean), Cond.methodLink RX7 92 yX7_counted, Cond.instanceMethod yX7_counted, Cond.selects RX7 yX7_counted yX7_counted, Cond.code yX7_counted cX7_counted 8 (some .int), Cond.methodLink RX7 74 yX7_areAlike, Cond.instanceMethod yX7_areAlike, Cond.selects RX7 yX7_areAlike yX7_areAlike, Cond.code yX7_areAlike cX7_areAlike 6 (some .boolean)]
def wsX7_train : List Cond := .code yX7_train cX7_train 11 (some .int) :: ((wsX7_train_r1 ++ wsX7_train_r2) ++ wsX70 ++ (vx_atM "java/lang/ArrayIndexOutOfBoundsException" ["java/lang/IndexOutOfBoundsException", "java/lang/RuntimeException", "java/lang/Exception"]).filter goodWord ++ (vx_atN 8).filter goodWord)
def wsX7_give : List Cond := .code yX7_give cX7_give 4 (some .int) :: ([.fieldLink RX7 60 "TrainedSegmentsModel" "thrown" "I", .constantLong RX7 81 (5), .constantLong RX7 83 (255), .fieldLink RX7 56 "TrainedSegmentsModel" "taped" "I", .fieldLink RX7 19 "TrainedSegmentsModel" "idOf" "[I", .fieldLink RX7 28 "TrainedSegmentsModel" "bytesOf" "[I", .fieldLink RX7 22 "TrainedSegmentsModel" "pieces" "[I", .fieldLink RX7 25 "TrainedSegmentsModel" "pieceLong" "[I", .fieldLink RX7 31 "TrainedSegmentsModel" "dictionary" "[I", .fieldLink RX7 7 "TrainedSegmentsModel" "tape" "[I", .methodLink RX7 65 yX7_in, .static yX7_in, .initialized RX7, .code yX7_in cX7_in 6 (some .boolean)] ++ wsX70 ++ (vx_atM "java/lang/ArrayIndexOutOfBoundsException" ["java/lang/IndexOutOfBoundsException", "java/lang/RuntimeException", "java/lang/Exception"]).filter goodWord ++ (vx_atN 8).filter goodWord)
def wsX7_isThere : List Cond := .code yX7_isThere cX7_isThere 2 (some .boolean) :: ([.constantLong RX7 81 (5), .fieldLink RX7 19 "TrainedSegmentsModel" "idOf" "[I", .methodLink RX7 65 yX7_in, .static yX7_in, .initialized RX7, .code yX7_in cX7_in 6 (some .boolean)] ++ wsX70 ++ (vx_atM "java/lang/ArrayIndexOutOfBoundsException" ["java/lang/IndexOutOfBoundsException", "java/lang/RuntimeException", "java/lang/Exception"]).filter goodWord ++ (vx_atN 8).filter goodWord)
def wsX7_pieceAt : List Cond := .code yX7_pieceAt cX7_pieceAt 5 (some .int) :: ([.fieldLink RX7 25 "TrainedSegmentsModel" "pieceLong" "[I"] ++ wsX70 ++ (vx_atM "java/lang/ArrayIndexOutOfBoundsException" ["java/lang/IndexOutOfBoundsException", "java/lang/RuntimeException", "java/lang/Exception"]).filter goodWord ++ (vx_atN 8).filter goodWord)
def wsX7_layAhead : List Cond := .code yX7_layAhead cX7_layAhead 6 none :: ([.fieldLink RX7 96 "TrainedSegmentsModel" "ahead" "I", .fieldLink RX7 25 "TrainedSegmentsModel" "pieceLong" "[I", .fieldLink RX7 28 "TrainedSegmentsModel" "bytesOf" "[I", .fieldLink RX7 41 "TrainedSegmentsModel" "row" "[I", .fieldLink RX7 31 "TrainedSegmentsModel" "dictionary" "[I", .methodLink RX7 99 yX7_pieceAt, .instanceMethod yX7_pieceAt, .selects RX7 yX7_pieceAt yX7_pieceAt, .initialized RX7, .code yX7_pieceAt cX7_pieceAt 5 (some .int)] ++ wsX70 ++ (vx_atN 8).filter goodWord ++ (vx_atM "java/lang/ArrayIndexOutOfBoundsException" ["java/lang/IndexOutOfBoundsException", "java/lang/RuntimeException", "java/lang/Exception"]).filter goodWord)
def wsX7_laySample : List Cond := .code yX7_laySample cX7_laySample 3 none :: ([.fieldLink RX7 13 "TrainedSegmentsModel" "sampleLong" "[I", .fieldLink RX7 103 "TrainedSegmentsModel" "textLong" "I", .fieldLink RX7 41 "TrainedSegmentsModel" "row" "[I", .fieldLink RX7 96 "TrainedSegmentsModel" "ahead" "I", .fieldLink RX7 16 "TrainedSegmentsModel" "sampleByte" "[I"] ++ wsX70 ++ (vx_atM "java/lang/ArrayIndexOutOfBoundsException" ["java/lang/IndexOutOfBoundsException", "java/lang/RuntimeException", "java/lang/Exception"]).filter goodWord ++ (vx_atN 8).filter goodWord)
def wsX7_findMatches : List Cond := .code yX7_findMatches cX7_findMatches 5 none :: ([.fieldLink RX7 47 "TrainedSegmentsModel" "leastD" "[I", .fieldLink RX7 96 "TrainedSegmentsModel" "ahead" "I", .fieldLink RX7 103 "TrainedSegmentsModel" "textLong" "I", .fieldLink RX7 41 "TrainedSegmentsModel" "row" "[I"] ++ wsX70 ++ (vx_atM "java/lang/ArrayIndexOutOfBoundsException" ["java/lang/IndexOutOfBoundsException", "java/lang/RuntimeException", "java/lang/Exception"]).filter goodWord ++ (vx_atN 8).filter goodWord)
def wsX7_packedLong : List Cond := .code yX7_packedLong cX7_packedLong 5 (some .int) :: ([.fieldLink RX7 44 "TrainedSegmentsModel" "cost" "[I", .fieldLink RX7 103 "TrainedSegmentsModel" "textLong" "I", .fieldLink RX7 47 "TrainedSegmentsModel" "leastD" "[I", .methodLink RX7 106 yX7_findMatches, .instanceMethod yX7_findMatches, .selects RX7 yX7_findMatches yX7_findMatches, .initialized RX7, .code yX7_findMatches cX7_findMatches 5 none, .fieldLink RX7 96 "TrainedSegmentsModel" "ahead" "I", .fieldLink RX7 41 "TrainedSegmentsModel" "row" "[I"] ++ wsX70 ++ (vx_atM "java/lang/ArrayIndexOutOfBoundsException" ["java/lang/IndexOutOfBoundsException", "java/lang/RuntimeException", "java/lang/Exception"]).filter goodWord ++ (vx_atN 8).filter goodWord)
def wsX7_sizeOf_r1 : List Cond := [Cond.methodLink RX7 110 yX7_layAhead, Cond.instanceMethod yX7_layAhead, Cond.selects RX7 yX7_layAhead yX7_layAhead, Cond.initialized RX7, Cond.code yX7_layAhead cX7_layAhead 6 none, Cond.fieldLink RX7 96 "TrainedSegmentsModel" "ahead" "I", Cond.fieldLink RX7 25 "TrainedSegmentsModel" "pieceLong" "[I", Cond.fieldLink RX7 28 "TrainedSegmentsModel" "bytesOf" "[I", Cond.fieldLink RX7 41 "TrainedSegmentsModel" "row" "[I", Cond.fieldLink RX7 31 "TrainedSegmentsModel" "dictionary" "[I", Cond.methodLink RX7 99 yX7_pieceAt, Cond.instanceMethod yX7_pieceAt, Cond.selects RX7 yX7_pieceAt yX7_pieceAt, Cond.code yX7_pieceAt cX7_pieceAt 5 (some .int), Cond.methodLink RX7 114 yX7_laySample, Cond.instanceMethod yX7_laySample, Cond.selects RX7 yX7_laySample yX7_laySample, Cond.code yX7_laySample cX7_laySample 3 none, Cond.fieldLink RX7 13 "TrainedSegmentsModel" "sampleLong" "[I", Cond.fieldLink RX7 103 "TrainedSegmentsModel" "textLong" "I", Cond.fieldLink RX7 16 "TrainedSegmentsModel" "sampleByte" "[I", Cond.methodLink RX7 117 yX7_packedLong, Cond.instanceMethod yX7_packedLong, Cond.selects RX7 yX7_packedLong yX7_packedLong]
def wsX7_sizeOf_r2 : List Cond := [Cond.code yX7_packedLong cX7_packedLong 5 (some .int), Cond.fieldLink RX7 44 "TrainedSegmentsModel" "cost" "[I", Cond.fieldLink RX7 47 "TrainedSegmentsModel" "leastD" "[I", Cond.methodLink RX7 106 yX7_findMatches, Cond.instanceMethod yX7_findMatches, Cond.selects RX7 yX7_findMatches yX7_findMatches, Cond.code yX7_findMatches cX7_findMatches 5 none]
def wsX7_sizeOf : List Cond := .code yX7_sizeOf cX7_sizeOf 4 (some .int) :: ((wsX7_sizeOf_r1 ++ wsX7_sizeOf_r2) ++ wsX70 ++ (vx_atN 8).filter goodWord ++ (vx_atM "java/lang/ArrayIndexOutOfBoundsException" ["java/lang/IndexOutOfBoundsException", "java/lang/RuntimeException", "java/lang/Exception"]).filter goodWord)
def wsX7_sizeOfAll_r1 : List Cond := [Cond.fieldLink RX7 71 "TrainedSegmentsModel" "samples" "I", Cond.methodLink RX7 121 yX7_sizeOf, Cond.instanceMethod yX7_sizeOf, Cond.selects RX7 yX7_sizeOf yX7_sizeOf, Cond.initialized RX7, Cond.code yX7_sizeOf cX7_sizeOf 4 (some .int), Cond.methodLink RX7 110 yX7_layAhead, Cond.instanceMethod yX7_layAhead, Cond.selects RX7 yX7_layAhead yX7_layAhead, Cond.code yX7_layAhead cX7_layAhead 6 none, Cond.fieldLink RX7 96 "TrainedSegmentsModel" "ahead" "I", Cond.fieldLink RX7 25 "TrainedSegmentsModel" "pieceLong" "[I", Cond.fieldLink RX7 28 "TrainedSegmentsModel" "bytesOf" "[I", Cond.fieldLink RX7 41 "TrainedSegmentsModel" "row" "[I", Cond.fieldLink RX7 31 "TrainedSegmentsModel" "dictionary" "[I", Cond.methodLink RX7 99 yX7_pieceAt, Cond.instanceMethod yX7_pieceAt, Cond.selects RX7 yX7_pieceAt yX7_pieceAt, Cond.code yX7_pieceAt cX7_pieceAt 5 (some .int), Cond.methodLink RX7 114 yX7_laySample, Cond.instanceMethod yX7_laySample, Cond.selects RX7 yX7_laySample yX7_laySample, Cond.code yX7_laySample cX7_laySample 3 none, Cond.fieldLink RX7 13 "TrainedSegmentsModel" "sampleLong" "[I"]
def wsX7_sizeOfAll_r2 : List Cond := [Cond.fieldLink RX7 103 "TrainedSegmentsModel" "textLong" "I", Cond.fieldLink RX7 16 "TrainedSegmentsModel" "sampleByte" "[I", Cond.methodLink RX7 117 yX7_packedLong, Cond.instanceMethod yX7_packedLong, Cond.selects RX7 yX7_packedLong yX7_packedLong, Cond.code yX7_packedLong cX7_packedLong 5 (some .int), Cond.fieldLink RX7 44 "TrainedSegmentsModel" "cost" "[I", Cond.fieldLink RX7 47 "TrainedSegmentsModel" "leastD" "[I", Cond.methodLink RX7 106 yX7_findMatches, Cond.instanceMethod yX7_findMatches, Cond.selects RX7 yX7_findMatches yX7_findMatches, Cond.code yX7_findMatches cX7_findMatches 5 none]
def wsX7_sizeOfAll : List Cond := .code yX7_sizeOfAll cX7_sizeOfAll 5 (some .int) :: ((wsX7_sizeOfAll_r1 ++ wsX7_sizeOfAll_r2) ++ wsX70 ++ (vx_atN 8).filter goodWord ++ (vx_atM "java/lang/ArrayIndexOutOfBoundsException" ["java/lang/IndexOutOfBoundsException", "java/lang/RuntimeException", "java/lang/Exception"]).filter goodWord)
def wsX7_goes : List Cond := .code yX7_goes cX7_goes 6 none :: ([.fieldLink RX7 25 "TrainedSegmentsModel" "pieceLong" "[I", .fieldLink RX7 28 "TrainedSegmentsModel" "bytesOf" "[I", .fieldLink RX7 31 "TrainedSegmentsModel" "dictionary" "[I", .fieldLink RX7 22 "TrainedSegmentsModel" "pieces" "[I", .methodLink RX7 99 yX7_pieceAt, .instanceMethod yX7_pieceAt, .selects RX7 yX7_pieceAt yX7_pieceAt, .initialized RX7, .code yX7_pieceAt cX7_pieceAt 5 (some .int)] ++ wsX70 ++ (vx_atN 8).filter goodWord ++ (vx_atM "java/lang/ArrayIndexOutOfBoundsException" ["java/lang/IndexOutOfBoundsException", "java/lang/RuntimeException", "java/lang/Exception"]).filter goodWord)
def wsX7_trim_r1 : List Cond := [Cond.fieldLink RX7 60 "TrainedSegmentsModel" "thrown" "I", Cond.fieldLink RX7 71 "TrainedSegmentsModel" "samples" "I", Cond.fieldLink RX7 22 "TrainedSegmentsModel" "pieces" "[I", Cond.methodLink RX7 125 yX7_isThere, Cond.instanceMethod yX7_isThere, Cond.selects RX7 yX7_isThere yX7_isThere, Cond.initialized RX7, Cond.code yX7_isThere cX7_isThere 2 (some .boolean), Cond.constantLong RX7 81 (5), Cond.fieldLink RX7 19 "TrainedSegmentsModel" "idOf" "[I", Cond.methodLink RX7 65 yX7_in, Cond.static yX7_in, Cond.code yX7_in cX7_in 6 (some .boolean), Cond.methodLink RX7 129 yX7_sizeOfAll, Cond.instanceMethod yX7_sizeOfAll, Cond.selects RX7 yX7_sizeOfAll yX7_sizeOfAll, Cond.code yX7_sizeOfAll cX7_sizeOfAll 5 (some .int), Cond.methodLink RX7 121 yX7_sizeOf, Cond.instanceMethod yX7_sizeOf, Cond.selects RX7 yX7_sizeOf yX7_sizeOf, Cond.code yX7_sizeOf cX7_sizeOf 4 (some .int), Cond.methodLink RX7 110 yX7_layAhead, Cond.instanceMethod yX7_layAhead, Cond.selects RX7 yX7_layAhead yX7_layAhead]
def wsX7_trim_r2 : List Cond := [Cond.code yX7_layAhead cX7_layAhead 6 none, Cond.fieldLink RX7 96 "TrainedSegmentsModel" "ahead" "I", Cond.fieldLink RX7 25 "TrainedSegmentsModel" "pieceLong" "[I", Cond.fieldLink RX7 28 "TrainedSegmentsModel" "bytesOf" "[I", Cond.fieldLink RX7 41 "TrainedSegmentsModel" "row" "[I", Cond.fieldLink RX7 31 "TrainedSegmentsModel" "dictionary" "[I", Cond.methodLink RX7 99 yX7_pieceAt, Cond.instanceMethod yX7_pieceAt, Cond.selects RX7 yX7_pieceAt yX7_pieceAt, Cond.code yX7_pieceAt cX7_pieceAt 5 (some .int), Cond.methodLink RX7 114 yX7_laySample, Cond.instanceMethod yX7_laySample, Cond.selects RX7 yX7_laySample yX7_laySample, Cond.code yX7_laySample cX7_laySample 3 none, Cond.fieldLink RX7 13 "TrainedSegmentsModel" "sampleLong" "[I", Cond.fieldLink RX7 103 "TrainedSegmentsModel" "textLong" "I", Cond.fieldLink RX7 16 "TrainedSegmentsModel" "sampleByte" "[I", Cond.methodLink RX7 117 yX7_packedLong, Cond.instanceMethod yX7_packedLong, Cond.selects RX7 yX7_packedLong yX7_packedLong, Cond.code yX7_packedLong cX7_packedLong 5 (some .int), Cond.fieldLink RX7 44 "TrainedSegmentsModel" "cost" "[I", Cond.fieldLink RX7 47 "TrainedSegmentsModel" "leastD" "[I", Cond.methodLink RX7 106 yX7_findMatches]
def wsX7_trim_r3 : List Cond := [Cond.instanceMethod yX7_findMatches, Cond.selects RX7 yX7_findMatches yX7_findMatches, Cond.code yX7_findMatches cX7_findMatches 5 none, Cond.methodLink RX7 132 yX7_goes, Cond.instanceMethod yX7_goes, Cond.selects RX7 yX7_goes yX7_goes, Cond.code yX7_goes cX7_goes 6 none]
def wsX7_trim : List Cond := .code yX7_trim cX7_trim 4 (some .int) :: ((wsX7_trim_r1 ++ (wsX7_trim_r2 ++ wsX7_trim_r3)) ++ wsX70 ++ (vx_atN 8).filter goodWord ++ (vx_atM "java/lang/ArrayIndexOutOfBoundsException" ["java/lang/IndexOutOfBoundsException", "java/lang/RuntimeException", "java/lang/Exception"]).filter goodWord)
def wsX7_drop : List Cond := .code yX7_drop cX7_drop 2 (some .int) :: ([.fieldLink RX7 60 "TrainedSegmentsModel" "thrown" "I", .fieldLink RX7 19 "TrainedSegmentsModel" "idOf" "[I", .fieldLink RX7 22 "TrainedSegmentsModel" "pieces" "[I", .methodLink RX7 125 yX7_isThere, .instanceMethod yX7_isThere, .selects RX7 yX7_isThere yX7_isThere, .initialized RX7, .code yX7_isThere cX7_isThere 2 (some .boolean), .constantLong RX7 81 (5), .methodLink RX7 65 yX7_in, .static yX7_in, .code yX7_in cX7_in 6 (some .boolean)] ++ wsX70 ++ (vx_atN 8).filter goodWord ++ (vx_atM "java/lang/ArrayIndexOutOfBoundsException" ["java/lang/IndexOutOfBoundsException", "java/lang/RuntimeException", "java/lang/Exception"]).filter goodWord)
def wsX7_sumOf : List Cond := .code yX7_sumOf cX7_sumOf 5 (some .int) :: ([.fieldLink RX7 28 "TrainedSegmentsModel" "bytesOf" "[I", .fieldLink RX7 31 "TrainedSegmentsModel" "dictionary" "[I"] ++ wsX70 ++ (vx_atM "java/lang/ArrayIndexOutOfBoundsException" ["java/lang/IndexOutOfBoundsException", "java/lang/RuntimeException", "java/lang/Exception"]).filter goodWord ++ (vx_atN 8).filter goodWord)
def wsX7_told : List Cond := .code yX7_told cX7_told 3 (some .int) :: ([.fieldLink RX7 60 "TrainedSegmentsModel" "thrown" "I", .fieldLink RX7 19 "TrainedSegmentsModel" "idOf" "[I", .fieldLink RX7 22 "TrainedSegmentsModel" "pieces" "[I", .fieldLink RX7 28 "TrainedSegmentsModel" "bytesOf" "[I", .constantLong RX7 139 (10), .fieldLink RX7 25 "TrainedSegmentsModel" "pieceLong" "[I", .methodLink RX7 125 yX7_isThere, .instanceMethod yX7_isThere, .selects RX7 yX7_isThere yX7_isThere, .initialized RX7, .code yX7_isThere cX7_isThere 2 (some .boolean), .constantLong RX7 81 (5), .methodLink RX7 65 yX7_in, .static yX7_in, .code yX7_in cX7_in 6 (some .boolean), .methodLink RX7 135 yX7_sumOf, .instanceMethod yX7_sumOf, .selects RX7 yX7_sumOf yX7_sumOf, .code yX7_sumOf cX7_sumOf 5 (some .int), .fieldLink RX7 31 "TrainedSegmentsModel" "dictionary" "[I"] ++ wsX70 ++ (vx_atN 8).filter goodWord ++ (vx_atM "java/lang/ArrayIndexOutOfBoundsException" ["java/lang/IndexOutOfBoundsException", "java/lang/RuntimeException", "java/lang/Exception"]).filter goodWord)
def wsX7_content : List Cond := .code yX7_content cX7_content 3 (some .byte) :: ([.constantLong RX7 81 (5), .fieldLink RX7 19 "TrainedSegmentsModel" "idOf" "[I", .fieldLink RX7 28 "TrainedSegmentsModel" "bytesOf" "[I", .fieldLink RX7 60 "TrainedSegmentsModel" "thrown" "I", .fieldLink RX7 31 "TrainedSegmentsModel" "dictionary" "[I", .methodLink RX7 65 yX7_in, .static yX7_in, .initialized RX7, .code yX7_in cX7_in 6 (some .boolean)] ++ wsX70 ++ (vx_atM "java/lang/ArrayIndexOutOfBoundsException" ["java/lang/IndexOutOfBoundsException", "java/lang/RuntimeException", "java/lang/Exception"]).filter goodWord ++ (vx_atN 8).filter goodWord)
def wsX7_put : List Cond := .code yX7_put cX7_put 2 none :: ([.fieldLink RX7 50 "TrainedSegmentsModel" "out" "[I", .fieldLink RX7 141 "TrainedSegmentsModel" "outMany" "I"] ++ wsX70 ++ (vx_atM "java/lang/ArrayIndexOutOfBoundsException" ["java/lang/IndexOutOfBoundsException", "java/lang/RuntimeException", "java/lang/Exception"]).filter goodWord ++ (vx_atN 8).filter goodWord)
def wsX7_putItem : List Cond := .code yX7_putItem cX7_putItem 4 (some .int) :: ([.fieldLink RX7 47 "TrainedSegmentsModel" "leastD" "[I", .fieldLink RX7 44 "TrainedSegmentsModel" "cost" "[I", .fieldLink RX7 147 "TrainedSegmentsModel" "matches" "I", .fieldLink RX7 103 "TrainedSegmentsModel" "textLong" "I", .fieldLink RX7 41 "TrainedSegmentsModel" "row" "[I", .fieldLink RX7 96 "TrainedSegmentsModel" "ahead" "I", .methodLink RX7 144 yX7_put, .instanceMethod yX7_put, .selects RX7 yX7_put yX7_put, .initialized RX7, .code yX7_put cX7_put 2 none, .fieldLink RX7 50 "TrainedSegmentsModel" "out" "[I", .fieldLink RX7 141 "TrainedSegmentsModel" "outMany" "I"] ++ wsX70 ++ (vx_atM "java/lang/ArrayIndexOutOfBoundsException" ["java/lang/IndexOutOfBoundsException", "java/lang/RuntimeException", "java/lang/Exception"]).filter goodWord ++ (vx_atN 8).filter goodWord)
def wsX7_pack_r1 : List Cond := [Cond.fieldLink RX7 60 "TrainedSegmentsModel" "thrown" "I", Cond.fieldLink RX7 56 "TrainedSegmentsModel" "taped" "I", Cond.fieldLink RX7 103 "TrainedSegmentsModel" "textLong" "I", Cond.fieldLink RX7 41 "TrainedSegmentsModel" "row" "[I", Cond.fieldLink RX7 96 "TrainedSegmentsModel" "ahead" "I", Cond.fieldLink RX7 7 "TrainedSegmentsModel" "tape" "[I", Cond.fieldLink RX7 141 "TrainedSegmentsModel" "outMany" "I", Cond.fieldLink RX7 150 "TrainedSegmentsModel" "items" "I", Cond.fieldLink RX7 147 "TrainedSegmentsModel" "matches" "I", Cond.fieldLink RX7 19 "TrainedSegmentsModel" "idOf" "[I", Cond.methodLink RX7 125 yX7_isThere, Cond.instanceMethod yX7_isThere, Cond.selects RX7 yX7_isThere yX7_isThere, Cond.initialized RX7, Cond.code yX7_isThere cX7_isThere 2 (some .boolean), Cond.constantLong RX7 81 (5), Cond.methodLink RX7 65 yX7_in, Cond.static yX7_in, Cond.code yX7_in cX7_in 6 (some .boolean), Cond.methodLink RX7 110 yX7_layAhead, Cond.instanceMethod yX7_layAhead, Cond.selects RX7 yX7_layAhead yX7_layAhead, Cond.code yX7_layAhead cX7_layAhead 6 none, Cond.fieldLink RX7 25 "TrainedSegmentsModel" "pieceLong" "[I"]
def wsX7_pack_r2 : List Cond := [Cond.fieldLink RX7 28 "TrainedSegmentsModel" "bytesOf" "[I", Cond.fieldLink RX7 31 "TrainedSegmentsModel" "dictionary" "[I", Cond.methodLink RX7 99 yX7_pieceAt, Cond.instanceMethod yX7_pieceAt, Cond.selects RX7 yX7_pieceAt yX7_pieceAt, Cond.code yX7_pieceAt cX7_pieceAt 5 (some .int), Cond.methodLink RX7 117 yX7_packedLong, Cond.instanceMethod yX7_packedLong, Cond.selects RX7 yX7_packedLong yX7_packedLong, Cond.code yX7_packedLong cX7_packedLong 5 (some .int), Cond.fieldLink RX7 44 "TrainedSegmentsModel" "cost" "[I", Cond.fieldLink RX7 47 "TrainedSegmentsModel" "leastD" "[I", Cond.methodLink RX7 106 yX7_findMatches, Cond.instanceMethod yX7_findMatches, Cond.selects RX7 yX7_findMatches yX7_findMatches, Cond.code yX7_findMatches cX7_findMatches 5 none, Cond.methodLink RX7 135 yX7_sumOf, Cond.instanceMethod yX7_sumOf, Cond.selects RX7 yX7_sumOf yX7_sumOf, Cond.code yX7_sumOf cX7_sumOf 5 (some .int), Cond.methodLink RX7 144 yX7_put, Cond.instanceMethod yX7_put, Cond.selects RX7 yX7_put yX7_put, Cond.code yX7_put cX7_put 2 none]
def wsX7_pack_r3 : List Cond := [Cond.fieldLink RX7 50 "TrainedSegmentsModel" "out" "[I", Cond.methodLink RX7 153 yX7_putItem, Cond.instanceMethod yX7_putItem, Cond.selects RX7 yX7_putItem yX7_putItem, Cond.code yX7_putItem cX7_putItem 4 (some .int)]
def wsX7_pack : List Cond := .code yX7_pack cX7_pack 5 (some .int) :: ((wsX7_pack_r1 ++ (wsX7_pack_r2 ++ wsX7_pack_r3)) ++ wsX70 ++ (vx_atN 8).filter goodWord ++ (vx_atM "java/lang/ArrayIndexOutOfBoundsException" ["java/lang/IndexOutOfBoundsException", "java/lang/RuntimeException", "java/lang/Exception"]).filter goodWord)
def wsX7_out : List Cond := .code yX7_out cX7_out 2 (some .int) :: ([.fieldLink RX7 141 "TrainedSegmentsModel" "outMany" "I", .fieldLink RX7 60 "TrainedSegmentsModel" "thrown" "I", .fieldLink RX7 50 "TrainedSegmentsModel" "out" "[I", .methodLink RX7 65 yX7_in, .static yX7_in, .initialized RX7, .code yX7_in cX7_in 6 (some .boolean)] ++ wsX70 ++ (vx_atN 8).filter goodWord ++ (vx_atM "java/lang/ArrayIndexOutOfBoundsException" ["java/lang/IndexOutOfBoundsException", "java/lang/RuntimeException", "java/lang/Exception"]).filter goodWord)
def wsX7_firstWith : List Cond := .code yX7_firstWith cX7_firstWith 3 (some .int) :: ([.fieldLink RX7 19 "TrainedSegmentsModel" "idOf" "[I"] ++ wsX70 ++ (vx_atM "java/lang/ArrayIndexOutOfBoundsException" ["java/lang/IndexOutOfBoundsException", "java/lang/RuntimeException", "java/lang/Exception"]).filter goodWord ++ (vx_atN 8).filter goodWord)
def wsX7_wrong_r1 : List Cond := [Cond.fieldLink RX7 56 "TrainedSegmentsModel" "taped" "I", Cond.fieldLink RX7 7 "TrainedSegmentsModel" "tape" "[I", Cond.fieldLink RX7 103 "TrainedSegmentsModel" "textLong" "I", Cond.fieldLink RX7 41 "TrainedSegmentsModel" "row" "[I", Cond.fieldLink RX7 96 "TrainedSegmentsModel" "ahead" "I", Cond.methodLink RX7 156 yX7_firstWith, Cond.instanceMethod yX7_firstWith, Cond.selects RX7 yX7_firstWith yX7_firstWith, Cond.initialized RX7, Cond.code yX7_firstWith cX7_firstWith 3 (some .int), Cond.fieldLink RX7 19 "TrainedSegmentsModel" "idOf" "[I", Cond.methodLink RX7 135 yX7_sumOf, Cond.instanceMethod yX7_sumOf, Cond.selects RX7 yX7_sumOf yX7_sumOf, Cond.code yX7_sumOf cX7_sumOf 5 (some .int), Cond.fieldLink RX7 28 "TrainedSegmentsModel" "bytesOf" "[I", Cond.fieldLink RX7 31 "TrainedSegmentsModel" "dictionary" "[I", Cond.methodLink RX7 110 yX7_layAhead, Cond.instanceMethod yX7_layAhead, Cond.selects RX7 yX7_layAhead yX7_layAhead, Cond.code yX7_layAhead cX7_layAhead 6 none, Cond.fieldLink RX7 25 "TrainedSegmentsModel" "pieceLong" "[I", Cond.methodLink RX7 99 yX7_pieceAt, Cond.instanceMethod yX7_pieceAt]
def wsX7_wrong_r2 : List Cond := [Cond.selects RX7 yX7_pieceAt yX7_pieceAt, Cond.code yX7_pieceAt cX7_pieceAt 5 (some .int)]
def wsX7_wrong : List Cond := .code yX7_wrong cX7_wrong 9 (some .int) :: ((wsX7_wrong_r1 ++ wsX7_wrong_r2) ++ wsX70 ++ (vx_atM "java/lang/ArrayIndexOutOfBoundsException" ["java/lang/IndexOutOfBoundsException", "java/lang/RuntimeException", "java/lang/Exception"]).filter goodWord ++ (vx_atN 8).filter goodWord)
def wsX7_open_r1 : List Cond := [Cond.fieldLink RX7 60 "TrainedSegmentsModel" "thrown" "I", Cond.fieldLink RX7 56 "TrainedSegmentsModel" "taped" "I", Cond.fieldLink RX7 103 "TrainedSegmentsModel" "textLong" "I", Cond.fieldLink RX7 162 "TrainedSegmentsModel" "textMany" "I", Cond.fieldLink RX7 53 "TrainedSegmentsModel" "text" "[I", Cond.fieldLink RX7 41 "TrainedSegmentsModel" "row" "[I", Cond.fieldLink RX7 96 "TrainedSegmentsModel" "ahead" "I", Cond.methodLink RX7 159 yX7_wrong, Cond.instanceMethod yX7_wrong, Cond.selects RX7 yX7_wrong yX7_wrong, Cond.initialized RX7, Cond.code yX7_wrong cX7_wrong 9 (some .int), Cond.fieldLink RX7 7 "TrainedSegmentsModel" "tape" "[I", Cond.methodLink RX7 156 yX7_firstWith, Cond.instanceMethod yX7_firstWith, Cond.selects RX7 yX7_firstWith yX7_firstWith, Cond.code yX7_firstWith cX7_firstWith 3 (some .int), Cond.fieldLink RX7 19 "TrainedSegmentsModel" "idOf" "[I", Cond.methodLink RX7 135 yX7_sumOf, Cond.instanceMethod yX7_sumOf, Cond.selects RX7 yX7_sumOf yX7_sumOf, Cond.code yX7_sumOf cX7_sumOf 5 (some .int), Cond.fieldLink RX7 28 "TrainedSegmentsModel" "bytesOf" "[I", Cond.fieldLink RX7 31 "TrainedSegmentsModel" "dictionary" "[I"]
def wsX7_open_r2 : List Cond := [Cond.methodLink RX7 110 yX7_layAhead, Cond.instanceMethod yX7_layAhead, Cond.selects RX7 yX7_layAhead yX7_layAhead, Cond.code yX7_layAhead cX7_layAhead 6 none, Cond.fieldLink RX7 25 "TrainedSegmentsModel" "pieceLong" "[I", Cond.methodLink RX7 99 yX7_pieceAt, Cond.instanceMethod yX7_pieceAt, Cond.selects RX7 yX7_pieceAt yX7_pieceAt, Cond.code yX7_pieceAt cX7_pieceAt 5 (some .int)]
def wsX7_open : List Cond := .code yX7_open cX7_open 3 (some .int) :: ((wsX7_open_r1 ++ wsX7_open_r2) ++ wsX70 ++ (vx_atN 8).filter goodWord ++ (vx_atM "java/lang/ArrayIndexOutOfBoundsException" ["java/lang/IndexOutOfBoundsException", "java/lang/RuntimeException", "java/lang/Exception"]).filter goodWord)
def wsX7_text : List Cond := .code yX7_text cX7_text 2 (some .int) :: ([.fieldLink RX7 162 "TrainedSegmentsModel" "textMany" "I", .fieldLink RX7 60 "TrainedSegmentsModel" "thrown" "I", .fieldLink RX7 53 "TrainedSegmentsModel" "text" "[I", .methodLink RX7 65 yX7_in, .static yX7_in, .initialized RX7, .code yX7_in cX7_in 6 (some .boolean)] ++ wsX70 ++ (vx_atN 8).filter goodWord ++ (vx_atM "java/lang/ArrayIndexOutOfBoundsException" ["java/lang/IndexOutOfBoundsException", "java/lang/RuntimeException", "java/lang/Exception"]).filter goodWord)
def wsX7_size_r1 : List Cond := [Cond.fieldLink RX7 60 "TrainedSegmentsModel" "thrown" "I", Cond.fieldLink RX7 71 "TrainedSegmentsModel" "samples" "I", Cond.methodLink RX7 65 yX7_in, Cond.static yX7_in, Cond.initialized RX7, Cond.code yX7_in cX7_in 6 (some .boolean), Cond.methodLink RX7 125 yX7_isThere, Cond.instanceMethod yX7_isThere, Cond.selects RX7 yX7_isThere yX7_isThere, Cond.code yX7_isThere cX7_isThere 2 (some .boolean), Cond.constantLong RX7 81 (5), Cond.fieldLink RX7 19 "TrainedSegmentsModel" "idOf" "[I", Cond.methodLink RX7 121 yX7_sizeOf, Cond.instanceMethod yX7_sizeOf, Cond.selects RX7 yX7_sizeOf yX7_sizeOf, Cond.code yX7_sizeOf cX7_sizeOf 4 (some .int), Cond.methodLink RX7 110 yX7_layAhead, Cond.instanceMethod yX7_layAhead, Cond.selects RX7 yX7_layAhead yX7_layAhead, Cond.code yX7_layAhead cX7_layAhead 6 none, Cond.fieldLink RX7 96 "TrainedSegmentsModel" "ahead" "I", Cond.fieldLink RX7 25 "TrainedSegmentsModel" "pieceLong" "[I", Cond.fieldLink RX7 28 "TrainedSegmentsModel" "bytesOf" "[I", Cond.fieldLink RX7 41 "TrainedSegmentsModel" "row" "[I"]
def wsX7_size_r2 : List Cond := [Cond.fieldLink RX7 31 "TrainedSegmentsModel" "dictionary" "[I", Cond.methodLink RX7 99 yX7_pieceAt, Cond.instanceMethod yX7_pieceAt, Cond.selects RX7 yX7_pieceAt yX7_pieceAt, Cond.code yX7_pieceAt cX7_pieceAt 5 (some .int), Cond.methodLink RX7 114 yX7_laySample, Cond.instanceMethod yX7_laySample, Cond.selects RX7 yX7_laySample yX7_laySample, Cond.code yX7_laySample cX7_laySample 3 none, Cond.fieldLink RX7 13 "TrainedSegmentsModel" "sampleLong" "[I", Cond.fieldLink RX7 103 "TrainedSegmentsModel" "textLong" "I", Cond.fieldLink RX7 16 "TrainedSegmentsModel" "sampleByte" "[I", Cond.methodLink RX7 117 yX7_packedLong, Cond.instanceMethod yX7_packedLong, Cond.selects RX7 yX7_packedLong yX7_packedLong, Cond.code yX7_packedLong cX7_packedLong 5 (some .int), Cond.fieldLink RX7 44 "TrainedSegmentsModel" "cost" "[I", Cond.fieldLink RX7 47 "TrainedSegmentsModel" "leastD" "[I", Cond.methodLink RX7 106 yX7_findMatches, Cond.instanceMethod yX7_findMatches, Cond.selects RX7 yX7_findMatches yX7_findMatches, Cond.code yX7_findMatches cX7_findMatches 5 none]
def wsX7_size : List Cond := .code yX7_size cX7_size 3 (some .int) :: ((wsX7_size_r1 ++ wsX7_size_r2) ++ wsX70 ++ (vx_atN 8).filter goodWord ++ (vx_atM "java/lang/ArrayIndexOutOfBoundsException" ["java/lang/IndexOutOfBoundsException", "java/lang/RuntimeException", "java/lang/Exception"]).filter goodWord)
def wsX7_best_r1 : List Cond := [Cond.fieldLink RX7 60 "TrainedSegmentsModel" "thrown" "I", Cond.fieldLink RX7 71 "TrainedSegmentsModel" "samples" "I", Cond.methodLink RX7 65 yX7_in, Cond.static yX7_in, Cond.initialized RX7, Cond.code yX7_in cX7_in 6 (some .boolean), Cond.methodLink RX7 121 yX7_sizeOf, Cond.instanceMethod yX7_sizeOf, Cond.selects RX7 yX7_sizeOf yX7_sizeOf, Cond.code yX7_sizeOf cX7_sizeOf 4 (some .int), Cond.methodLink RX7 110 yX7_layAhead, Cond.instanceMethod yX7_layAhead, Cond.selects RX7 yX7_layAhead yX7_layAhead, Cond.code yX7_layAhead cX7_layAhead 6 none, Cond.fieldLink RX7 96 "TrainedSegmentsModel" "ahead" "I", Cond.fieldLink RX7 25 "TrainedSegmentsModel" "pieceLong" "[I", Cond.fieldLink RX7 28 "TrainedSegmentsModel" "bytesOf" "[I", Cond.fieldLink RX7 41 "TrainedSegmentsModel" "row" "[I", Cond.fieldLink RX7 31 "TrainedSegmentsModel" "dictionary" "[I", Cond.methodLink RX7 99 yX7_pieceAt, Cond.instanceMethod yX7_pieceAt, Cond.selects RX7 yX7_pieceAt yX7_pieceAt, Cond.code yX7_pieceAt cX7_pieceAt 5 (some .int), Cond.methodLink RX7 114 yX7_laySample]
def wsX7_best_r2 : List Cond := [Cond.instanceMethod yX7_laySample, Cond.selects RX7 yX7_laySample yX7_laySample, Cond.code yX7_laySample cX7_laySample 3 none, Cond.fieldLink RX7 13 "TrainedSegmentsModel" "sampleLong" "[I", Cond.fieldLink RX7 103 "TrainedSegmentsModel" "textLong" "I", Cond.fieldLink RX7 16 "TrainedSegmentsModel" "sampleByte" "[I", Cond.methodLink RX7 117 yX7_packedLong, Cond.instanceMethod yX7_packedLong, Cond.selects RX7 yX7_packedLong yX7_packedLong, Cond.code yX7_packedLong cX7_packedLong 5 (some .int), Cond.fieldLink RX7 44 "TrainedSegmentsModel" "cost" "[I", Cond.fieldLink RX7 47 "TrainedSegmentsModel" "leastD" "[I", Cond.methodLink RX7 106 yX7_findMatches, Cond.instanceMethod yX7_findMatches, Cond.selects RX7 yX7_findMatches yX7_findMatches, Cond.code yX7_findMatches cX7_findMatches 5 none, Cond.methodLink RX7 125 yX7_isThere, Cond.instanceMethod yX7_isThere, Cond.selects RX7 yX7_isThere yX7_isThere, Cond.code yX7_isThere cX7_isThere 2 (some .boolean), Cond.constantLong RX7 81 (5), Cond.fieldLink RX7 19 "TrainedSegmentsModel" "idOf" "[I"]
def wsX7_best : List Cond := .code yX7_best cX7_best 6 (some .int) :: ((wsX7_best_r1 ++ wsX7_best_r2) ++ wsX70 ++ (vx_atN 8).filter goodWord ++ (vx_atM "java/lang/ArrayIndexOutOfBoundsException" ["java/lang/IndexOutOfBoundsException", "java/lang/RuntimeException", "java/lang/Exception"]).filter goodWord)
def wsX7_share_r1 : List Cond := [Cond.fieldLink RX7 60 "TrainedSegmentsModel" "thrown" "I", Cond.fieldLink RX7 71 "TrainedSegmentsModel" "samples" "I", Cond.methodLink RX7 125 yX7_isThere, Cond.instanceMethod yX7_isThere, Cond.selects RX7 yX7_isThere yX7_isThere, Cond.initialized RX7, Cond.code yX7_isThere cX7_isThere 2 (some .boolean), Cond.constantLong RX7 81 (5), Cond.fieldLink RX7 19 "TrainedSegmentsModel" "idOf" "[I", Cond.methodLink RX7 65 yX7_in, Cond.static yX7_in, Cond.code yX7_in cX7_in 6 (some .boolean), Cond.methodLink RX7 129 yX7_sizeOfAll, Cond.instanceMethod yX7_sizeOfAll, Cond.selects RX7 yX7_sizeOfAll yX7_sizeOfAll, Cond.code yX7_sizeOfAll cX7_sizeOfAll 5 (some .int), Cond.methodLink RX7 121 yX7_sizeOf, Cond.instanceMethod yX7_sizeOf, Cond.selects RX7 yX7_sizeOf yX7_sizeOf, Cond.code yX7_sizeOf cX7_sizeOf 4 (some .int), Cond.methodLink RX7 110 yX7_layAhead, Cond.instanceMethod yX7_layAhead, Cond.selects RX7 yX7_layAhead yX7_layAhead, Cond.code yX7_layAhead cX7_layAhead 6 none]
def wsX7_share_r2 : List Cond := [Cond.fieldLink RX7 96 "TrainedSegmentsModel" "ahead" "I", Cond.fieldLink RX7 25 "TrainedSegmentsModel" "pieceLong" "[I", Cond.fieldLink RX7 28 "TrainedSegmentsModel" "bytesOf" "[I", Cond.fieldLink RX7 41 "TrainedSegmentsModel" "row" "[I", Cond.fieldLink RX7 31 "TrainedSegmentsModel" "dictionary" "[I", Cond.methodLink RX7 99 yX7_pieceAt, Cond.instanceMethod yX7_pieceAt, Cond.selects RX7 yX7_pieceAt yX7_pieceAt, Cond.code yX7_pieceAt cX7_pieceAt 5 (some .int), Cond.methodLink RX7 114 yX7_laySample, Cond.instanceMethod yX7_laySample, Cond.selects RX7 yX7_laySample yX7_laySample, Cond.code yX7_laySample cX7_laySample 3 none, Cond.fieldLink RX7 13 "TrainedSegmentsModel" "sampleLong" "[I", Cond.fieldLink RX7 103 "TrainedSegmentsModel" "textLong" "I", Cond.fieldLink RX7 16 "TrainedSegmentsModel" "sampleByte" "[I", Cond.methodLink RX7 117 yX7_packedLong, Cond.instanceMethod yX7_packedLong, Cond.selects RX7 yX7_packedLong yX7_packedLong, Cond.code yX7_packedLong cX7_packedLong 5 (some .int), Cond.fieldLink RX7 44 "TrainedSegmentsModel" "cost" "[I", Cond.fieldLink RX7 47 "TrainedSegmentsModel" "leastD" "[I", Cond.methodLink RX7 106 yX7_findMatches, Cond.instanceMethod yX7_findMatches]
def wsX7_share_r3 : List Cond := [Cond.selects RX7 yX7_findMatches yX7_findMatches, Cond.code yX7_findMatches cX7_findMatches 5 none]
def wsX7_share : List Cond := .code yX7_share cX7_share 3 (some .int) :: ((wsX7_share_r1 ++ (wsX7_share_r2 ++ wsX7_share_r3)) ++ wsX70 ++ (vx_atN 8).filter goodWord ++ (vx_atM "java/lang/ArithmeticException" ["java/lang/RuntimeException", "java/lang/Exception"]).filter goodWord ++ (vx_atM "java/lang/ArrayIndexOutOfBoundsException" ["java/lang/IndexOutOfBoundsException", "java/lang/RuntimeException", "java/lang/Exception"]).filter goodWord)
def wsX7_about : List Cond := .code yX7_about cX7_about 4 (some .int) :: ([.fieldLink RX7 60 "TrainedSegmentsModel" "thrown" "I", .fieldLink RX7 19 "TrainedSegmentsModel" "idOf" "[I", .fieldLink RX7 56 "TrainedSegmentsModel" "taped" "I", .fieldLink RX7 71 "TrainedSegmentsModel" "samples" "I", .fieldLink RX7 141 "TrainedSegmentsModel" "outMany" "I", .fieldLink RX7 162 "TrainedSegmentsModel" "textMany" "I", .fieldLink RX7 150 "TrainedSegmentsModel" "items" "I", .fieldLink RX7 147 "TrainedSegmentsModel" "matches" "I"] ++ wsX70 ++ (vx_atM "java/lang/ArrayIndexOutOfBoundsException" ["java/lang/IndexOutOfBoundsException", "java/lang/RuntimeException", "java/lang/Exception"]).filter goodWord ++ (vx_atN 8).filter goodWord)
def wsJx00060_init_a7421 : List Cond := .code yJx00060_init_a7421 cJx00060_init_a7421 2 none :: ([])
def wsJ9_abs_0f7a4 : List Cond := .code yJ9_abs_0f7a4 cJ9_abs_0f7a4 1 (some .int) :: ([])
def wsJ9_max_7cf53 : List Cond := .code yJ9_max_7cf53 cJ9_max_7cf53 2 (some .int) :: ([])
def wsJ9_min_7cf53 : List Cond := .code yJ9_min_7cf53 cJ9_min_7cf53 2 (some .int) :: ([])
def wsJx5d777_init_da8c8 : List Cond := .code yJx5d777_init_da8c8 cJx5d777_init_da8c8 1 none :: ([])
def wsJx5d777_init_a7421 : List Cond := .code yJx5d777_init_a7421 cJx5d777_init_a7421 2 none :: ([])
def wsJx5d777_fillInStackTrace_cddbd : List Cond := .code yJx5d777_fillInStackTrace_cddbd cJx5d777_fillInStackTrace_cddbd 1 (some (.object "java/lang/Throwable")) :: ([.fieldLink RJx5d777 10 "java/lang/NullPointerException" "extendedMessageState" "I", .fieldLink RJx5d777 20 "java/lang/NullPointerException" "extendedMessage" "Ljava/lang/String;"] ++ wsJx5d7770)
def wsL_content_r1 : List Cond := [Cond.classLink RL 13 "java/lang/NullPointerException", Cond.classLink RL 15 "java/lang/ArrayIndexOutOfBoundsException", Cond.methodLink RL 7 yX6_content, Cond.instanceMethod yX6_content, Cond.selects RX6 yX6_content yX6_content, Cond.initialized RX6, Cond.code yX6_content cX6_content 4 (some .byte), Cond.classLink RX6 138 RJx00060, Cond.instantiable RJx00060 6, Cond.initialized RJx00060, Cond.classLink RX6 145 RJx5d777, Cond.instantiable RJx5d777 8, Cond.initialized RJx5d777, Cond.methodLink RX6 89 yX6_isNumber, Cond.static yX6_isNumber, Cond.code yX6_isNumber cX6_isNumber 1 (some .boolean), Cond.methodLink RX6 121 yX6_thereAt, Cond.instanceMethod yX6_thereAt, Cond.selects RX6 yX6_thereAt yX6_thereAt, Cond.code yX6_thereAt cX6_thereAt 2 (some (.object "TrainedSegments$Dictionary")), Cond.fieldLink RX6 24 "TrainedSegments" "dictionaries" "[LTrainedSegments$Dictionary;", Cond.methodLink RX6 196 yX0_isThere, Cond.instanceMethod yX0_isThere, Cond.selects RX0 yX0_isThere yX0_isThere]
def wsL_content_r2 : List Cond := [Cond.initialized RX0, Cond.code yX0_isThere cX0_isThere 1 (some .boolean), Cond.fieldLink RX0 20 "TrainedSegments$Dictionary" "id" "I", Cond.methodLink RX6 117 yX0_words, Cond.instanceMethod yX0_words, Cond.selects RX0 yX0_words yX0_words, Cond.code yX0_words cX0_words 1 (some (.object "TrainedSegments$Row")), Cond.fieldLink RX0 14 "TrainedSegments$Dictionary" "words" "LTrainedSegments$Row;", Cond.methodLink RX6 150 yX4_has, Cond.instanceMethod yX4_has, Cond.selects RX4 yX4_has yX4_has, Cond.initialized RX4, Cond.code yX4_has cX4_has 2 (some .boolean), Cond.fieldLink RX4 19 "TrainedSegments$Row" "length" "I", Cond.methodLink RX6 155 yX4_signedAt, Cond.instanceMethod yX4_signedAt, Cond.selects RX4 yX4_signedAt yX4_signedAt, Cond.code yX4_signedAt cX4_signedAt 2 (some .byte), Cond.fieldLink RX4 13 "TrainedSegments$Row" "bytes" "[B", Cond.methodLink RX4 23 yX4_has]
def wsL_content : List Cond := .codeWith yL_content cL_content 5 (some .int) [(0, 10, 13, 13), (0, 10, 17, 15)] :: ((wsL_content_r1 ++ wsL_content_r2) ++ wsJx000600 ++ wsJx5d7770 ++ wsX60 ++ wsX00 ++ wsX40 ++ (vx_atN 8).filter goodWord ++ (vx_atM "java/lang/ArrayIndexOutOfBoundsException" ["java/lang/IndexOutOfBoundsException", "java/lang/RuntimeException", "java/lang/Exception"]).filter goodWord)
def wsL_out_r1 : List Cond := [Cond.classLink RL 15 "java/lang/ArrayIndexOutOfBoundsException", Cond.methodLink RL 17 yX6_out, Cond.instanceMethod yX6_out, Cond.selects RX6 yX6_out yX6_out, Cond.initialized RX6, Cond.code yX6_out cX6_out 2 (some .int), Cond.fieldLink RX6 42 "TrainedSegments" "output" "LTrainedSegments$Output;", Cond.classLink RX6 138 RJx00060, Cond.instantiable RJx00060 6, Cond.initialized RJx00060, Cond.methodLink RX6 173 yX2_bytes, Cond.instanceMethod yX2_bytes, Cond.selects RX2 yX2_bytes yX2_bytes, Cond.initialized RX2, Cond.code yX2_bytes cX2_bytes 1 (some (.object "TrainedSegments$Row")), Cond.fieldLink RX2 14 "TrainedSegments$Output" "bytes" "LTrainedSegments$Row;", Cond.methodLink RX6 150 yX4_has, Cond.instanceMethod yX4_has, Cond.selects RX4 yX4_has yX4_has, Cond.initialized RX4, Cond.code yX4_has cX4_has 2 (some .boolean), Cond.fieldLink RX4 19 "TrainedSegments$Row" "length" "I", Cond.methodLink RX6 178 yX4_at, Cond.instanceMethod yX4_at]
def wsL_out_r2 : List Cond := [Cond.selects RX4 yX4_at yX4_at, Cond.code yX4_at cX4_at 2 (some .int), Cond.methodLink RX4 27 yX4_signedAt, Cond.instanceMethod yX4_signedAt, Cond.selects RX4 yX4_signedAt yX4_signedAt, Cond.code yX4_signedAt cX4_signedAt 2 (some .byte), Cond.fieldLink RX4 13 "TrainedSegments$Row" "bytes" "[B", Cond.methodLink RX4 23 yX4_has]
def wsL_out : List Cond := .codeWith yL_out cL_out 4 (some .int) [(0, 9, 12, 15)] :: ((wsL_out_r1 ++ wsL_out_r2) ++ wsX60 ++ wsJx000600 ++ wsX20 ++ wsX40 ++ (vx_atN 8).filter goodWord ++ (vx_atM "java/lang/ArrayIndexOutOfBoundsException" ["java/lang/IndexOutOfBoundsException", "java/lang/RuntimeException", "java/lang/Exception"]).filter goodWord)
def wsL_text_r1 : List Cond := [Cond.classLink RL 15 "java/lang/ArrayIndexOutOfBoundsException", Cond.methodLink RL 21 yX6_text, Cond.instanceMethod yX6_text, Cond.selects RX6 yX6_text yX6_text, Cond.initialized RX6, Cond.code yX6_text cX6_text 2 (some .int), Cond.fieldLink RX6 36 "TrainedSegments" "opened" "LTrainedSegments$Row;", Cond.classLink RX6 138 RJx00060, Cond.instantiable RJx00060 6, Cond.initialized RJx00060, Cond.methodLink RX6 150 yX4_has, Cond.instanceMethod yX4_has, Cond.selects RX4 yX4_has yX4_has, Cond.initialized RX4, Cond.code yX4_has cX4_has 2 (some .boolean), Cond.fieldLink RX4 19 "TrainedSegments$Row" "length" "I", Cond.methodLink RX6 178 yX4_at, Cond.instanceMethod yX4_at, Cond.selects RX4 yX4_at yX4_at, Cond.code yX4_at cX4_at 2 (some .int), Cond.methodLink RX4 27 yX4_signedAt, Cond.instanceMethod yX4_signedAt, Cond.selects RX4 yX4_signedAt yX4_signedAt, Cond.code yX4_signedAt cX4_signedAt 2 (some .byte)]
def wsL_text_r2 : List Cond := [Cond.fieldLink RX4 13 "TrainedSegments$Row" "bytes" "[B", Cond.methodLink RX4 23 yX4_has]
def wsL_text : List Cond := .codeWith yL_text cL_text 4 (some .int) [(0, 9, 12, 15)] :: ((wsL_text_r1 ++ wsL_text_r2) ++ wsX60 ++ wsJx000600 ++ wsX40 ++ (vx_atN 8).filter goodWord ++ (vx_atM "java/lang/ArrayIndexOutOfBoundsException" ["java/lang/IndexOutOfBoundsException", "java/lang/RuntimeException", "java/lang/Exception"]).filter goodWord)
def wsL_share_r1 : List Cond := [Cond.classLink RL 27 "java/lang/ArithmeticException", Cond.methodLink RL 24 yX6_share, Cond.instanceMethod yX6_share, Cond.selects RX6 yX6_share yX6_share, Cond.initialized RX6, Cond.code yX6_share cX6_share 4 (some .int), Cond.classLink RX6 204 "java/lang/ArithmeticException", Cond.initialized "java/lang/ArithmeticException", Cond.fieldLink RX6 29 "TrainedSegments" "none" "LTrainedSegments$Dictionary;", Cond.methodLink RX6 121 yX6_thereAt, Cond.instanceMethod yX6_thereAt, Cond.selects RX6 yX6_thereAt yX6_thereAt, Cond.code yX6_thereAt cX6_thereAt 2 (some (.object "TrainedSegments$Dictionary")), Cond.fieldLink RX6 24 "TrainedSegments" "dictionaries" "[LTrainedSegments$Dictionary;", Cond.methodLink RX6 89 yX6_isNumber, Cond.static yX6_isNumber, Cond.code yX6_isNumber cX6_isNumber 1 (some .boolean), Cond.methodLink RX6 196 yX0_isThere, Cond.instanceMethod yX0_isThere, Cond.selects RX0 yX0_isThere yX0_isThere, Cond.initialized RX0, Cond.code yX0_isThere cX0_isThere 1 (some .boolean), Cond.fieldLink RX0 20 "TrainedSegments$Dictionary" "id" "I", Cond.methodLink RX6 117 yX0_words]
def wsL_share_r2 : List Cond := [Cond.instanceMethod yX0_words, Cond.selects RX0 yX0_words yX0_words, Cond.code yX0_words cX0_words 1 (some (.object "TrainedSegments$Row")), Cond.fieldLink RX0 14 "TrainedSegments$Dictionary" "words" "LTrainedSegments$Row;", Cond.methodLink RX6 200 yX6_bytesOfSamples, Cond.instanceMethod yX6_bytesOfSamples, Cond.selects RX6 yX6_bytesOfSamples yX6_bytesOfSamples, Cond.code yX6_bytesOfSamples cX6_bytesOfSamples 4 (some .int), Cond.fieldLink RX6 78 "TrainedSegments" "sampleCount" "I", Cond.fieldLink RX6 49 "TrainedSegments" "packer" "LTrainedSegments$Packer;", Cond.fieldLink RX6 18 "TrainedSegments" "samples" "[LTrainedSegments$Row;", Cond.methodLink RX6 162 yX3_measure, Cond.instanceMethod yX3_measure, Cond.selects RX3 yX3_measure yX3_measure, Cond.initialized RX3, Cond.code yX3_measure cX3_measure 4 (some .int), Cond.fieldLink RX3 9 "TrainedSegments$Packer" "joined" "[B", Cond.fieldLink RX3 34 "TrainedSegments$Packer" "start" "I", Cond.methodLink RX3 38 Lib.Math.min.name, Cond.static Lib.Math.min.name, Cond.initialized "java/lang/Math", Cond.code Lib.Math.min.name Lib.Math.min.code 2 (some .int), Cond.fieldLink RX3 44 "TrainedSegments$Packer" "length" "I", Cond.fieldLink RX3 22 "TrainedSegments$Packer" "cost" "[I"]
def wsL_share_r3 : List Cond := [Cond.constant RX3 52 (2147483647), Cond.methodLink RX3 28 yX4_copyTo, Cond.instanceMethod yX4_copyTo, Cond.selects RX4 yX4_copyTo yX4_copyTo, Cond.initialized RX4, Cond.code yX4_copyTo cX4_copyTo 5 (some .int), Cond.fieldLink RX4 19 "TrainedSegments$Row" "length" "I", Cond.methodLink RX4 42 Lib.Math.min.name, Cond.methodLink RX4 7 Lib.Math.max.name, Cond.static Lib.Math.max.name, Cond.code Lib.Math.max.name Lib.Math.max.code 2 (some .int), Cond.fieldLink RX4 13 "TrainedSegments$Row" "bytes" "[B", Cond.methodLink RX3 47 yX3_linkSameBytes, Cond.instanceMethod yX3_linkSameBytes, Cond.selects RX3 yX3_linkSameBytes yX3_linkSameBytes, Cond.code yX3_linkSameBytes cX3_linkSameBytes 3 none, Cond.fieldLink RX3 19 "TrainedSegments$Packer" "latest" "[I", Cond.fieldLink RX3 15 "TrainedSegments$Packer" "earlier" "[I", Cond.methodLink RX3 77 yJ7_fill_53178, Cond.static yJ7_fill_53178, Cond.initialized RJ7, Cond.code yJ7_fill_53178 cJ7_fill_53178 4 none, Cond.methodLink RX3 53 yX3_tryMatches, Cond.instanceMethod yX3_tryMatches]
def wsL_share_r4 : List Cond := [Cond.selects RX3 yX3_tryMatches yX3_tryMatches, Cond.code yX3_tryMatches cX3_tryMatches 3 none, Cond.fieldLink RX3 25 "TrainedSegments$Packer" "choice" "[I", Cond.methodLink RX3 83 yX3_longestMatch, Cond.instanceMethod yX3_longestMatch, Cond.selects RX3 yX3_longestMatch yX3_longestMatch, Cond.code yX3_longestMatch cX3_longestMatch 6 (some .int), Cond.methodLink RX3 90 Lib.Math.max.name, Cond.methodLink RX3 86 yX3_sameBytes, Cond.instanceMethod yX3_sameBytes, Cond.selects RX3 yX3_sameBytes yX3_sameBytes, Cond.code yX3_sameBytes cX3_sameBytes 5 (some .int), Cond.methodLink RX3 57 yX3_tryPlain, Cond.instanceMethod yX3_tryPlain, Cond.selects RX3 yX3_tryPlain yX3_tryPlain, Cond.code yX3_tryPlain cX3_tryPlain 3 none]
def wsL_share : List Cond := .codeWith yL_share cL_share 4 (some .int) [(0, 9, 12, 27)] :: ((wsL_share_r1 ++ (wsL_share_r2 ++ (wsL_share_r3 ++ wsL_share_r4))) ++ wsX60 ++ wsX00 ++ wsX30 ++ wsX40 ++ (vx_atN 8).filter goodWord ++ (vx_atM "java/lang/ArrayIndexOutOfBoundsException" ["java/lang/IndexOutOfBoundsException", "java/lang/RuntimeException", "java/lang/Exception"]).filter goodWord ++ (vx_atS RX6 208 "java/lang/ArithmeticException" ["java/lang/RuntimeException", "java/lang/Exception"]).filter goodWord ++ (vx_atM "java/lang/ArithmeticException" ["java/lang/RuntimeException", "java/lang/Exception"]).filter goodWord)
def wsL_law0_r1 : List Cond := [Cond.classLink RL 8 RX6, Cond.instantiable RX6 11, Cond.initialized RX6, Cond.classLink RL 30 RX7, Cond.instantiable RX7 25, Cond.initialized RX7, Cond.arrayClass .long, Cond.constantLong RL 33 (4294967295), Cond.methodLink RL 29 yX6_init, Cond.instanceMethod yX6_init, Cond.code yX6_init cX6_init 2 none, Cond.methodLink RX6 3 objectInit, Cond.instanceMethod objectInit, Cond.code objectInit ⟨#[0xb1]⟩ 1 none, Cond.classLink RX6 9 RX4, Cond.instantiable RX4 2, Cond.initialized RX4, Cond.fieldLink RX6 14 "TrainedSegments" "tape" "LTrainedSegments$Row;", Cond.fieldLink RX6 18 "TrainedSegments" "samples" "[LTrainedSegments$Row;", Cond.classLink RX6 22 RX0, Cond.fieldLink RX6 24 "TrainedSegments" "dictionaries" "[LTrainedSegments$Dictionary;", Cond.instantiable RX0 4, Cond.initialized RX0, Cond.fieldLink RX6 29 "TrainedSegments" "none" "LTrainedSegments$Dictionary;"]
def wsL_law0_r2 : List Cond := [Cond.fieldLink RX6 33 "TrainedSegments" "trial" "LTrainedSegments$Row;", Cond.fieldLink RX6 36 "TrainedSegments" "opened" "LTrainedSegments$Row;", Cond.classLink RX6 39 RX2, Cond.instantiable RX2 3, Cond.initialized RX2, Cond.fieldLink RX6 42 "TrainedSegments" "output" "LTrainedSegments$Output;", Cond.classLink RX6 46 RX3, Cond.instantiable RX3 7, Cond.initialized RX3, Cond.fieldLink RX6 49 "TrainedSegments" "packer" "LTrainedSegments$Packer;", Cond.classLink RX6 53 RX5, Cond.instantiable RX5 8, Cond.initialized RX5, Cond.fieldLink RX6 56 "TrainedSegments" "trainer" "LTrainedSegments$Trainer;", Cond.classLink RX6 60 RX1, Cond.instantiable RX1 4, Cond.initialized RX1, Cond.fieldLink RX6 63 "TrainedSegments" "opener" "LTrainedSegments$Opener;", Cond.methodLink RX6 11 yX4_init, Cond.instanceMethod yX4_init, Cond.code yX4_init cX4_init 2 none, Cond.methodLink RX4 1 objectInit, Cond.methodLink RX4 7 Lib.Math.max.name, Cond.static Lib.Math.max.name]
def wsL_law0_r3 : List Cond := [Cond.initialized "java/lang/Math", Cond.code Lib.Math.max.name Lib.Math.max.code 2 (some .int), Cond.arrayClass .byte, Cond.fieldLink RX4 13 "TrainedSegments$Row" "bytes" "[B", Cond.methodLink RX6 28 yX0_init, Cond.instanceMethod yX0_init, Cond.code yX0_init cX0_init 1 none, Cond.methodLink RX0 3 objectInit, Cond.classLink RX0 9 RX4, Cond.fieldLink RX0 14 "TrainedSegments$Dictionary" "words" "LTrainedSegments$Row;", Cond.methodLink RX0 11 yX4_init, Cond.methodLink RX6 41 yX2_init, Cond.instanceMethod yX2_init, Cond.code yX2_init cX2_init 1 none, Cond.methodLink RX2 3 objectInit, Cond.classLink RX2 9 RX4, Cond.fieldLink RX2 14 "TrainedSegments$Output" "bytes" "LTrainedSegments$Row;", Cond.methodLink RX2 11 yX4_init, Cond.methodLink RX6 48 yX3_init, Cond.instanceMethod yX3_init, Cond.code yX3_init cX3_init 1 none, Cond.methodLink RX3 3 objectInit, Cond.fieldLink RX3 9 "TrainedSegments$Packer" "joined" "[B", Cond.arrayClass .int]
def wsL_law0_r4 : List Cond := [Cond.fieldLink RX3 15 "TrainedSegments$Packer" "earlier" "[I", Cond.fieldLink RX3 19 "TrainedSegments$Packer" "latest" "[I", Cond.fieldLink RX3 22 "TrainedSegments$Packer" "cost" "[I", Cond.fieldLink RX3 25 "TrainedSegments$Packer" "choice" "[I", Cond.methodLink RX6 55 yX5_init, Cond.instanceMethod yX5_init, Cond.code yX5_init cX5_init 1 none, Cond.methodLink RX5 3 objectInit, Cond.classLink RX5 9 RX4, Cond.fieldLink RX5 16 "TrainedSegments$Trainer" "places" "LTrainedSegments$Row;", Cond.arrayClass .boolean, Cond.fieldLink RX5 20 "TrainedSegments$Trainer" "covered" "[Z", Cond.fieldLink RX5 24 "TrainedSegments$Trainer" "kind" "[I", Cond.fieldLink RX5 28 "TrainedSegments$Trainer" "count" "[I", Cond.fieldLink RX5 31 "TrainedSegments$Trainer" "freeFrom" "[I", Cond.fieldLink RX5 34 "TrainedSegments$Trainer" "taken" "[I", Cond.methodLink RX5 13 yX4_init, Cond.methodLink RX6 62 yX1_init, Cond.instanceMethod yX1_init, Cond.code yX1_init cX1_init 1 none, Cond.methodLink RX1 3 objectInit, Cond.classLink RX1 9 RX4, Cond.fieldLink RX1 14 "TrainedSegments$Opener" "joined" "LTrainedSegments$Row;", Cond.methodLink RX1 11 yX4_init]
def wsL_law0_r5 : List Cond := [Cond.methodLink RL 32 yX7_init, Cond.instanceMethod yX7_init, Cond.code yX7_init cX7_init 1 none, Cond.methodLink RX7 1 objectInit, Cond.fieldLink RX7 7 "TrainedSegmentsModel" "tape" "[I", Cond.fieldLink RX7 13 "TrainedSegmentsModel" "sampleLong" "[I", Cond.fieldLink RX7 16 "TrainedSegmentsModel" "sampleByte" "[I", Cond.fieldLink RX7 19 "TrainedSegmentsModel" "idOf" "[I", Cond.fieldLink RX7 22 "TrainedSegmentsModel" "pieces" "[I", Cond.fieldLink RX7 25 "TrainedSegmentsModel" "pieceLong" "[I", Cond.fieldLink RX7 28 "TrainedSegmentsModel" "bytesOf" "[I", Cond.fieldLink RX7 31 "TrainedSegmentsModel" "dictionary" "[I", Cond.fieldLink RX7 34 "TrainedSegmentsModel" "covered" "[Z", Cond.fieldLink RX7 38 "TrainedSegmentsModel" "taken" "[I", Cond.fieldLink RX7 41 "TrainedSegmentsModel" "row" "[I", Cond.fieldLink RX7 44 "TrainedSegmentsModel" "cost" "[I", Cond.fieldLink RX7 47 "TrainedSegmentsModel" "leastD" "[I", Cond.fieldLink RX7 50 "TrainedSegmentsModel" "out" "[I", Cond.fieldLink RX7 53 "TrainedSegmentsModel" "text" "[I", Cond.fieldLink RX7 56 "TrainedSegmentsModel" "taped" "I", Cond.methodLink RL 35 yX6_feed, Cond.instanceMethod yX6_feed, Cond.selects RX6 yX6_feed yX6_feed, Cond.code yX6_feed cX6_feed 5 (some .int)]
def wsL_law0_r6 : List Cond := [Cond.methodLink RX6 67 yX4_hasRoom, Cond.instanceMethod yX4_hasRoom, Cond.selects RX4 yX4_hasRoom yX4_hasRoom, Cond.code yX4_hasRoom cX4_hasRoom 2 (some .boolean), Cond.fieldLink RX4 19 "TrainedSegments$Row" "length" "I", Cond.methodLink RX6 71 yX4_add, Cond.instanceMethod yX4_add, Cond.selects RX4 yX4_add yX4_add, Cond.code yX4_add cX4_add 2 none, Cond.methodLink RX6 74 yX4_length, Cond.instanceMethod yX4_length, Cond.selects RX4 yX4_length yX4_length, Cond.code yX4_length cX4_length 1 (some .int), Cond.methodLink RL 39 yX7_feed, Cond.instanceMethod yX7_feed, Cond.selects RX7 yX7_feed yX7_feed, Cond.code yX7_feed cX7_feed 5 (some .int), Cond.fieldLink RX7 60 "TrainedSegmentsModel" "thrown" "I", Cond.constantLong RX7 63 (8), Cond.methodLink RX7 65 yX7_in, Cond.static yX7_in, Cond.code yX7_in cX7_in 6 (some .boolean), Cond.methodLink RL 40 yX6_sample, Cond.instanceMethod yX6_sample]
def wsL_law0_r7 : List Cond := [Cond.selects RX6 yX6_sample yX6_sample, Cond.code yX6_sample cX6_sample 2 (some .int), Cond.fieldLink RX6 78 "TrainedSegments" "sampleCount" "I", Cond.methodLink RX6 82 yX4_become, Cond.instanceMethod yX4_become, Cond.selects RX4 yX4_become yX4_become, Cond.code yX4_become cX4_become 2 none, Cond.methodLink RX4 35 yX4_clear, Cond.instanceMethod yX4_clear, Cond.selects RX4 yX4_clear yX4_clear, Cond.code yX4_clear cX4_clear 1 none, Cond.methodLink RX4 38 yX4_addFrom, Cond.instanceMethod yX4_addFrom, Cond.selects RX4 yX4_addFrom yX4_addFrom, Cond.code yX4_addFrom cX4_addFrom 5 none, Cond.methodLink RX4 27 yX4_signedAt, Cond.instanceMethod yX4_signedAt, Cond.selects RX4 yX4_signedAt yX4_signedAt, Cond.code yX4_signedAt cX4_signedAt 2 (some .byte), Cond.methodLink RX4 23 yX4_has, Cond.instanceMethod yX4_has, Cond.selects RX4 yX4_has yX4_has, Cond.code yX4_has cX4_has 2 (some .boolean), Cond.methodLink RX4 31 yX4_add]
def wsL_law0_r8 : List Cond := [Cond.methodLink RX6 86 yX4_clear, Cond.methodLink RL 44 yX7_sample, Cond.instanceMethod yX7_sample, Cond.selects RX7 yX7_sample yX7_sample, Cond.code yX7_sample cX7_sample 2 (some .int), Cond.constantLong RX7 69 (40), Cond.fieldLink RX7 71 "TrainedSegmentsModel" "samples" "I", Cond.methodLink RL 45 yX6_forget, Cond.instanceMethod yX6_forget, Cond.selects RX6 yX6_forget yX6_forget, Cond.code yX6_forget cX6_forget 2 (some .int), Cond.methodLink RL 48 yX7_forget, Cond.instanceMethod yX7_forget, Cond.selects RX7 yX7_forget yX7_forget, Cond.code yX7_forget cX7_forget 2 (some .int), Cond.methodLink RL 49 yX6_train, Cond.instanceMethod yX6_train, Cond.selects RX6 yX6_train yX6_train, Cond.code yX6_train cX6_train 6 (some .int), Cond.methodLink RX6 89 yX6_isNumber, Cond.static yX6_isNumber, Cond.code yX6_isNumber cX6_isNumber 1 (some .boolean), Cond.methodLink RX6 92 yX6_isId, Cond.static yX6_isId]
def wsL_law0_r9 : List Cond := [Cond.code yX6_isId cX6_isId 1 (some .boolean), Cond.methodLink RX6 95 yX5_load, Cond.instanceMethod yX5_load, Cond.selects RX5 yX5_load yX5_load, Cond.code yX5_load cX5_load 5 none, Cond.fieldLink RX5 37 "TrainedSegments$Trainer" "n" "I", Cond.fieldLink RX5 41 "TrainedSegments$Trainer" "takenCount" "I", Cond.methodLink RX5 44 yX4_clear, Cond.methodLink RX5 47 yX5_coverFrom, Cond.instanceMethod yX5_coverFrom, Cond.selects RX5 yX5_coverFrom yX5_coverFrom, Cond.code yX5_coverFrom cX5_coverFrom 5 none, Cond.methodLink RX5 51 yJ7_fill_53178, Cond.static yJ7_fill_53178, Cond.initialized RJ7, Cond.code yJ7_fill_53178 cJ7_fill_53178 4 none, Cond.methodLink RX5 57 yX4_addFrom, Cond.methodLink RX5 61 yX4_length, Cond.methodLink RX5 65 yX5_markKinds, Cond.instanceMethod yX5_markKinds, Cond.selects RX5 yX5_markKinds yX5_markKinds, Cond.code yX5_markKinds cX5_markKinds 4 none, Cond.methodLink RX5 84 yX5_firstSameRow, Cond.instanceMethod yX5_firstSameRow]
def wsL_law0_r10 : List Cond := [Cond.selects RX5 yX5_firstSameRow yX5_firstSameRow, Cond.code yX5_firstSameRow cX5_firstSameRow 3 (some .int), Cond.methodLink RX5 88 yX5_isSameRow, Cond.instanceMethod yX5_isSameRow, Cond.selects RX5 yX5_isSameRow yX5_isSameRow, Cond.code yX5_isSameRow cX5_isSameRow 4 (some .boolean), Cond.methodLink RX5 92 yX4_signedAt, Cond.methodLink RX6 99 yX5_takeRows, Cond.instanceMethod yX5_takeRows, Cond.selects RX5 yX5_takeRows yX5_takeRows, Cond.code yX5_takeRows cX5_takeRows 3 none, Cond.methodLink RX5 69 yX5_countRows, Cond.instanceMethod yX5_countRows, Cond.selects RX5 yX5_countRows yX5_countRows, Cond.code yX5_countRows cX5_countRows 2 none, Cond.methodLink RX5 96 yX5_isFreeRow, Cond.instanceMethod yX5_isFreeRow, Cond.selects RX5 yX5_isFreeRow yX5_isFreeRow, Cond.code yX5_isFreeRow cX5_isFreeRow 3 (some .boolean), Cond.methodLink RX5 72 yX5_placeOfMost, Cond.instanceMethod yX5_placeOfMost, Cond.selects RX5 yX5_placeOfMost yX5_placeOfMost, Cond.code yX5_placeOfMost cX5_placeOfMost 4 (some .int), Cond.methodLink RX5 75 yX5_cover]
def wsL_law0_r11 : List Cond := [Cond.instanceMethod yX5_cover, Cond.selects RX5 yX5_cover yX5_cover, Cond.code yX5_cover cX5_cover 3 none, Cond.methodLink RX6 102 yX0_begin, Cond.instanceMethod yX0_begin, Cond.selects RX0 yX0_begin yX0_begin, Cond.code yX0_begin cX0_begin 3 none, Cond.fieldLink RX0 20 "TrainedSegments$Dictionary" "id" "I", Cond.fieldLink RX0 27 "TrainedSegments$Dictionary" "pieceLength" "I", Cond.fieldLink RX0 24 "TrainedSegments$Dictionary" "pieces" "I", Cond.methodLink RX0 34 yX4_clear, Cond.methodLink RX6 106 yX5_handOver, Cond.instanceMethod yX5_handOver, Cond.selects RX5 yX5_handOver yX5_handOver, Cond.code yX5_handOver cX5_handOver 3 none, Cond.methodLink RX5 78 yX0_addPiece, Cond.instanceMethod yX0_addPiece, Cond.selects RX0 yX0_addPiece yX0_addPiece, Cond.code yX0_addPiece cX0_addPiece 3 none, Cond.methodLink RX0 37 yX4_hasRoom, Cond.methodLink RX0 41 yX4_addFrom, Cond.methodLink RX6 110 yX0_pieces, Cond.instanceMethod yX0_pieces, Cond.selects RX0 yX0_pieces yX0_pieces]
def wsL_law0_r12 : List Cond := [Cond.code yX0_pieces cX0_pieces 1 (some .int), Cond.methodLink RL 53 yX7_train, Cond.instanceMethod yX7_train, Cond.selects RX7 yX7_train yX7_train, Cond.code yX7_train cX7_train 11 (some .int), Cond.constantLong RX7 81 (5), Cond.constantLong RX7 83 (255), Cond.constantLong RX7 85 (2), Cond.constantLong RX7 87 (80), Cond.fieldLink RX7 89 "TrainedSegmentsModel" "takenMany" "I", Cond.methodLink RX7 78 yX7_isOpen, Cond.instanceMethod yX7_isOpen, Cond.selects RX7 yX7_isOpen yX7_isOpen, Cond.code yX7_isOpen cX7_isOpen 6 (some .boolean), Cond.methodLink RX7 92 yX7_counted, Cond.instanceMethod yX7_counted, Cond.selects RX7 yX7_counted yX7_counted, Cond.code yX7_counted cX7_counted 8 (some .int), Cond.methodLink RX7 74 yX7_areAlike, Cond.instanceMethod yX7_areAlike, Cond.selects RX7 yX7_areAlike yX7_areAlike, Cond.code yX7_areAlike cX7_areAlike 6 (some .boolean), Cond.methodLink RL 54 yX6_give, Cond.instanceMethod yX6_give]
def wsL_law0_r13 : List Cond := [Cond.selects RX6 yX6_give yX6_give, Cond.code yX6_give cX6_give 4 (some .int), Cond.methodLink RX6 113 yX0_addPiece, Cond.methodLink RX6 117 yX0_words, Cond.instanceMethod yX0_words, Cond.selects RX0 yX0_words yX0_words, Cond.code yX0_words cX0_words 1 (some (.object "TrainedSegments$Row")), Cond.methodLink RL 58 yX7_give, Cond.instanceMethod yX7_give, Cond.selects RX7 yX7_give yX7_give, Cond.code yX7_give cX7_give 4 (some .int), Cond.methodLink RL 59 yX6_trim, Cond.instanceMethod yX6_trim, Cond.selects RX6 yX6_trim yX6_trim, Cond.code yX6_trim cX6_trim 3 (some .int), Cond.methodLink RX6 121 yX6_thereAt, Cond.instanceMethod yX6_thereAt, Cond.selects RX6 yX6_thereAt yX6_thereAt, Cond.code yX6_thereAt cX6_thereAt 2 (some (.object "TrainedSegments$Dictionary")), Cond.methodLink RX6 196 yX0_isThere, Cond.instanceMethod yX0_isThere, Cond.selects RX0 yX0_isThere yX0_isThere, Cond.code yX0_isThere cX0_isThere 1 (some .boolean), Cond.methodLink RX6 125 yX6_leaveOutIdlePieces]
def wsL_law0_r14 : List Cond := [Cond.instanceMethod yX6_leaveOutIdlePieces, Cond.selects RX6 yX6_leaveOutIdlePieces yX6_leaveOutIdlePieces, Cond.code yX6_leaveOutIdlePieces cX6_leaveOutIdlePieces 7 (some .int), Cond.methodLink RX6 200 yX6_bytesOfSamples, Cond.instanceMethod yX6_bytesOfSamples, Cond.selects RX6 yX6_bytesOfSamples yX6_bytesOfSamples, Cond.code yX6_bytesOfSamples cX6_bytesOfSamples 4 (some .int), Cond.methodLink RX6 162 yX3_measure, Cond.instanceMethod yX3_measure, Cond.selects RX3 yX3_measure yX3_measure, Cond.code yX3_measure cX3_measure 4 (some .int), Cond.fieldLink RX3 34 "TrainedSegments$Packer" "start" "I", Cond.methodLink RX3 38 Lib.Math.min.name, Cond.static Lib.Math.min.name, Cond.code Lib.Math.min.name Lib.Math.min.code 2 (some .int), Cond.fieldLink RX3 44 "TrainedSegments$Packer" "length" "I", Cond.constant RX3 52 (2147483647), Cond.methodLink RX3 28 yX4_copyTo, Cond.instanceMethod yX4_copyTo, Cond.selects RX4 yX4_copyTo yX4_copyTo, Cond.code yX4_copyTo cX4_copyTo 5 (some .int), Cond.methodLink RX4 42 Lib.Math.min.name, Cond.methodLink RX3 47 yX3_linkSameBytes, Cond.instanceMethod yX3_linkSameBytes]
def wsL_law0_r15 : List Cond := [Cond.selects RX3 yX3_linkSameBytes yX3_linkSameBytes, Cond.code yX3_linkSameBytes cX3_linkSameBytes 3 none, Cond.methodLink RX3 77 yJ7_fill_53178, Cond.methodLink RX3 53 yX3_tryMatches, Cond.instanceMethod yX3_tryMatches, Cond.selects RX3 yX3_tryMatches yX3_tryMatches, Cond.code yX3_tryMatches cX3_tryMatches 3 none, Cond.methodLink RX3 83 yX3_longestMatch, Cond.instanceMethod yX3_longestMatch, Cond.selects RX3 yX3_longestMatch yX3_longestMatch, Cond.code yX3_longestMatch cX3_longestMatch 6 (some .int), Cond.methodLink RX3 90 Lib.Math.max.name, Cond.methodLink RX3 86 yX3_sameBytes, Cond.instanceMethod yX3_sameBytes, Cond.selects RX3 yX3_sameBytes yX3_sameBytes, Cond.code yX3_sameBytes cX3_sameBytes 5 (some .int), Cond.methodLink RX3 57 yX3_tryPlain, Cond.instanceMethod yX3_tryPlain, Cond.selects RX3 yX3_tryPlain yX3_tryPlain, Cond.code yX3_tryPlain cX3_tryPlain 3 none, Cond.methodLink RX6 218 yX0_copyWithout, Cond.instanceMethod yX0_copyWithout, Cond.selects RX0 yX0_copyWithout yX0_copyWithout, Cond.code yX0_copyWithout cX0_copyWithout 3 none]
def wsL_law0_r16 : List Cond := [Cond.methodLink RX0 45 yX4_become, Cond.methodLink RX0 49 yX4_cutOut, Cond.instanceMethod yX4_cutOut, Cond.selects RX4 yX4_cutOut yX4_cutOut, Cond.code yX4_cutOut cX4_cutOut 5 none, Cond.methodLink RX6 222 yX0_removePiece, Cond.instanceMethod yX0_removePiece, Cond.selects RX0 yX0_removePiece yX0_removePiece, Cond.code yX0_removePiece cX0_removePiece 2 none, Cond.methodLink RL 62 yX7_trim, Cond.instanceMethod yX7_trim, Cond.selects RX7 yX7_trim yX7_trim, Cond.code yX7_trim cX7_trim 4 (some .int), Cond.methodLink RX7 125 yX7_isThere, Cond.instanceMethod yX7_isThere, Cond.selects RX7 yX7_isThere yX7_isThere, Cond.code yX7_isThere cX7_isThere 2 (some .boolean), Cond.methodLink RX7 129 yX7_sizeOfAll, Cond.instanceMethod yX7_sizeOfAll, Cond.selects RX7 yX7_sizeOfAll yX7_sizeOfAll, Cond.code yX7_sizeOfAll cX7_sizeOfAll 5 (some .int), Cond.methodLink RX7 121 yX7_sizeOf, Cond.instanceMethod yX7_sizeOf, Cond.selects RX7 yX7_sizeOf yX7_sizeOf]
def wsL_law0_r17 : List Cond := [Cond.code yX7_sizeOf cX7_sizeOf 4 (some .int), Cond.methodLink RX7 110 yX7_layAhead, Cond.instanceMethod yX7_layAhead, Cond.selects RX7 yX7_layAhead yX7_layAhead, Cond.code yX7_layAhead cX7_layAhead 6 none, Cond.fieldLink RX7 96 "TrainedSegmentsModel" "ahead" "I", Cond.methodLink RX7 99 yX7_pieceAt, Cond.instanceMethod yX7_pieceAt, Cond.selects RX7 yX7_pieceAt yX7_pieceAt, Cond.code yX7_pieceAt cX7_pieceAt 5 (some .int), Cond.methodLink RX7 114 yX7_laySample, Cond.instanceMethod yX7_laySample, Cond.selects RX7 yX7_laySample yX7_laySample, Cond.code yX7_laySample cX7_laySample 3 none, Cond.fieldLink RX7 103 "TrainedSegmentsModel" "textLong" "I", Cond.methodLink RX7 117 yX7_packedLong, Cond.instanceMethod yX7_packedLong, Cond.selects RX7 yX7_packedLong yX7_packedLong, Cond.code yX7_packedLong cX7_packedLong 5 (some .int), Cond.methodLink RX7 106 yX7_findMatches, Cond.instanceMethod yX7_findMatches, Cond.selects RX7 yX7_findMatches yX7_findMatches, Cond.code yX7_findMatches cX7_findMatches 5 none, Cond.methodLink RX7 132 yX7_goes]
def wsL_law0_r18 : List Cond := [Cond.instanceMethod yX7_goes, Cond.selects RX7 yX7_goes yX7_goes, Cond.code yX7_goes cX7_goes 6 none, Cond.methodLink RL 63 yX6_drop, Cond.instanceMethod yX6_drop, Cond.selects RX6 yX6_drop yX6_drop, Cond.code yX6_drop cX6_drop 4 (some .int), Cond.methodLink RL 66 yX7_drop, Cond.instanceMethod yX7_drop, Cond.selects RX7 yX7_drop yX7_drop, Cond.code yX7_drop cX7_drop 2 (some .int), Cond.methodLink RL 67 yX6_told, Cond.instanceMethod yX6_told, Cond.selects RX6 yX6_told yX6_told, Cond.code yX6_told cX6_told 4 (some .int), Cond.methodLink RX6 129 yX0_id, Cond.instanceMethod yX0_id, Cond.selects RX0 yX0_id yX0_id, Cond.code yX0_id cX0_id 1 (some .int), Cond.methodLink RX6 132 yX0_sum, Cond.instanceMethod yX0_sum, Cond.selects RX0 yX0_sum yX0_sum, Cond.code yX0_sum cX0_sum 1 (some .int), Cond.methodLink RX0 30 yX4_sum]
def wsL_law0_r19 : List Cond := [Cond.instanceMethod yX4_sum, Cond.selects RX4 yX4_sum yX4_sum, Cond.code yX4_sum cX4_sum 4 (some .int), Cond.methodLink RX4 45 yX4_at, Cond.instanceMethod yX4_at, Cond.selects RX4 yX4_at yX4_at, Cond.code yX4_at cX4_at 2 (some .int), Cond.methodLink RX6 135 yX0_pieceLength, Cond.instanceMethod yX0_pieceLength, Cond.selects RX0 yX0_pieceLength yX0_pieceLength, Cond.code yX0_pieceLength cX0_pieceLength 1 (some .int), Cond.methodLink RL 70 yX7_told, Cond.instanceMethod yX7_told, Cond.selects RX7 yX7_told yX7_told, Cond.code yX7_told cX7_told 3 (some .int), Cond.constantLong RX7 139 (10), Cond.methodLink RX7 135 yX7_sumOf, Cond.instanceMethod yX7_sumOf, Cond.selects RX7 yX7_sumOf yX7_sumOf, Cond.code yX7_sumOf cX7_sumOf 5 (some .int), Cond.methodLink RL 71 yL_content, Cond.static yL_content, Cond.initialized RL, Cond.codeWith yL_content cL_content 5 (some .int) [(0, 10, 13, 13), (0, 10, 17, 15)]]
def wsL_law0_r20 : List Cond := [Cond.classLink RL 13 "java/lang/NullPointerException", Cond.classLink RL 15 "java/lang/ArrayIndexOutOfBoundsException", Cond.methodLink RL 7 yX6_content, Cond.instanceMethod yX6_content, Cond.selects RX6 yX6_content yX6_content, Cond.code yX6_content cX6_content 4 (some .byte), Cond.classLink RX6 138 RJx00060, Cond.instantiable RJx00060 6, Cond.initialized RJx00060, Cond.classLink RX6 145 RJx5d777, Cond.instantiable RJx5d777 8, Cond.initialized RJx5d777, Cond.methodLink RX6 150 yX4_has, Cond.methodLink RX6 155 yX4_signedAt, Cond.methodLink RL 76 yX7_content, Cond.instanceMethod yX7_content, Cond.selects RX7 yX7_content yX7_content, Cond.code yX7_content cX7_content 3 (some .byte), Cond.methodLink RL 77 yX7_thrown, Cond.instanceMethod yX7_thrown, Cond.selects RX7 yX7_thrown yX7_thrown, Cond.code yX7_thrown cX7_thrown 1 (some .int), Cond.methodLink RL 80 yX6_pack, Cond.instanceMethod yX6_pack]
def wsL_law0_r21 : List Cond := [Cond.selects RX6 yX6_pack yX6_pack, Cond.code yX6_pack cX6_pack 3 (some .int), Cond.methodLink RX6 159 yX6_noneOrThereAt, Cond.instanceMethod yX6_noneOrThereAt, Cond.selects RX6 yX6_noneOrThereAt yX6_noneOrThereAt, Cond.code yX6_noneOrThereAt cX6_noneOrThereAt 2 (some (.object "TrainedSegments$Dictionary")), Cond.methodLink RX6 166 yX2_begin, Cond.instanceMethod yX2_begin, Cond.selects RX2 yX2_begin yX2_begin, Cond.code yX2_begin cX2_begin 3 none, Cond.fieldLink RX2 20 "TrainedSegments$Output" "items" "I", Cond.fieldLink RX2 24 "TrainedSegments$Output" "matches" "I", Cond.methodLink RX2 27 yX4_clear, Cond.methodLink RX2 30 yX0_id, Cond.methodLink RX2 36 yX4_add, Cond.methodLink RX2 39 yX0_sum, Cond.methodLink RX6 169 yX3_write, Cond.instanceMethod yX3_write, Cond.selects RX3 yX3_write yX3_write, Cond.code yX3_write cX3_write 5 none, Cond.methodLink RX3 73 Lib.Math.abs.name, Cond.static Lib.Math.abs.name, Cond.code Lib.Math.abs.name Lib.Math.abs.code 1 (some .int), Cond.methodLink RX3 60 yX3_leastDistance]
def wsL_law0_r22 : List Cond := [Cond.instanceMethod yX3_leastDistance, Cond.selects RX3 yX3_leastDistance yX3_leastDistance, Cond.code yX3_leastDistance cX3_leastDistance 5 (some .int), Cond.methodLink RX3 63 yX2_addMatch, Cond.instanceMethod yX2_addMatch, Cond.selects RX2 yX2_addMatch yX2_addMatch, Cond.code yX2_addMatch cX2_addMatch 3 none, Cond.methodLink RX3 69 yX2_addPlain, Cond.instanceMethod yX2_addPlain, Cond.selects RX2 yX2_addPlain yX2_addPlain, Cond.code yX2_addPlain cX2_addPlain 5 none, Cond.methodLink RX6 173 yX2_bytes, Cond.instanceMethod yX2_bytes, Cond.selects RX2 yX2_bytes yX2_bytes, Cond.code yX2_bytes cX2_bytes 1 (some (.object "TrainedSegments$Row")), Cond.methodLink RL 83 yX7_pack, Cond.instanceMethod yX7_pack, Cond.selects RX7 yX7_pack yX7_pack, Cond.code yX7_pack cX7_pack 5 (some .int), Cond.fieldLink RX7 141 "TrainedSegmentsModel" "outMany" "I", Cond.fieldLink RX7 150 "TrainedSegmentsModel" "items" "I", Cond.fieldLink RX7 147 "TrainedSegmentsModel" "matches" "I", Cond.methodLink RX7 144 yX7_put, Cond.instanceMethod yX7_put]
def wsL_law0_r23 : List Cond := [Cond.selects RX7 yX7_put yX7_put, Cond.code yX7_put cX7_put 2 none, Cond.methodLink RX7 153 yX7_putItem, Cond.instanceMethod yX7_putItem, Cond.selects RX7 yX7_putItem yX7_putItem, Cond.code yX7_putItem cX7_putItem 4 (some .int), Cond.methodLink RL 84 yL_out, Cond.static yL_out, Cond.codeWith yL_out cL_out 4 (some .int) [(0, 9, 12, 15)], Cond.methodLink RL 17 yX6_out, Cond.instanceMethod yX6_out, Cond.selects RX6 yX6_out yX6_out, Cond.code yX6_out cX6_out 2 (some .int), Cond.methodLink RX6 178 yX4_at, Cond.methodLink RL 87 yX7_out, Cond.instanceMethod yX7_out, Cond.selects RX7 yX7_out yX7_out, Cond.code yX7_out cX7_out 2 (some .int), Cond.methodLink RL 88 yX6_open, Cond.instanceMethod yX6_open, Cond.selects RX6 yX6_open yX6_open, Cond.code yX6_open cX6_open 2 (some .int), Cond.methodLink RX6 182 yX6_firstWithId, Cond.instanceMethod yX6_firstWithId]
def wsL_law0_r24 : List Cond := [Cond.selects RX6 yX6_firstWithId yX6_firstWithId, Cond.code yX6_firstWithId cX6_firstWithId 3 (some (.object "TrainedSegments$Dictionary")), Cond.methodLink RX6 185 yX1_decode, Cond.instanceMethod yX1_decode, Cond.selects RX1 yX1_decode yX1_decode, Cond.code yX1_decode cX1_decode 5 (some .int), Cond.fieldLink RX1 38 "TrainedSegments$Opener" "start" "I", Cond.fieldLink RX1 46 "TrainedSegments$Opener" "wanted" "I", Cond.fieldLink RX1 49 "TrainedSegments$Opener" "place" "I", Cond.methodLink RX1 20 yX4_length, Cond.methodLink RX1 24 yX1_wrongInHeader, Cond.instanceMethod yX1_wrongInHeader, Cond.selects RX1 yX1_wrongInHeader yX1_wrongInHeader, Cond.code yX1_wrongInHeader cX1_wrongInHeader 3 (some .int), Cond.methodLink RX1 42 yX4_at, Cond.methodLink RX1 63 yX0_sum, Cond.methodLink RX1 28 yX0_words, Cond.methodLink RX1 34 yX4_become, Cond.methodLink RX1 52 yX1_readItem, Cond.instanceMethod yX1_readItem, Cond.selects RX1 yX1_readItem yX1_readItem, Cond.code yX1_readItem cX1_readItem 4 (some .int), Cond.methodLink RX1 66 yX1_readPlain, Cond.instanceMethod yX1_readPlain]
def wsL_law0_r25 : List Cond := [Cond.selects RX1 yX1_readPlain yX1_readPlain, Cond.code yX1_readPlain cX1_readPlain 3 (some .int), Cond.methodLink RX1 59 yX4_addFrom, Cond.methodLink RX1 70 yX1_readMatch, Cond.instanceMethod yX1_readMatch, Cond.selects RX1 yX1_readMatch yX1_readMatch, Cond.code yX1_readMatch cX1_readMatch 6 (some .int), Cond.methodLink RX1 74 yX4_add, Cond.methodLink RX6 189 yX1_handOver, Cond.instanceMethod yX1_handOver, Cond.selects RX1 yX1_handOver yX1_handOver, Cond.code yX1_handOver cX1_handOver 2 none, Cond.methodLink RX1 56 yX4_clear, Cond.methodLink RL 91 yX7_open, Cond.instanceMethod yX7_open, Cond.selects RX7 yX7_open yX7_open, Cond.code yX7_open cX7_open 3 (some .int), Cond.fieldLink RX7 162 "TrainedSegmentsModel" "textMany" "I", Cond.methodLink RX7 159 yX7_wrong, Cond.instanceMethod yX7_wrong, Cond.selects RX7 yX7_wrong yX7_wrong, Cond.code yX7_wrong cX7_wrong 9 (some .int), Cond.methodLink RX7 156 yX7_firstWith, Cond.instanceMethod yX7_firstWith]
def wsL_law0_r26 : List Cond := [Cond.selects RX7 yX7_firstWith yX7_firstWith, Cond.code yX7_firstWith cX7_firstWith 3 (some .int), Cond.methodLink RL 92 yL_text, Cond.static yL_text, Cond.codeWith yL_text cL_text 4 (some .int) [(0, 9, 12, 15)], Cond.methodLink RL 21 yX6_text, Cond.instanceMethod yX6_text, Cond.selects RX6 yX6_text yX6_text, Cond.code yX6_text cX6_text 2 (some .int), Cond.methodLink RL 94 yX7_text, Cond.instanceMethod yX7_text, Cond.selects RX7 yX7_text yX7_text, Cond.code yX7_text cX7_text 2 (some .int), Cond.methodLink RL 95 yX6_size, Cond.instanceMethod yX6_size, Cond.selects RX6 yX6_size yX6_size, Cond.code yX6_size cX6_size 4 (some .int), Cond.methodLink RX6 193 yX6_isSample, Cond.instanceMethod yX6_isSample, Cond.selects RX6 yX6_isSample yX6_isSample, Cond.code yX6_isSample cX6_isSample 2 (some .boolean), Cond.methodLink RL 98 yX7_size, Cond.instanceMethod yX7_size, Cond.selects RX7 yX7_size yX7_size]
def wsL_law0_r27 : List Cond := [Cond.code yX7_size cX7_size 3 (some .int), Cond.methodLink RL 99 yX6_best, Cond.instanceMethod yX6_best, Cond.selects RX6 yX6_best yX6_best, Cond.code yX6_best cX6_best 6 (some .int), Cond.methodLink RL 102 yX7_best, Cond.instanceMethod yX7_best, Cond.selects RX7 yX7_best yX7_best, Cond.code yX7_best cX7_best 6 (some .int), Cond.methodLink RL 103 yL_share, Cond.static yL_share, Cond.codeWith yL_share cL_share 4 (some .int) [(0, 9, 12, 27)], Cond.classLink RL 27 "java/lang/ArithmeticException", Cond.methodLink RL 24 yX6_share, Cond.instanceMethod yX6_share, Cond.selects RX6 yX6_share yX6_share, Cond.code yX6_share cX6_share 4 (some .int), Cond.classLink RX6 204 "java/lang/ArithmeticException", Cond.initialized "java/lang/ArithmeticException", Cond.methodLink RL 105 yX7_share, Cond.instanceMethod yX7_share, Cond.selects RX7 yX7_share yX7_share, Cond.code yX7_share cX7_share 3 (some .int), Cond.methodLink RL 106 yX6_about]
def wsL_law0_r28 : List Cond := [Cond.instanceMethod yX6_about, Cond.selects RX6 yX6_about yX6_about, Cond.code yX6_about cX6_about 2 (some .int), Cond.methodLink RX6 209 yX6_countThere, Cond.instanceMethod yX6_countThere, Cond.selects RX6 yX6_countThere yX6_countThere, Cond.code yX6_countThere cX6_countThere 3 (some .int), Cond.methodLink RX6 212 yX2_items, Cond.instanceMethod yX2_items, Cond.selects RX2 yX2_items yX2_items, Cond.code yX2_items cX2_items 1 (some .int), Cond.methodLink RX6 215 yX2_matches, Cond.instanceMethod yX2_matches, Cond.selects RX2 yX2_matches yX2_matches, Cond.code yX2_matches cX2_matches 1 (some .int), Cond.methodLink RL 109 yX7_about, Cond.instanceMethod yX7_about, Cond.selects RX7 yX7_about yX7_about, Cond.code yX7_about cX7_about 4 (some .int)]
def wsL_law0 : List Cond := (wsL_law0_r1 ++ (wsL_law0_r2 ++ (wsL_law0_r3 ++ (wsL_law0_r4 ++ (wsL_law0_r5 ++ (wsL_law0_r6 ++ (wsL_law0_r7 ++ (wsL_law0_r8 ++ (wsL_law0_r9 ++ (wsL_law0_r10 ++ (wsL_law0_r11 ++ (wsL_law0_r12 ++ (wsL_law0_r13 ++ (wsL_law0_r14 ++ (wsL_law0_r15 ++ (wsL_law0_r16 ++ (wsL_law0_r17 ++ (wsL_law0_r18 ++ (wsL_law0_r19 ++ (wsL_law0_r20 ++ (wsL_law0_r21 ++ (wsL_law0_r22 ++ (wsL_law0_r23 ++ (wsL_law0_r24 ++ (wsL_law0_r25 ++ (wsL_law0_r26 ++ (wsL_law0_r27 ++ wsL_law0_r28))))))))))))))))))))))))))) ++ wsX60 ++ wsX70 ++ wsX40 ++ wsX00 ++ wsX20 ++ wsX30 ++ wsX50 ++ wsX10 ++ wsJx000600 ++ wsJx5d7770 ++ ([] : List Cond)
def wsL_law : List Cond := wsL_law0 ++ (vx_atN 8).filter goodWord ++ (vx_atM "java/lang/ArrayIndexOutOfBoundsException" ["java/lang/IndexOutOfBoundsException", "java/lang/RuntimeException", "java/lang/Exception"]).filter goodWord ++ (vx_atS RX6 208 "java/lang/ArithmeticException" ["java/lang/RuntimeException", "java/lang/Exception"]).filter goodWord ++ (vx_atM "java/lang/ArithmeticException" ["java/lang/RuntimeException", "java/lang/Exception"]).filter goodWord
abbrev vwCl : List vw_C := [(RJ0, TJ0, 2), (RJx00060, TJx00060, 6), (RJx5d777, TJx5d777, 8), (RX0, TX0, 4), (RX1, TX1, 4), (RX2, TX2, 3), (RX3, TX3, 7), (RX4, TX4, 2), (RX5, TX5, 8), (RX6, TX6, 11), (RX7, TX7, 25)]
end
section
/-! GO: the machine at a frame, its heap hidden behind the list of cells, its locals behind a list. -/
/-- what stays the same over a method's body -/
def Cx (p : Program) (s : State) (m : MethodId) (args : Array Value) (c : Code) (cc : ByteArray) (nL : Nat) (own : String) (Ts : List Cond) (D : va_G) (tys : List (ClassId × FieldType)) (A : Nat → Prop) : Prop :=
  p.tables.exec = Jvm.exec ∧ c.code = cc ∧ c.maxLocals = nL ∧ s.vm.findClass own = some m.cls ∧ (∀ w ∈ Ts, w.before args s = true) ∧ va_K D vwCl tys s ∧ ∀ q, s.heap.size ≤ q → A q
/-- from any heap that holds the cells ws (others of A may be anything), with the locals lv and the stack st: it comes to Q -/
def Go (p : Program) (l : Launch) (e : Env) (R : Room) (s : State) (m : MethodId) (args : Array Value) (below : List Frame) (meth : Method) (c : Code) (Q : State → Prop) (nL : Nat) (D : va_G) (A : Nat → Prop) (ws : va_W) (cells slots pc : Nat) (lv : List (Nat × Value)) (st : List Value) : Prop :=
  ∀ (H : Heap) (locs : List Loc) (ls : Array Slot), va_P D vwCl ws H → va_D A ws → va_S A s.heap H locs → lv_has ls nL lv → W p l e R s m args below meth c H locs cells slots Q (F0 m pc ls st)
section GO
variable {p : Program} {l : Launch} {e : Env} {R : Room} {s : State} {m : MethodId} {args : Array Value} {below : List Frame} {meth : Method} {c : Code} {Q : State → Prop} {cc : ByteArray} {nL : Nat} {own : String} {Ts : List Cond} {D : va_G} {tys : List (ClassId × FieldType)} {A : Nat → Prop} {ws : va_W} {cells slots pc : Nat} {lv : List (Nat × Value)} {st : List Value}
theorem go_iconst (X : Cx p s m args c cc nL own Ts D tys A) {n : Int} {v : Int32} (hd : decode cc pc = .ok (.iconst n, 1)) (hv : Int32.ofInt n = v) (k : Go p l e R s m args below meth c Q nL D A ws cells slots (pc + 1) lv (.int v :: st)) : Go p l e R s m args below meth c Q nL D A ws cells slots pc lv st :=
  fun H locs ls hP hD hS hl => lv_iconst X.1 X.2.1 hd hv (k H locs ls hP hD hS hl)
theorem go_bipush (X : Cx p s m args c cc nL own Ts D tys A) {n : Int} {v : Int32} (hd : decode cc pc = .ok (.bipush n, 2)) (hv : (Int8.ofInt n).toInt32 = v) (k : Go p l e R s m args below meth c Q nL D A ws cells slots (pc + 2) lv (.int v :: st)) : Go p l e R s m args below meth c Q nL D A ws cells slots pc lv st :=
  fun H locs ls hP hD hS hl => lv_bipush X.1 X.2.1 hd hv (k H locs ls hP hD hS hl)
theorem go_sipush (X : Cx p s m args c cc nL own Ts D tys A) {n : Int} {v : Int32} (hd : decode cc pc = .ok (.sipush n, 3)) (hv : (Int16.ofInt n).toInt32 = v) (k : Go p l e R s m args below meth c Q nL D A ws cells slots (pc + 3) lv (.int v :: st)) : Go p l e R s m args below meth c Q nL D A ws cells slots pc lv st :=
  fun H locs ls hP hD hS hl => lv_sipush X.1 X.2.1 hd hv (k H locs ls hP hD hS hl)
theorem go_lconst (X : Cx p s m args c cc nL own Ts D tys A) {n : Fin 2} {v : Int64} (hd : decode cc pc = .ok (.lconst n, 1)) (hv : Int64.ofNat (n : Nat) = v) (k : Go p l e R s m args below meth c Q nL D A ws cells slots (pc + 1) lv (.long v :: st)) : Go p l e R s m args below meth c Q nL D A ws cells slots pc lv st :=
  fun H locs ls hP hD hS hl => lv_lconst X.1 X.2.1 hd hv (k H locs ls hP hD hS hl)
theorem go_ldc (X : Cx p s m args c cc nL own Ts D tys A) {index : Nat} {v : Int32} (hc : Jvm.Cond.constant own index v ∈ Ts) (hd : decode cc pc = .ok (.ldc index, 2)) (k : Go p l e R s m args below meth c Q nL D A ws cells slots (pc + 2) lv (.int v :: st)) : Go p l e R s m args below meth c Q nL D A ws cells slots pc lv st :=
  fun H locs ls hP hD hS hl => lv_ldc X.1 X.2.1 X.2.2.2.1 (X.2.2.2.2.1 _ hc) hd (k H locs ls hP hD hS hl)
theorem go_ldc2 (X : Cx p s m args c cc nL own Ts D tys A) {index : Nat} {v : Int64} (hc : Jvm.Cond.constantLong own index v ∈ Ts) (hd : decode cc pc = .ok (.ldc2_w index, 3)) (k : Go p l e R s m args below meth c Q nL D A ws cells slots (pc + 3) lv (.long v :: st)) : Go p l e R s m args below meth c Q nL D A ws cells slots pc lv st :=
  fun H locs ls hP hD hS hl => lv_ldc2 X.1 X.2.1 X.2.2.2.1 (X.2.2.2.2.1 _ hc) hd (k H locs ls hP hD hS hl)
theorem go_null (X : Cx p s m args c cc nL own Ts D tys A) (hd : decode cc pc = .ok (.aconst_null, 1)) (k : Go p l e R s m args below meth c Q nL D A ws cells slots (pc + 1) lv (.null :: st)) : Go p l e R s m args below meth c Q nL D A ws cells slots pc lv st :=
  fun H locs ls hP hD hS hl => lv_null X.1 X.2.1 hd (k H locs ls hP hD hS hl)
theorem go_iload_n (X : Cx p s m args c cc nL own Ts D tys A) {kk : Fin 4} {x : Int32} (hd : decode cc pc = .ok (.iload_n kk, 1)) (j : Nat) {i : Nat} (hj : lv[j]? = some (i, .int x)) (hi : (kk : Nat) = i) (k : Go p l e R s m args below meth c Q nL D A ws cells slots (pc + 1) lv (.int x :: st)) : Go p l e R s m args below meth c Q nL D A ws cells slots pc lv st :=
  fun H locs ls hP hD hS hl => lv_iload_n X.1 X.2.1 hd hi (lv_at hl j hj) (k H locs ls hP hD hS hl)
theorem go_iload (X : Cx p s m args c cc nL own Ts D tys A) {i : Nat} {x : Int32} (hd : decode cc pc = .ok (.iload i, 2)) (j : Nat) (hj : lv[j]? = some (i, .int x)) (k : Go p l e R s m args below meth c Q nL D A ws cells slots (pc + 2) lv (.int x :: st)) : Go p l e R s m args below meth c Q nL D A ws cells slots pc lv st :=
  fun H locs ls hP hD hS hl => lv_iload X.1 X.2.1 hd (lv_at hl j hj) (k H locs ls hP hD hS hl)
theorem go_lload_n (X : Cx p s m args c cc nL own Ts D tys A) {kk : Fin 4} {x : Int64} (hd : decode cc pc = .ok (.lload_n kk, 1)) (j : Nat) {i : Nat} (hj : lv[j]? = some (i, .long x)) (hi : (kk : Nat) = i) (k : Go p l e R s m args below meth c Q nL D A ws cells slots (pc + 1) lv (.long x :: st)) : Go p l e R s m args below meth c Q nL D A ws cells slots pc lv st :=
  fun H locs ls hP hD hS hl => lv_lload_n X.1 X.2.1 hd hi (lv_at hl j hj) (k H locs ls hP hD hS hl)
theorem go_lload (X : Cx p s m args c cc nL own Ts D tys A) {i : Nat} {x : Int64} (hd : decode cc pc = .ok (.lload i, 2)) (j : Nat) (hj : lv[j]? = some (i, .long x)) (k : Go p l e R s m args below meth c Q nL D A ws cells slots (pc + 2) lv (.long x :: st)) : Go p l e R s m args below meth c Q nL D A ws cells slots pc lv st :=
  fun H locs ls hP hD hS hl => lv_lload X.1 X.2.1 hd (lv_at hl j hj) (k H locs ls hP hD hS hl)
theorem go_aload_n (X : Cx p s m args c cc nL own Ts D tys A) {kk : Fin 4} {x : Nat} (hd : decode cc pc = .ok (.aload_n kk, 1)) (j : Nat) {i : Nat} (hj : lv[j]? = some (i, .ref x)) (hi : (kk : Nat) = i) (k : Go p l e R s m args below meth c Q nL D A ws cells slots (pc + 1) lv (.ref x :: st)) : Go p l e R s m args below meth c Q nL D A ws cells slots pc lv st :=
  fun H locs ls hP hD hS hl => lv_aload_n X.1 X.2.1 hd hi (lv_at hl j hj) (k H locs ls hP hD hS hl)
theorem go_aload (X : Cx p s m args c cc nL own Ts D tys A) {i : Nat} {x : Nat} (hd : decode cc pc = .ok (.aload i, 2)) (j : Nat) (hj : lv[j]? = some (i, .ref x)) (k : Go p l e R s m args below meth c Q nL D A ws cells slots (pc + 2) lv (.ref x :: st)) : Go p l e R s m args below meth c Q nL D A ws cells slots pc lv st :=
  fun H locs ls hP hD hS hl => lv_aload X.1 X.2.1 hd (lv_at hl j hj) (k H locs ls hP hD hS hl)
theorem go_aload_nN (X : Cx p s m args c cc nL own Ts D tys A) {kk : Fin 4} (hd : decode cc pc = .ok (.aload_n kk, 1)) (j : Nat) {i : Nat} (hj : lv[j]? = some (i, .null)) (hi : (kk : Nat) = i) (k : Go p l e R s m args below meth c Q nL D A ws cells slots (pc + 1) lv (.null :: st)) : Go p l e R s m args below meth c Q nL D A ws cells slots pc lv st :=
  fun H locs ls hP hD hS hl => lv_aload_nN X.1 X.2.1 hd hi (lv_at hl j hj) (k H locs ls hP hD hS hl)
theorem go_istore_n (X : Cx p s m args c cc nL own Ts D tys A) {kk : Fin 4} {i : Nat} {x : Int32} {lv' : List (Nat × Value)} (hd : decode cc pc = .ok (.istore_n kk, 1)) (hi : (kk : Nat) = i) (hn : i < nL) (hl' : (i, Value.int x) :: lv.filter (fun q => !(q.1 == i) && !(q.1 + 1 == i && q.2.category == 2)) = lv') (k : Go p l e R s m args below meth c Q nL D A ws cells slots (pc + 1) lv' st) : Go p l e R s m args below meth c Q nL D A ws cells slots pc lv (.int x :: st) :=
  fun H locs ls hP hD hS hl => lv_istore_n X.1 X.2.1 hd hi hl hn hl' (fun ls hl => k H locs ls hP hD hS hl)
theorem go_istore (X : Cx p s m args c cc nL own Ts D tys A) {i : Nat} {x : Int32} {lv' : List (Nat × Value)} (hd : decode cc pc = .ok (.istore i, 2)) (hn : i < nL) (hl' : (i, Value.int x) :: lv.filter (fun q => !(q.1 == i) && !(q.1 + 1 == i && q.2.category == 2)) = lv') (k : Go p l e R s m args below meth c Q nL D A ws cells slots (pc + 2) lv' st) : Go p l e R s m args below meth c Q nL D A ws cells slots pc lv (.int x :: st) :=
  fun H locs ls hP hD hS hl => lv_istore X.1 X.2.1 hd hl hn hl' (fun ls hl => k H locs ls hP hD hS hl)
theorem go_astore_n (X : Cx p s m args c cc nL own Ts D tys A) {kk : Fin 4} {i x : Nat} {lv' : List (Nat × Value)} (hd : decode cc pc = .ok (.astore_n kk, 1)) (hi : (kk : Nat) = i) (hn : i < nL) (hl' : (i, Value.ref x) :: lv.filter (fun q => !(q.1 == i) && !(q.1 + 1 == i && q.2.category == 2)) = lv') (k : Go p l e R s m args below meth c Q nL D A ws cells slots (pc + 1) lv' st) : Go p l e R s m args below meth c Q nL D A ws cells slots pc lv (.ref x :: st) :=
  fun H locs ls hP hD hS hl => lv_astore_n X.1 X.2.1 hd hi hl hn hl' (fun ls hl => k H locs ls hP hD hS hl)
theorem go_astore (X : Cx p s m args c cc nL own Ts D tys A) {i x : Nat} {lv' : List (Nat × Value)} (hd : decode cc pc = .ok (.astore i, 2)) (hn : i < nL) (hl' : (i, Value.ref x) :: lv.filter (fun q => !(q.1 == i) && !(q.1 + 1 == i && q.2.category == 2)) = lv') (k : Go p l e R s m args below meth c Q nL D A ws cells slots (pc + 2) lv' st) : Go p l e R s m args below meth c Q nL D A ws cells slots pc lv (.ref x :: st) :=
  fun H locs ls hP hD hS hl => lv_astore X.1 X.2.1 hd hl hn hl' (fun ls hl => k H locs ls hP hD hS hl)
theorem go_astore_nN (X : Cx p s m args c cc nL own Ts D tys A) {kk : Fin 4} {i : Nat} {lv' : List (Nat × Value)} (hd : decode cc pc = .ok (.astore_n kk, 1)) (hi : (kk : Nat) = i) (hn : i < nL) (hl' : (i, Value.null) :: lv.filter (fun q => !(q.1 == i) && !(q.1 + 1 == i && q.2.category == 2)) = lv') (k : Go p l e R s m args below meth c Q nL D A ws cells slots (pc + 1) lv' st) : Go p l e R s m args below meth c Q nL D A ws cells slots pc lv (.null :: st) :=
  fun H locs ls hP hD hS hl => lv_astore_nN X.1 X.2.1 hd hi hl hn hl' (fun ls hl => k H locs ls hP hD hS hl)
theorem go_iinc (X : Cx p s m args c cc nL own Ts D tys A) {i : Nat} {n : Int} {x : Int32} {lv' : List (Nat × Value)} (v : Int32) (hd : decode cc pc = .ok (.iinc i n, 3)) (j : Nat) (hj : lv[j]? = some (i, .int x)) (hv : x + Int32.ofInt n = v) (hn : i < nL) (hl' : (i, Value.int v) :: lv.filter (fun q => !(q.1 == i) && !(q.1 + 1 == i && q.2.category == 2)) = lv') (k : Go p l e R s m args below meth c Q nL D A ws cells slots (pc + 3) lv' st) : Go p l e R s m args below meth c Q nL D A ws cells slots pc lv st :=
  fun H locs ls hP hD hS hl => lv_iinc X.1 X.2.1 hd hl hj hv hn hl' (fun ls hl => k H locs ls hP hD hS hl)
theorem go_iadd (X : Cx p s m args c cc nL own Ts D tys A) {x y : Int32} (hd : decode cc pc = .ok (.iadd, 1)) (k : Go p l e R s m args below meth c Q nL D A ws cells slots (pc + 1) lv (.int (x + y) :: st)) : Go p l e R s m args below meth c Q nL D A ws cells slots pc lv (.int y :: .int x :: st) :=
  fun H locs ls hP hD hS hl => lv_iadd X.1 X.2.1 hd (k H locs ls hP hD hS hl)
theorem go_isub (X : Cx p s m args c cc nL own Ts D tys A) {x y : Int32} (hd : decode cc pc = .ok (.isub, 1)) (k : Go p l e R s m args below meth c Q nL D A ws cells slots (pc + 1) lv (.int (x - y) :: st)) : Go p l e R s m args below meth c Q nL D A ws cells slots pc lv (.int y :: .int x :: st) :=
  fun H locs ls hP hD hS hl => lv_isub X.1 X.2.1 hd (k H locs ls hP hD hS hl)
theorem go_imul (X : Cx p s m args c cc nL own Ts D tys A) {x y : Int32} (hd : decode cc pc = .ok (.imul, 1)) (k : Go p l e R s m args below meth c Q nL D A ws cells slots (pc + 1) lv (.int (x * y) :: st)) : Go p l e R s m args below meth c Q nL D A ws cells slots pc lv (.int y :: .int x :: st) :=
  fun H locs ls hP hD hS hl => lv_imul X.1 X.2.1 hd (k H locs ls hP hD hS hl)
theorem go_iand (X : Cx p s m args c cc nL own Ts D tys A) {x y : Int32} (hd : decode cc pc = .ok (.iand, 1)) (k : Go p l e R s m args below meth c Q nL D A ws cells slots (pc + 1) lv (.int (x &&& y) :: st)) : Go p l e R s m args below meth c Q nL D A ws cells slots pc lv (.int y :: .int x :: st) :=
  fun H locs ls hP hD hS hl => lv_iand X.1 X.2.1 hd (k H locs ls hP hD hS hl)
theorem go_idiv (X : Cx p s m args c cc nL own Ts D tys A) {x y : Int32} (hd : decode cc pc = .ok (.idiv, 1)) (hne : ¬ y = 0) (k : Go p l e R s m args below meth c Q nL D A ws cells slots (pc + 1) lv (.int (x / y) :: st)) : Go p l e R s m args below meth c Q nL D A ws cells slots pc lv (.int y :: .int x :: st) :=
  fun H locs ls hP hD hS hl => lv_idiv X.1 X.2.1 hd hne (k H locs ls hP hD hS hl)
theorem go_irem (X : Cx p s m args c cc nL own Ts D tys A) {x y : Int32} (hd : decode cc pc = .ok (.irem, 1)) (hne : ¬ y = 0) (k : Go p l e R s m args below meth c Q nL D A ws cells slots (pc + 1) lv (.int (x - x / y * y) :: st)) : Go p l e R s m args below meth c Q nL D A ws cells slots pc lv (.int y :: .int x :: st) :=
  fun H locs ls hP hD hS hl => lv_irem X.1 X.2.1 hd hne (k H locs ls hP hD hS hl)
theorem go_ishr (X : Cx p s m args c cc nL own Ts D tys A) {x y : Int32} (hd : decode cc pc = .ok (.ishr, 1)) (k : Go p l e R s m args below meth c Q nL D A ws cells slots (pc + 1) lv (.int (x >>> (y &&& 31)) :: st)) : Go p l e R s m args below meth c Q nL D A ws cells slots pc lv (.int y :: .int x :: st) :=
  fun H locs ls hP hD hS hl => lv_ishr X.1 X.2.1 hd (k H locs ls hP hD hS hl)
theorem go_land (X : Cx p s m args c cc nL own Ts D tys A) {x y : Int64} (hd : decode cc pc = .ok (.land, 1)) (k : Go p l e R s m args below meth c Q nL D A ws cells slots (pc + 1) lv (.long (x &&& y) :: st)) : Go p l e R s m args below meth c Q nL D A ws cells slots pc lv (.long y :: .long x :: st) :=
  fun H locs ls hP hD hS hl => lv_land X.1 X.2.1 hd (k H locs ls hP hD hS hl)
theorem go_lor (X : Cx p s m args c cc nL own Ts D tys A) {x y : Int64} (hd : decode cc pc = .ok (.lor, 1)) (k : Go p l e R s m args below meth c Q nL D A ws cells slots (pc + 1) lv (.long (x ||| y) :: st)) : Go p l e R s m args below meth c Q nL D A ws cells slots pc lv (.long y :: .long x :: st) :=
  fun H locs ls hP hD hS hl => lv_lor X.1 X.2.1 hd (k H locs ls hP hD hS hl)
theorem go_ineg (X : Cx p s m args c cc nL own Ts D tys A) {x : Int32} (hd : decode cc pc = .ok (.ineg, 1)) (k : Go p l e R s m args below meth c Q nL D A ws cells slots (pc + 1) lv (.int (0 - x) :: st)) : Go p l e R s m args below meth c Q nL D A ws cells slots pc lv (.int x :: st) :=
  fun H locs ls hP hD hS hl => lv_ineg X.1 X.2.1 hd (k H locs ls hP hD hS hl)
theorem go_i2l (X : Cx p s m args c cc nL own Ts D tys A) {x : Int32} (hd : decode cc pc = .ok (.i2l, 1)) (k : Go p l e R s m args below meth c Q nL D A ws cells slots (pc + 1) lv (.long x.toInt64 :: st)) : Go p l e R s m args below meth c Q nL D A ws cells slots pc lv (.int x :: st) :=
  fun H locs ls hP hD hS hl => lv_i2l X.1 X.2.1 hd rfl (k H locs ls hP hD hS hl)
theorem go_l2i (X : Cx p s m args c cc nL own Ts D tys A) {x : Int64} (hd : decode cc pc = .ok (.l2i, 1)) (k : Go p l e R s m args below meth c Q nL D A ws cells slots (pc + 1) lv (.int x.toInt32 :: st)) : Go p l e R s m args below meth c Q nL D A ws cells slots pc lv (.long x :: st) :=
  fun H locs ls hP hD hS hl => lv_l2i X.1 X.2.1 hd rfl (k H locs ls hP hD hS hl)
theorem go_i2b (X : Cx p s m args c cc nL own Ts D tys A) {x : Int32} (hd : decode cc pc = .ok (.i2b, 1)) (k : Go p l e R s m args below meth c Q nL D A ws cells slots (pc + 1) lv (.int x.toInt8.toInt32 :: st)) : Go p l e R s m args below meth c Q nL D A ws cells slots pc lv (.int x :: st) :=
  fun H locs ls hP hD hS hl => lv_i2b X.1 X.2.1 hd rfl (k H locs ls hP hD hS hl)
theorem go_lushr (X : Cx p s m args c cc nL own Ts D tys A) {x : Int64} {y : Int32} (hd : decode cc pc = .ok (.lushr, 1)) (k : Go p l e R s m args below meth c Q nL D A ws cells slots (pc + 1) lv (.long ((x.toUInt64 >>> (y.toInt64.toUInt64 &&& Int64.toUInt64 63)).toInt64) :: st)) : Go p l e R s m args below meth c Q nL D A ws cells slots pc lv (.int y :: .long x :: st) :=
  fun H locs ls hP hD hS hl => lv_lushr X.1 X.2.1 hd rfl (k H locs ls hP hD hS hl)
theorem go_lshl (X : Cx p s m args c cc nL own Ts D tys A) {x : Int64} {y : Int32} (hd : decode cc pc = .ok (.lshl, 1)) (k : Go p l e R s m args below meth c Q nL D A ws cells slots (pc + 1) lv (.long (x <<< (y.toInt64 &&& 63)) :: st)) : Go p l e R s m args below meth c Q nL D A ws cells slots pc lv (.int y :: .long x :: st) :=
  fun H locs ls hP hD hS hl => lv_lshl X.1 X.2.1 hd rfl (k H locs ls hP hD hS hl)
theorem go_lshr (X : Cx p s m args c cc nL own Ts D tys A) {x : Int64} {y : Int32} (hd : decode cc pc = .ok (.lshr, 1)) (k : Go p l e R s m args below meth c Q nL D A ws cells slots (pc + 1) lv (.long (x >>> (y.toInt64 &&& 63)) :: st)) : Go p l e R s m args below meth c Q nL D A ws cells slots pc lv (.int y :: .long x :: st) :=
  fun H locs ls hP hD hS hl => lv_lshr X.1 X.2.1 hd rfl (k H locs ls hP hD hS hl)
theorem go_lcmp (X : Cx p s m args c cc nL own Ts D tys A) {x y : Int64} (hd : decode cc pc = .ok (.lcmp, 1)) (k : Go p l e R s m args below meth c Q nL D A ws cells slots (pc + 1) lv (.int (lg_cmp x y) :: st)) : Go p l e R s m args below meth c Q nL D A ws cells slots pc lv (.long y :: .long x :: st) :=
  fun H locs ls hP hD hS hl => W.lcmp X.1 X.2.1 hd (k H locs ls hP hD hS hl)
theorem go_dup (X : Cx p s m args c cc nL own Ts D tys A) {va : Value} (hd : decode cc pc = .ok (.dup, 1)) (hc : va.category = 1) (k : Go p l e R s m args below meth c Q nL D A ws cells slots (pc + 1) lv (va :: va :: st)) : Go p l e R s m args below meth c Q nL D A ws cells slots pc lv (va :: st) :=
  fun H locs ls hP hD hS hl => lv_dup X.1 X.2.1 hd hc (k H locs ls hP hD hS hl)
theorem go_pop (X : Cx p s m args c cc nL own Ts D tys A) {va : Value} (hd : decode cc pc = .ok (.pop, 1)) (hc : va.category = 1) (k : Go p l e R s m args below meth c Q nL D A ws cells slots (pc + 1) lv st) : Go p l e R s m args below meth c Q nL D A ws cells slots pc lv (va :: st) :=
  fun H locs ls hP hD hS hl => lv_pop X.1 X.2.1 hd hc (k H locs ls hP hD hS hl)
theorem go_dup2 (X : Cx p s m args c cc nL own Ts D tys A) {va vb : Value} (hd : decode cc pc = .ok (.dup2, 1)) (hc : va.category = 1) (hc2 : vb.category = 1) (k : Go p l e R s m args below meth c Q nL D A ws cells slots (pc + 1) lv (va :: vb :: va :: vb :: st)) : Go p l e R s m args below meth c Q nL D A ws cells slots pc lv (va :: vb :: st) :=
  fun H locs ls hP hD hS hl => lv_dup2_11 X.1 X.2.1 hd hc hc2 (k H locs ls hP hD hS hl)
theorem go_if_eq (X : Cx p s m args c cc nL own Ts D tys A) {x : Int32} {off : Int} (tgt : Nat) (hd : decode cc pc = .ok (.ifCond .eq off, 3)) (ht : (pc : Int) + off = (tgt : Int)) (kt : x = 0 → Go p l e R s m args below meth c Q nL D A ws cells slots tgt lv st) (kf : ¬ x = 0 → Go p l e R s m args below meth c Q nL D A ws cells slots (pc + 3) lv st) : Go p l e R s m args below meth c Q nL D A ws cells slots pc lv (.int x :: st) :=
  fun H locs ls hP hD hS hl => lv_if_eq X.1 X.2.1 hd ht (fun h => kt h H locs ls hP hD hS hl) (fun h => kf h H locs ls hP hD hS hl)
theorem go_icmp_eq (X : Cx p s m args c cc nL own Ts D tys A) {x y : Int32} {off : Int} (tgt : Nat) (hd : decode cc pc = .ok (.if_icmp .eq off, 3)) (ht : (pc : Int) + off = (tgt : Int)) (kt : x = y → Go p l e R s m args below meth c Q nL D A ws cells slots tgt lv st) (kf : ¬ x = y → Go p l e R s m args below meth c Q nL D A ws cells slots (pc + 3) lv st) : Go p l e R s m args below meth c Q nL D A ws cells slots pc lv (.int y :: .int x :: st) :=
  fun H locs ls hP hD hS hl => lv_icmp_eq X.1 X.2.1 hd ht (fun h => kt h H locs ls hP hD hS hl) (fun h => kf h H locs ls hP hD hS hl)
theorem go_if_ne (X : Cx p s m args c cc nL own Ts D tys A) {x : Int32} {off : Int} (tgt : Nat) (hd : decode cc pc = .ok (.ifCond .ne off, 3)) (ht : (pc : Int) + off = (tgt : Int)) (kt : ¬ x = 0 → Go p l e R s m args below meth c Q nL D A ws cells slots tgt lv st) (kf : x = 0 → Go p l e R s m args below meth c Q nL D A ws cells slots (pc + 3) lv st) : Go p l e R s m args below meth c Q nL D A ws cells slots pc lv (.int x :: st) :=
  fun H locs ls hP hD hS hl => lv_if_ne X.1 X.2.1 hd ht (fun h => kt h H locs ls hP hD hS hl) (fun h => kf h H locs ls hP hD hS hl)
theorem go_icmp_ne (X : Cx p s m args c cc nL own Ts D tys A) {x y : Int32} {off : Int} (tgt : Nat) (hd : decode cc pc = .ok (.if_icmp .ne off, 3)) (ht : (pc : Int) + off = (tgt : Int)) (kt : ¬ x = y → Go p l e R s m args below meth c Q nL D A ws cells slots tgt lv st) (kf : x = y → Go p l e R s m args below meth c Q nL D A ws cells slots (pc + 3) lv st) : Go p l e R s m args below meth c Q nL D A ws cells slots pc lv (.int y :: .int x :: st) :=
  fun H locs ls hP hD hS hl => lv_icmp_ne X.1 X.2.1 hd ht (fun h => kt h H locs ls hP hD hS hl) (fun h => kf h H locs ls hP hD hS hl)
theorem go_if_lt (X : Cx p s m args c cc nL own Ts D tys A) {x : Int32} {off : Int} (tgt : Nat) (hd : decode cc pc = .ok (.ifCond .lt off, 3)) (ht : (pc : Int) + off = (tgt : Int)) (kt : x < 0 → Go p l e R s m args below meth c Q nL D A ws cells slots tgt lv st) (kf : ¬ x < 0 → Go p l e R s m args below meth c Q nL D A ws cells slots (pc + 3) lv st) : Go p l e R s m args below meth c Q nL D A ws cells slots pc lv (.int x :: st) :=
  fun H locs ls hP hD hS hl => lv_if_lt X.1 X.2.1 hd ht (fun h => kt h H locs ls hP hD hS hl) (fun h => kf h H locs ls hP hD hS hl)
theorem go_icmp_lt (X : Cx p s m args c cc nL own Ts D tys A) {x y : Int32} {off : Int} (tgt : Nat) (hd : decode cc pc = .ok (.if_icmp .lt off, 3)) (ht : (pc : Int) + off = (tgt : Int)) (kt : x < y → Go p l e R s m args below meth c Q nL D A ws cells slots tgt lv st) (kf : ¬ x < y → Go p l e R s m args below meth c Q nL D A ws cells slots (pc + 3) lv st) : Go p l e R s m args below meth c Q nL D A ws cells slots pc lv (.int y :: .int x :: st) :=
  fun H locs ls hP hD hS hl => lv_icmp_lt X.1 X.2.1 hd ht (fun h => kt h H locs ls hP hD hS hl) (fun h => kf h H locs ls hP hD hS hl)
theorem go_if_ge (X : Cx p s m args c cc nL own Ts D tys A) {x : Int32} {off : Int} (tgt : Nat) (hd : decode cc pc = .ok (.ifCond .ge off, 3)) (ht : (pc : Int) + off = (tgt : Int)) (kt : 0 ≤ x → Go p l e R s m args below meth c Q nL D A ws cells slots tgt lv st) (kf : ¬ 0 ≤ x → Go p l e R s m args below meth c Q nL D A ws cells slots (pc + 3) lv st) : Go p l e R s m args below meth c Q nL D A ws cells slots pc lv (.int x :: st) :=
  fun H locs ls hP hD hS hl => lv_if_ge X.1 X.2.1 hd ht (fun h => kt h H locs ls hP hD hS hl) (fun h => kf h H locs ls hP hD hS hl)
theorem go_icmp_ge (X : Cx p s m args c cc nL own Ts D tys A) {x y : Int32} {off : Int} (tgt : Nat) (hd : decode cc pc = .ok (.if_icmp .ge off, 3)) (ht : (pc : Int) + off = (tgt : Int)) (kt : y ≤ x → Go p l e R s m args below meth c Q nL D A ws cells slots tgt lv st) (kf : ¬ y ≤ x → Go p l e R s m args below meth c Q nL D A ws cells slots (pc + 3) lv st) : Go p l e R s m args below meth c Q nL D A ws cells slots pc lv (.int y :: .int x :: st) :=
  fun H locs ls hP hD hS hl => lv_icmp_ge X.1 X.2.1 hd ht (fun h => kt h H locs ls hP hD hS hl) (fun h => kf h H locs ls hP hD hS hl)
theorem go_if_gt (X : Cx p s m args c cc nL own Ts D tys A) {x : Int32} {off : Int} (tgt : Nat) (hd : decode cc pc = .ok (.ifCond .gt off, 3)) (ht : (pc : Int) + off = (tgt : Int)) (kt : 0 < x → Go p l e R s m args below meth c Q nL D A ws cells slots tgt lv st) (kf : ¬ 0 < x → Go p l e R s m args below meth c Q nL D A ws cells slots (pc + 3) lv st) : Go p l e R s m args below meth c Q nL D A ws cells slots pc lv (.int x :: st) :=
  fun H locs ls hP hD hS hl => lv_if_gt X.1 X.2.1 hd ht (fun h => kt h H locs ls hP hD hS hl) (fun h => kf h H locs ls hP hD hS hl)
theorem go_icmp_gt (X : Cx p s m args c cc nL own Ts D tys A) {x y : Int32} {off : Int} (tgt : Nat) (hd : decode cc pc = .ok (.if_icmp .gt off, 3)) (ht : (pc : Int) + off = (tgt : Int)) (kt : y < x → Go p l e R s m args below meth c Q nL D A ws cells slots tgt lv st) (kf : ¬ y < x → Go p l e R s m args below meth c Q nL D A ws cells slots (pc + 3) lv st) : Go p l e R s m args below meth c Q nL D A ws cells slots pc lv (.int y :: .int x :: st) :=
  fun H locs ls hP hD hS hl => lv_icmp_gt X.1 X.2.1 hd ht (fun h => kt h H locs ls hP hD hS hl) (fun h => kf h H locs ls hP hD hS hl)
theorem go_if_le (X : Cx p s m args c cc nL own Ts D tys A) {x : Int32} {off : Int} (tgt : Nat) (hd : decode cc pc = .ok (.ifCond .le off, 3)) (ht : (pc : Int) + off = (tgt : Int)) (kt : x ≤ 0 → Go p l e R s m args below meth c Q nL D A ws cells slots tgt lv st) (kf : ¬ x ≤ 0 → Go p l e R s m args below meth c Q nL D A ws cells slots (pc + 3) lv st) : Go p l e R s m args below meth c Q nL D A ws cells slots pc lv (.int x :: st) :=
  fun H locs ls hP hD hS hl => lv_if_le X.1 X.2.1 hd ht (fun h => kt h H locs ls hP hD hS hl) (fun h => kf h H locs ls hP hD hS hl)
theorem go_icmp_le (X : Cx p s m args c cc nL own Ts D tys A) {x y : Int32} {off : Int} (tgt : Nat) (hd : decode cc pc = .ok (.if_icmp .le off, 3)) (ht : (pc : Int) + off = (tgt : Int)) (kt : x ≤ y → Go p l e R s m args below meth c Q nL D A ws cells slots tgt lv st) (kf : ¬ x ≤ y → Go p l e R s m args below meth c Q nL D A ws cells slots (pc + 3) lv st) : Go p l e R s m args below meth c Q nL D A ws cells slots pc lv (.int y :: .int x :: st) :=
  fun H locs ls hP hD hS hl => lv_icmp_le X.1 X.2.1 hd ht (fun h => kt h H locs ls hP hD hS hl) (fun h => kf h H locs ls hP hD hS hl)
theorem go_goto (X : Cx p s m args c cc nL own Ts D tys A) {off : Int} (tgt : Nat) (hd : decode cc pc = .ok (.goto off, 3)) (ht : (pc : Int) + off = (tgt : Int)) (k : Go p l e R s m args below meth c Q nL D A ws cells slots tgt lv st) : Go p l e R s m args below meth c Q nL D A ws cells slots pc lv st :=
  fun H locs ls hP hD hS hl => lv_goto X.1 X.2.1 hd ht (k H locs ls hP hD hS hl)
theorem go_ifnonnull (X : Cx p s m args c cc nL own Ts D tys A) {x : Nat} {off : Int} (tgt : Nat) (hd : decode cc pc = .ok (.ifnonnull off, 3)) (ht : (pc : Int) + off = (tgt : Int)) (k : Go p l e R s m args below meth c Q nL D A ws cells slots tgt lv st) : Go p l e R s m args below meth c Q nL D A ws cells slots pc lv (.ref x :: st) :=
  fun H locs ls hP hD hS hl => lv_ifnonnull X.1 X.2.1 hd ht (k H locs ls hP hD hS hl)
theorem go_ifnonnullN (X : Cx p s m args c cc nL own Ts D tys A) {off : Int} (hd : decode cc pc = .ok (.ifnonnull off, 3)) (k : Go p l e R s m args below meth c Q nL D A ws cells slots (pc + 3) lv st) : Go p l e R s m args below meth c Q nL D A ws cells slots pc lv (.null :: st) :=
  fun H locs ls hP hD hS hl => lv_ifnonnullN X.1 X.2.1 hd (k H locs ls hP hD hS hl)
theorem go_tableOut (X : Cx p s m args c cc nL own Ts D tys A) {dflt lo hi : Int} {offs : Array Int} {len : Nat} {x : Int32} (tgt : Nat) (hd : decode cc pc = .ok (.tableswitch dflt lo hi offs, len)) (h : x.toInt < lo ∨ hi < x.toInt) (ht : (pc : Int) + dflt = (tgt : Int)) (k : Go p l e R s m args below meth c Q nL D A ws cells slots tgt lv st) : Go p l e R s m args below meth c Q nL D A ws cells slots pc lv (.int x :: st) :=
  fun H locs ls hP hD hS hl => lv_tableOut X.1 X.2.1 hd h ht (k H locs ls hP hD hS hl)
theorem go_tableIn (X : Cx p s m args c cc nL own Ts D tys A) {dflt lo hi : Int} {offs : Array Int} {len : Nat} {x : Int32} {off : Int} (tgt : Nat) (hd : decode cc pc = .ok (.tableswitch dflt lo hi offs, len)) (h1 : ¬ x.toInt < lo) (h2 : ¬ hi < x.toInt) (ho : offs[(x.toInt - lo).toNat]? = some off) (ht : (pc : Int) + off = (tgt : Int)) (k : Go p l e R s m args below meth c Q nL D A ws cells slots tgt lv st) : Go p l e R s m args below meth c Q nL D A ws cells slots pc lv (.int x :: st) :=
  fun H locs ls hP hD hS hl => lv_tableIn X.1 X.2.1 hd h1 h2 ho ht (k H locs ls hP hD hS hl)
theorem go_get (X : Cx p s m args c cc nL own Ts D tys A) {C : String} {T : u_T} {N ci index a : Nat} {fs : List Value} {v : Value} (hin : ∀ w ∈ u_ws C T N, w ∈ Ts) (q0 : Nat) (he : ws[q0]? = some (a, .inr (ci, fs))) (hc : vwCl[ci]? = some (C, T, N)) (k : Nat) (hk : k < N) (hlink : Cond.fieldLink own index (T k).1 (T k).2.1 (T k).2.2.1 ∈ Ts) (hv : fs[k]? = some v) (hd : decode cc pc = .ok (.getfield index, 3)) (kk : Go p l e R s m args below meth c Q nL D A ws cells slots (pc + 3) lv (v :: st)) : Go p l e R s m args below meth c Q nL D A ws cells slots pc lv (.ref a :: st) :=
  fun H locs ls hP hD hS hl => va_get X.1 X.2.1 X.2.2.2.2.1 hin X.2.2.2.1 X.2.2.2.2.2.1 hP q0 he hc k hk (X.2.2.2.2.1 _ hlink) (fun _ h9 => h9) hv hd (kk H locs ls hP hD hS hl)
theorem go_put (X : Cx p s m args c cc nL own Ts D tys A) {C : String} {T : u_T} {N ci index a : Nat} {fs : List Value} {v : Value} {ty : FieldType} (ws' : va_W) (hin : ∀ w ∈ u_ws C T N, w ∈ Ts) (ty0 : Nat → FieldType) (hty : ∀ k, k < N → parseFieldDescriptor (T k).2.2.1 = some (ty0 k)) (hnm : ∀ a, a < N → ∀ b, b < N → a ≠ b → (T a).2.1 ≠ (T b).2.1) (q0 : Nat) (he : ws[q0]? = some (a, .inr (ci, fs))) (hc : vwCl[ci]? = some (C, T, N)) (k : Nat) (hk : k < N) (hlink : Cond.fieldLink own index (T k).1 (T k).2.1 (T k).2.2.1 ∈ Ts) (hfin : (T k).2.2.2 = false) (hd1 : parseFieldDescriptor (T k).2.2.1 = some ty) (hn : narrow ty v = v) (hfit : fits ty v = true) (hl1 : k < fs.length) (hw : ws.set q0 (a, .inr (ci, fs.set k v)) = ws') (hd : decode cc pc = .ok (.putfield index, 3)) (kk : Go p l e R s m args below meth c Q nL D A ws' cells slots (pc + 3) lv st) : Go p l e R s m args below meth c Q nL D A ws cells slots pc lv (v :: .ref a :: st) := by
  subst hw
  exact fun H locs ls hP hD hS hl => va_put X.1 X.2.1 X.2.2.2.2.1 hin ty0 hty hnm X.2.2.2.1 X.2.2.2.2.2.1 hP hD hS q0 he hc k hk (X.2.2.2.2.1 _ hlink) (fun _ h9 => h9) hfin hd1 hn hfit hl1 hd (fun H locs hP hD hS => kk H locs ls hP hD hS hl)
theorem go_putF (X : Cx p s m args c cc nL own Ts D tys A) {C : String} {T : u_T} {N ci index a : Nat} {fs : List Value} {v : Value} {ty : FieldType} (ws' : va_W) (hin : ∀ w ∈ u_ws C T N, w ∈ Ts) (ty0 : Nat → FieldType) (hty : ∀ k, k < N → parseFieldDescriptor (T k).2.2.1 = some (ty0 k)) (hnm : ∀ a, a < N → ∀ b, b < N → a ≠ b → (T a).2.1 ≠ (T b).2.1) (q0 : Nat) (he : ws[q0]? = some (a, .inr (ci, fs))) (hc : vwCl[ci]? = some (C, T, N)) (k : Nat) (hk : k < N) (hlink : Cond.fieldLink own index (T k).1 (T k).2.1 (T k).2.2.1 ∈ Ts) (hfin : (T k).2.2.2 = true) (hin2 : meth.name = "<init>") (hdecl : (T k).1 = own) (hd1 : parseFieldDescriptor (T k).2.2.1 = some ty) (hn : narrow ty v = v) (hfit : fits ty v = true) (hl1 : k < fs.length) (hw : ws.set q0 (a, .inr (ci, fs.set k v)) = ws') (hd : decode cc pc = .ok (.putfield index, 3)) (kk : Go p l e R s m args below meth c Q nL D A ws' cells slots (pc + 3) lv st) : Go p l e R s m args below meth c Q nL D A ws cells slots pc lv (v :: .ref a :: st) := by
  subst hw
  exact fun H locs ls hP hD hS hl => va_putF X.1 X.2.1 X.2.2.2.2.1 hin ty0 hty hnm X.2.2.2.1 X.2.2.2.2.2.1 hP hD hS q0 he hc k hk (X.2.2.2.2.1 _ hlink) (fun _ h9 => h9) hfin hin2 hdecl hd1 hn hfit hl1 hd (fun H locs hP hD hS => kk H locs ls hP hD hS hl)
theorem go_iald (X : Cx p s m args c cc nL own Ts D tys A) (q0 t0 : Nat) {a : Nat} {cA : ClassId} {n : Nat} {f : Nat → Int32} (ha : ws[q0]? = some (a, .inl (cA, n, .inl f))) (ht : tys[t0]? = some (cA, .int)) {i : Int32} (hin : vp_in i n) (hd : decode cc pc = .ok (.iaload, 1)) (kk : Go p l e R s m args below meth c Q nL D A ws cells slots (pc + 1) lv (.int (f i.toNatClampNeg) :: st)) : Go p l e R s m args below meth c Q nL D A ws cells slots pc lv (.int i :: .ref a :: st) :=
  fun H locs ls hP hD hS hl => va_iald X.1 X.2.1 X.2.2.2.2.2.1 hP q0 t0 ha ht hin hd (kk H locs ls hP hD hS hl)
theorem go_bald (X : Cx p s m args c cc nL own Ts D tys A) (q0 t0 : Nat) {a : Nat} {cA : ClassId} {n : Nat} {f : Nat → Int32} (ha : ws[q0]? = some (a, .inl (cA, n, .inl f))) (ht : tys[t0]? = some (cA, .byte)) {i : Int32} (hin : vp_in i n) (hd : decode cc pc = .ok (.baload, 1)) (kk : Go p l e R s m args below meth c Q nL D A ws cells slots (pc + 1) lv (.int (f i.toNatClampNeg) :: st)) : Go p l e R s m args below meth c Q nL D A ws cells slots pc lv (.int i :: .ref a :: st) :=
  fun H locs ls hP hD hS hl => va_bald X.1 X.2.1 X.2.2.2.2.2.1 hP q0 t0 ha ht hin hd (kk H locs ls hP hD hS hl)
theorem go_zald (X : Cx p s m args c cc nL own Ts D tys A) (q0 t0 : Nat) {a : Nat} {cA : ClassId} {n : Nat} {f : Nat → Int32} (ha : ws[q0]? = some (a, .inl (cA, n, .inl f))) (ht : tys[t0]? = some (cA, .boolean)) {i : Int32} (hin : vp_in i n) (hd : decode cc pc = .ok (.baload, 1)) (kk : Go p l e R s m args below meth c Q nL D A ws cells slots (pc + 1) lv (.int (f i.toNatClampNeg) :: st)) : Go p l e R s m args below meth c Q nL D A ws cells slots pc lv (.int i :: .ref a :: st) :=
  fun H locs ls hP hD hS hl => va_zald X.1 X.2.1 X.2.2.2.2.2.1 hP q0 t0 ha ht hin hd (kk H locs ls hP hD hS hl)
theorem go_lald (X : Cx p s m args c cc nL own Ts D tys A) (q0 t0 : Nat) {a : Nat} {cA : ClassId} {n : Nat} {f : Nat → Int64} (ha : ws[q0]? = some (a, .inl (cA, n, .inr (.inl f)))) (ht : tys[t0]? = some (cA, .long)) {i : Int32} (hin : vp_in i n) (hd : decode cc pc = .ok (.laload, 1)) (kk : Go p l e R s m args below meth c Q nL D A ws cells slots (pc + 1) lv (.long (f i.toNatClampNeg) :: st)) : Go p l e R s m args below meth c Q nL D A ws cells slots pc lv (.int i :: .ref a :: st) :=
  fun H locs ls hP hD hS hl => va_lald X.1 X.2.1 X.2.2.2.2.2.1 hP q0 t0 ha ht hin hd (kk H locs ls hP hD hS hl)
theorem go_iast (X : Cx p s m args c cc nL own Ts D tys A) (ws' : va_W) (q0 t0 : Nat) {a : Nat} {cA : ClassId} {n : Nat} {f : Nat → Int32} (ha : ws[q0]? = some (a, .inl (cA, n, .inl f))) (ht : tys[t0]? = some (cA, .int)) {i : Int32} {x : Int32} (hin : vp_in i n) (hw : ws.set q0 (a, .inl (cA, n, .inl (upd f i.toNatClampNeg x))) = ws') (hd : decode cc pc = .ok (.iastore, 1)) (kk : Go p l e R s m args below meth c Q nL D A ws' cells slots (pc + 1) lv st) : Go p l e R s m args below meth c Q nL D A ws cells slots pc lv (.int x :: .int i :: .ref a :: st) := by
  subst hw
  exact fun H locs ls hP hD hS hl => va_iast X.1 X.2.1 X.2.2.2.2.2.1 hP hD hS q0 t0 ha ht hin hd (fun H locs hP hD hS => kk H locs ls hP hD hS hl)
theorem go_bast (X : Cx p s m args c cc nL own Ts D tys A) (ws' : va_W) (q0 t0 : Nat) {a : Nat} {cA : ClassId} {n : Nat} {f : Nat → Int32} (ha : ws[q0]? = some (a, .inl (cA, n, .inl f))) (ht : tys[t0]? = some (cA, .byte)) {i : Int32} {x : Int32} (hin : vp_in i n) (hw : ws.set q0 (a, .inl (cA, n, .inl (upd f i.toNatClampNeg (vp_nar .byte x)))) = ws') (hd : decode cc pc = .ok (.bastore, 1)) (kk : Go p l e R s m args below meth c Q nL D A ws' cells slots (pc + 1) lv st) : Go p l e R s m args below meth c Q nL D A ws cells slots pc lv (.int x :: .int i :: .ref a :: st) := by
  subst hw
  exact fun H locs ls hP hD hS hl => va_bast X.1 X.2.1 X.2.2.2.2.2.1 hP hD hS q0 t0 ha ht hin hd (fun H locs hP hD hS => kk H locs ls hP hD hS hl)
theorem go_zast (X : Cx p s m args c cc nL own Ts D tys A) (ws' : va_W) (q0 t0 : Nat) {a : Nat} {cA : ClassId} {n : Nat} {f : Nat → Int32} (ha : ws[q0]? = some (a, .inl (cA, n, .inl f))) (ht : tys[t0]? = some (cA, .boolean)) {i : Int32} {x : Int32} (hin : vp_in i n) (hw : ws.set q0 (a, .inl (cA, n, .inl (upd f i.toNatClampNeg (vp_nar .boolean x)))) = ws') (hd : decode cc pc = .ok (.bastore, 1)) (kk : Go p l e R s m args below meth c Q nL D A ws' cells slots (pc + 1) lv st) : Go p l e R s m args below meth c Q nL D A ws cells slots pc lv (.int x :: .int i :: .ref a :: st) := by
  subst hw
  exact fun H locs ls hP hD hS hl => va_zast X.1 X.2.1 X.2.2.2.2.2.1 hP hD hS q0 t0 ha ht hin hd (fun H locs hP hD hS => kk H locs ls hP hD hS hl)
theorem go_last (X : Cx p s m args c cc nL own Ts D tys A) (ws' : va_W) (q0 t0 : Nat) {a : Nat} {cA : ClassId} {n : Nat} {f : Nat → Int64} (ha : ws[q0]? = some (a, .inl (cA, n, .inr (.inl f)))) (ht : tys[t0]? = some (cA, .long)) {i : Int32} {x : Int64} (hin : vp_in i n) (hw : ws.set q0 (a, .inl (cA, n, .inr (.inl (vp_updL f i.toNatClampNeg x)))) = ws') (hd : decode cc pc = .ok (.lastore, 1)) (kk : Go p l e R s m args below meth c Q nL D A ws' cells slots (pc + 1) lv st) : Go p l e R s m args below meth c Q nL D A ws cells slots pc lv (.long x :: .int i :: .ref a :: st) := by
  subst hw
  exact fun H locs ls hP hD hS hl => va_last X.1 X.2.1 X.2.2.2.2.2.1 hP hD hS q0 t0 ha ht hin hd (fun H locs hP hD hS => kk H locs ls hP hD hS hl)
theorem go_alen (X : Cx p s m args c cc nL own Ts D tys A) (q0 t0 : Nat) {a : Nat} {cA : ClassId} {x : vp_A} (ha : ws[q0]? = some (a, .inl (cA, x))) {ty : FieldType} (ht : tys[t0]? = some (cA, ty)) (hd : decode cc pc = .ok (.arraylength, 1)) (kk : Go p l e R s m args below meth c Q nL D A ws cells slots (pc + 1) lv (.int (nI x.1) :: st)) : Go p l e R s m args below meth c Q nL D A ws cells slots pc lv (.ref a :: st) :=
  fun H locs ls hP hD hS hl => va_alen X.1 X.2.1 X.2.2.2.2.2.1 hP q0 t0 ha ht rfl hd (kk H locs ls hP hD hS hl)
theorem go_aldq (X : Cx p s m args c cc nL own Ts D tys A) (q0 t0 : Nat) {a : Nat} {cA : ClassId} {C : String} {n : Nat} {f : Nat → Option Nat} (ha : ws[q0]? = some (a, .inl (cA, n, .inr (.inr (.inr (.inr f)))))) (ht : tys[t0]? = some (cA, .object C)) {i : Int32} (hin : vp_in i n) (hd : decode cc pc = .ok (.aaload, 1)) (kk : Go p l e R s m args below meth c Q nL D A ws cells slots (pc + 1) lv (va_rf (f i.toNatClampNeg) :: st)) : Go p l e R s m args below meth c Q nL D A ws cells slots pc lv (.int i :: .ref a :: st) :=
  fun H locs ls hP hD hS hl => va_aldq X.1 X.2.1 X.2.2.2.2.2.1 hP q0 t0 ha ht hin hd (kk H locs ls hP hD hS hl)
end GO
end
section
/-! Worlds as heaps of cells in any order; calls with the frame rule; contracts. -/
theorem wP_iff {D : va_G} {cl : List vw_C} {ws : va_W} {H : Heap} : va_P D cl ws H ↔ ∀ q ∈ ws, va_at D cl q H := by
  constructor
  · intro h q hq
    obtain ⟨i, hi⟩ := List.getElem?_of_mem hq
    exact h i q hi
  · intro h k q hk
    exact h q (List.mem_of_getElem? hk)
theorem wD_iff {A : Nat → Prop} {ws : va_W} : va_D A ws ↔ (ws.map (fun q => q.1)).Nodup ∧ ∀ q ∈ ws, A q.1 := by
  constructor
  · intro h
    refine ⟨?_, fun q hq => ?_⟩
    · refine List.pairwise_iff_getElem.mpr fun i j hi hj hij heq => ?_
      have hi' : i < ws.length := by rw [List.length_map] at hi; exact hi
      have hj' : j < ws.length := by rw [List.length_map] at hj; exact hj
      have := h.1 i j _ _ (List.getElem?_eq_getElem hi') (List.getElem?_eq_getElem hj') (by simpa using heq)
      omega
    · obtain ⟨i, hi⟩ := List.getElem?_of_mem hq
      exact h.2 i q hi
  · intro h
    have hn := List.pairwise_iff_getElem.mp h.1
    refine ⟨fun i j x y hi hj hxy => ?_, fun k q hk => h.2 q (List.mem_of_getElem? hk)⟩
    obtain ⟨li, hi⟩ := List.getElem?_eq_some_iff.mp hi
    obtain ⟨lj, hj⟩ := List.getElem?_eq_some_iff.mp hj
    rcases Nat.lt_trichotomy i j with hlt | rfl | hlt
    · exact absurd (by rw [List.getElem_map, List.getElem_map, hi, hj]; exact hxy) (hn i j (by rw [List.length_map]; exact li) (by rw [List.length_map]; exact lj) hlt)
    · rfl
    · exact absurd (by rw [List.getElem_map, List.getElem_map, hi, hj]; exact hxy.symm) (hn j i (by rw [List.length_map]; exact lj) (by rw [List.length_map]; exact li) hlt)
theorem wP_perm {D : va_G} {cl : List vw_C} {ws ws' : va_W} {H : Heap} (hp : List.Perm ws ws') (h : va_P D cl ws H) : va_P D cl ws' H := wP_iff.mpr fun q hq => wP_iff.mp h q (hp.mem_iff.mpr hq)
theorem wD_perm {A : Nat → Prop} {ws ws' : va_W} (hp : List.Perm ws ws') (h : va_D A ws) : va_D A ws' := by
  rw [wD_iff] at h ⊢
  exact ⟨(hp.map _).nodup_iff.mp h.1, fun q hq => h.2 q (hp.mem_iff.mpr hq)⟩
theorem wP_app {D : va_G} {cl : List vw_C} {a b : va_W} {H : Heap} : va_P D cl (a ++ b) H ↔ va_P D cl a H ∧ va_P D cl b H := by
  simp only [wP_iff, List.mem_append]
  exact ⟨fun h => ⟨fun q hq => h q (Or.inl hq), fun q hq => h q (Or.inr hq)⟩, fun h q hq => hq.elim (h.1 q) (h.2 q)⟩
theorem wA_iff {ws : va_W} {sz q : Nat} : va_A ws sz q ↔ (∃ x ∈ ws, x.1 = q) ∨ sz ≤ q := by
  constructor
  · rintro (⟨k, e, h⟩ | h)
    · exact Or.inl ⟨_, List.mem_of_getElem? h, rfl⟩
    · exact Or.inr h
  · rintro (⟨x, hx, rfl⟩ | h)
    · obtain ⟨i, hi⟩ := List.getElem?_of_mem hx
      exact Or.inl ⟨i, x.2, hi⟩
    · exact Or.inr h
theorem filterMap_range_get {α : Type} : ∀ (l : List α), (List.range l.length).filterMap (fun i => l[i]?) = l
  | [] => rfl
  | a :: l => by
    rw [List.length_cons, List.range_succ_eq_map, List.filterMap_cons]
    simp only [List.getElem?_cons_zero, List.filterMap_map, Function.comp_def, List.getElem?_cons_succ]
    rw [filterMap_range_get l]
/-- a list in another order, by its places -/
theorem perm_idx {α : Type} {a b : List α} (is : List Nat) (h1 : is.isPerm (List.range a.length) = true) (h2 : is.filterMap (fun i => a[i]?) = b) : List.Perm a b := by
  have h := (List.isPerm_iff.mp h1).filterMap (fun i => a[i]?)
  rw [h2, filterMap_range_get] at h
  exact h.symm
/-- behind a call: what the callee didn't have is unchanged -/
theorem w_join {A0 : Nat → Prop} {D : va_G} {cl : List vw_C} {ws w0 wr w1 : va_W} {H H1 : Heap} (hP : va_P D cl ws H) (hD : va_D A0 ws) (hp : List.Perm ws (w0 ++ wr))
    (hk : ∀ q : Nat, q < H.size → ¬ va_A w0 H.size q → H1[q]? = H[q]?) (hF : ∀ q, va_A w0 H.size q → A0 q) (hP1 : va_P D cl w1 H1) (hD1 : va_D (va_A w0 H.size) w1) : va_P D cl (w1 ++ wr) H1 ∧ va_D A0 (w1 ++ wr) := by
  have hP' := wP_app.mp (wP_perm hp hP)
  have hD' := wD_iff.mp (wD_perm hp hD)
  rw [List.map_append, List.nodup_append] at hD'
  obtain ⟨⟨hn0, hnr, hdis⟩, hA'⟩ := hD'
  have apart : ∀ q ∈ wr, q.1 < H.size ∧ ¬ va_A w0 H.size q.1 := by
    intro q hq
    have hl := (wP_iff.mp hP'.2 q hq).lt
    refine ⟨hl, fun h => ?_⟩
    rcases wA_iff.mp h with ⟨x, hx, he⟩ | h
    · exact hdis x.1 (List.mem_map.mpr ⟨x, hx, rfl⟩) q.1 (List.mem_map.mpr ⟨q, hq, rfl⟩) he
    · omega
  refine ⟨wP_app.mpr ⟨hP1, wP_iff.mpr fun q hq => ?_⟩, wD_iff.mpr ⟨?_, fun q hq => ?_⟩⟩
  · exact (wP_iff.mp hP'.2 q hq).kept (hk q.1 (apart q hq).1 (apart q hq).2)
  · rw [List.map_append, List.nodup_append]
    refine ⟨(wD_iff.mp hD1).1, hnr, fun a ha b hb hab => ?_⟩
    obtain ⟨x, hx, rfl⟩ := List.mem_map.mp ha
    obtain ⟨y, hy, rfl⟩ := List.mem_map.mp hb
    exact (apart y hy).2 (by rw [← hab]; exact (wD_iff.mp hD1).2 x hx)
  · rcases List.mem_append.mp hq with h | h
    · exact hF _ ((wD_iff.mp hD1).2 q h)
    · exact hA' q (List.mem_append.mpr (Or.inr h))
/-- a contract's start: its cells; its end: its cells anew -/
def PreW (D : va_G) (tys : List (ClassId × FieldType)) (w0 : va_W) (sz : Nat) : State → Prop := fun U => U.heap.size = sz ∧ va_P D vwCl w0 U.heap ∧ va_K D vwCl tys U ∧ va_D (fun _ => True) w0
def AtW {S : Type} (D : va_G) (tys : List (ClassId × FieldType)) (A : Nat → Prop) (wc : S → va_W) : S → State → Prop := fun u t => va_P D vwCl (wc u) t.heap ∧ va_K D vwCl tys t ∧ va_D A (wc u)
def MetI {S : Type} (l : Launch) (y : MethodName) (ws : List Cond) (rm : Room) (D : va_G) (tys : List (ClassId × FieldType)) (av : List Value) (w0 : va_W) (wc : S → va_W) (post : Int32 → S → Prop) (mc ms : Nat) : Prop :=
  ∀ sz : Nat, Met l y ws rm (va_Pc av (PreW D tys w0 sz)) (va_Qi post (AtW D tys (va_A w0 sz) wc) (va_A w0 sz)) mc ms (va_A w0 sz)
def MetV {S : Type} (l : Launch) (y : MethodName) (ws : List Cond) (rm : Room) (D : va_G) (tys : List (ClassId × FieldType)) (av : List Value) (w0 : va_W) (wc : S → va_W) (post : S → Prop) (mc ms : Nat) : Prop :=
  ∀ sz : Nat, Met l y ws rm (va_Pc av (PreW D tys w0 sz)) (va_Qv post (AtW D tys (va_A w0 sz) wc) (va_A w0 sz)) mc ms (va_A w0 sz)
def MetQ {S : Type} (l : Launch) (y : MethodName) (ws : List Cond) (rm : Room) (D : va_G) (tys : List (ClassId × FieldType)) (av : List Value) (w0 : va_W) (wc : S → va_W) (post : Option Nat → S → Prop) (mc ms : Nat) : Prop :=
  ∀ sz : Nat, Met l y ws rm (va_Pc av (PreW D tys w0 sz)) (va_Qq post (AtW D tys (va_A w0 sz) wc) (va_A w0 sz)) mc ms (va_A w0 sz)
theorem preW_blind {av : List Value} {D : va_G} {tys : List (ClassId × FieldType)} {w0 : va_W} {sz : Nat} : FrameBlind (va_Pc av (PreW D tys w0 sz)) := by
  intro a U g mk h
  obtain ⟨h0, h1, h2, h3, h4⟩ := h
  exact ⟨h0, h1, h2, va_K.moved (u := U) (U := U.calling g mk a) (Vm.Alike.refl U.vm) h3, h4⟩
section GC
variable {p : Program} {l : Launch} {e : Env} {R : Room} {s : State} {m : MethodId} {args : Array Value} {below : List Frame} {meth : Method} {c : Code} {Q : State → Prop} {cc : ByteArray} {nL : Nat} {own : String} {Ts : List Cond} {D : va_G} {tys : List (ClassId × FieldType)} {A : Nat → Prop} {ws : va_W} {cells slots pc : Nat} {lv : List (Nat × Value)} {st : List Value}
theorem go_perm {ws' : va_W} (hp : List.Perm ws ws') (k : Go p l e R s m args below meth c Q nL D A ws' cells slots pc lv st) : Go p l e R s m args below meth c Q nL D A ws cells slots pc lv st :=
  fun H locs ls hP hD hS hl => k H locs ls (wP_perm hp hP) (wD_perm hp hD) hS hl
theorem go_widen {k n : Nat} (h1 : cells ≤ k) (h2 : slots ≤ n) (kk : Go p l e R s m args below meth c Q nL D A ws k n pc lv st) : Go p l e R s m args below meth c Q nL D A ws cells slots pc lv st :=
  fun H locs ls hP hD hS hl => W.widen h1 h2 (kk H locs ls hP hD hS hl)
theorem go_lv (is : List Nat) {lv' : List (Nat × Value)} (h : lv_pick lv is = lv') (k : Go p l e R s m args below meth c Q nL D A ws cells slots pc lv' st) : Go p l e R s m args below meth c Q nL D A ws cells slots pc lv st :=
  fun H locs ls hP hD hS hl => k H locs ls hP hD hS (lv_sub hl is h)
theorem pre_of {H : Heap} {w0 wr : va_W} (X : Cx p s m args c cc nL own Ts D tys A) (hp : List.Perm ws (w0 ++ wr)) (hP : va_P D vwCl ws H) (hD : va_D A ws) {U : State} (hU : U.heap = H) (hW : s.WarmedH U.vm) : PreW D tys w0 H.size U := by
  refine ⟨by rw [hU], by rw [hU]; exact (wP_app.mp (wP_perm hp hP)).1, va_K.moved hW.alike X.2.2.2.2.2.1, ?_⟩
  have h := wD_iff.mp (wD_perm hp hD)
  rw [List.map_append, List.nodup_append] at h
  exact wD_iff.mpr ⟨h.1.1, fun _ _ => trivial⟩
theorem free_of {H : Heap} {locs : List Loc} {w0 wr : va_W} (X : Cx p s m args c cc nL own Ts D tys A) (hp : List.Perm ws (w0 ++ wr)) (hD : va_D A ws) (hS : va_S A s.heap H locs) : ∀ q, va_A w0 H.size q → A q := by
  intro q h
  rcases wA_iff.mp h with ⟨x, hx, rfl⟩ | h
  · exact (wD_iff.mp (wD_perm hp hD)).2 x (List.mem_append.mpr (Or.inl hx))
  · exact X.2.2.2.2.2.2 q (Nat.le_trans hS.1 h)
theorem rcv_of {H : Heap} {w0 wr : va_W} (X : Cx p s m args c cc nL own Ts D tys A) (hp : List.Perm ws (w0 ++ wr)) (hP : va_P D vwCl ws H) {ci b : Nat} {q : vw_C} {fs : List Value} (hc : vwCl[ci]? = some q) (he : w0[0]? = some (b, .inr (ci, fs))) : ∃ cell : Cell, H[b]? = some cell ∧ cell.vm.isStatics = false ∧ s.vm.findClass q.1 = some cell.cls :=
  va_recv X.2.2.2.2.2.1 ((wP_app.mp (wP_perm hp hP)).1) hc he
variable {S : Type} {y : MethodName} {bytes : ByteArray} {maxL n index ci b mc ms : Nat} {ret : Option FieldType} {wy : List Cond} {rm : Room} {As rest : List Value} {w0 wr : va_W} {wc ws2 : S → va_W} {C : String} {T : u_T} {N : Nat} {fs : List Value}
theorem go_callVi {post : Int32 → S → Prop} (X : Cx p s m args c cc nL own Ts D tys A) (hM : MetI l y wy rm D tys (.ref b :: As) w0 wc post mc ms) (cw : CallW R s args own C index y bytes maxL ret wy rm mc ms n) (hp : List.Perm ws (w0 ++ wr)) (hp2 : ∀ u, List.Perm (wc u ++ wr) (ws2 u)) (hc : vwCl[ci]? = some (C, T, N)) (he : w0[0]? = some (b, .inr (ci, fs))) (hst : st = As.reverse ++ .ref b :: rest) (hn : As.length = n) (hr : (rest.map fun v => v.category).sum ≤ 8) (hd : decode cc pc = .ok (.invokevirtual index, 3)) (hf : cells + mc ≤ R.cells ∧ slots + ms ≤ R.slots)
    (kk : ∀ r u, post r u → Go p l e R s m args below meth c Q nL D A (ws2 u) (cells + mc) (slots + ms) (pc + 3) lv (.int r :: rest)) : Go p l e R s m args below meth c Q nL D A ws cells slots pc lv st := by
  intro H locs ls hP hD hS hl
  refine va_calli (va_runV (As := As) (rest := rest) ⟨X.1, X.2.1, X.2.2.1, X.2.2.2.1, X.2.2.2.2.1⟩ (hM H.size) cw ⟨preW_blind, rcv_of X hp hP hc he, fun U hU hW => ⟨rfl, pre_of X hp hP hD hU hW⟩⟩ rfl hn hl.1 hst (lv_room hr) hd hf) hS (fun q _ h => free_of X hp hD hS q h) (free_of X hp hD hS) (fun r u t H1 locs ht hvm hw hB hz1 hk1 hS1 => ?_)
  obtain ⟨hP1, hK1, hD1⟩ := hB
  rw [ht] at hP1
  obtain ⟨hP2, hD2⟩ := w_join hP hD hp hk1 (free_of X hp hD hS) hP1 hD1
  exact kk r u hw H1 locs ls (wP_perm (hp2 u) hP2) (wD_perm (hp2 u) hD2) hS1 hl
theorem go_callVv {post : S → Prop} (X : Cx p s m args c cc nL own Ts D tys A) (hM : MetV l y wy rm D tys (.ref b :: As) w0 wc post mc ms) (cw : CallW R s args own C index y bytes maxL ret wy rm mc ms n) (hp : List.Perm ws (w0 ++ wr)) (hp2 : ∀ u, List.Perm (wc u ++ wr) (ws2 u)) (hc : vwCl[ci]? = some (C, T, N)) (he : w0[0]? = some (b, .inr (ci, fs))) (hst : st = As.reverse ++ .ref b :: rest) (hn : As.length = n) (hr : (rest.map fun v => v.category).sum ≤ 8) (hd : decode cc pc = .ok (.invokevirtual index, 3)) (hf : cells + mc ≤ R.cells ∧ slots + ms ≤ R.slots)
    (kk : ∀ u, post u → Go p l e R s m args below meth c Q nL D A (ws2 u) (cells + mc) (slots + ms) (pc + 3) lv rest) : Go p l e R s m args below meth c Q nL D A ws cells slots pc lv st := by
  intro H locs ls hP hD hS hl
  refine va_callv (va_runV (As := As) (rest := rest) ⟨X.1, X.2.1, X.2.2.1, X.2.2.2.1, X.2.2.2.2.1⟩ (hM H.size) cw ⟨preW_blind, rcv_of X hp hP hc he, fun U hU hW => ⟨rfl, pre_of X hp hP hD hU hW⟩⟩ rfl hn hl.1 hst (lv_room hr) hd hf) hS (fun q _ h => free_of X hp hD hS q h) (free_of X hp hD hS) (fun u t H1 locs ht hvm hw hB hz1 hk1 hS1 => ?_)
  obtain ⟨hP1, hK1, hD1⟩ := hB
  rw [ht] at hP1
  obtain ⟨hP2, hD2⟩ := w_join hP hD hp hk1 (free_of X hp hD hS) hP1 hD1
  exact kk u hw H1 locs ls (wP_perm (hp2 u) hP2) (wD_perm (hp2 u) hD2) hS1 hl
theorem go_callVq {post : Option Nat → S → Prop} (X : Cx p s m args c cc nL own Ts D tys A) (hM : MetQ l y wy rm D tys (.ref b :: As) w0 wc post mc ms) (cw : CallW R s args own C index y bytes maxL ret wy rm mc ms n) (hp : List.Perm ws (w0 ++ wr)) (hp2 : ∀ u, List.Perm (wc u ++ wr) (ws2 u)) (hc : vwCl[ci]? = some (C, T, N)) (he : w0[0]? = some (b, .inr (ci, fs))) (hst : st = As.reverse ++ .ref b :: rest) (hn : As.length = n) (hr : (rest.map fun v => v.category).sum ≤ 8) (hd : decode cc pc = .ok (.invokevirtual index, 3)) (hf : cells + mc ≤ R.cells ∧ slots + ms ≤ R.slots)
    (kk : ∀ r u, post r u → Go p l e R s m args below meth c Q nL D A (ws2 u) (cells + mc) (slots + ms) (pc + 3) lv (va_rf r :: rest)) : Go p l e R s m args below meth c Q nL D A ws cells slots pc lv st := by
  intro H locs ls hP hD hS hl
  refine va_callq (va_runV (As := As) (rest := rest) ⟨X.1, X.2.1, X.2.2.1, X.2.2.2.1, X.2.2.2.2.1⟩ (hM H.size) cw ⟨preW_blind, rcv_of X hp hP hc he, fun U hU hW => ⟨rfl, pre_of X hp hP hD hU hW⟩⟩ rfl hn hl.1 hst (lv_room hr) hd hf) hS (fun q _ h => free_of X hp hD hS q h) (free_of X hp hD hS) (fun r u t H1 locs ht hvm hw hB hz1 hk1 hS1 => ?_)
  obtain ⟨hP1, hK1, hD1⟩ := hB
  rw [ht] at hP1
  obtain ⟨hP2, hD2⟩ := w_join hP hD hp hk1 (free_of X hp hD hS) hP1 hD1
  exact kk r u hw H1 locs ls (wP_perm (hp2 u) hP2) (wD_perm (hp2 u) hD2) hS1 hl
theorem go_callSi {post : Int32 → S → Prop} (X : Cx p s m args c cc nL own Ts D tys A) (hM : MetI l y wy rm D tys As w0 wc post mc ms) (cw : CallB R s args own index y bytes maxL ret wy rm mc ms n ∧ (Cond.static y).before args s = true) (hp : List.Perm ws (w0 ++ wr)) (hp2 : ∀ u, List.Perm (wc u ++ wr) (ws2 u)) (hst : st = As.reverse ++ rest) (hn : As.length = n) (hr : (rest.map fun v => v.category).sum ≤ 8) (hd : decode cc pc = .ok (.invokestatic index, 3)) (hf : cells + mc ≤ R.cells ∧ slots + ms ≤ R.slots)
    (kk : ∀ r u, post r u → Go p l e R s m args below meth c Q nL D A (ws2 u) (cells + mc) (slots + ms) (pc + 3) lv (.int r :: rest)) : Go p l e R s m args below meth c Q nL D A ws cells slots pc lv st := by
  intro H locs ls hP hD hS hl
  refine va_calli (va_runS (As := As) (rest := rest) ⟨X.1, X.2.1, X.2.2.1, X.2.2.2.1, X.2.2.2.2.1⟩ (hM H.size) cw ⟨preW_blind, fun U hU hW => ⟨rfl, pre_of X hp hP hD hU hW⟩⟩ rfl hn hl.1 hst (lv_room hr) hd hf) hS (fun q _ h => free_of X hp hD hS q h) (free_of X hp hD hS) (fun r u t H1 locs ht hvm hw hB hz1 hk1 hS1 => ?_)
  obtain ⟨hP1, hK1, hD1⟩ := hB
  rw [ht] at hP1
  obtain ⟨hP2, hD2⟩ := w_join hP hD hp hk1 (free_of X hp hD hS) hP1 hD1
  exact kk r u hw H1 locs ls (wP_perm (hp2 u) hP2) (wD_perm (hp2 u) hD2) hS1 hl
theorem go_callSv {post : S → Prop} (X : Cx p s m args c cc nL own Ts D tys A) (hM : MetV l y wy rm D tys As w0 wc post mc ms) (cw : CallB R s args own index y bytes maxL ret wy rm mc ms n ∧ (Cond.static y).before args s = true) (hp : List.Perm ws (w0 ++ wr)) (hp2 : ∀ u, List.Perm (wc u ++ wr) (ws2 u)) (hst : st = As.reverse ++ rest) (hn : As.length = n) (hr : (rest.map fun v => v.category).sum ≤ 8) (hd : decode cc pc = .ok (.invokestatic index, 3)) (hf : cells + mc ≤ R.cells ∧ slots + ms ≤ R.slots)
    (kk : ∀ u, post u → Go p l e R s m args below meth c Q nL D A (ws2 u) (cells + mc) (slots + ms) (pc + 3) lv rest) : Go p l e R s m args below meth c Q nL D A ws cells slots pc lv st := by
  intro H locs ls hP hD hS hl
  refine va_callv (va_runS (As := As) (rest := rest) ⟨X.1, X.2.1, X.2.2.1, X.2.2.2.1, X.2.2.2.2.1⟩ (hM H.size) cw ⟨preW_blind, fun U hU hW => ⟨rfl, pre_of X hp hP hD hU hW⟩⟩ rfl hn hl.1 hst (lv_room hr) hd hf) hS (fun q _ h => free_of X hp hD hS q h) (free_of X hp hD hS) (fun u t H1 locs ht hvm hw hB hz1 hk1 hS1 => ?_)
  obtain ⟨hP1, hK1, hD1⟩ := hB
  rw [ht] at hP1
  obtain ⟨hP2, hD2⟩ := w_join hP hD hp hk1 (free_of X hp hD hS) hP1 hD1
  exact kk u hw H1 locs ls (wP_perm (hp2 u) hP2) (wD_perm (hp2 u) hD2) hS1 hl
theorem go_mmax (X : Cx p s m args c cc nL own Ts D tys A) {x y : Int32} (h1 : Cond.methodLink own index Lib.Math.max.name ∈ Ts) (h2 : Cond.static Lib.Math.max.name ∈ Ts) (h3 : Cond.initialized "java/lang/Math" ∈ Ts) (h4 : Cond.code Lib.Math.max.name Lib.Math.max.code 2 (some .int) ∈ Ts) (hf : 1 ≤ R.frames) (hl0 : (rest.map fun v => v.category).sum + 13 ≤ R.locals) (hc : cells ≤ R.cells ∧ slots ≤ R.slots) (hd : decode cc pc = .ok (.invokestatic index, 3)) (kk : Go p l e R s m args below meth c Q nL D A ws cells slots (pc + 3) lv (.int (if x < y then y else x) :: rest)) : Go p l e R s m args below meth c Q nL D A ws cells slots pc lv (.int y :: .int x :: rest) :=
  fun H locs ls hP hD hS hl => va_mmax X.1 X.2.1 (X.2.2.1.trans hl.1.symm) X.2.2.2.1 (X.2.2.2.2.1 _ h1) (X.2.2.2.2.1 _ h2) (X.2.2.2.2.1 _ h3) (X.2.2.2.2.1 _ h4) hf hl0 hc.1 hc.2 hd (kk H locs ls hP hD hS hl)
theorem go_mmin (X : Cx p s m args c cc nL own Ts D tys A) {x y : Int32} (h1 : Cond.methodLink own index Lib.Math.min.name ∈ Ts) (h2 : Cond.static Lib.Math.min.name ∈ Ts) (h3 : Cond.initialized "java/lang/Math" ∈ Ts) (h4 : Cond.code Lib.Math.min.name Lib.Math.min.code 2 (some .int) ∈ Ts) (hf : 1 ≤ R.frames) (hl0 : (rest.map fun v => v.category).sum + 13 ≤ R.locals) (hc : cells ≤ R.cells ∧ slots ≤ R.slots) (hd : decode cc pc = .ok (.invokestatic index, 3)) (kk : Go p l e R s m args below meth c Q nL D A ws cells slots (pc + 3) lv (.int (if y < x then y else x) :: rest)) : Go p l e R s m args below meth c Q nL D A ws cells slots pc lv (.int y :: .int x :: rest) :=
  fun H locs ls hP hD hS hl => va_mmin X.1 X.2.1 (X.2.2.1.trans hl.1.symm) X.2.2.2.1 (X.2.2.2.2.1 _ h1) (X.2.2.2.2.1 _ h2) (X.2.2.2.2.1 _ h3) (X.2.2.2.2.1 _ h4) hf hl0 hc.1 hc.2 hd (kk H locs ls hP hD hS hl)
theorem go_mabs (X : Cx p s m args c cc nL own Ts D tys A) {x : Int32} (h1 : Cond.methodLink own index Lib.Math.abs.name ∈ Ts) (h2 : Cond.static Lib.Math.abs.name ∈ Ts) (h3 : Cond.initialized "java/lang/Math" ∈ Ts) (h4 : Cond.code Lib.Math.abs.name Lib.Math.abs.code 1 (some .int) ∈ Ts) (hf : 1 ≤ R.frames) (hl0 : (rest.map fun v => v.category).sum + 13 ≤ R.locals) (hc : cells ≤ R.cells ∧ slots ≤ R.slots) (hd : decode cc pc = .ok (.invokestatic index, 3)) (kk : Go p l e R s m args below meth c Q nL D A ws cells slots (pc + 3) lv (.int (if 0 ≤ x then x else 0 - x) :: rest)) : Go p l e R s m args below meth c Q nL D A ws cells slots pc lv (.int x :: rest) :=
  fun H locs ls hP hD hS hl => va_mabs X.1 X.2.1 (X.2.2.1.trans hl.1.symm) X.2.2.2.1 (X.2.2.2.2.1 _ h1) (X.2.2.2.2.1 _ h2) (X.2.2.2.2.1 _ h3) (X.2.2.2.2.1 _ h4) hf hl0 hc.1 hc.2 hd (kk H locs ls hP hD hS hl)
end GC
/-- a method's body ends here with an int -/
def RtI {S : Type} (p : Program) (l : Launch) (e : Env) (R : Room) (s : State) (m : MethodId) (args : Array Value) (below : List Frame) (meth : Method) (c : Code) (cc : ByteArray) (Q : State → Prop) (nL : Nat) (D : va_G) (A : Nat → Prop) (ty : FieldType) (wc : S → va_W) (post : Int32 → S → Prop) (cells slots : Nat) : Prop :=
  ∀ (r : Int32) (u : S) (pc : Nat) (lv : List (Nat × Value)), decode cc pc = .ok (.ireturn, 1) → narrow ty (.int r) = .int r → post r u → Go p l e R s m args below meth c Q nL D A (wc u) cells slots pc lv [.int r]
def RtV {S : Type} (p : Program) (l : Launch) (e : Env) (R : Room) (s : State) (m : MethodId) (args : Array Value) (below : List Frame) (meth : Method) (c : Code) (cc : ByteArray) (Q : State → Prop) (nL : Nat) (D : va_G) (A : Nat → Prop) (wc : S → va_W) (post : S → Prop) (cells slots : Nat) : Prop :=
  ∀ (u : S) (pc : Nat) (lv : List (Nat × Value)), decode cc pc = .ok (.return_, 1) → post u → Go p l e R s m args below meth c Q nL D A (wc u) cells slots pc lv []
def RtQ {S : Type} (p : Program) (l : Launch) (e : Env) (R : Room) (s : State) (m : MethodId) (args : Array Value) (below : List Frame) (meth : Method) (c : Code) (cc : ByteArray) (Q : State → Prop) (nL : Nat) (D : va_G) (A : Nat → Prop) (wc : S → va_W) (post : Option Nat → S → Prop) (cells slots : Nat) : Prop :=
  ∀ (r : Option Nat) (u : S) (pc : Nat) (lv : List (Nat × Value)), decode cc pc = .ok (.areturn, 1) → post r u → Go p l e R s m args below meth c Q nL D A (wc u) cells slots pc lv [va_rf r]
theorem entry_lv {m : MethodId} {av : List Value} {n : Nat} {lv : List (Nat × Value)} (h : (lg_sl av).length ≤ n) (hl : lv_args 0 av = lv) : ∃ ls : Array Slot, lv_has ls n lv ∧ entryFrame m av.toArray n = F0 m 0 ls [] := by
  subst hl
  exact ⟨_, lv_entry av h, lg_entry_eq _ _ _⟩
theorem metI_of {S : Type} {l : Launch} {y : MethodName} {ws ws' : List Cond} {rm : Room} {D : va_G} {tys : List (ClassId × FieldType)} {av : List Value} {w0 : va_W} {wc : S → va_W} {post : Int32 → S → Prop} {mc ms : Nat} {cc : ByteArray} {maxL : Nat} {ty : FieldType} {lv : List (Nat × Value)}
    (hy : plainName y.cls = true) (hw : ws = Cond.code y cc maxL (some ty) :: ws') (ha : (lg_sl av).length ≤ maxL) (hl : lv_args 0 av = lv)
    (body : ∀ (p : Program) (e : Env) (s : State) (m : MethodId) (below : List Frame) (meth : Method) (c : Code) (Q : State → Prop) (A : Nat → Prop), Cx p s m av.toArray c cc maxL y.cls ws D tys A → meth.locks = false → RtI p l e rm s m av.toArray below meth c cc Q maxL D A ty wc post mc ms → Go p l e rm s m av.toArray below meth c Q maxL D A w0 0 0 0 lv []) : MetI l y ws rm D tys av w0 wc post mc ms := by
  intro sz
  refine Met.ofW (cc := cc) (maxL := maxL) (ret := some ty) hy hw ?_
  intro p e s m args below meth c s₁ B hml hv
  obtain ⟨rfl, hsz, hP, hK, hD0⟩ := hv
  subst hsz
  have hD := hD0.self (sz := s.heap.size)
  obtain ⟨ls, hls, he⟩ := entry_lv (m := m) ha hl
  rw [he]
  refine body p e s m below meth c _ (va_A w0 s.heap.size) ⟨B.exec, B.bytes, hml, findClass_of_methodNamed B.named, atoms_spec (ws := ws) B.pre, hK, fun q h => Or.inr h⟩ B.notSynchronized ?_ s.heap [] ls hP hD va_S.rf hls
  intro r u pc lv2 hd hn hp H locs ls hP hD hS hl
  exact W.zret B.exec B.bytes B.returns hn (fun t ht hW => ⟨⟨r, u, rfl, hp, by rw [ht]; exact hP, va_K.moved hW.alike hK, hD⟩, hS.F ht⟩) hS.2.2 hd B.notSynchronized
theorem metV_of {S : Type} {l : Launch} {y : MethodName} {ws ws' : List Cond} {rm : Room} {D : va_G} {tys : List (ClassId × FieldType)} {av : List Value} {w0 : va_W} {wc : S → va_W} {post : S → Prop} {mc ms : Nat} {cc : ByteArray} {maxL : Nat} {lv : List (Nat × Value)}
    (hy : plainName y.cls = true) (hw : ws = Cond.code y cc maxL none :: ws') (ha : (lg_sl av).length ≤ maxL) (hl : lv_args 0 av = lv)
    (body : ∀ (p : Program) (e : Env) (s : State) (m : MethodId) (below : List Frame) (meth : Method) (c : Code) (Q : State → Prop) (A : Nat → Prop), Cx p s m av.toArray c cc maxL y.cls ws D tys A → meth.locks = false → meth.name = y.name → RtV p l e rm s m av.toArray below meth c cc Q maxL D A wc post mc ms → Go p l e rm s m av.toArray below meth c Q maxL D A w0 0 0 0 lv []) : MetV l y ws rm D tys av w0 wc post mc ms := by
  intro sz
  refine Met.ofW (cc := cc) (maxL := maxL) (ret := none) hy hw ?_
  intro p e s m args below meth c s₁ B hml hv
  obtain ⟨rfl, hsz, hP, hK, hD0⟩ := hv
  subst hsz
  have hD := hD0.self (sz := s.heap.size)
  obtain ⟨ls, hls, he⟩ := entry_lv (m := m) ha hl
  rw [he]
  refine body p e s m below meth c _ (va_A w0 s.heap.size) ⟨B.exec, B.bytes, hml, findClass_of_methodNamed B.named, atoms_spec (ws := ws) B.pre, hK, fun q h => Or.inr h⟩ B.notSynchronized (name_of_methodNamed B.named B.method).1 ?_ s.heap [] ls hP hD va_S.rf hls
  intro u pc lv2 hd hp H locs ls hP hD hS hl
  exact W.vret B.exec B.bytes B.returns (fun t ht hW => ⟨⟨u, rfl, hp, by rw [ht]; exact hP, va_K.moved hW.alike hK, hD⟩, hS.F ht⟩) hS.2.2 hd B.notSynchronized
theorem metQ_of {S : Type} {l : Launch} {y : MethodName} {ws ws' : List Cond} {rm : Room} {D : va_G} {tys : List (ClassId × FieldType)} {av : List Value} {w0 : va_W} {wc : S → va_W} {post : Option Nat → S → Prop} {mc ms : Nat} {cc : ByteArray} {maxL : Nat} {rc : String} {lv : List (Nat × Value)}
    (hy : plainName y.cls = true) (hw : ws = Cond.code y cc maxL (some (.object rc)) :: ws') (ha : (lg_sl av).length ≤ maxL) (hl : lv_args 0 av = lv)
    (body : ∀ (p : Program) (e : Env) (s : State) (m : MethodId) (below : List Frame) (meth : Method) (c : Code) (Q : State → Prop) (A : Nat → Prop), Cx p s m av.toArray c cc maxL y.cls ws D tys A → meth.locks = false → RtQ p l e rm s m av.toArray below meth c cc Q maxL D A wc post mc ms → Go p l e rm s m av.toArray below meth c Q maxL D A w0 0 0 0 lv []) : MetQ l y ws rm D tys av w0 wc post mc ms := by
  intro sz
  refine Met.ofW (cc := cc) (maxL := maxL) (ret := some (.object rc)) hy hw ?_
  intro p e s m args below meth c s₁ B hml hv
  obtain ⟨rfl, hsz, hP, hK, hD0⟩ := hv
  subst hsz
  have hD := hD0.self (sz := s.heap.size)
  obtain ⟨ls, hls, he⟩ := entry_lv (m := m) ha hl
  rw [he]
  refine body p e s m below meth c _ (va_A w0 s.heap.size) ⟨B.exec, B.bytes, hml, findClass_of_methodNamed B.named, atoms_spec (ws := ws) B.pre, hK, fun q h => Or.inr h⟩ B.notSynchronized ?_ s.heap [] ls hP hD va_S.rf hls
  intro r u pc lv2 hd hp H locs ls hP hD hS hl
  exact W.aret B.exec B.bytes B.returns (Or.inl ⟨_, rfl⟩) (va_rf_or r) (fun t ht hW => ⟨⟨r, u, rfl, hp, by rw [ht]; exact hP, va_K.moved hW.alike hK, hD⟩, hS.F ht⟩) hS.2.2 hd B.notSynchronized
end
