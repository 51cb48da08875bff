section
-- ===== PART A: goes FIRST, ahead of the names: the tables' words, and 'selects' of the private methods out of them =====
/-- a private method of a class that the tables say can be made, by its rows of tables_1 -/
def lw_okq (q : MethodName × Nat) : Prop := (q.1.cls ≠ "java/lang/invoke/MethodHandle" ∧ q.1.cls ≠ "java/lang/invoke/VarHandle") ∧ Cond.instantiable q.1.cls q.2 ∈ tables_1 ∧ Cond.privateMethod q.1 ∈ tables_1 ∧ Cond.instanceMethod q.1 ∈ tables_1
theorem lw_p0 : lw_okq (⟨"TrainedSegments$Trainer", "coverFrom", "(IIZ)V"⟩, 8) := ⟨⟨by decide +kernel, by decide +kernel⟩, List.mem_of_getElem? (i := 115) (by decide +kernel), List.mem_of_getElem? (i := 265) (by decide +kernel), List.mem_of_getElem? (i := 266) (by decide +kernel)⟩
theorem lw_p1 : lw_okq (⟨"TrainedSegments$Trainer", "markKinds", "(II)V"⟩, 8) := ⟨⟨by decide +kernel, by decide +kernel⟩, List.mem_of_getElem? (i := 115) (by decide +kernel), List.mem_of_getElem? (i := 274) (by decide +kernel), List.mem_of_getElem? (i := 275) (by decide +kernel)⟩
theorem lw_p2 : lw_okq (⟨"TrainedSegments$Trainer", "firstSameRow", "(I)I"⟩, 8) := ⟨⟨by decide +kernel, by decide +kernel⟩, List.mem_of_getElem? (i := 115) (by decide +kernel), List.mem_of_getElem? (i := 278) (by decide +kernel), List.mem_of_getElem? (i := 279) (by decide +kernel)⟩
theorem lw_p3 : lw_okq (⟨"TrainedSegments$Trainer", "isSameRow", "(II)Z"⟩, 8) := ⟨⟨by decide +kernel, by decide +kernel⟩, List.mem_of_getElem? (i := 115) (by decide +kernel), List.mem_of_getElem? (i := 282) (by decide +kernel), List.mem_of_getElem? (i := 283) (by decide +kernel)⟩
theorem lw_p4 : lw_okq (⟨"TrainedSegments$Trainer", "countRows", "()V"⟩, 8) := ⟨⟨by decide +kernel, by decide +kernel⟩, List.mem_of_getElem? (i := 115) (by decide +kernel), List.mem_of_getElem? (i := 291) (by decide +kernel), List.mem_of_getElem? (i := 292) (by decide +kernel)⟩
theorem lw_p5 : lw_okq (⟨"TrainedSegments$Trainer", "isFreeRow", "(I)Z"⟩, 8) := ⟨⟨by decide +kernel, by decide +kernel⟩, List.mem_of_getElem? (i := 115) (by decide +kernel), List.mem_of_getElem? (i := 295) (by decide +kernel), List.mem_of_getElem? (i := 296) (by decide +kernel)⟩
theorem lw_p6 : lw_okq (⟨"TrainedSegments$Trainer", "placeOfMost", "()I"⟩, 8) := ⟨⟨by decide +kernel, by decide +kernel⟩, List.mem_of_getElem? (i := 115) (by decide +kernel), List.mem_of_getElem? (i := 299) (by decide +kernel), List.mem_of_getElem? (i := 300) (by decide +kernel)⟩
theorem lw_p7 : lw_okq (⟨"TrainedSegments$Trainer", "cover", "(I)V"⟩, 8) := ⟨⟨by decide +kernel, by decide +kernel⟩, List.mem_of_getElem? (i := 115) (by decide +kernel), List.mem_of_getElem? (i := 303) (by decide +kernel), List.mem_of_getElem? (i := 304) (by decide +kernel)⟩
theorem lw_p8 : lw_okq (⟨"TrainedSegments", "thereAt", "(I)LTrainedSegments$Dictionary;"⟩, 11) := ⟨⟨by decide +kernel, by decide +kernel⟩, List.mem_of_getElem? (i := 20) (by decide +kernel), List.mem_of_getElem? (i := 339) (by decide +kernel), List.mem_of_getElem? (i := 340) (by decide +kernel)⟩
theorem lw_p9 : lw_okq (⟨"TrainedSegments", "leaveOutIdlePieces", "(LTrainedSegments$Dictionary;)I"⟩, 11) := ⟨⟨by decide +kernel, by decide +kernel⟩, List.mem_of_getElem? (i := 20) (by decide +kernel), List.mem_of_getElem? (i := 347) (by decide +kernel), List.mem_of_getElem? (i := 348) (by decide +kernel)⟩
theorem lw_p10 : lw_okq (⟨"TrainedSegments", "bytesOfSamples", "(LTrainedSegments$Row;)I"⟩, 11) := ⟨⟨by decide +kernel, by decide +kernel⟩, List.mem_of_getElem? (i := 20) (by decide +kernel), List.mem_of_getElem? (i := 351) (by decide +kernel), List.mem_of_getElem? (i := 352) (by decide +kernel)⟩
theorem lw_p11 : lw_okq (⟨"TrainedSegments$Packer", "linkSameBytes", "()V"⟩, 7) := ⟨⟨by decide +kernel, by decide +kernel⟩, List.mem_of_getElem? (i := 86) (by decide +kernel), List.mem_of_getElem? (i := 367) (by decide +kernel), List.mem_of_getElem? (i := 368) (by decide +kernel)⟩
theorem lw_p12 : lw_okq (⟨"TrainedSegments$Packer", "tryMatches", "(I)V"⟩, 7) := ⟨⟨by decide +kernel, by decide +kernel⟩, List.mem_of_getElem? (i := 86) (by decide +kernel), List.mem_of_getElem? (i := 373) (by decide +kernel), List.mem_of_getElem? (i := 374) (by decide +kernel)⟩
theorem lw_p13 : lw_okq (⟨"TrainedSegments$Packer", "longestMatch", "(I)I"⟩, 7) := ⟨⟨by decide +kernel, by decide +kernel⟩, List.mem_of_getElem? (i := 86) (by decide +kernel), List.mem_of_getElem? (i := 377) (by decide +kernel), List.mem_of_getElem? (i := 378) (by decide +kernel)⟩
theorem lw_p14 : lw_okq (⟨"TrainedSegments$Packer", "sameBytes", "(III)I"⟩, 7) := ⟨⟨by decide +kernel, by decide +kernel⟩, List.mem_of_getElem? (i := 86) (by decide +kernel), List.mem_of_getElem? (i := 381) (by decide +kernel), List.mem_of_getElem? (i := 382) (by decide +kernel)⟩
theorem lw_p15 : lw_okq (⟨"TrainedSegments$Packer", "tryPlain", "(I)V"⟩, 7) := ⟨⟨by decide +kernel, by decide +kernel⟩, List.mem_of_getElem? (i := 86) (by decide +kernel), List.mem_of_getElem? (i := 386) (by decide +kernel), List.mem_of_getElem? (i := 387) (by decide +kernel)⟩
def lw_privs_1 : List (MethodName × Nat) := [(⟨"TrainedSegments$Trainer", "coverFrom", "(IIZ)V"⟩, 8), (⟨"TrainedSegments$Trainer", "markKinds", "(II)V"⟩, 8), (⟨"TrainedSegments$Trainer", "firstSameRow", "(I)I"⟩, 8), (⟨"TrainedSegments$Trainer", "isSameRow", "(II)Z"⟩, 8), (⟨"TrainedSegments$Trainer", "countRows", "()V"⟩, 8), (⟨"TrainedSegments$Trainer", "isFreeRow", "(I)Z"⟩, 8), (⟨"TrainedSegments$Trainer", "placeOfMost", "()I"⟩, 8), (⟨"TrainedSegments$Trainer", "cover", "(I)V"⟩, 8), (⟨"TrainedSegments", "thereAt", "(I)LTrainedSegments$Dictionary;"⟩, 11), (⟨"TrainedSegments", "leaveOutIdlePieces", "(LTrainedSegments$Dictionary;)I"⟩, 11), (⟨"TrainedSegments", "bytesOfSamples", "(LTrainedSegments$Row;)I"⟩, 11), (⟨"TrainedSegments$Packer", "linkSameBytes", "()V"⟩, 7), (⟨"TrainedSegments$Packer", "tryMatches", "(I)V"⟩, 7), (⟨"TrainedSegments$Packer", "longestMatch", "(I)I"⟩, 7), (⟨"TrainedSegments$Packer", "sameBytes", "(III)I"⟩, 7), (⟨"TrainedSegments$Packer", "tryPlain", "(I)V"⟩, 7)]
theorem lw_r1 : ∀ q ∈ lw_privs_1, lw_okq q := List.forall_mem_cons.mpr ⟨lw_p0, List.forall_mem_cons.mpr ⟨lw_p1, List.forall_mem_cons.mpr ⟨lw_p2, List.forall_mem_cons.mpr ⟨lw_p3, List.forall_mem_cons.mpr ⟨lw_p4, List.forall_mem_cons.mpr ⟨lw_p5, List.forall_mem_cons.mpr ⟨lw_p6, List.forall_mem_cons.mpr ⟨lw_p7, List.forall_mem_cons.mpr ⟨lw_p8, List.forall_mem_cons.mpr ⟨lw_p9, List.forall_mem_cons.mpr ⟨lw_p10, List.forall_mem_cons.mpr ⟨lw_p11, List.forall_mem_cons.mpr ⟨lw_p12, List.forall_mem_cons.mpr ⟨lw_p13, List.forall_mem_cons.mpr ⟨lw_p14, List.forall_mem_cons.mpr ⟨lw_p15, fun _ h => absurd h List.not_mem_nil⟩⟩⟩⟩⟩⟩⟩⟩⟩⟩⟩⟩⟩⟩⟩⟩
theorem lw_p16 : lw_okq (⟨"TrainedSegments", "noneOrThereAt", "(I)LTrainedSegments$Dictionary;"⟩, 11) := ⟨⟨by decide +kernel, by decide +kernel⟩, List.mem_of_getElem? (i := 20) (by decide +kernel), List.mem_of_getElem? (i := 435) (by decide +kernel), List.mem_of_getElem? (i := 436) (by decide +kernel)⟩
theorem lw_p17 : lw_okq (⟨"TrainedSegments$Packer", "leastDistance", "(II)I"⟩, 7) := ⟨⟨by decide +kernel, by decide +kernel⟩, List.mem_of_getElem? (i := 86) (by decide +kernel), List.mem_of_getElem? (i := 451) (by decide +kernel), List.mem_of_getElem? (i := 452) (by decide +kernel)⟩
theorem lw_p18 : lw_okq (⟨"TrainedSegments", "firstWithId", "(I)LTrainedSegments$Dictionary;"⟩, 11) := ⟨⟨by decide +kernel, by decide +kernel⟩, List.mem_of_getElem? (i := 20) (by decide +kernel), List.mem_of_getElem? (i := 475) (by decide +kernel), List.mem_of_getElem? (i := 476) (by decide +kernel)⟩
theorem lw_p19 : lw_okq (⟨"TrainedSegments$Opener", "wrongInHeader", "(LTrainedSegments$Row;LTrainedSegments$Dictionary;)I"⟩, 4) := ⟨⟨by decide +kernel, by decide +kernel⟩, List.mem_of_getElem? (i := 149) (by decide +kernel), List.mem_of_getElem? (i := 484) (by decide +kernel), List.mem_of_getElem? (i := 485) (by decide +kernel)⟩
theorem lw_p20 : lw_okq (⟨"TrainedSegments$Opener", "readItem", "(LTrainedSegments$Row;)I"⟩, 4) := ⟨⟨by decide +kernel, by decide +kernel⟩, List.mem_of_getElem? (i := 149) (by decide +kernel), List.mem_of_getElem? (i := 492) (by decide +kernel), List.mem_of_getElem? (i := 493) (by decide +kernel)⟩
theorem lw_p21 : lw_okq (⟨"TrainedSegments$Opener", "readPlain", "(LTrainedSegments$Row;I)I"⟩, 4) := ⟨⟨by decide +kernel, by decide +kernel⟩, List.mem_of_getElem? (i := 149) (by decide +kernel), List.mem_of_getElem? (i := 496) (by decide +kernel), List.mem_of_getElem? (i := 497) (by decide +kernel)⟩
theorem lw_p22 : lw_okq (⟨"TrainedSegments$Opener", "readMatch", "(LTrainedSegments$Row;II)I"⟩, 4) := ⟨⟨by decide +kernel, by decide +kernel⟩, List.mem_of_getElem? (i := 149) (by decide +kernel), List.mem_of_getElem? (i := 501) (by decide +kernel), List.mem_of_getElem? (i := 502) (by decide +kernel)⟩
theorem lw_p23 : lw_okq (⟨"TrainedSegments", "isSample", "(I)Z"⟩, 11) := ⟨⟨by decide +kernel, by decide +kernel⟩, List.mem_of_getElem? (i := 20) (by decide +kernel), List.mem_of_getElem? (i := 515) (by decide +kernel), List.mem_of_getElem? (i := 516) (by decide +kernel)⟩
theorem lw_p24 : lw_okq (⟨"TrainedSegments", "countThere", "()I"⟩, 11) := ⟨⟨by decide +kernel, by decide +kernel⟩, List.mem_of_getElem? (i := 20) (by decide +kernel), List.mem_of_getElem? (i := 527) (by decide +kernel), List.mem_of_getElem? (i := 528) (by decide +kernel)⟩
theorem lw_p25 : lw_okq (⟨"java/lang/NullPointerException", "getExtendedNPEMessage", "()Ljava/lang/String;"⟩, 8) := ⟨⟨by decide +kernel, by decide +kernel⟩, List.mem_of_getElem? (i := 542) (by decide +kernel), List.mem_of_getElem? (i := 568) (by decide +kernel), List.mem_of_getElem? (i := 569) (by decide +kernel)⟩
theorem lw_p26 : lw_okq (⟨"java/lang/Throwable", "fillInStackTrace", "(I)Ljava/lang/Throwable;"⟩, 6) := ⟨⟨by decide +kernel, by decide +kernel⟩, List.mem_of_getElem? (i := 578) (by decide +kernel), List.mem_of_getElem? (i := 576) (by decide +kernel), List.mem_of_getElem? (i := 577) (by decide +kernel)⟩
theorem lw_p27 : lw_okq (⟨"TrainedSegmentsModel", "isOpen", "(III)Z"⟩, 25) := ⟨⟨by decide +kernel, by decide +kernel⟩, List.mem_of_getElem? (i := 709) (by decide +kernel), List.mem_of_getElem? (i := 820) (by decide +kernel), List.mem_of_getElem? (i := 821) (by decide +kernel)⟩
theorem lw_p28 : lw_okq (⟨"TrainedSegmentsModel", "counted", "(IIZ)I"⟩, 25) := ⟨⟨by decide +kernel, by decide +kernel⟩, List.mem_of_getElem? (i := 709) (by decide +kernel), List.mem_of_getElem? (i := 824) (by decide +kernel), List.mem_of_getElem? (i := 825) (by decide +kernel)⟩
theorem lw_p29 : lw_okq (⟨"TrainedSegmentsModel", "areAlike", "(III)Z"⟩, 25) := ⟨⟨by decide +kernel, by decide +kernel⟩, List.mem_of_getElem? (i := 709) (by decide +kernel), List.mem_of_getElem? (i := 828) (by decide +kernel), List.mem_of_getElem? (i := 829) (by decide +kernel)⟩
theorem lw_p30 : lw_okq (⟨"TrainedSegmentsModel", "isThere", "(I)Z"⟩, 25) := ⟨⟨by decide +kernel, by decide +kernel⟩, List.mem_of_getElem? (i := 709) (by decide +kernel), List.mem_of_getElem? (i := 840) (by decide +kernel), List.mem_of_getElem? (i := 841) (by decide +kernel)⟩
theorem lw_p31 : lw_okq (⟨"TrainedSegmentsModel", "sizeOfAll", "(II)I"⟩, 25) := ⟨⟨by decide +kernel, by decide +kernel⟩, List.mem_of_getElem? (i := 709) (by decide +kernel), List.mem_of_getElem? (i := 844) (by decide +kernel), List.mem_of_getElem? (i := 845) (by decide +kernel)⟩
def lw_privs_2 : List (MethodName × Nat) := [(⟨"TrainedSegments", "noneOrThereAt", "(I)LTrainedSegments$Dictionary;"⟩, 11), (⟨"TrainedSegments$Packer", "leastDistance", "(II)I"⟩, 7), (⟨"TrainedSegments", "firstWithId", "(I)LTrainedSegments$Dictionary;"⟩, 11), (⟨"TrainedSegments$Opener", "wrongInHeader", "(LTrainedSegments$Row;LTrainedSegments$Dictionary;)I"⟩, 4), (⟨"TrainedSegments$Opener", "readItem", "(LTrainedSegments$Row;)I"⟩, 4), (⟨"TrainedSegments$Opener", "readPlain", "(LTrainedSegments$Row;I)I"⟩, 4), (⟨"TrainedSegments$Opener", "readMatch", "(LTrainedSegments$Row;II)I"⟩, 4), (⟨"TrainedSegments", "isSample", "(I)Z"⟩, 11), (⟨"TrainedSegments", "countThere", "()I"⟩, 11), (⟨"java/lang/NullPointerException", "getExtendedNPEMessage", "()Ljava/lang/String;"⟩, 8), (⟨"java/lang/Throwable", "fillInStackTrace", "(I)Ljava/lang/Throwable;"⟩, 6), (⟨"TrainedSegmentsModel", "isOpen", "(III)Z"⟩, 25), (⟨"TrainedSegmentsModel", "counted", "(IIZ)I"⟩, 25), (⟨"TrainedSegmentsModel", "areAlike", "(III)Z"⟩, 25), (⟨"TrainedSegmentsModel", "isThere", "(I)Z"⟩, 25), (⟨"TrainedSegmentsModel", "sizeOfAll", "(II)I"⟩, 25)]
theorem lw_r2 : ∀ q ∈ lw_privs_2, lw_okq q := List.forall_mem_cons.mpr ⟨lw_p16, List.forall_mem_cons.mpr ⟨lw_p17, List.forall_mem_cons.mpr ⟨lw_p18, List.forall_mem_cons.mpr ⟨lw_p19, List.forall_mem_cons.mpr ⟨lw_p20, List.forall_mem_cons.mpr ⟨lw_p21, List.forall_mem_cons.mpr ⟨lw_p22, List.forall_mem_cons.mpr ⟨lw_p23, List.forall_mem_cons.mpr ⟨lw_p24, List.forall_mem_cons.mpr ⟨lw_p25, List.forall_mem_cons.mpr ⟨lw_p26, List.forall_mem_cons.mpr ⟨lw_p27, List.forall_mem_cons.mpr ⟨lw_p28, List.forall_mem_cons.mpr ⟨lw_p29, List.forall_mem_cons.mpr ⟨lw_p30, List.forall_mem_cons.mpr ⟨lw_p31, fun _ h => absurd h List.not_mem_nil⟩⟩⟩⟩⟩⟩⟩⟩⟩⟩⟩⟩⟩⟩⟩⟩
theorem lw_p32 : lw_okq (⟨"TrainedSegmentsModel", "sizeOf", "(III)I"⟩, 25) := ⟨⟨by decide +kernel, by decide +kernel⟩, List.mem_of_getElem? (i := 709) (by decide +kernel), List.mem_of_getElem? (i := 848) (by decide +kernel), List.mem_of_getElem? (i := 849) (by decide +kernel)⟩
theorem lw_p33 : lw_okq (⟨"TrainedSegmentsModel", "layAhead", "(II)V"⟩, 25) := ⟨⟨by decide +kernel, by decide +kernel⟩, List.mem_of_getElem? (i := 709) (by decide +kernel), List.mem_of_getElem? (i := 852) (by decide +kernel), List.mem_of_getElem? (i := 853) (by decide +kernel)⟩
theorem lw_p34 : lw_okq (⟨"TrainedSegmentsModel", "pieceAt", "(II)I"⟩, 25) := ⟨⟨by decide +kernel, by decide +kernel⟩, List.mem_of_getElem? (i := 709) (by decide +kernel), List.mem_of_getElem? (i := 856) (by decide +kernel), List.mem_of_getElem? (i := 857) (by decide +kernel)⟩
theorem lw_p35 : lw_okq (⟨"TrainedSegmentsModel", "laySample", "(I)V"⟩, 25) := ⟨⟨by decide +kernel, by decide +kernel⟩, List.mem_of_getElem? (i := 709) (by decide +kernel), List.mem_of_getElem? (i := 860) (by decide +kernel), List.mem_of_getElem? (i := 861) (by decide +kernel)⟩
theorem lw_p36 : lw_okq (⟨"TrainedSegmentsModel", "packedLong", "()I"⟩, 25) := ⟨⟨by decide +kernel, by decide +kernel⟩, List.mem_of_getElem? (i := 709) (by decide +kernel), List.mem_of_getElem? (i := 864) (by decide +kernel), List.mem_of_getElem? (i := 865) (by decide +kernel)⟩
theorem lw_p37 : lw_okq (⟨"TrainedSegmentsModel", "findMatches", "(I)V"⟩, 25) := ⟨⟨by decide +kernel, by decide +kernel⟩, List.mem_of_getElem? (i := 709) (by decide +kernel), List.mem_of_getElem? (i := 868) (by decide +kernel), List.mem_of_getElem? (i := 869) (by decide +kernel)⟩
theorem lw_p38 : lw_okq (⟨"TrainedSegmentsModel", "goes", "(II)V"⟩, 25) := ⟨⟨by decide +kernel, by decide +kernel⟩, List.mem_of_getElem? (i := 709) (by decide +kernel), List.mem_of_getElem? (i := 872) (by decide +kernel), List.mem_of_getElem? (i := 873) (by decide +kernel)⟩
theorem lw_p39 : lw_okq (⟨"TrainedSegmentsModel", "sumOf", "(I)I"⟩, 25) := ⟨⟨by decide +kernel, by decide +kernel⟩, List.mem_of_getElem? (i := 709) (by decide +kernel), List.mem_of_getElem? (i := 884) (by decide +kernel), List.mem_of_getElem? (i := 885) (by decide +kernel)⟩
theorem lw_p40 : lw_okq (⟨"TrainedSegmentsModel", "put", "(I)V"⟩, 25) := ⟨⟨by decide +kernel, by decide +kernel⟩, List.mem_of_getElem? (i := 709) (by decide +kernel), List.mem_of_getElem? (i := 897) (by decide +kernel), List.mem_of_getElem? (i := 898) (by decide +kernel)⟩
theorem lw_p41 : lw_okq (⟨"TrainedSegmentsModel", "putItem", "(I)I"⟩, 25) := ⟨⟨by decide +kernel, by decide +kernel⟩, List.mem_of_getElem? (i := 709) (by decide +kernel), List.mem_of_getElem? (i := 901) (by decide +kernel), List.mem_of_getElem? (i := 902) (by decide +kernel)⟩
theorem lw_p42 : lw_okq (⟨"TrainedSegmentsModel", "wrong", "()I"⟩, 25) := ⟨⟨by decide +kernel, by decide +kernel⟩, List.mem_of_getElem? (i := 709) (by decide +kernel), List.mem_of_getElem? (i := 913) (by decide +kernel), List.mem_of_getElem? (i := 914) (by decide +kernel)⟩
theorem lw_p43 : lw_okq (⟨"TrainedSegmentsModel", "firstWith", "(I)I"⟩, 25) := ⟨⟨by decide +kernel, by decide +kernel⟩, List.mem_of_getElem? (i := 709) (by decide +kernel), List.mem_of_getElem? (i := 917) (by decide +kernel), List.mem_of_getElem? (i := 918) (by decide +kernel)⟩
def lw_privs_3 : List (MethodName × Nat) := [(⟨"TrainedSegmentsModel", "sizeOf", "(III)I"⟩, 25), (⟨"TrainedSegmentsModel", "layAhead", "(II)V"⟩, 25), (⟨"TrainedSegmentsModel", "pieceAt", "(II)I"⟩, 25), (⟨"TrainedSegmentsModel", "laySample", "(I)V"⟩, 25), (⟨"TrainedSegmentsModel", "packedLong", "()I"⟩, 25), (⟨"TrainedSegmentsModel", "findMatches", "(I)V"⟩, 25), (⟨"TrainedSegmentsModel", "goes", "(II)V"⟩, 25), (⟨"TrainedSegmentsModel", "sumOf", "(I)I"⟩, 25), (⟨"TrainedSegmentsModel", "put", "(I)V"⟩, 25), (⟨"TrainedSegmentsModel", "putItem", "(I)I"⟩, 25), (⟨"TrainedSegmentsModel", "wrong", "()I"⟩, 25), (⟨"TrainedSegmentsModel", "firstWith", "(I)I"⟩, 25)]
theorem lw_r3 : ∀ q ∈ lw_privs_3, lw_okq q := List.forall_mem_cons.mpr ⟨lw_p32, List.forall_mem_cons.mpr ⟨lw_p33, List.forall_mem_cons.mpr ⟨lw_p34, List.forall_mem_cons.mpr ⟨lw_p35, List.forall_mem_cons.mpr ⟨lw_p36, List.forall_mem_cons.mpr ⟨lw_p37, List.forall_mem_cons.mpr ⟨lw_p38, List.forall_mem_cons.mpr ⟨lw_p39, List.forall_mem_cons.mpr ⟨lw_p40, List.forall_mem_cons.mpr ⟨lw_p41, List.forall_mem_cons.mpr ⟨lw_p42, List.forall_mem_cons.mpr ⟨lw_p43, fun _ h => absurd h List.not_mem_nil⟩⟩⟩⟩⟩⟩⟩⟩⟩⟩⟩⟩
def lw_privs : List (MethodName × Nat) := lw_privs_1 ++ (lw_privs_2 ++ (lw_privs_3))
def lw_tbl : List Cond := k2_sels lw_privs ++ tables_1
theorem lw_privs_ok : ∀ q ∈ lw_privs, lw_okq q := by
  show ∀ q ∈ lw_privs_1 ++ (lw_privs_2 ++ (lw_privs_3)), lw_okq q
  exact List.forall_mem_append.mpr ⟨lw_r1, List.forall_mem_append.mpr ⟨lw_r2, lw_r3⟩⟩
end
section
/-! ===== BEGIN words of one list among another's, by their places ===== -/
theorem goodIn_r {big : List Cond} (ws : List Cond) (ps : List Nat) (hp : ws = ps.filterMap (fun i => big[i]?)) (h : ws.all goodWord = true) : GoodIn big ws := by
  intro w hw
  have h1 := List.all_eq_true.mp h w hw
  rw [hp] at hw
  obtain ⟨i, -, hi⟩ := List.mem_filterMap.mp hw
  have hm : w ∈ big := by first | exact List.mem_of_getElem? hi | exact List.getElem?_mem hi
  exact ⟨hm, good_of_word h1⟩
theorem goodIn_app {big a b : List Cond} (ha : GoodIn big a) (hb : GoodIn big b) : GoodIn big (a ++ b) := fun w h => (List.mem_append.mp h).elim (ha w) (hb w)
theorem goodIn_ca {big a b : List Cond} {c : Cond} (ha : GoodIn big (c :: a)) (hb : GoodIn big b) : GoodIn big (c :: (a ++ b)) := fun w h => (List.mem_cons.mp h).elim (fun e => ha w (List.mem_cons.mpr (Or.inl e))) (fun h => (List.mem_append.mp h).elim (fun h => ha w (List.mem_cons.mpr (Or.inr h))) (hb w))
theorem goodIn_sub {big ws : List Cond} (hm : ∀ w ∈ ws, w ∈ big) (h : ws.all goodWord = true) : GoodIn big ws := fun w hw => ⟨hm w hw, good_of_word (List.all_eq_true.mp h w hw)⟩
/-! ===== END ===== -/

/-! ===== BEGIN exceptions that leave a method, and their catching by the caller (launches without stack traces) ===== -/
section VXA
/-! The laws vx_back, vx_callV, vx_callS, vx_callSW, vx_throw0, vx_throwS follow proofs of the library, with one case more: JvmDerived/Free/Laws.lean (Back.of_free), Shelf42/LK1.lean (callV, callS), Shelf/KitTraced.lean (throwNew0V, throwNewS). -/
/-- where a method has thrown q: the class by its name, the cell, what was written, the world -/
def vx_T (XC : String → State → State → Prop) (st : State) (q : Addr) (t : State) (mc ms : Nat) (free : Addr → Prop) : Prop :=
  ∃ (E : String) (ce : Cell) (L : List Loc), XC E st t ∧ t.heap[q]? = some ce ∧ ce.vm = .none ∧ st.vm.findClass E = some ce.cls ∧ st.WarmedH t.vm ∧ st.sameButNew ({ t with vm := st.vm } : State) L mc ms ∧ ∀ z ∈ L, free z.base
def vx_Q (Qc : Array Value → State → Outcome → State → Prop) (XC : String → State → State → Prop) (mc ms : Nat) (free : Addr → Prop) : Array Value → State → Outcome → State → Prop := fun a st o t =>
  (Qc a st o t ∧ ∃ L, FrameEnd st o t L mc ms ∧ ∀ q ∈ L, free q.base) ∨ ∃ q, o = .threw q ∧ vx_T XC st q t mc ms free
/-- a callee that returns or throws -/
def vx_Met (l : Launch) (y : MethodName) (ws : List Cond) (rm : Room) (Pc : Array Value → State → Prop) (Qc : Array Value → State → Outcome → State → Prop) (XC : String → State → State → Prop) (mc ms : Nat) (free : Addr → Prop) : Prop :=
  MetFree l y (headSpec ws rm) Pc (fun _ _ _ _ _ => True) (vx_Q Qc XC mc ms free)
def vx_Post (XC : String → State → State → Prop) (mc ms : Nat) (free : Addr → Prop) : Pt → Array Value → Addr → Pt → Prop := fun A a q B =>
  ∃ (g : JFrame) (mk : MethodId) (t : State) (L : List Loc) (E : String) (ce : Cell), B.U.heap = t.heap ∧ B.U.vm = t.vm ∧ XC E (A.U.calling g mk a) t ∧ t.heap[q]? = some ce ∧ ce.vm = .none ∧ A.U.vm.findClass E = some ce.cls ∧ B.locs = A.locs ++ L ∧ (∀ z ∈ L, free z.base) ∧ B.cells = A.cells + mc ∧ B.slots = A.slots + ms
def vx_Back (l : Launch) (R : Room) (p : Program) (e : Env) (below : List Frame) (s : State) (sargs : Array Value) (y : MethodName) (len W9 : Nat)
    (Pre : Pt → Array Value → Prop) (Post : Pt → Array Value → Option Value → Pt → Prop) (PostX : Pt → Array Value → Addr → Pt → Prop) : Prop :=
  ∀ (m : MethodId) (meth : Method) (c : Code) (A : Pt) (g : JFrame) (ig : Instr) (mk : MethodId) (a : Array Value),
    Stand p l e R s m sargs below meth c A.U A.locs A.cells A.slots → g.method = m → g.locals.size = c.maxLocals → decode c.code g.pc = .ok (ig, len) →
    2 * g.monitorRoom + (g.stack.map fun v => v.category).sum ≤ W9 → A.U.methodNamed? y = some mk → Pre A a →
    (∃ (v : Option Value) (B : Pt), Stand p l e R s m sargs below meth c B.U B.locs B.cells B.slots ∧ Post A a v B ∧
      Steps p.tables e below (doInvoke e (A.U.setTop g) [] mk a).1 (B.U.setTop { g with pc := g.pc + len, stack := v.toList ++ g.stack })) ∨
    (∃ (q : Addr) (B : Pt), Stand p l e R s m sargs below meth c B.U B.locs B.cells B.slots ∧ PostX A a q B ∧
      Steps p.tables e below (doInvoke e (A.U.setTop g) [] mk a).1 ((B.U.setTop g).pushFrame (.throwing q)))
section Payer
variable {l : Launch} {R : Room} {p : Program} {e : Env} {below : List Frame} {s : State} {sargs : Array Value} {y : MethodName} {len W9 : Nat}
theorem vx_back {ws : List Cond} {rm : Room} {Pc : Array Value → State → Prop} {Qc : Array Value → State → Outcome → State → Prop} {XC : String → State → State → Prop} {mc ms : Nat} {free : Addr → Prop} {bytes : ByteArray} {maxL : Nat} {ret : Option FieldType}
    (hM : vx_Met l y ws rm Pc Qc XC mc ms free) (hblind : FrameBlind Pc) (hrc : rm.cells = mc) (hrs : rm.slots = ms)
    (hframes : rm.frames + 1 ≤ R.frames) (hlocals : W9 + (maxL + 11) + rm.locals ≤ R.locals)
    (hws : ∀ w ∈ ws, ∀ a' U, s.WarmedH U.vm → w.before a' U = true) (hcode : Cond.code y bytes maxL ret ∈ ws) (hinit : ∀ a' U, s.WarmedH U.vm → (Cond.initialized y.cls).before a' U = true) :
    vx_Back l R p e below s sargs y len W9 (PreOf R mc ms Pc) (PostOf Qc mc ms free) (vx_Post XC mc ms free) := by
  intro m meth c A g ig mk a X hg hsize hdg hW hn hp
  have h1 : (headSpec ws rm).pre.before a A.U = true := atoms_intro fun w hw => hws w hw _ _ X.warmed
  have h2 : (Cond.code y bytes maxL ret).before a A.U = true := hws _ hcode _ _ X.warmed
  have h3 : (Cond.initialized y.cls).before a A.U = true := hinit _ _ X.warmed
  have h4 : A.cells + (headSpec ws rm).room.cells ≤ R.cells := by rw [show (headSpec ws rm).room.cells = mc from hrc]; exact hp.1
  have h5 : A.slots + (headSpec ws rm).room.slots ≤ R.slots := by rw [show (headSpec ws rm).room.slots = ms from hrs]; exact hp.2.1
  have hPc : Pc a (A.U.calling g mk a) := hblind _ _ _ _ hp.2.2
  obtain ⟨U, Ls, c0, s0⟩ := A
  dsimp only [Pt.U, Pt.locs, Pt.cells, Pt.slots] at h1 h2 h3 h4 h5 X hn hPc ⊢
  obtain ⟨methY, cY, hmY, hcY, -, hlY, -, -, -, -⟩ := Cond.code_spec hn h2
  obtain ⟨kY, hkY, -⟩ := className_of_methodNamed hn
  have hinitY : kY.init = .initialized := Cond.initialized_spec (findClass_of_methodNamed hn) hkY h3
  have h : At U g.method c below := by rw [hg]; exact X.here
  have hlocals9 : W9 + (maxL + 11) + (headSpec ws rm).room.locals ≤ R.locals := hlocals
  have happ : (headSpec ws rm).appliesLoose y e.platform (U.calling g mk a) = true :=
    Spec.appliesLoose_calling (g := g) h hdg hn hkY hinitY
      (X.room_calling (g := g) (R' := (headSpec ws rm).room) hsize hmY hcY hframes (by rw [hlY]; omega) h4 h5) h1
  obtain ⟨mid, hmid⟩ := h.above
  have hfr : (U.setTop g).frames = (.java g :: mid) ++ below := by rw [State.frames_setTop' g h.top, hmid]; rfl
  obtain ⟨o, s₂, hsteps, -, hend, hq⟩ := Steps.callFree hM p X.admits X.cas X.clock (acts := []) hfr happ hPc trivial
  have hq' : vx_Q Qc XC mc ms free a (U.calling g mk a) o s₂ := hq
  rw [State.frames_setTop' g h.top] at hend
  obtain ⟨g₀, hg0⟩ := Option.isSome_iff_exists.mp h.top
  obtain ⟨r, hr⟩ := State.topJava?_eq_some.mp hg0
  have hr' : (({ U with heap := s₂.heap, slotsUsed := s₂.slotsUsed } : State).setVm s₂.vm).frames = .java g₀ :: r := hr
  rcases hq' with ⟨hqc, L, hfe, hL⟩ | ⟨q, rfl, E, ce, L, hx, hce, hcv, hcl, hW₂, hsm, hL⟩
  · obtain ⟨⟨v, rfl⟩, hW₂, e2, q2, q3, q4, q5, q6⟩ := id hfe
    have e3 : s₂ = ({ (U.calling g mk a).setFrames s₂.frames with heap := s₂.heap, slotsUsed := s₂.slotsUsed } : State).setVm s₂.vm := by
      have : s₂ = ({ s₂ with vm := (U.calling g mk a).vm } : State).setVm s₂.vm := rfl
      rw [e2] at this
      exact this
    obtain ⟨c₂, i₂, len₂, hc₂, hd₂, hf₂⟩ := hend
    have hW' : U.WarmedH s₂.vm := hW₂
    have hcc : c₂ = c := by
      have h1 : s₂.code? g.method = U.code? g.method := by
        rw [State.code?_eq, State.code?_eq, hW'.alike.method?]
      exact Option.some.inj (hc₂.symm.trans (h1.trans h.code))
    subst hcc
    have hlen : len₂ = len := by rw [hdg] at hd₂; cases hd₂; rfl
    subst hlen
    have hs₂ : s₂ = (({ U with heap := s₂.heap, slotsUsed := s₂.slotsUsed } : State).setVm s₂.vm).setTop { g with pc := g.pc + len₂, stack := v.toList ++ g.stack } := by
      refine e3.trans ?_
      rw [hf₂, State.calling_eq h.top, State.setFrames_setFrames, State.setTop_of_frames _ hr', hr]
      rfl
    have hsame : U.sameButNew ({ U with heap := s₂.heap, slotsUsed := s₂.slotsUsed } : State) L mc ms := by
      refine ⟨?_, q2, q3, q4, q5, q6⟩
      obtain ⟨t, ht, -⟩ := State.frames_cons hr
      show ({ U with heap := s₂.heap, slotsUsed := s₂.slotsUsed } : State) = { U.setFrames U.frames with heap := s₂.heap, slotsUsed := s₂.slotsUsed }
      rw [State.setFrames_self ht]
    subst hg
    refine Or.inl ⟨v, ⟨(({ U with heap := s₂.heap, slotsUsed := s₂.slotsUsed } : State).setVm s₂.vm), Ls ++ L, c0 + mc, s0 + ms⟩,
      ⟨X.admits, X.cas, X.clock, X.frames, X.room, X.hears, X.method, X.code, (X.here.setHeapUsed s₂.heap s₂.slotsUsed).setVm hW'.alike, X.tail, State.WarmedH.trans X.warmed hW', X.limits, X.bytes, X.same.trans (hsame.setVm s.vm)⟩,
      ⟨g, mk, s₂, L, rfl, rfl, hqc, rfl, hL, rfl, rfl⟩, ?_⟩
    show Steps p.tables e below _ ((({ U with heap := s₂.heap, slotsUsed := s₂.slotsUsed } : State).setVm s₂.vm).setTop { g with pc := g.pc + len₂, stack := v.toList ++ g.stack })
    rw [← hs₂]
    exact hsteps
  · obtain ⟨e2, q2, q3, q4, q5, q6⟩ := id hsm
    have e3 : s₂ = ({ (U.calling g mk a).setFrames s₂.frames with heap := s₂.heap, slotsUsed := s₂.slotsUsed } : State).setVm s₂.vm := by
      have : s₂ = ({ s₂ with vm := (U.calling g mk a).vm } : State).setVm s₂.vm := rfl
      rw [e2] at this
      exact this
    have hf₂ : s₂.frames = .throwing q :: .java g :: U.frames.tail := hend
    have hW' : U.WarmedH s₂.vm := hW₂
    have hs₂ : s₂ = ((({ U with heap := s₂.heap, slotsUsed := s₂.slotsUsed } : State).setVm s₂.vm).setTop g).pushFrame (.throwing q) := by
      refine e3.trans ?_
      rw [hf₂, State.calling_eq h.top, State.setFrames_setFrames, State.pushFrame, State.frames_setTop _ hr', State.setTop_of_frames _ hr', State.setFrames_setFrames, hr]
      rfl
    have hsame : U.sameButNew ({ U with heap := s₂.heap, slotsUsed := s₂.slotsUsed } : State) L mc ms := by
      refine ⟨?_, q2, q3, q4, q5, q6⟩
      obtain ⟨t, ht, -⟩ := State.frames_cons hr
      show ({ U with heap := s₂.heap, slotsUsed := s₂.slotsUsed } : State) = { U.setFrames U.frames with heap := s₂.heap, slotsUsed := s₂.slotsUsed }
      rw [State.setFrames_self ht]
    subst hg
    refine Or.inr ⟨q, ⟨(({ U with heap := s₂.heap, slotsUsed := s₂.slotsUsed } : State).setVm s₂.vm), Ls ++ L, c0 + mc, s0 + ms⟩,
      ⟨X.admits, X.cas, X.clock, X.frames, X.room, X.hears, X.method, X.code, (X.here.setHeapUsed s₂.heap s₂.slotsUsed).setVm hW'.alike, X.tail, State.WarmedH.trans X.warmed hW', X.limits, X.bytes, X.same.trans (hsame.setVm s.vm)⟩,
      ⟨g, mk, s₂, L, E, ce, rfl, rfl, hx, hce, hcv, hcl, rfl, hL, rfl, rfl⟩, ?_⟩
    show Steps p.tables e below _ (((({ U with heap := s₂.heap, slotsUsed := s₂.slotsUsed } : State).setVm s₂.vm).setTop g).pushFrame (.throwing q))
    rw [← hs₂]
    exact hsteps
end Payer
section Calls
variable {p : Program} {l : Launch} {e : Env} {R : Room} {s : State} {m : MethodId} {args : Array Value} {below : List Frame} {meth : Method} {c : Code} {T : State} {locs : List Loc} {cells slots : Nat}
theorem vx_callV (X : Stand p l e R s m args below meth c T locs cells slots) (hexec : p.tables.exec = Jvm.exec) {own C : String} {index : Nat} {y : MethodName} {bytes : ByteArray} {maxL : Nat} {ret : Option FieldType}
    (hown : s.vm.findClass own = some m.cls) (hlink : (Cond.methodLink own index y).before args s = true) (hinst : (Cond.instanceMethod y).before args s = true) (hsel : (Cond.selects C y y).before args s = true)
    (hcode : (Cond.code y bytes maxL ret).before args s = true) (hy : y.cls ≠ "java/lang/invoke/MethodHandle" ∧ y.cls ≠ "java/lang/invoke/VarHandle")
    {W9 : Nat} {Pre : Pt → Array Value → Prop} {Post : Pt → Array Value → Option Value → Pt → Prop} {PostX : Pt → Array Value → Addr → Pt → Prop} (hK : vx_Back l R p e below s args y 3 W9 Pre Post PostX)
    {b : Addr} {cellB : Cell} (hcell : T.heap[b]? = some cellB) (hobj : cellB.vm.isStatics = false) (hcls : s.vm.findClass C = some cellB.cls)
    {g : JFrame} (hg : g.method = m) (hsize : g.locals.size = c.maxLocals) {argsL rest : List Value} (hlen : ∀ sig, parseMethodDescriptor y.desc = some sig → argsL.length = sig.parameters.length)
    (hstack : g.stack = argsL.reverse ++ .ref b :: rest) (hW : 2 * g.monitorRoom + (rest.map fun v => v.category).sum ≤ W9) (hdg : decode c.code g.pc = .ok (.invokevirtual index, 3))
    (hpre : ∀ vm₁, s.WarmedH vm₁ → Pre ⟨T.setVm vm₁, locs, cells, slots⟩ (Value.ref b :: argsL).toArray) :
    (∃ (v : Option Value) (vm₁ : Vm) (B : Pt), s.WarmedH vm₁ ∧ Stand p l e R s m args below meth c B.U B.locs B.cells B.slots ∧ Post ⟨T.setVm vm₁, locs, cells, slots⟩ (Value.ref b :: argsL).toArray v B ∧
      ∀ target, Steps p.tables e below (B.U.setTop { g with pc := g.pc + 3, stack := v.toList ++ rest }) target → Steps p.tables e below (T.setTop g) target) ∨
    (∃ (q : Addr) (vm₁ : Vm) (B : Pt), s.WarmedH vm₁ ∧ Stand p l e R s m args below meth c B.U B.locs B.cells B.slots ∧ PostX ⟨T.setVm vm₁, locs, cells, slots⟩ (Value.ref b :: argsL).toArray q B ∧
      Steps p.tables e below (T.setTop g) ((B.U.setTop { g with stack := rest }).pushFrame (.throwing q))) := by
  obtain ⟨mk, methM, hnamed, hmethM, hstM, habM⟩ := Cond.instanceMethod_spec hinst
  obtain ⟨methM', cM, hmethM', -, -, -, -, -, -, hsigM⟩ := Cond.code_spec hnamed hcode
  cases hmethM.symm.trans hmethM'
  obtain ⟨c2, r2, m2, q1, q2, q3, q4, kP, hkP, hkPi⟩ := Cond.selects_spec hsel
  cases hcls.symm.trans q1
  cases (State.methodFound?_of_named hnamed hy).symm.trans q2
  cases hnamed.symm.trans q3
  have hselP : selectMethod e.platform s.vm cellB.cls mk = .method mk := by rw [Launch.admits_selectMethod X.admits]; exact q4
  obtain ⟨vm₁, X₁, hstep₁⟩ := X.invokevirtual hexec hown hlink hnamed hmethM hstM hkP hkPi hy (a := b) (cell := cellB) hcell
    (fun z h => by rw [h] at hobj; cases hobj) hselP hmethM habM hkP hkPi (g := g) hg (argsL := argsL) (rest := rest) (hlen _ hsigM) hstack hdg
  rcases hK m meth c ⟨T.setVm vm₁, locs, cells, slots⟩ { g with stack := rest } (.invokevirtual index) mk (Value.ref b :: argsL).toArray X₁ hg hsize hdg hW (X₁.named hnamed) (hpre vm₁ X₁.warmed) with ⟨v, B, X', hpost, hsteps⟩ | ⟨q, B, X', hpost, hsteps⟩
  · exact Or.inl ⟨v, vm₁, B, X₁.warmed, X', hpost, fun target h => hstep₁ _ fun acts => by rw [doInvoke_state]; exact hsteps.trans h⟩
  · exact Or.inr ⟨q, vm₁, B, X₁.warmed, X', hpost, hstep₁ _ fun acts => by rw [doInvoke_state]; exact hsteps⟩
theorem vx_callS (X : Stand p l e R s m args below meth c T locs cells slots) (hexec : p.tables.exec = Jvm.exec) {own : String} {index : Nat} {y : MethodName} {bytes : ByteArray} {maxL : Nat} {ret : Option FieldType}
    (hown : s.vm.findClass own = some m.cls) (hlink : (Cond.methodLink own index y).before args s = true) (hstat : (Cond.static y).before args s = true) (hinit : (Cond.initialized y.cls).before args s = true)
    (hcode : (Cond.code y bytes maxL ret).before args s = true) (hy : y.cls ≠ "java/lang/invoke/MethodHandle" ∧ y.cls ≠ "java/lang/invoke/VarHandle")
    {W9 : Nat} {Pre : Pt → Array Value → Prop} {Post : Pt → Array Value → Option Value → Pt → Prop} {PostX : Pt → Array Value → Addr → Pt → Prop} (hK : vx_Back l R p e below s args y 3 W9 Pre Post PostX)
    {g : JFrame} (hg : g.method = m) (hsize : g.locals.size = c.maxLocals) {argsL rest : List Value} (hlen : ∀ sig, parseMethodDescriptor y.desc = some sig → argsL.length = sig.parameters.length)
    (hstack : g.stack = argsL.reverse ++ rest) (hW : 2 * g.monitorRoom + (rest.map fun v => v.category).sum ≤ W9) (hdg : decode c.code g.pc = .ok (.invokestatic index, 3))
    (hpre : ∀ vm₁, s.WarmedH vm₁ → Pre ⟨T.setVm vm₁, locs, cells, slots⟩ argsL.toArray) :
    (∃ (v : Option Value) (vm₁ : Vm) (B : Pt), s.WarmedH vm₁ ∧ Stand p l e R s m args below meth c B.U B.locs B.cells B.slots ∧ Post ⟨T.setVm vm₁, locs, cells, slots⟩ argsL.toArray v B ∧
      ∀ target, Steps p.tables e below (B.U.setTop { g with pc := g.pc + 3, stack := v.toList ++ rest }) target → Steps p.tables e below (T.setTop g) target) ∨
    (∃ (q : Addr) (vm₁ : Vm) (B : Pt), s.WarmedH vm₁ ∧ Stand p l e R s m args below meth c B.U B.locs B.cells B.slots ∧ PostX ⟨T.setVm vm₁, locs, cells, slots⟩ argsL.toArray q B ∧
      Steps p.tables e below (T.setTop g) ((B.U.setTop { g with stack := rest }).pushFrame (.throwing q))) := by
  obtain ⟨mk, hnamed⟩ := Cond.code_named hcode
  obtain ⟨methM, cM, hmethM, -, -, -, -, -, -, hsigM⟩ := Cond.code_spec hnamed hcode
  have hstatic : methM.isStatic = true := Cond.static_spec hnamed hmethM hstat
  obtain ⟨kP, hkP, -⟩ := className_of_methodNamed hnamed
  have hinitP : kP.init = .initialized := Cond.initialized_spec (findClass_of_methodNamed hnamed) hkP hinit
  obtain ⟨vm₁, X₁, hstep₁⟩ := X.invokestatic hexec hown hlink hnamed hmethM hstatic hkP hinitP hy (g := g) hg (argsL := argsL) (rest := rest) (hlen _ hsigM) hstack hdg
  rcases hK m meth c ⟨T.setVm vm₁, locs, cells, slots⟩ { g with stack := rest } (.invokestatic index) mk argsL.toArray X₁ hg hsize hdg hW (X₁.named hnamed) (hpre vm₁ X₁.warmed) with ⟨v, B, X', hpost, hsteps⟩ | ⟨q, B, X', hpost, hsteps⟩
  · exact Or.inl ⟨v, vm₁, B, X₁.warmed, X', hpost, fun target h => hstep₁ _ fun acts => by rw [doInvoke_state]; exact hsteps.trans h⟩
  · exact Or.inr ⟨q, vm₁, B, X₁.warmed, X', hpost, hstep₁ _ fun acts => by rw [doInvoke_state]; exact hsteps⟩
end Calls
theorem vx_cls {s : State} {T : State} {vm₁ : Vm} {E : String} {k : ClassId} (hW : s.WarmedH vm₁) (h : (T.setVm vm₁).vm.findClass E = some k) : s.vm.findClass E = some k := by
  have h1 : vm₁.findClass E = some k := h
  rw [hW.alike.findClass] at h1
  exact h1
/-- the method's frame g, with q thrown over it -/
def vx_W (p : Program) (l : Launch) (e : Env) (R : Room) (s : State) (m : MethodId) (args : Array Value) (below : List Frame) (meth : Method) (c : Code) (H : Heap) (locs : List Loc) (cells slots : Nat) (Q : State → Prop) (g : JFrame) (q : Addr) : Prop :=
  ∀ T : State, T.heap = H → Stand p l e R s m args below meth c T locs cells slots → ∃ t, Steps p.tables e below ((T.setTop g).pushFrame (.throwing q)) t ∧ Q t
def vx_Run (p : Program) (l : Launch) (e : Env) (R : Room) (s : State) (m : MethodId) (args : Array Value) (below : List Frame) (meth : Method) (c : Code) (H : Heap) (locs : List Loc) (cells slots mc ms : Nat) (g : JFrame) (rest : List Value) (Qa : State → Outcome → State → Prop) (XC : String → State → State → Prop) (free : Addr → Prop) : Prop :=
  ∀ T : State, T.heap = H → Stand p l e R s m args below meth c T locs cells slots →
    (∃ (v : Option Value) (st₀ t T' : State) (L : List Loc), st₀.heap = H ∧ Stand p l e R s m args below meth c T' (locs ++ L) (cells + mc) (slots + ms) ∧ (∀ q ∈ L, free q.base) ∧ T'.heap = t.heap ∧ T'.vm = t.vm ∧ Qa st₀ (.returned v) t ∧
      Goes p e below T g T' { g with pc := g.pc + 3, stack := v.toList ++ rest }) ∨
    (∃ (q : Addr) (st₀ t T' : State) (L : List Loc) (E : String) (ce : Cell), st₀.heap = H ∧ Stand p l e R s m args below meth c T' (locs ++ L) (cells + mc) (slots + ms) ∧ (∀ z ∈ L, free z.base) ∧ T'.heap = t.heap ∧ T'.vm = t.vm ∧ XC E st₀ t ∧ t.heap[q]? = some ce ∧ ce.vm = .none ∧ s.vm.findClass E = some ce.cls ∧
      Steps p.tables e below (T.setTop g) ((T'.setTop { g with stack := rest }).pushFrame (.throwing q)))
def vx_X {S : Type} (px : S → Prop) (B : String → S → State → Prop) (A : Nat → Prop) : String → State → State → Prop := fun E st t => ∃ u : S, px u ∧ B E u t ∧ va_F A st t
section Runs
variable {p : Program} {l : Launch} {e : Env} {R : Room} {s : State} {m : MethodId} {args : Array Value} {below : List Frame} {meth : Method} {c : Code} {H : Heap} {locs : List Loc} {cells slots : Nat}
variable {y : MethodName} {bytes cc : ByteArray} {maxL nL mc ms n index : Nat} {ret : Option FieldType} {ws : List Cond} {rm : Room} {Pc : Array Value → State → Prop} {Qc : Array Value → State → Outcome → State → Prop} {XC : String → State → State → Prop} {free : Addr → Prop} {Ts : List Cond} {own C : String} {b : Addr} {As rest : List Value} {g : JFrame}
theorem vx_callBack (cb : CallB R s args own index y bytes maxL ret ws rm mc ms n) (hM : vx_Met l y ws rm Pc Qc XC mc ms free) (hbl : FrameBlind Pc) : vx_Back l R p e below s args y 3 8 (PreOf R mc ms Pc) (PostOf Qc mc ms free) (vx_Post XC mc ms free) := by
  obtain ⟨hrc, hrs, hfr, hlo, hws, hcw, -, hini, -⟩ := cb
  exact vx_back (bytes := bytes) (maxL := maxL) (ret := ret) hM hbl hrc hrs hfr hlo hws hcw (fun a' U hW => word_at hW (Or.inl (by first | rfl | simp [Cond.onTables, Cond.keeps, Cond.steady])) hini)
theorem vx_runV (S : CallFix p m c cc nL s args Ts own) (hM : vx_Met l y ws rm Pc Qc XC mc ms free) (cw : CallW R s args own C index y bytes maxL ret ws rm mc ms n) (hp : PreV s H C b Pc As)
    (hg : g.method = m) (hn : As.length = n) (hsize : g.locals.size = nL) (hstack : g.stack = As.reverse ++ .ref b :: rest) (hW : 2 * g.monitorRoom + (rest.map fun v => v.category).sum ≤ 8) (hdg : decode cc g.pc = .ok (.invokevirtual index, 3)) (hf : cells + mc ≤ R.cells ∧ slots + ms ≤ R.slots) :
    vx_Run p l e R s m args below meth c H locs cells slots mc ms g rest (Qc (Value.ref b :: As).toArray) XC free := by
  have hK : vx_Back l R p e below s args y 3 8 (PreOf R mc ms Pc) (PostOf Qc mc ms free) (vx_Post XC mc ms free) := vx_callBack cw.1 hM hp.1
  obtain ⟨⟨-, -, -, -, -, -, hcode, -, hy, hlen, hl⟩, hin, hse⟩ := cw
  obtain ⟨hx, hb, hml, ho, -⟩ := S
  obtain ⟨-, ⟨cellB, hcB, hoB, hclB⟩, hPc⟩ := hp
  intro T hT X
  rcases vx_callV X hx (C := C) (bytes := bytes) (maxL := maxL) (ret := ret) ho hl hin hse hcode hy hK (by rw [hT]; exact hcB) hoB hclB hg (hsize.trans hml.symm) (argsL := As) (rest := rest) (fun sig h => hn.trans (hlen sig h)) hstack hW (by rw [hb]; exact hdg)
    (fun vm₁ hW₁ => ⟨hf.1, hf.2, hPc (T.setVm vm₁) hT hW₁⟩) with ⟨v, vm₁, ⟨U', l2, c2, s2⟩, hW₁, X', ⟨g', mk, t, L, e1, e2, hq, h1, hL, h2, h3⟩, st⟩ | ⟨q, vm₁, ⟨U', l2, c2, s2⟩, hW₁, X', ⟨g', mk, t, L, E, ce, e1, e2, hq, hce, hcv, hcl, h1, hL, h2, h3⟩, st⟩
  · dsimp only [Pt.U, Pt.locs, Pt.cells, Pt.slots] at X' e1 e2 h1 h2 h3 st
    subst h1; subst h2; subst h3
    exact Or.inl ⟨v, (T.setVm vm₁).calling g' mk (Value.ref b :: As).toArray, t, U', L, hT, X', hL, e1, e2, hq, st⟩
  · dsimp only [Pt.U, Pt.locs, Pt.cells, Pt.slots] at X' e1 e2 h1 h2 h3 st hcl
    subst h1; subst h2; subst h3
    exact Or.inr ⟨q, (T.setVm vm₁).calling g' mk (Value.ref b :: As).toArray, t, U', L, E, ce, hT, X', hL, e1, e2, hq, hce, hcv, vx_cls hW₁ hcl, st⟩
theorem vx_runS (S : CallFix p m c cc nL s args Ts own) (hM : vx_Met l y ws rm Pc Qc XC mc ms free) (cw : CallB R s args own index y bytes maxL ret ws rm mc ms n ∧ (Cond.static y).before args s = true) (hp : PreS s H Pc As)
    (hg : g.method = m) (hn : As.length = n) (hsize : g.locals.size = nL) (hstack : g.stack = As.reverse ++ rest) (hW : 2 * g.monitorRoom + (rest.map fun v => v.category).sum ≤ 8) (hdg : decode cc g.pc = .ok (.invokestatic index, 3)) (hf : cells + mc ≤ R.cells ∧ slots + ms ≤ R.slots) :
    vx_Run p l e R s m args below meth c H locs cells slots mc ms g rest (Qc As.toArray) XC free := by
  have hK : vx_Back l R p e below s args y 3 8 (PreOf R mc ms Pc) (PostOf Qc mc ms free) (vx_Post XC mc ms free) := vx_callBack cw.1 hM hp.1
  obtain ⟨⟨-, -, -, -, -, -, hcode, hini, hy, hlen, hl⟩, hstt⟩ := cw
  obtain ⟨hx, hb, hml, ho, -⟩ := S
  intro T hT X
  rcases vx_callS X hx (bytes := bytes) (maxL := maxL) (ret := ret) ho hl hstt hini hcode hy hK hg (hsize.trans hml.symm) (argsL := As) (rest := rest) (fun sig h => hn.trans (hlen sig h)) hstack hW (by rw [hb]; exact hdg)
    (fun vm₁ hW₁ => ⟨hf.1, hf.2, hp.2 (T.setVm vm₁) hT hW₁⟩) with ⟨v, vm₁, ⟨U', l2, c2, s2⟩, hW₁, X', ⟨g', mk, t, L, e1, e2, hq, h1, hL, h2, h3⟩, st⟩ | ⟨q, vm₁, ⟨U', l2, c2, s2⟩, hW₁, X', ⟨g', mk, t, L, E, ce, e1, e2, hq, hce, hcv, hcl, h1, hL, h2, h3⟩, st⟩
  · dsimp only [Pt.U, Pt.locs, Pt.cells, Pt.slots] at X' e1 e2 h1 h2 h3 st
    subst h1; subst h2; subst h3
    exact Or.inl ⟨v, (T.setVm vm₁).calling g' mk As.toArray, t, U', L, hT, X', hL, e1, e2, hq, st⟩
  · dsimp only [Pt.U, Pt.locs, Pt.cells, Pt.slots] at X' e1 e2 h1 h2 h3 st hcl
    subst h1; subst h2; subst h3
    exact Or.inr ⟨q, (T.setVm vm₁).calling g' mk As.toArray, t, U', L, E, ce, hT, X', hL, e1, e2, hq, hce, hcv, vx_cls hW₁ hcl, st⟩
end Runs
section Rows
variable {p : Program} {l : Launch} {e : Env} {R : Room} {s : State} {m : MethodId} {args : Array Value} {below : List Frame} {meth : Method} {c : Code} {H : Heap} {locs : List Loc} {cells slots : Nat} {Q : State → Prop}
variable {mc ms : Nat} {free : Addr → Prop} {A0 A1 : Nat → Prop} {H0 : Heap} {a : Array Value} {pc : Nat} {ls : Array Slot} {st0 rest : List Value}
theorem vx_keep {st₀ t T' : State} {L : List Loc} (h0 : st₀.heap = H) (e1 : T'.heap = t.heap) (hS : va_S A0 H0 H locs) (hA : ∀ q, q < H.size → A1 q → A0 q) (hf : ∀ q, free q → A0 q) (hL : ∀ q ∈ L, free q.base) (hF : va_F A1 st₀ t) :
    H.size ≤ T'.heap.size ∧ (∀ q : Nat, q < H.size → ¬ A1 q → T'.heap[q]? = H[q]?) ∧ va_S A0 H0 T'.heap (locs ++ L) := by
  obtain ⟨hz, hk⟩ := hF
  rw [h0] at hz hk
  exact ⟨by rw [e1]; exact hz, fun q h1 h2 => by rw [e1]; exact hk q h1 h2,
    ⟨Nat.le_trans hS.1 (by rw [e1]; exact hz), fun q h1 h2 => by rw [e1, hk q (Nat.lt_of_lt_of_le h1 hS.1) (fun z => h2 (hA q (Nat.lt_of_lt_of_le h1 hS.1) z))]; exact hS.2.1 q h1 h2, fun q hq => by
      rcases List.mem_append.mp hq with h | h
      · exact hS.2.2 q h
      · exact hf _ (hL q h)⟩⟩
theorem vx_calli {S SX : Type} {post : Int32 → S → Prop} {px : SX → Prop} {B : S → State → Prop} {BX : String → SX → State → Prop} {AX : Nat → Prop} (hr : vx_Run p l e R s m args below meth c H locs cells slots mc ms (F0 m pc ls st0) rest (va_Qi post B A1 a) (vx_X px BX AX) free) (hS : va_S A0 H0 H locs) (hA : ∀ q, q < H.size → A1 q → A0 q) (hf : ∀ q, free q → A0 q) (hAX : ∀ q, q < H.size → AX q → A0 q)
    (kx : ∀ (E : String) (ce : Cell) (q9 : Addr) (u : SX) (t : State) (H1 : Heap) (locs1 : List Loc), t.heap = H1 → s.vm.Alike t.vm → px u → BX E u t → H.size ≤ H1.size → (∀ q : Nat, q < H.size → ¬ AX q → H1[q]? = H[q]?) → va_S A0 H0 H1 locs1 → H1[q9]? = some ce → ce.vm = .none → s.vm.findClass E = some ce.cls → vx_W p l e R s m args below meth c H1 locs1 (cells + mc) (slots + ms) Q (F0 m pc ls rest) q9)
    (kk : ∀ (r : Int32) (u : S) (t : State) (H1 : Heap) (locs1 : List Loc), t.heap = H1 → s.vm.Alike t.vm → post r u → B u t → H.size ≤ H1.size → (∀ q : Nat, q < H.size → ¬ A1 q → H1[q]? = H[q]?) → va_S A0 H0 H1 locs1 → W p l e R s m args below meth c H1 locs1 (cells + mc) (slots + ms) Q (F0 m (pc + 3) ls (.int r :: rest))) : W p l e R s m args below meth c H locs cells slots Q (F0 m pc ls st0) := by
  intro T hT X
  rcases hr T hT X with ⟨v, st₀, t, T', L, h0, X', hL, e1, e2, ⟨⟨r, u, hv, hp, hb⟩, hF⟩, st⟩ | ⟨q, st₀, t, T', L, E, ce, h0, X', hL, e1, e2, ⟨u, hp, hb, hF⟩, hce, hcv, hcl, st⟩
  · cases hv
    obtain ⟨k1, k2, k3⟩ := vx_keep h0 e1 hS hA hf hL hF
    obtain ⟨t2, a1, b1⟩ := kk r u t T'.heap (locs ++ L) e1.symm (by rw [← e2]; exact X'.warmed.alike) hp hb k1 k2 k3 T' rfl X'
    exact ⟨t2, st t2 a1, b1⟩
  · obtain ⟨k1, k2, k3⟩ := vx_keep h0 e1 hS hAX hf hL hF
    obtain ⟨t2, a1, b1⟩ := kx E ce q u t T'.heap (locs ++ L) e1.symm (by rw [← e2]; exact X'.warmed.alike) hp hb k1 k2 k3 (by rw [e1]; exact hce) hcv hcl T' rfl X'
    exact ⟨t2, st.trans a1, b1⟩
theorem vx_calll {S SX : Type} {post : Int64 → S → Prop} {px : SX → Prop} {B : S → State → Prop} {BX : String → SX → State → Prop} {AX : Nat → Prop} (hr : vx_Run p l e R s m args below meth c H locs cells slots mc ms (F0 m pc ls st0) rest (va_Ql post B A1 a) (vx_X px BX AX) free) (hS : va_S A0 H0 H locs) (hA : ∀ q, q < H.size → A1 q → A0 q) (hf : ∀ q, free q → A0 q) (hAX : ∀ q, q < H.size → AX q → A0 q)
    (kx : ∀ (E : String) (ce : Cell) (q9 : Addr) (u : SX) (t : State) (H1 : Heap) (locs1 : List Loc), t.heap = H1 → s.vm.Alike t.vm → px u → BX E u t → H.size ≤ H1.size → (∀ q : Nat, q < H.size → ¬ AX q → H1[q]? = H[q]?) → va_S A0 H0 H1 locs1 → H1[q9]? = some ce → ce.vm = .none → s.vm.findClass E = some ce.cls → vx_W p l e R s m args below meth c H1 locs1 (cells + mc) (slots + ms) Q (F0 m pc ls rest) q9)
    (kk : ∀ (r : Int64) (u : S) (t : State) (H1 : Heap) (locs1 : List Loc), t.heap = H1 → s.vm.Alike t.vm → post r u → B u t → H.size ≤ H1.size → (∀ q : Nat, q < H.size → ¬ A1 q → H1[q]? = H[q]?) → va_S A0 H0 H1 locs1 → W p l e R s m args below meth c H1 locs1 (cells + mc) (slots + ms) Q (F0 m (pc + 3) ls (.long r :: rest))) : W p l e R s m args below meth c H locs cells slots Q (F0 m pc ls st0) := by
  intro T hT X
  rcases hr T hT X with ⟨v, st₀, t, T', L, h0, X', hL, e1, e2, ⟨⟨r, u, hv, hp, hb⟩, hF⟩, st⟩ | ⟨q, st₀, t, T', L, E, ce, h0, X', hL, e1, e2, ⟨u, hp, hb, hF⟩, hce, hcv, hcl, st⟩
  · cases hv
    obtain ⟨k1, k2, k3⟩ := vx_keep h0 e1 hS hA hf hL hF
    obtain ⟨t2, a1, b1⟩ := kk r u t T'.heap (locs ++ L) e1.symm (by rw [← e2]; exact X'.warmed.alike) hp hb k1 k2 k3 T' rfl X'
    exact ⟨t2, st t2 a1, b1⟩
  · obtain ⟨k1, k2, k3⟩ := vx_keep h0 e1 hS hAX hf hL hF
    obtain ⟨t2, a1, b1⟩ := kx E ce q u t T'.heap (locs ++ L) e1.symm (by rw [← e2]; exact X'.warmed.alike) hp hb k1 k2 k3 (by rw [e1]; exact hce) hcv hcl T' rfl X'
    exact ⟨t2, st.trans a1, b1⟩
theorem vx_callf {S SX : Type} {post : UInt32 → S → Prop} {px : SX → Prop} {B : S → State → Prop} {BX : String → SX → State → Prop} {AX : Nat → Prop} (hr : vx_Run p l e R s m args below meth c H locs cells slots mc ms (F0 m pc ls st0) rest (va_Qf post B A1 a) (vx_X px BX AX) free) (hS : va_S A0 H0 H locs) (hA : ∀ q, q < H.size → A1 q → A0 q) (hf : ∀ q, free q → A0 q) (hAX : ∀ q, q < H.size → AX q → A0 q)
    (kx : ∀ (E : String) (ce : Cell) (q9 : Addr) (u : SX) (t : State) (H1 : Heap) (locs1 : List Loc), t.heap = H1 → s.vm.Alike t.vm → px u → BX E u t → H.size ≤ H1.size → (∀ q : Nat, q < H.size → ¬ AX q → H1[q]? = H[q]?) → va_S A0 H0 H1 locs1 → H1[q9]? = some ce → ce.vm = .none → s.vm.findClass E = some ce.cls → vx_W p l e R s m args below meth c H1 locs1 (cells + mc) (slots + ms) Q (F0 m pc ls rest) q9)
    (kk : ∀ (r : UInt32) (u : S) (t : State) (H1 : Heap) (locs1 : List Loc), t.heap = H1 → s.vm.Alike t.vm → post r u → B u t → H.size ≤ H1.size → (∀ q : Nat, q < H.size → ¬ A1 q → H1[q]? = H[q]?) → va_S A0 H0 H1 locs1 → W p l e R s m args below meth c H1 locs1 (cells + mc) (slots + ms) Q (F0 m (pc + 3) ls (.float r :: rest))) : W p l e R s m args below meth c H locs cells slots Q (F0 m pc ls st0) := by
  intro T hT X
  rcases hr T hT X with ⟨v, st₀, t, T', L, h0, X', hL, e1, e2, ⟨⟨r, u, hv, hp, hb⟩, hF⟩, st⟩ | ⟨q, st₀, t, T', L, E, ce, h0, X', hL, e1, e2, ⟨u, hp, hb, hF⟩, hce, hcv, hcl, st⟩
  · cases hv
    obtain ⟨k1, k2, k3⟩ := vx_keep h0 e1 hS hA hf hL hF
    obtain ⟨t2, a1, b1⟩ := kk r u t T'.heap (locs ++ L) e1.symm (by rw [← e2]; exact X'.warmed.alike) hp hb k1 k2 k3 T' rfl X'
    exact ⟨t2, st t2 a1, b1⟩
  · obtain ⟨k1, k2, k3⟩ := vx_keep h0 e1 hS hAX hf hL hF
    obtain ⟨t2, a1, b1⟩ := kx E ce q u t T'.heap (locs ++ L) e1.symm (by rw [← e2]; exact X'.warmed.alike) hp hb k1 k2 k3 (by rw [e1]; exact hce) hcv hcl T' rfl X'
    exact ⟨t2, st.trans a1, b1⟩
theorem vx_calld {S SX : Type} {post : UInt64 → S → Prop} {px : SX → Prop} {B : S → State → Prop} {BX : String → SX → State → Prop} {AX : Nat → Prop} (hr : vx_Run p l e R s m args below meth c H locs cells slots mc ms (F0 m pc ls st0) rest (va_Qd post B A1 a) (vx_X px BX AX) free) (hS : va_S A0 H0 H locs) (hA : ∀ q, q < H.size → A1 q → A0 q) (hf : ∀ q, free q → A0 q) (hAX : ∀ q, q < H.size → AX q → A0 q)
    (kx : ∀ (E : String) (ce : Cell) (q9 : Addr) (u : SX) (t : State) (H1 : Heap) (locs1 : List Loc), t.heap = H1 → s.vm.Alike t.vm → px u → BX E u t → H.size ≤ H1.size → (∀ q : Nat, q < H.size → ¬ AX q → H1[q]? = H[q]?) → va_S A0 H0 H1 locs1 → H1[q9]? = some ce → ce.vm = .none → s.vm.findClass E = some ce.cls → vx_W p l e R s m args below meth c H1 locs1 (cells + mc) (slots + ms) Q (F0 m pc ls rest) q9)
    (kk : ∀ (r : UInt64) (u : S) (t : State) (H1 : Heap) (locs1 : List Loc), t.heap = H1 → s.vm.Alike t.vm → post r u → B u t → H.size ≤ H1.size → (∀ q : Nat, q < H.size → ¬ A1 q → H1[q]? = H[q]?) → va_S A0 H0 H1 locs1 → W p l e R s m args below meth c H1 locs1 (cells + mc) (slots + ms) Q (F0 m (pc + 3) ls (.double r :: rest))) : W p l e R s m args below meth c H locs cells slots Q (F0 m pc ls st0) := by
  intro T hT X
  rcases hr T hT X with ⟨v, st₀, t, T', L, h0, X', hL, e1, e2, ⟨⟨r, u, hv, hp, hb⟩, hF⟩, st⟩ | ⟨q, st₀, t, T', L, E, ce, h0, X', hL, e1, e2, ⟨u, hp, hb, hF⟩, hce, hcv, hcl, st⟩
  · cases hv
    obtain ⟨k1, k2, k3⟩ := vx_keep h0 e1 hS hA hf hL hF
    obtain ⟨t2, a1, b1⟩ := kk r u t T'.heap (locs ++ L) e1.symm (by rw [← e2]; exact X'.warmed.alike) hp hb k1 k2 k3 T' rfl X'
    exact ⟨t2, st t2 a1, b1⟩
  · obtain ⟨k1, k2, k3⟩ := vx_keep h0 e1 hS hAX hf hL hF
    obtain ⟨t2, a1, b1⟩ := kx E ce q u t T'.heap (locs ++ L) e1.symm (by rw [← e2]; exact X'.warmed.alike) hp hb k1 k2 k3 (by rw [e1]; exact hce) hcv hcl T' rfl X'
    exact ⟨t2, st.trans a1, b1⟩
theorem vx_callv {S SX : Type} {post : S → Prop} {px : SX → Prop} {B : S → State → Prop} {BX : String → SX → State → Prop} {AX : Nat → Prop} (hr : vx_Run p l e R s m args below meth c H locs cells slots mc ms (F0 m pc ls st0) rest (va_Qv post B A1 a) (vx_X px BX AX) free) (hS : va_S A0 H0 H locs) (hA : ∀ q, q < H.size → A1 q → A0 q) (hf : ∀ q, free q → A0 q) (hAX : ∀ q, q < H.size → AX q → A0 q)
    (kx : ∀ (E : String) (ce : Cell) (q9 : Addr) (u : SX) (t : State) (H1 : Heap) (locs1 : List Loc), t.heap = H1 → s.vm.Alike t.vm → px u → BX E u t → H.size ≤ H1.size → (∀ q : Nat, q < H.size → ¬ AX q → H1[q]? = H[q]?) → va_S A0 H0 H1 locs1 → H1[q9]? = some ce → ce.vm = .none → s.vm.findClass E = some ce.cls → vx_W p l e R s m args below meth c H1 locs1 (cells + mc) (slots + ms) Q (F0 m pc ls rest) q9)
    (kk : ∀ (u : S) (t : State) (H1 : Heap) (locs1 : List Loc), t.heap = H1 → s.vm.Alike t.vm → post u → B u t → H.size ≤ H1.size → (∀ q : Nat, q < H.size → ¬ A1 q → H1[q]? = H[q]?) → va_S A0 H0 H1 locs1 → W p l e R s m args below meth c H1 locs1 (cells + mc) (slots + ms) Q (F0 m (pc + 3) ls (rest))) : W p l e R s m args below meth c H locs cells slots Q (F0 m pc ls st0) := by
  intro T hT X
  rcases hr T hT X with ⟨v, st₀, t, T', L, h0, X', hL, e1, e2, ⟨⟨u, hv, hp, hb⟩, hF⟩, st⟩ | ⟨q, st₀, t, T', L, E, ce, h0, X', hL, e1, e2, ⟨u, hp, hb, hF⟩, hce, hcv, hcl, st⟩
  · cases hv
    obtain ⟨k1, k2, k3⟩ := vx_keep h0 e1 hS hA hf hL hF
    obtain ⟨t2, a1, b1⟩ := kk u t T'.heap (locs ++ L) e1.symm (by rw [← e2]; exact X'.warmed.alike) hp hb k1 k2 k3 T' rfl X'
    exact ⟨t2, st t2 a1, b1⟩
  · obtain ⟨k1, k2, k3⟩ := vx_keep h0 e1 hS hAX hf hL hF
    obtain ⟨t2, a1, b1⟩ := kx E ce q u t T'.heap (locs ++ L) e1.symm (by rw [← e2]; exact X'.warmed.alike) hp hb k1 k2 k3 (by rw [e1]; exact hce) hcv hcl T' rfl X'
    exact ⟨t2, st.trans a1, b1⟩
end Rows
section Ends
variable {p : Program} {l : Launch} {e : Env} {R : Room} {s : State} {m : MethodId} {args : Array Value} {below : List Frame} {meth : Method} {c : Code} {H : Heap} {locs : List Loc} {cells slots : Nat} {Q : State → Prop}
variable {mc ms : Nat} {free : Addr → Prop} {A0 A1 : Nat → Prop} {H0 : Heap} {a : Array Value} {ls : Array Slot} {st0 rest : List Value}
variable {Qc : Array Value → State → Outcome → State → Prop} {XC : String → State → State → Prop}
/-- what a body that may throw owes at its end -/
def vx_MQ (below : List Frame) (Qc : Array Value → State → Outcome → State → Prop) (XC : String → State → State → Prop) (a : Array Value) (s : State) (mc ms : Nat) (free : Addr → Prop) : State → Prop := fun t =>
  ∃ o, t.status = .running ∧ Ended t below o ∧ vx_Q Qc XC mc ms free a s o t
theorem vx_ret {g : JFrame} {mc ms : Nat} (k : W p l e R s m args below meth c H locs cells slots (MQ below Qc args s mc ms free) g) : W p l e R s m args below meth c H locs cells slots (vx_MQ below Qc XC args s mc ms free) g := by
  intro T hT X
  obtain ⟨t, a1, o, b1, b2, b3, b4⟩ := k T hT X
  exact ⟨t, a1, o, b1, b2, Or.inl ⟨b3, b4⟩⟩
/-- not caught here: it goes on to the caller -/
theorem vx_widen {g : JFrame} {q : Addr} {k n : Nat} (h1 : cells ≤ k) (h2 : slots ≤ n) (kk : vx_W p l e R s m args below meth c H locs k n Q g q) : vx_W p l e R s m args below meth c H locs cells slots Q g q := fun T hT X => kk T hT (stand_widen X h1 h2)
theorem vx_out {pc : Nat} {E : String} {ce : Cell} {q : Addr} {mc ms : Nat} (hout : ∀ x ∈ c.exceptionTable.toList, covers x pc = false) (hlocks : meth.locks = false) (hcell : H[q]? = some ce) (hv : ce.vm = .none) (hcl : s.vm.findClass E = some ce.cls)
    (hx : ∀ t : State, t.heap = H → s.vm.Alike t.vm → XC E s t) (hf : ∀ z ∈ locs, free z.base) (hc : cells ≤ mc) (hs : slots ≤ ms) :
    vx_W p l e R s m args below meth c H locs cells slots (vx_MQ below Qc XC args s mc ms free) (F0 m pc ls rest) q := by
  intro T hT X
  obtain ⟨st1, hrun, hend, hW, hsm⟩ := X.leaveThrown q (g := F0 m pc ls rest) rfl rfl rfl hout hlocks
  have hcell9 : (T.setFrames (.throwing q :: below)).heap[q]? = some ce := by
    show T.heap[q]? = some ce
    rw [hT]; exact hcell
  exact ⟨_, st1, .threw q, hrun, hend, Or.inr ⟨q, rfl, E, ce, locs, hx _ hT hW.alike, hcell9, hv, hcl, hW, hsm.mono hc hs, hf⟩⟩
theorem vx_frame {U : State} {k n : Nat} (h : s.sameButNew ({ U with vm := s.vm } : State) locs k n) : s.heap.size ≤ U.heap.size ∧ ∀ q : Nat, q < s.heap.size → (∀ z ∈ locs, z.base ≠ q) → U.heap[q]? = s.heap[q]? := by
  obtain ⟨-, h2, -, -, -, h6⟩ := h
  refine ⟨h2, fun q hq hz => ?_⟩
  obtain ⟨c9, e1, e2, e3, e4⟩ := h6 q _ (Array.getElem?_eq_getElem hq)
  have hs : c9.slots = (s.heap[q]).slots := Array.ext_getElem? fun i => e4 i fun hm => hz _ hm rfl
  have h9 : c9 = s.heap[q] := by
    rw [hs] at e2
    exact e2
  have e5 : U.heap[q]? = some c9 := e1
  rw [e5, h9, Array.getElem?_eq_getElem hq]
/-- the words of a throw but the four that speak of the heap -/
def vx_no (w : Cond) : Bool := decide (w ≠ .isRef (.static Bundle.tN "UNASSIGNED_STACK" Bundle.steD)) && decide (w ≠ .isRef (.static Bundle.tN "SUPPRESSED_SENTINEL" Bundle.listD)) && decide (w ≠ .laysStatic Bundle.tN "UNASSIGNED_STACK" Bundle.steD) && decide (w ≠ .laysStatic Bundle.tN "SUPPRESSED_SENTINEL" Bundle.listD)
def vx_at0 (own : String) (ic : Nat) (X : String) (names : List String) : List Cond := (Bundle.ownAtoms0 own ic X names).filter vx_no
def vx_atS (own : String) (ic : Nat) (X : String) (names : List String) : List Cond := (Bundle.ownAtoms own ic X names).filter vx_no
/-- a word that the tables alone decide, or a good one -/
def vx_ot (w : Cond) : Bool := w.onTables || goodWord w
theorem vx_ot_at {args a' : Array Value} {s U : State} {w : Cond} (hW : s.WarmedH U.vm) (hvm : s.vm = U.vm) (hg : vx_ot w = true) (h : w.before args s = true) : w.before a' U = true := by
  simp only [vx_ot, Bool.or_eq_true] at hg
  rcases hg with hg | hg
  · exact va_tabs hg hvm h
  · exact word_at hW (good_of_word hg) h
/-- a list's words: the good ones out of the method's own list, the others by premises of their own -/
theorem vx_hat {args : Array Value} {s : State} {L B : List Cond} (h1 : ∀ w ∈ L.filter goodWord, w.before args s = true) (h2 : ∀ w ∈ L.filter (fun w => !goodWord w), w ∈ B) (h3 : ∀ w ∈ B, w.before args s = true) : ∀ w ∈ L, w.before args s = true := by
  intro w hw
  by_cases g : goodWord w = true
  · exact h1 w (List.mem_filter.mpr ⟨hw, g⟩)
  · refine h3 w (h2 w (List.mem_filter.mpr ⟨hw, ?_⟩))
    show (!goodWord w) = true
    cases hgw : goodWord w
    · rfl
    · exact absurd hgw g
theorem vx_c {args : Array Value} {s : State} {w : Cond} {B : List Cond} (h : w.before args s = true) (t : ∀ w ∈ B, w.before args s = true) : ∀ w' ∈ w :: B, w'.before args s = true := fun w' h' => (List.mem_cons.mp h').elim (fun e => by rw [e]; exact h) (t w')
theorem vx_n {args : Array Value} {s : State} : ∀ w ∈ ([] : List Cond), w.before args s = true := fun _ h => nomatch h
theorem vx_own {args : Array Value} {s : State} {L : List Cond} (h1 : ∀ w ∈ L.filter vx_no, w.before args s = true)
    (hU : (Cond.isRef (.static Bundle.tN "UNASSIGNED_STACK" Bundle.steD)).before args s = true) (hN : (Cond.isRef (.static Bundle.tN "SUPPRESSED_SENTINEL" Bundle.listD)).before args s = true)
    (lU : (Cond.laysStatic Bundle.tN "UNASSIGNED_STACK" Bundle.steD).before args s = true) (lN : (Cond.laysStatic Bundle.tN "SUPPRESSED_SENTINEL" Bundle.listD).before args s = true) : ∀ w ∈ L, w.before args s = true := by
  intro w hw
  by_cases e1 : w = .isRef (.static Bundle.tN "UNASSIGNED_STACK" Bundle.steD)
  · rw [e1]; exact hU
  · by_cases e2 : w = .isRef (.static Bundle.tN "SUPPRESSED_SENTINEL" Bundle.listD)
    · rw [e2]; exact hN
    · by_cases e3 : w = .laysStatic Bundle.tN "UNASSIGNED_STACK" Bundle.steD
      · rw [e3]; exact lU
      · by_cases e4 : w = .laysStatic Bundle.tN "SUPPRESSED_SENTINEL" Bundle.listD
        · rw [e4]; exact lN
        · exact h1 w (List.mem_filter.mpr ⟨hw, by unfold vx_no; rw [decide_eq_true e1, decide_eq_true e2, decide_eq_true e3, decide_eq_true e4]; rfl⟩)
/-- where a static field lies, its class's statics cell in H -/
def vx_L (C n d : String) (A : Nat → Prop) (U : State) (H : Heap) : Prop := ∃ (c : ClassId) (k : Class) (i : Nat) (f : Field) (a : Nat) (cell : Cell), U.vm.findClass C = some c ∧ U.fieldFound? C n d = some (c, k, i, f) ∧ f.isStatic = true ∧ k.statics = some a ∧ H[a]? = some cell ∧ cell.vm.isStatics = true ∧ cell.cls = c ∧ f.slot < cell.slots.size ∧ k.staticTypes[f.slot]? = some f.type ∧ ¬ A a
theorem vx_L.moved {C n d : String} {A : Nat → Prop} {u U : State} {H : Heap} (hvm : u.vm.Alike U.vm) (h : vx_L C n d A u H) : vx_L C n d A U H := by
  obtain ⟨c, k, i, f, a, cell, h1, h2, h3, h4, h5, h6, h7, h8, h9, h10⟩ := h
  obtain ⟨k', hi', he⟩ := State.fieldFound?_setVm hvm h2
  exact ⟨c, k', i, f, a, cell, by rw [hvm.findClass]; exact h1, hi', h3, by rw [he]; exact h4, h5, h6, h7, h8, by rw [he]; exact h9, h10⟩
theorem vx_L.kept {C n d : String} {A : Nat → Prop} {U : State} {H H1 : Heap} (h : vx_L C n d A U H) (hq : ∀ a : Nat, a < H.size → ¬ A a → H1[a]? = H[a]?) : vx_L C n d A U H1 := by
  obtain ⟨c, k, i, f, a, cell, h1, h2, h3, h4, h5, h6, h7, h8, h9, h10⟩ := h
  exact ⟨c, k, i, f, a, cell, h1, h2, h3, h4, by rw [hq a (Array.getElem?_eq_some_iff.mp h5).1 h10]; exact h5, h6, h7, h8, h9, h10⟩
theorem vx_L.narrow {C n d : String} {A B : Nat → Prop} {U : State} {H : Heap} (h : vx_L C n d A U H) (hAB : ∀ q, B q → A q) : vx_L C n d B U H := by
  obtain ⟨c, k, i, f, a, cell, h1, h2, h3, h4, h5, h6, h7, h8, h9, h10⟩ := h
  exact ⟨c, k, i, f, a, cell, h1, h2, h3, h4, h5, h6, h7, h8, h9, fun z => h10 (hAB _ z)⟩
theorem vx_L.word {C n d : String} {A : Nat → Prop} {s : State} {args : Array Value} (h : vx_L C n d A s s.heap) : (Cond.laysStatic C n d).before args s = true := by
  obtain ⟨c, k, i, f, a, cell, h1, h2, h3, h4, h5, h6, h7, h8, h9, -⟩ := h
  show (Cond.laysStatic C n d).holds args s none s [] = true
  exact Cond.laysStatic_of h1 h2 h3 h4 h5 h6 h7 h8 h9
/-- .. and what it holds: null or some reference -/
def vx_Zq (C n d : String) (A : Nat → Prop) (U : State) (H : Heap) : Prop := va_Zq C n d A U H ∧ vx_L C n d A U H
theorem vx_Zq.moved {C n d : String} {A : Nat → Prop} {u U : State} {H : Heap} (hvm : u.vm.Alike U.vm) (h : vx_Zq C n d A u H) : vx_Zq C n d A U H := ⟨va_Zq.moved hvm h.1, vx_L.moved hvm h.2⟩
theorem vx_Zq.kept {C n d : String} {A : Nat → Prop} {U : State} {H H1 : Heap} (h : vx_Zq C n d A U H) (hq : ∀ a : Nat, a < H.size → ¬ A a → H1[a]? = H[a]?) : vx_Zq C n d A U H1 := ⟨va_Zq.kept h.1 hq, vx_L.kept h.2 hq⟩
theorem vx_Zq.narrow {C n d : String} {A B : Nat → Prop} {U : State} {H : Heap} (h : vx_Zq C n d A U H) (hAB : ∀ q, B q → A q) : vx_Zq C n d B U H := ⟨va_Zq.narrow h.1 hAB, vx_L.narrow h.2 hAB⟩
theorem vx_Zqof {args : Array Value} {s : State} {C n d : String} {A : Nat → Prop} (hl : (Cond.laysStatic C n d).before args s = true) (hini : (Cond.initialized C).before args s = true) (h : (Cond.isRef (.static C n d)).before args s = true) (hA : ∀ a : Nat, a < s.heap.size → ¬ A a) : vx_Zq C n d A s s.heap := by
  refine ⟨va_Zqof hl hini h hA, ?_⟩
  obtain ⟨c, k, i, f, a, cell, h1, h2, h3, h4, h5, h6, h7, h8, h9⟩ := Cond.laysStatic_spec hl
  exact ⟨c, k, i, f, a, cell, h1, h2, h3, h4, h5, h6, h7, h8, h9, hA a (Array.getElem?_eq_some_iff.mp h5).1⟩
theorem vx_isRef {C n d : String} {v : Value} {A : Nat → Prop} {s : State} {args : Array Value} (h : va_Z C n d v A s s.heap) (hv : v.isRef = true) : (Cond.isRef (.static C n d)).before args s = true := by
  obtain ⟨cf, kf, fi, f, a, cell, h1, h2, h3, h4, h5, h6, h7, -⟩ := h
  have he : (Term.static C n d).eval args s none [] s = some v := by
    simp [Term.eval, State.fieldNamed?, h1, h2, h4, h5, h6, h7]
  simp only [Cond.before, Cond.holds, Cond.value, he]
  cases v <;> simp_all [Value.isRef]
theorem vx_isRefq {C n d : String} {A : Nat → Prop} {s : State} {args : Array Value} (h : va_Zq C n d A s s.heap) : (Cond.isRef (.static C n d)).before args s = true := by
  rcases h with h | ⟨t, h⟩
  · exact vx_isRef h rfl
  · exact vx_isRef h rfl
/-- the same frame, seen from here: as if the method were called anew in this heap -/
theorem vx_rebase {T : State} (X : Stand p l e R s m args below meth c T locs cells slots) {R' : Room} (hf : R'.frames ≤ R.frames) (hl : R'.locals ≤ R.locals) (hc : cells + R'.cells ≤ R.cells) (hs : slots + R'.slots ≤ R.slots) :
    Stand p l e R' ((T.setVm s.vm).setFrames (.invoking m args :: below)) m args below meth c T [] 0 0 := by
  have htop : (T.setVm s.vm).topJava?.isSome := X.here.top
  have hF : ((T.setVm s.vm).setFrames (.invoking m args :: below)).frames = .invoking m args :: below := State.frames_setFrames _ (State.cur_lt_of_top htop)
  obtain ⟨g₀, hg0⟩ := Option.isSome_iff_exists.mp htop
  obtain ⟨r, hr⟩ := State.topJava?_eq_some.mp hg0
  have hl9 : e.platform.stackLimits (T.setVm s.vm).me = e.platform.stackLimits s.me := X.limits
  have hb9 : (T.setVm s.vm).me.stackBytes = s.me.stackBytes := X.bytes
  refine ⟨X.admits, X.cas, X.clock, hF, ?_, X.hears, X.method, X.code, X.here, X.tail, X.warmed, ?_, ?_, ?_⟩
  · have h := X.room
    have hU : ((T.setVm s.vm).setFrames (.invoking m args :: below)).localsInUse = s.localsInUse := by
      rw [State.localsInUse_invoking hF (meth := meth) (c := c) X.method X.code, State.localsInUse_invoking X.frames X.method X.code]
    simp only [State.hasRoom, Bool.and_eq_true, decide_eq_true_eq] at h ⊢
    obtain ⟨⟨⟨⟨h1, h2, h3, h4, h5, h6⟩, h7⟩, h8⟩, h9⟩ := h
    rw [X.frames, List.length_cons] at h2 h3
    have q1 := X.heapSize
    have q2 := X.used
    simp only [hF, hU, List.length_cons, State.stackLimits_setFrames, State.stackBytes_setFrames, hl9, hb9]
    refine ⟨⟨⟨⟨by omega, by omega, by omega, by omega, by omega, h6⟩, ?_⟩, ?_⟩, X.book⟩
    · show T.heap.size + R'.cells ≤ e.platform.maxCells
      omega
    · show T.slotsUsed + R'.slots ≤ e.platform.maxSlots
      omega
  · rw [State.stackLimits_setFrames]; rfl
  · rw [State.stackBytes_setFrames]; rfl
  · refine ⟨?_, Nat.le_refl _, Nat.le_refl _, ?_, ?_, fun a c9 h9 => ⟨c9, h9, rfl, rfl, fun _ _ => rfl⟩⟩
    · obtain ⟨t, ht, -⟩ := State.frames_cons hr
      show T.setVm s.vm = { ((T.setVm s.vm).setFrames (.invoking m args :: below)).setFrames (T.setVm s.vm).frames with heap := T.heap, slotsUsed := T.slotsUsed }
      rw [State.setFrames_setFrames, State.setFrames_self ht]
      rfl
    · show T.slotsUsed = T.slotsUsed + ((T.heap.toList.drop T.heap.size).map (·.slots.size)).sum
      rw [List.drop_eq_nil_of_le (Nat.le_of_eq Array.length_toList)]
      rfl
    · show ((T.heap.toList.drop T.heap.size).map (·.slots.size)).sum ≤ 0
      rw [List.drop_eq_nil_of_le (Nat.le_of_eq Array.length_toList)]
      exact Nat.le_refl _
/-- 'throw new E()': new; dup; invokespecial; athrow -/
theorem vx_throw0 {cc : ByteArray} {pc : Nat} (hexec : p.tables.exec = Jvm.exec) (hb : c.code = cc) (hl : l.stackTraces = false) {own cls : String} {names : List String} {ik ic mc ms : Nat} {A : Nat → Prop}
    (hown : s.vm.findClass own = some m.cls) (hcls : Bundle.fit cls = true) (hnames : ∀ n ∈ names, Bundle.fit n = true)
    (hk : (Cond.classLink own ik cls).before args s = true) (hini : (Cond.initialized cls).before args s = true) (hat : ∀ w ∈ vx_at0 own ic cls names, w.before args s = true)
    (hgood : ∀ w ∈ Cond.classLink own ik cls :: Cond.initialized cls :: vx_at0 own ic cls names, vx_ot w = true)
    (hU : vx_Zq Bundle.tN "UNASSIGNED_STACK" Bundle.steD A s s.heap) (hN : vx_Zq Bundle.tN "SUPPRESSED_SENTINEL" Bundle.listD A s s.heap) (hS : va_S A s.heap H locs) (hsize : ls.size = c.maxLocals)
    (d0 : decode cc pc = .ok (.new ik, 3)) (d3 : decode cc (pc + 3) = .ok (.dup, 1)) (d4 : decode cc (pc + 4) = .ok (.invokespecial ic, 3)) (d7 : decode cc (pc + 7) = .ok (.athrow, 1))
    (hout : ∀ x ∈ c.exceptionTable.toList, covers x (pc + 7) = false)
    (hRframes : names.length + 3 < R.frames) (hRlocals : (rest.map fun v => v.category).sum + (13 * (names.length + 1) + 42) ≤ R.locals) (hRcells : cells + 1 ≤ R.cells) (hRslots : slots + 6 ≤ R.slots) (hlocks : meth.locks = false)
    (hx : ∀ t : State, s.vm.Alike t.vm → H.size ≤ t.heap.size → (∀ q : Nat, q < H.size → t.heap[q]? = H[q]?) → XC cls s t)
    (hf : ∀ z ∈ locs, free z.base) (hc : cells + 1 ≤ mc) (hs : slots + 6 ≤ ms) :
    W p l e R s m args below meth c H locs cells slots (vx_MQ below Qc XC args s mc ms free) (F0 m pc ls rest) := by
  intro T hT X
  have htr : e.platform.stackTraces = false := (show e.platform.stackTraces = l.stackTraces by rw [X.admits.platform]).trans hl
  have Y := vx_rebase X (R' := { frames := R.frames, locals := R.locals, cells := 1, slots := 6 }) (Nat.le_refl _) (Nat.le_refl _) hRcells hRslots
  obtain ⟨s', hA⟩ : ∃ z, z = (T.setVm s.vm).setFrames (.invoking m args :: below) := ⟨_, rfl⟩
  rw [← hA] at Y
  have hvm : s'.vm = s.vm := by rw [hA]; rfl
  have hhp : s'.heap = H := by rw [hA]; exact hT
  have hW0 : s.WarmedH s'.vm := by rw [hvm]; exact State.WarmedH.refl s
  have hat' : ∀ w ∈ vx_at0 own ic cls names, w.before args s' = true := fun w hw => vx_ot_at hW0 hvm.symm (hgood w (List.mem_cons_of_mem _ (List.mem_cons_of_mem _ hw))) (hat w hw)
  have hk' : (Cond.classLink own ik cls).before args s' = true := vx_ot_at hW0 hvm.symm (hgood _ List.mem_cons_self) hk
  have hini' : (Cond.initialized cls).before args s' = true := vx_ot_at hW0 hvm.symm (hgood _ (List.mem_cons_of_mem _ List.mem_cons_self)) hini
  have hU' : vx_Zq Bundle.tN "UNASSIGNED_STACK" Bundle.steD A s' s'.heap := by rw [hhp]; exact vx_Zq.moved hW0.alike (hU.kept hS.2.1)
  have hN' : vx_Zq Bundle.tN "SUPPRESSED_SENTINEL" Bundle.listD A s' s'.heap := by rw [hhp]; exact vx_Zq.moved hW0.alike (hN.kept hS.2.1)
  have h : ∀ w ∈ Bundle.ownAtoms0 own ic cls names, w.before args s' = true := vx_own hat' (vx_isRefq hU'.1) (vx_isRefq hN'.1) hU'.2.word hN'.2.word
  have hown' : s'.vm.findClass own = some m.cls := by rw [hvm]; exact hown
  have hins : (Cond.instantiable cls 6).before args s' = true := h _ (by simp [Bundle.ownAtoms0])
  obtain ⟨vm₁, cX, kX, hfX, hkX, -, -, X₁, st1⟩ := Y.newCold hexec (own := own) (C := cls) (index := ik) (n := 6) hown' hk' hins hini'
    (g := F0 m pc ls rest) rfl (by rw [hb]; exact d0) (Nat.le_refl _) (Nat.le_refl _)
  generalize hT1 : (T.setVm vm₁).pushCell { cls := cX, slots := kX.instanceTypes.map defaultValue, vm := .none } = T1 at X₁ st1
  have hcat : (Value.ref T.heap.size).category = 1 := rfl
  have hcellA : T1.heap[T.heap.size]? = some (freshCell cX kX) := by rw [← hT1]; exact State.heap_pushCell_size _ _
  have d3' : decode c.code (pc + 3) = .ok (.dup, 1) := by rw [hb]; exact d3
  obtain ⟨U, hsteps, hrun, hend, hW, hsame, ce, hce, hO⟩ := X₁.ctorThrow0 hexec htr (own := own) (cls := cls) (names := names) (ic := ic) hown' hcls hnames h (fun x hx => nomatch hx) hfX hkX hcellA (by rw [hhp, hT]; exact Nat.le_refl _)
    (g := { method := m, pc := pc + 4, locals := ls, stack := .ref T.heap.size :: .ref T.heap.size :: rest, locked := none }) rfl hsize rfl rfl (rest := rest) rfl
    (by rw [hb]; exact d4) (by rw [hb]; exact d7) hout hRframes (by simp only [List.map_cons, List.sum_cons, hcat]; omega) hlocks
  obtain ⟨f1, f2⟩ := vx_frame hsame
  rw [hhp] at f1 f2
  have hWs : s.WarmedH U.vm := State.WarmedH.trans hW0 hW
  have hcl : s.vm.findClass cls = some ce.cls := by
    have h9 := hO.cls
    rw [hvm] at h9
    exact h9
  have hall : s.sameButNew ({ U with vm := s.vm } : State) locs mc ms := by
    subst hA
    obtain ⟨e1, e2⟩ := hsame
    rw [State.setFrames_setFrames] at e1
    have h2 : (T.setVm s.vm).sameButNew ({ U with vm := s.vm } : State) [] (0 + 1) (0 + 6) := ⟨e1, e2⟩
    have h3 := X.same.trans h2
    rw [List.append_nil] at h3
    exact h3.mono hc hs
  refine ⟨U, ?_, .threw T.heap.size, hrun, hend, Or.inr ⟨T.heap.size, rfl, cls, ce, locs, hx U hWs.alike f1 (fun q hq => f2 q hq (fun z hz => nomatch hz)), hce, hO.vm, hcl, hWs, hall, hf⟩⟩
  refine st1 _ ?_
  show Steps p.tables e below (T1.setTop { method := m, pc := pc + 3, locals := ls, stack := .ref T.heap.size :: rest, locked := none }) _
  jvm_step X₁.here [X₁.here.top, hexec, d3', Value.category]
  exact hsteps
/-- 'throw new E("text")': new; dup; ldc; invokespecial; athrow -/
theorem vx_throwS {cc : ByteArray} {pc : Nat} (hexec : p.tables.exec = Jvm.exec) (hb : c.code = cc) (hl : l.stackTraces = false) {own cls text : String} {names : List String} {ik is ic mc ms sa : Nat} {A : Nat → Prop}
    (hown : s.vm.findClass own = some m.cls) (hcls : Bundle.fit cls = true) (hnames : ∀ n ∈ names, Bundle.fit n = true)
    (hk : (Cond.classLink own ik cls).before args s = true) (hini : (Cond.initialized cls).before args s = true) (hstr : vk_R own is text sa s) (hat : ∀ w ∈ vx_atS own ic cls names, w.before args s = true)
    (hgood : ∀ w ∈ Cond.classLink own ik cls :: Cond.initialized cls :: vx_atS own ic cls names, vx_ot w = true)
    (hU : vx_Zq Bundle.tN "UNASSIGNED_STACK" Bundle.steD A s s.heap) (hN : vx_Zq Bundle.tN "SUPPRESSED_SENTINEL" Bundle.listD A s s.heap) (hS : va_S A s.heap H locs) (hsize : ls.size = c.maxLocals)
    (d0 : decode cc pc = .ok (.new ik, 3)) (d3 : decode cc (pc + 3) = .ok (.dup, 1)) (d4 : decode cc (pc + 4) = .ok (.ldc is, 2)) (d6 : decode cc (pc + 6) = .ok (.invokespecial ic, 3)) (d9 : decode cc (pc + 9) = .ok (.athrow, 1))
    (hout : ∀ x ∈ c.exceptionTable.toList, covers x (pc + 9) = false)
    (hRframes : names.length + 3 < R.frames) (hRlocals : (rest.map fun v => v.category).sum + (13 * (names.length + 1) + 43) ≤ R.locals) (hRcells : cells + 1 ≤ R.cells) (hRslots : slots + 6 ≤ R.slots) (hlocks : meth.locks = false)
    (hx : ∀ t : State, s.vm.Alike t.vm → H.size ≤ t.heap.size → (∀ q : Nat, q < H.size → t.heap[q]? = H[q]?) → XC cls s t)
    (hf : ∀ z ∈ locs, free z.base) (hc : cells + 1 ≤ mc) (hs : slots + 6 ≤ ms) :
    W p l e R s m args below meth c H locs cells slots (vx_MQ below Qc XC args s mc ms free) (F0 m pc ls rest) := by
  intro T hT X
  have htr : e.platform.stackTraces = false := (show e.platform.stackTraces = l.stackTraces by rw [X.admits.platform]).trans hl
  have Y := vx_rebase X (R' := { frames := R.frames, locals := R.locals, cells := 1, slots := 6 }) (Nat.le_refl _) (Nat.le_refl _) hRcells hRslots
  obtain ⟨s', hA⟩ : ∃ z, z = (T.setVm s.vm).setFrames (.invoking m args :: below) := ⟨_, rfl⟩
  rw [← hA] at Y
  have hvm : s'.vm = s.vm := by rw [hA]; rfl
  have hhp : s'.heap = H := by rw [hA]; exact hT
  have hW0 : s.WarmedH s'.vm := by rw [hvm]; exact State.WarmedH.refl s
  have hat' : ∀ w ∈ vx_atS own ic cls names, w.before args s' = true := fun w hw => vx_ot_at hW0 hvm.symm (hgood w (List.mem_cons_of_mem _ (List.mem_cons_of_mem _ hw))) (hat w hw)
  have hk' : (Cond.classLink own ik cls).before args s' = true := vx_ot_at hW0 hvm.symm (hgood _ List.mem_cons_self) hk
  have hini' : (Cond.initialized cls).before args s' = true := vx_ot_at hW0 hvm.symm (hgood _ (List.mem_cons_of_mem _ List.mem_cons_self)) hini
  have hU' : vx_Zq Bundle.tN "UNASSIGNED_STACK" Bundle.steD A s' s'.heap := by rw [hhp]; exact vx_Zq.moved hW0.alike (hU.kept hS.2.1)
  have hN' : vx_Zq Bundle.tN "SUPPRESSED_SENTINEL" Bundle.listD A s' s'.heap := by rw [hhp]; exact vx_Zq.moved hW0.alike (hN.kept hS.2.1)
  have h : ∀ w ∈ Bundle.ownAtoms own ic cls names, w.before args s' = true := vx_own hat' (vx_isRefq hU'.1) (vx_isRefq hN'.1) hU'.2.word hN'.2.word
  have hown' : s'.vm.findClass own = some m.cls := by rw [hvm]; exact hown
  have hins : (Cond.instantiable cls 6).before args s' = true := h _ (by simp [Bundle.ownAtoms])
  obtain ⟨vm₁, cX, kX, hfX, hkX, -, -, X₁, st1⟩ := Y.newCold hexec (own := own) (C := cls) (index := ik) (n := 6) hown' hk' hins hini'
    (g := F0 m pc ls rest) rfl (by rw [hb]; exact d0) (Nat.le_refl _) (Nat.le_refl _)
  generalize hT1 : (T.setVm vm₁).pushCell { cls := cX, slots := kX.instanceTypes.map defaultValue, vm := .none } = T1 at X₁ st1
  have hcat : (Value.ref T.heap.size).category = 1 := rfl
  have hcellA : T1.heap[T.heap.size]? = some (freshCell cX kX) := by rw [← hT1]; exact State.heap_pushCell_size _ _
  have d3' : decode c.code (pc + 3) = .ok (.dup, 1) := by rw [hb]; exact d3
  have d4' : decode c.code (pc + 4) = .ok (.ldc is, 2) := by rw [hb]; exact d4
  have hstr' : vk_R own is text sa s' := vk_R.warm hW0 hstr
  obtain ⟨U, hsteps, hrun, hend, hW, hsame, ce, hce, hO⟩ := X₁.ctorThrowS hexec htr (own := own) (cls := cls) (names := names) (ic := ic) hown' hcls hnames h (fun x hx => nomatch hx) hfX hkX hcellA (by rw [hhp, hT]; exact Nat.le_refl _) (msg := .ref sa) rfl
    (g := { method := m, pc := pc + 6, locals := ls, stack := .ref sa :: .ref T.heap.size :: .ref T.heap.size :: rest, locked := none }) rfl hsize rfl rfl (rest := rest) rfl
    (by rw [hb]; exact d6) (by rw [hb]; exact d9) hout hRframes (by simp only [List.map_cons, List.sum_cons, hcat]; omega) hlocks
  obtain ⟨f1, f2⟩ := vx_frame hsame
  rw [hhp] at f1 f2
  have hWs : s.WarmedH U.vm := State.WarmedH.trans hW0 hW
  have hcl : s.vm.findClass cls = some ce.cls := by
    have h9 := hO.cls
    rw [hvm] at h9
    exact h9
  have hall : s.sameButNew ({ U with vm := s.vm } : State) locs mc ms := by
    subst hA
    obtain ⟨e1, e2⟩ := hsame
    rw [State.setFrames_setFrames] at e1
    have h2 : (T.setVm s.vm).sameButNew ({ U with vm := s.vm } : State) [] (0 + 1) (0 + 6) := ⟨e1, e2⟩
    have h3 := X.same.trans h2
    rw [List.append_nil] at h3
    exact h3.mono hc hs
  refine ⟨U, ?_, .threw T.heap.size, hrun, hend, Or.inr ⟨T.heap.size, rfl, cls, ce, locs, hx U hWs.alike f1 (fun q hq => f2 q hq (fun z hz => nomatch hz)), hce, hO.vm, hcl, hWs, hall, hf⟩⟩
  refine st1 _ ?_
  show Steps p.tables e below (T1.setTop { method := m, pc := pc + 3, locals := ls, stack := .ref T.heap.size :: rest, locked := none }) _
  jvm_step X₁.here [X₁.here.top, hexec, d3', Value.category]
  exact X₁.ldcString hexec (own := own) (text := text) (index := is) (a := sa) hown' hstr'.1 hstr'.2
    (g := { method := m, pc := pc + 4, locals := ls, stack := .ref T.heap.size :: .ref T.heap.size :: rest, locked := none }) rfl d4' _ hsteps
/-- 'throw new E("text")', the text by a wide index -/
theorem vx_throwSW {cc : ByteArray} {pc : Nat} (hexec : p.tables.exec = Jvm.exec) (hb : c.code = cc) (hl : l.stackTraces = false) {own cls text : String} {names : List String} {ik is ic mc ms sa : Nat} {A : Nat → Prop}
    (hown : s.vm.findClass own = some m.cls) (hcls : Bundle.fit cls = true) (hnames : ∀ n ∈ names, Bundle.fit n = true)
    (hk : (Cond.classLink own ik cls).before args s = true) (hini : (Cond.initialized cls).before args s = true) (hstr : vk_R own is text sa s) (hat : ∀ w ∈ vx_atS own ic cls names, w.before args s = true)
    (hgood : ∀ w ∈ Cond.classLink own ik cls :: Cond.initialized cls :: vx_atS own ic cls names, vx_ot w = true)
    (hU : vx_Zq Bundle.tN "UNASSIGNED_STACK" Bundle.steD A s s.heap) (hN : vx_Zq Bundle.tN "SUPPRESSED_SENTINEL" Bundle.listD A s s.heap) (hS : va_S A s.heap H locs) (hsize : ls.size = c.maxLocals)
    (d0 : decode cc pc = .ok (.new ik, 3)) (d3 : decode cc (pc + 3) = .ok (.dup, 1)) (d4 : decode cc (pc + 4) = .ok (.ldc_w is, 3)) (d7 : decode cc (pc + 7) = .ok (.invokespecial ic, 3)) (d10 : decode cc (pc + 10) = .ok (.athrow, 1))
    (hout : ∀ x ∈ c.exceptionTable.toList, covers x (pc + 10) = false)
    (hRframes : names.length + 3 < R.frames) (hRlocals : (rest.map fun v => v.category).sum + (13 * (names.length + 1) + 43) ≤ R.locals) (hRcells : cells + 1 ≤ R.cells) (hRslots : slots + 6 ≤ R.slots) (hlocks : meth.locks = false)
    (hx : ∀ t : State, s.vm.Alike t.vm → H.size ≤ t.heap.size → (∀ q : Nat, q < H.size → t.heap[q]? = H[q]?) → XC cls s t)
    (hf : ∀ z ∈ locs, free z.base) (hc : cells + 1 ≤ mc) (hs : slots + 6 ≤ ms) :
    W p l e R s m args below meth c H locs cells slots (vx_MQ below Qc XC args s mc ms free) (F0 m pc ls rest) := by
  intro T hT X
  have htr : e.platform.stackTraces = false := (show e.platform.stackTraces = l.stackTraces by rw [X.admits.platform]).trans hl
  have Y := vx_rebase X (R' := { frames := R.frames, locals := R.locals, cells := 1, slots := 6 }) (Nat.le_refl _) (Nat.le_refl _) hRcells hRslots
  obtain ⟨s', hA⟩ : ∃ z, z = (T.setVm s.vm).setFrames (.invoking m args :: below) := ⟨_, rfl⟩
  rw [← hA] at Y
  have hvm : s'.vm = s.vm := by rw [hA]; rfl
  have hhp : s'.heap = H := by rw [hA]; exact hT
  have hW0 : s.WarmedH s'.vm := by rw [hvm]; exact State.WarmedH.refl s
  have hat' : ∀ w ∈ vx_atS own ic cls names, w.before args s' = true := fun w hw => vx_ot_at hW0 hvm.symm (hgood w (List.mem_cons_of_mem _ (List.mem_cons_of_mem _ hw))) (hat w hw)
  have hk' : (Cond.classLink own ik cls).before args s' = true := vx_ot_at hW0 hvm.symm (hgood _ List.mem_cons_self) hk
  have hini' : (Cond.initialized cls).before args s' = true := vx_ot_at hW0 hvm.symm (hgood _ (List.mem_cons_of_mem _ List.mem_cons_self)) hini
  have hU' : vx_Zq Bundle.tN "UNASSIGNED_STACK" Bundle.steD A s' s'.heap := by rw [hhp]; exact vx_Zq.moved hW0.alike (hU.kept hS.2.1)
  have hN' : vx_Zq Bundle.tN "SUPPRESSED_SENTINEL" Bundle.listD A s' s'.heap := by rw [hhp]; exact vx_Zq.moved hW0.alike (hN.kept hS.2.1)
  have h : ∀ w ∈ Bundle.ownAtoms own ic cls names, w.before args s' = true := vx_own hat' (vx_isRefq hU'.1) (vx_isRefq hN'.1) hU'.2.word hN'.2.word
  have hown' : s'.vm.findClass own = some m.cls := by rw [hvm]; exact hown
  have hins : (Cond.instantiable cls 6).before args s' = true := h _ (by simp [Bundle.ownAtoms])
  obtain ⟨vm₁, cX, kX, hfX, hkX, -, -, X₁, st1⟩ := Y.newCold hexec (own := own) (C := cls) (index := ik) (n := 6) hown' hk' hins hini'
    (g := F0 m pc ls rest) rfl (by rw [hb]; exact d0) (Nat.le_refl _) (Nat.le_refl _)
  generalize hT1 : (T.setVm vm₁).pushCell { cls := cX, slots := kX.instanceTypes.map defaultValue, vm := .none } = T1 at X₁ st1
  have hcat : (Value.ref T.heap.size).category = 1 := rfl
  have hcellA : T1.heap[T.heap.size]? = some (freshCell cX kX) := by rw [← hT1]; exact State.heap_pushCell_size _ _
  have d3' : decode c.code (pc + 3) = .ok (.dup, 1) := by rw [hb]; exact d3
  have d4' : decode c.code (pc + 4) = .ok (.ldc_w is, 3) := by rw [hb]; exact d4
  have hstr' : vk_R own is text sa s' := vk_R.warm hW0 hstr
  obtain ⟨U, hsteps, hrun, hend, hW, hsame, ce, hce, hO⟩ := X₁.ctorThrowS hexec htr (own := own) (cls := cls) (names := names) (ic := ic) hown' hcls hnames h (fun x hx => nomatch hx) hfX hkX hcellA (by rw [hhp, hT]; exact Nat.le_refl _) (msg := .ref sa) rfl
    (g := { method := m, pc := pc + 7, locals := ls, stack := .ref sa :: .ref T.heap.size :: .ref T.heap.size :: rest, locked := none }) rfl hsize rfl rfl (rest := rest) rfl
    (by rw [hb]; exact d7) (by rw [hb]; exact d10) hout hRframes (by simp only [List.map_cons, List.sum_cons, hcat]; omega) hlocks
  obtain ⟨f1, f2⟩ := vx_frame hsame
  rw [hhp] at f1 f2
  have hWs : s.WarmedH U.vm := State.WarmedH.trans hW0 hW
  have hcl : s.vm.findClass cls = some ce.cls := by
    have h9 := hO.cls
    rw [hvm] at h9
    exact h9
  have hall : s.sameButNew ({ U with vm := s.vm } : State) locs mc ms := by
    subst hA
    obtain ⟨e1, e2⟩ := hsame
    rw [State.setFrames_setFrames] at e1
    have h2 : (T.setVm s.vm).sameButNew ({ U with vm := s.vm } : State) [] (0 + 1) (0 + 6) := ⟨e1, e2⟩
    have h3 := X.same.trans h2
    rw [List.append_nil] at h3
    exact h3.mono hc hs
  refine ⟨U, ?_, .threw T.heap.size, hrun, hend, Or.inr ⟨T.heap.size, rfl, cls, ce, locs, hx U hWs.alike f1 (fun q hq => f2 q hq (fun z hz => nomatch hz)), hce, hO.vm, hcl, hWs, hall, hf⟩⟩
  refine st1 _ ?_
  show Steps p.tables e below (T1.setTop { method := m, pc := pc + 3, locals := ls, stack := .ref T.heap.size :: rest, locked := none }) _
  jvm_step X₁.here [X₁.here.top, hexec, d3', Value.category]
  exact X₁.ldcStringW hexec (own := own) (text := text) (index := is) (a := sa) hown' hstr'.1 hstr'.2
    (g := { method := m, pc := pc + 4, locals := ls, stack := .ref T.heap.size :: .ref T.heap.size :: rest, locked := none }) rfl d4' _ hsteps
end Ends
section Bodies
variable {l : Launch}
theorem vx_ofW {y : MethodName} {ws ws' : List Cond} {rm : Room} {Pc : Array Value → State → Prop} {Qc : Array Value → State → Outcome → State → Prop} {XC : String → State → State → Prop} {mc ms : Nat} {free : Addr → Prop} {cc : ByteArray} {maxL : Nat} {ret : Option FieldType}
    (hy : plainName y.cls = true) (hw : ws = Cond.code y cc maxL ret :: ws')
    (body : ∀ p e s m args below meth c s₁, BodyLoose p l y (headSpec ws rm) cc maxL ret e s m args below meth c s₁ → c.maxLocals = maxL → (∀ x ∈ c.exceptionTable.toList, False) → Pc args s →
      W p l e (headSpec ws rm).room s m args below meth c s.heap [] 0 0 (vx_MQ below Qc XC args s mc ms free) (entryFrame m args maxL)) : vx_Met l y ws rm Pc Qc XC mc ms free := by
  refine MetFree.of_bodyS (code := cc) (maxLocals := maxL) (ret := ret) hy ?_ ?_
  · intro args s m h hn
    obtain ⟨meth, c, h1, h2, h3, h4, h5, h6, -, -⟩ := Cond.code_spec hn (atoms_spec (ws := ws) h _ (by rw [hw]; exact List.mem_cons_self))
    exact ⟨meth, c, h1, h2, h3, h4, h5, h6⟩
  · intro p e s m args below meth c s₁ B hml hP _
    have hh0 : s₁.heap = s.heap := by rw [B.state]; rfl
    have ht : ∀ x ∈ c.exceptionTable.toList, False := by
      obtain ⟨meth9, c9, h1, h2, -, -, -, -, h7, -⟩ := Cond.code_spec B.named (atoms_spec (ws := ws) B.pre _ (by rw [hw]; exact List.mem_cons_self))
      cases Option.some.inj (h1.symm.trans B.method)
      cases Option.some.inj (h2.symm.trans (Stand.of_body B).code)
      intro x hx
      rw [Array.isEmpty_iff.mp h7] at hx
      cases hx
    obtain ⟨t, a1, o, b1, b2, b3⟩ := body p e s m args below meth c s₁ B hml ht hP s₁ hh0 (Stand.of_body B)
    exact ⟨t, o, a1, b1, b2, b3⟩
/-- the table of a body with handlers -/
theorem vx_table {p : Program} {x y : MethodName} {S : Spec} {cc bytes : ByteArray} {maxL maxL' : Nat} {ret ret' : Option FieldType} {e : Env} {s s₁ : State} {m : MethodId} {args : Array Value} {below : List Frame} {meth : Method} {c : Code} {hh : List (Nat × Nat × Nat × Nat)}
    (B : BodyLoose p l y S cc maxL ret e s m args below meth c s₁) (h : (Cond.codeWith y bytes maxL' ret' hh).before args s = true) : c.exceptionTable.toList = tableOf hh := by
  obtain ⟨m9, meth9, c9, hn9, h1, h2, -, -, h6, -⟩ := Cond.codeWith_spec h
  cases Option.some.inj (hn9.symm.trans B.named)
  cases Option.some.inj (h1.symm.trans B.method)
  cases Option.some.inj (h2.symm.trans (Stand.of_body B).code)
  rw [← h6, table_eq]
end Bodies
end VXA
/-! ===== END ===== -/
/-! ===== BEGIN a static call of a method with an exception table ===== -/
section VXS
variable {p : Program} {l : Launch} {e : Env} {R : Room} {s : State} {m : MethodId} {args : Array Value} {below : List Frame} {meth : Method} {c : Code} {T : State} {H : Heap} {locs : List Loc} {cells slots : Nat}
abbrev vx_CSW (R : Room) (s : State) (args : Array Value) (own : String) (index : Nat) (y : MethodName) (bytes : ByteArray) (maxL : Nat) (ret : Option FieldType) (hh : List (Nat × Nat × Nat × Nat)) (ws : List Cond) (rm : Room) (mc ms n : Nat) : Prop :=
  (rm.cells = mc ∧ rm.slots = ms ∧ rm.frames + 1 ≤ R.frames ∧ 8 + (maxL + 11) + rm.locals ≤ R.locals ∧ (∀ w ∈ ws, ∀ (a' : Array Value) (U : State), s.WarmedH U.vm → w.before a' U = true) ∧ Cond.codeWith y bytes maxL ret hh ∈ ws) ∧
  (Cond.codeWith y bytes maxL ret hh).before args s = true ∧ (Cond.initialized y.cls).before args s = true ∧ (y.cls ≠ "java/lang/invoke/MethodHandle" ∧ y.cls ≠ "java/lang/invoke/VarHandle") ∧
  (∀ sig, parseMethodDescriptor y.desc = some sig → n = sig.parameters.length) ∧ (Cond.methodLink own index y).before args s = true ∧ (Cond.static y).before args s = true
theorem vx_cwSW {own : String} {index maxL mc ms : Nat} {y : MethodName} {bytes : ByteArray} {ret : Option FieldType} {hh : List (Nat × Nat × Nat × Nat)} {Ts ws ws' : List Cond} {rm : Room} (n : Nat) (ht : ∀ w ∈ Ts, w.before args s = true) (hT : GoodIn Ts (va_wsS own index y ws)) (hw : ws = Cond.codeWith y bytes maxL ret hh :: ws') (hrc : rm.cells = mc) (hrs : rm.slots = ms)
    (hd : y.cls ≠ "java/lang/invoke/MethodHandle" ∧ y.cls ≠ "java/lang/invoke/VarHandle" ∧ (parseMethodDescriptor y.desc).map (fun d => d.parameters.length) = some n) (hR : rm.frames + 1 ≤ R.frames ∧ 8 + (maxL + 11) + rm.locals ≤ R.locals) :
    vx_CSW R s args own index y bytes maxL ret hh ws rm mc ms n := by
  have ok : ∀ w ∈ va_wsS own index y ws, w.before args s = true := fun w h => ht w (hT w h).1
  have hG : GoodIn Ts ws := fun w h => hT w (by unfold va_wsS; exact List.mem_append_right _ h)
  have hc : Cond.codeWith y bytes maxL ret hh ∈ ws := by rw [hw]; exact List.mem_cons_self
  refine ⟨⟨hrc, hrs, hR.1, hR.2, pay_in ht hG, hc⟩, ht _ (hG _ hc).1, ok _ (by simp [va_wsS]), ⟨hd.1, hd.2.1⟩, fun sig h => ?_, ok _ (by simp [va_wsS]), ok _ (by simp [va_wsS])⟩
  have h2 := hd.2.2
  rw [h] at h2
  exact (Option.some.inj h2).symm
theorem vx_callSW (X : Stand p l e R s m args below meth c T locs cells slots) (hexec : p.tables.exec = Jvm.exec) {own : String} {index : Nat} {y : MethodName} {bytes : ByteArray} {maxL : Nat} {ret : Option FieldType} {hh : List (Nat × Nat × Nat × Nat)}
    (hown : s.vm.findClass own = some m.cls) (hlink : (Cond.methodLink own index y).before args s = true) (hstat : (Cond.static y).before args s = true) (hinit : (Cond.initialized y.cls).before args s = true)
    (hcode : (Cond.codeWith y bytes maxL ret hh).before args s = true) (hy : y.cls ≠ "java/lang/invoke/MethodHandle" ∧ y.cls ≠ "java/lang/invoke/VarHandle")
    {W9 : Nat} {Pre : Pt → Array Value → Prop} {Post : Pt → Array Value → Option Value → Pt → Prop} (hK : Back l R p e below s args y 3 W9 Pre Post)
    {g : JFrame} (hg : g.method = m) (hsize : g.locals.size = c.maxLocals) {argsL rest : List Value} (hlen : ∀ sig, parseMethodDescriptor y.desc = some sig → argsL.length = sig.parameters.length)
    (hstack : g.stack = argsL.reverse ++ rest) (hW : 2 * g.monitorRoom + (rest.map fun v => v.category).sum ≤ W9) (hdg : decode c.code g.pc = .ok (.invokestatic index, 3))
    (hpre : ∀ vm₁, s.WarmedH vm₁ → Pre ⟨T.setVm vm₁, locs, cells, slots⟩ argsL.toArray) :
    ∃ (v : Option Value) (vm₁ : Vm) (B : Pt), s.WarmedH vm₁ ∧ Stand p l e R s m args below meth c B.U B.locs B.cells B.slots ∧ Post ⟨T.setVm vm₁, locs, cells, slots⟩ argsL.toArray v B ∧
      ∀ target, Steps p.tables e below (B.U.setTop { g with pc := g.pc + 3, stack := v.toList ++ rest }) target → Steps p.tables e below (T.setTop g) target := by
  obtain ⟨mk, methM, cM, hnamed, hmethM, -, -, -, -, -, -, hsigM⟩ := Cond.codeWith_spec hcode
  have hstatic : methM.isStatic = true := Cond.static_spec hnamed hmethM hstat
  obtain ⟨kP, hkP, -⟩ := className_of_methodNamed hnamed
  have hinitP : kP.init = .initialized := Cond.initialized_spec (findClass_of_methodNamed hnamed) hkP hinit
  obtain ⟨vm₁, X₁, hstep₁⟩ := X.invokestatic hexec hown hlink hnamed hmethM hstatic hkP hinitP hy (g := g) hg (argsL := argsL) (rest := rest) (hlen _ hsigM) hstack hdg
  obtain ⟨v, B, X', hpost, hsteps⟩ := hK m meth c ⟨T.setVm vm₁, locs, cells, slots⟩ { g with stack := rest } (.invokestatic index) mk argsL.toArray X₁ hg hsize hdg hW (X₁.named hnamed) (hpre vm₁ X₁.warmed)
  exact ⟨v, vm₁, B, X₁.warmed, X', hpost, fun target h => hstep₁ _ fun acts => by rw [doInvoke_state]; exact hsteps.trans h⟩
theorem vx_runSW {y : MethodName} {bytes cc : ByteArray} {maxL nL mc ms n index : Nat} {ret : Option FieldType} {hh : List (Nat × Nat × Nat × Nat)} {ws : List Cond} {rm : Room} {Pc : Array Value → State → Prop} {Qc : Array Value → State → Outcome → State → Prop} {free : Addr → Prop} {Ts : List Cond} {own : String} {As rest : List Value} {g : JFrame}
    (S : CallFix p m c cc nL s args Ts own) (hM : Met l y ws rm Pc Qc mc ms free) (cw : vx_CSW R s args own index y bytes maxL ret hh ws rm mc ms n) (hp : PreS s H Pc As)
    (hg : g.method = m) (hn : As.length = n) (hsize : g.locals.size = nL) (hstack : g.stack = As.reverse ++ rest) (hW : 2 * g.monitorRoom + (rest.map fun v => v.category).sum ≤ 8) (hdg : decode cc g.pc = .ok (.invokestatic index, 3)) (hf : cells + mc ≤ R.cells ∧ slots + ms ≤ R.slots) :
    va_Run p l e R s m args below meth c H locs cells slots mc ms g rest (Qc As.toArray) (free) := by
  obtain ⟨⟨hrc, hrs, hfr, hlo, hws, hcw⟩, hcode, hini, hy, hlen, hl, hstt⟩ := cw
  have hK : Back l R p e below s args y 3 8 (PreOf R mc ms Pc) (PostOf Qc mc ms free) := va_backW (hh := hh) (bytes := bytes) (maxL := maxL) (ret := ret) hM hp.1 hrc hrs hfr hlo hws hcw (fun a' U hW => word_at hW (Or.inl (by first | rfl | simp [Cond.onTables, Cond.keeps, Cond.steady])) hini)
  obtain ⟨hx, hb, hml, ho, -⟩ := S
  intro T hT X
  obtain ⟨v, vm₁, ⟨U', l2, c2, s2⟩, hW₁, X', ⟨g', mk, t, L, e1, e2, hq, h1, hL, h2, h3⟩, st⟩ := vx_callSW X hx (hh := hh) (bytes := bytes) (maxL := maxL) (ret := ret) ho hl hstt hini hcode hy hK hg (hsize.trans hml.symm) (argsL := As) (rest := rest) (fun sig h => hn.trans (hlen sig h)) hstack hW (by rw [hb]; exact hdg)
    (fun vm₁ hW₁ => ⟨hf.1, hf.2, hp.2 (T.setVm vm₁) hT hW₁⟩)
  dsimp only [Pt.U, Pt.locs, Pt.cells, Pt.slots] at X' e1 e2 h1 h2 h3 st
  subst h1; subst h2; subst h3
  exact ⟨v, (T.setVm vm₁).calling g' mk As.toArray, t, U', L, hT, X', hL, e1, e2, hq, st⟩
/-- a thing of a world lies in the heap -/
theorem vx_lt {D : va_G} {cl : List vw_C} {ws : va_W} {H1 : Heap} (h : va_P D cl ws H1) {k : Nat} {q : Nat × va_E} (hk : ws[k]? = some q) : q.1 < H1.size := (h k q hk).lt
end VXS
/-! ===== END ===== -/
/-! ===== BEGIN methods with a table of their own: called by a name, returning or throwing ===== -/
section VXH
/-! vx_backW, vx_callVX, vx_callSX, vx_callVW, vx_runVW, vx_runVX, vx_runSX, vx_ofWH follow the same proofs as their sisters above (Free/Laws.lean, Shelf42/LK1.lean); vx_outP calls Shelf42/NT130.lean (outThrough). -/
section
variable {l : Launch} {R : Room} {p : Program} {e : Env} {below : List Frame} {s : State} {sargs : Array Value} {y : MethodName} {len W9 : Nat}
theorem vx_backW {ws : List Cond} {rm : Room} {Pc : Array Value → State → Prop} {Qc : Array Value → State → Outcome → State → Prop} {XC : String → State → State → Prop} {mc ms : Nat} {free : Addr → Prop} {bytes : ByteArray} {maxL : Nat} {ret : Option FieldType} {hh : List (Nat × Nat × Nat × Nat)}
    (hM : vx_Met l y ws rm Pc Qc XC mc ms free) (hblind : FrameBlind Pc) (hrc : rm.cells = mc) (hrs : rm.slots = ms)
    (hframes : rm.frames + 1 ≤ R.frames) (hlocals : W9 + (maxL + 11) + rm.locals ≤ R.locals)
    (hws : ∀ w ∈ ws, ∀ a' U, s.WarmedH U.vm → w.before a' U = true) (hcode : Cond.codeWith y bytes maxL ret hh ∈ ws) (hinit : ∀ a' U, s.WarmedH U.vm → (Cond.initialized y.cls).before a' U = true) :
    vx_Back l R p e below s sargs y len W9 (PreOf R mc ms Pc) (PostOf Qc mc ms free) (vx_Post XC mc ms free) := by
  intro m meth c A g ig mk a X hg hsize hdg hW hn hp
  have h1 : (headSpec ws rm).pre.before a A.U = true := atoms_intro fun w hw => hws w hw _ _ X.warmed
  have h2 : (Cond.codeWith y bytes maxL ret hh).before a A.U = true := hws _ hcode _ _ X.warmed
  have h3 : (Cond.initialized y.cls).before a A.U = true := hinit _ _ X.warmed
  have h4 : A.cells + (headSpec ws rm).room.cells ≤ R.cells := by rw [show (headSpec ws rm).room.cells = mc from hrc]; exact hp.1
  have h5 : A.slots + (headSpec ws rm).room.slots ≤ R.slots := by rw [show (headSpec ws rm).room.slots = ms from hrs]; exact hp.2.1
  have hPc : Pc a (A.U.calling g mk a) := hblind _ _ _ _ hp.2.2
  obtain ⟨U, Ls, c0, s0⟩ := A
  dsimp only [Pt.U, Pt.locs, Pt.cells, Pt.slots] at h1 h2 h3 h4 h5 X hn hPc ⊢
  obtain ⟨m9, methY, cY, hn9, hmY, hcY, -, hlY, -⟩ := Cond.codeWith_spec h2
  cases Option.some.inj (hn9.symm.trans hn)
  obtain ⟨kY, hkY, -⟩ := className_of_methodNamed hn
  have hinitY : kY.init = .initialized := Cond.initialized_spec (findClass_of_methodNamed hn) hkY h3
  have h : At U g.method c below := by rw [hg]; exact X.here
  have hlocals9 : W9 + (maxL + 11) + (headSpec ws rm).room.locals ≤ R.locals := hlocals
  have happ : (headSpec ws rm).appliesLoose y e.platform (U.calling g mk a) = true :=
    Spec.appliesLoose_calling (g := g) h hdg hn hkY hinitY
      (X.room_calling (g := g) (R' := (headSpec ws rm).room) hsize hmY hcY hframes (by rw [hlY]; omega) h4 h5) h1
  obtain ⟨mid, hmid⟩ := h.above
  have hfr : (U.setTop g).frames = (.java g :: mid) ++ below := by rw [State.frames_setTop' g h.top, hmid]; rfl
  obtain ⟨o, s₂, hsteps, -, hend, hq⟩ := Steps.callFree hM p X.admits X.cas X.clock (acts := []) hfr happ hPc trivial
  have hq' : vx_Q Qc XC mc ms free a (U.calling g mk a) o s₂ := hq
  rw [State.frames_setTop' g h.top] at hend
  obtain ⟨g₀, hg0⟩ := Option.isSome_iff_exists.mp h.top
  obtain ⟨r, hr⟩ := State.topJava?_eq_some.mp hg0
  have hr' : (({ U with heap := s₂.heap, slotsUsed := s₂.slotsUsed } : State).setVm s₂.vm).frames = .java g₀ :: r := hr
  rcases hq' with ⟨hqc, L, hfe, hL⟩ | ⟨q, rfl, E, ce, L, hx, hce, hcv, hcl, hW₂, hsm, hL⟩
  · obtain ⟨⟨v, rfl⟩, hW₂, e2, q2, q3, q4, q5, q6⟩ := id hfe
    have e3 : s₂ = ({ (U.calling g mk a).setFrames s₂.frames with heap := s₂.heap, slotsUsed := s₂.slotsUsed } : State).setVm s₂.vm := by
      have : s₂ = ({ s₂ with vm := (U.calling g mk a).vm } : State).setVm s₂.vm := rfl
      rw [e2] at this
      exact this
    obtain ⟨c₂, i₂, len₂, hc₂, hd₂, hf₂⟩ := hend
    have hW' : U.WarmedH s₂.vm := hW₂
    have hcc : c₂ = c := by
      have h1 : s₂.code? g.method = U.code? g.method := by
        rw [State.code?_eq, State.code?_eq, hW'.alike.method?]
      exact Option.some.inj (hc₂.symm.trans (h1.trans h.code))
    subst hcc
    have hlen : len₂ = len := by rw [hdg] at hd₂; cases hd₂; rfl
    subst hlen
    have hs₂ : s₂ = (({ U with heap := s₂.heap, slotsUsed := s₂.slotsUsed } : State).setVm s₂.vm).setTop { g with pc := g.pc + len₂, stack := v.toList ++ g.stack } := by
      refine e3.trans ?_
      rw [hf₂, State.calling_eq h.top, State.setFrames_setFrames, State.setTop_of_frames _ hr', hr]
      rfl
    have hsame : U.sameButNew ({ U with heap := s₂.heap, slotsUsed := s₂.slotsUsed } : State) L mc ms := by
      refine ⟨?_, q2, q3, q4, q5, q6⟩
      obtain ⟨t, ht, -⟩ := State.frames_cons hr
      show ({ U with heap := s₂.heap, slotsUsed := s₂.slotsUsed } : State) = { U.setFrames U.frames with heap := s₂.heap, slotsUsed := s₂.slotsUsed }
      rw [State.setFrames_self ht]
    subst hg
    refine Or.inl ⟨v, ⟨(({ U with heap := s₂.heap, slotsUsed := s₂.slotsUsed } : State).setVm s₂.vm), Ls ++ L, c0 + mc, s0 + ms⟩,
      ⟨X.admits, X.cas, X.clock, X.frames, X.room, X.hears, X.method, X.code, (X.here.setHeapUsed s₂.heap s₂.slotsUsed).setVm hW'.alike, X.tail, State.WarmedH.trans X.warmed hW', X.limits, X.bytes, X.same.trans (hsame.setVm s.vm)⟩,
      ⟨g, mk, s₂, L, rfl, rfl, hqc, rfl, hL, rfl, rfl⟩, ?_⟩
    show Steps p.tables e below _ ((({ U with heap := s₂.heap, slotsUsed := s₂.slotsUsed } : State).setVm s₂.vm).setTop { g with pc := g.pc + len₂, stack := v.toList ++ g.stack })
    rw [← hs₂]
    exact hsteps
  · obtain ⟨e2, q2, q3, q4, q5, q6⟩ := id hsm
    have e3 : s₂ = ({ (U.calling g mk a).setFrames s₂.frames with heap := s₂.heap, slotsUsed := s₂.slotsUsed } : State).setVm s₂.vm := by
      have : s₂ = ({ s₂ with vm := (U.calling g mk a).vm } : State).setVm s₂.vm := rfl
      rw [e2] at this
      exact this
    have hf₂ : s₂.frames = .throwing q :: .java g :: U.frames.tail := hend
    have hW' : U.WarmedH s₂.vm := hW₂
    have hs₂ : s₂ = ((({ U with heap := s₂.heap, slotsUsed := s₂.slotsUsed } : State).setVm s₂.vm).setTop g).pushFrame (.throwing q) := by
      refine e3.trans ?_
      rw [hf₂, State.calling_eq h.top, State.setFrames_setFrames, State.pushFrame, State.frames_setTop _ hr', State.setTop_of_frames _ hr', State.setFrames_setFrames, hr]
      rfl
    have hsame : U.sameButNew ({ U with heap := s₂.heap, slotsUsed := s₂.slotsUsed } : State) L mc ms := by
      refine ⟨?_, q2, q3, q4, q5, q6⟩
      obtain ⟨t, ht, -⟩ := State.frames_cons hr
      show ({ U with heap := s₂.heap, slotsUsed := s₂.slotsUsed } : State) = { U.setFrames U.frames with heap := s₂.heap, slotsUsed := s₂.slotsUsed }
      rw [State.setFrames_self ht]
    subst hg
    refine Or.inr ⟨q, ⟨(({ U with heap := s₂.heap, slotsUsed := s₂.slotsUsed } : State).setVm s₂.vm), Ls ++ L, c0 + mc, s0 + ms⟩,
      ⟨X.admits, X.cas, X.clock, X.frames, X.room, X.hears, X.method, X.code, (X.here.setHeapUsed s₂.heap s₂.slotsUsed).setVm hW'.alike, X.tail, State.WarmedH.trans X.warmed hW', X.limits, X.bytes, X.same.trans (hsame.setVm s.vm)⟩,
      ⟨g, mk, s₂, L, E, ce, rfl, rfl, hx, hce, hcv, hcl, rfl, hL, rfl, rfl⟩, ?_⟩
    show Steps p.tables e below _ (((({ U with heap := s₂.heap, slotsUsed := s₂.slotsUsed } : State).setVm s₂.vm).setTop g).pushFrame (.throwing q))
    rw [← hs₂]
    exact hsteps
end
variable {p : Program} {l : Launch} {e : Env} {R : Room} {s : State} {m : MethodId} {args : Array Value} {below : List Frame} {meth : Method} {c : Code} {T : State} {H : Heap} {locs : List Loc} {cells slots : Nat}
theorem vx_callVX (X : Stand p l e R s m args below meth c T locs cells slots) (hexec : p.tables.exec = Jvm.exec) {own C : String} {index : Nat} {y : MethodName} {bytes : ByteArray} {maxL : Nat} {ret : Option FieldType} {hh : List (Nat × Nat × Nat × Nat)}
    (hown : s.vm.findClass own = some m.cls) (hlink : (Cond.methodLink own index y).before args s = true) (hinst : (Cond.instanceMethod y).before args s = true) (hsel : (Cond.selects C y y).before args s = true)
    (hcode : (Cond.codeWith y bytes maxL ret hh).before args s = true) (hy : y.cls ≠ "java/lang/invoke/MethodHandle" ∧ y.cls ≠ "java/lang/invoke/VarHandle")
    {W9 : Nat} {Pre : Pt → Array Value → Prop} {Post : Pt → Array Value → Option Value → Pt → Prop} {PostX : Pt → Array Value → Addr → Pt → Prop} (hK : vx_Back l R p e below s args y 3 W9 Pre Post PostX)
    {b : Addr} {cellB : Cell} (hcell : T.heap[b]? = some cellB) (hobj : cellB.vm.isStatics = false) (hcls : s.vm.findClass C = some cellB.cls)
    {g : JFrame} (hg : g.method = m) (hsize : g.locals.size = c.maxLocals) {argsL rest : List Value} (hlen : ∀ sig, parseMethodDescriptor y.desc = some sig → argsL.length = sig.parameters.length)
    (hstack : g.stack = argsL.reverse ++ .ref b :: rest) (hW : 2 * g.monitorRoom + (rest.map fun v => v.category).sum ≤ W9) (hdg : decode c.code g.pc = .ok (.invokevirtual index, 3))
    (hpre : ∀ vm₁, s.WarmedH vm₁ → Pre ⟨T.setVm vm₁, locs, cells, slots⟩ (Value.ref b :: argsL).toArray) :
    (∃ (v : Option Value) (vm₁ : Vm) (B : Pt), s.WarmedH vm₁ ∧ Stand p l e R s m args below meth c B.U B.locs B.cells B.slots ∧ Post ⟨T.setVm vm₁, locs, cells, slots⟩ (Value.ref b :: argsL).toArray v B ∧
      ∀ target, Steps p.tables e below (B.U.setTop { g with pc := g.pc + 3, stack := v.toList ++ rest }) target → Steps p.tables e below (T.setTop g) target) ∨
    (∃ (q : Addr) (vm₁ : Vm) (B : Pt), s.WarmedH vm₁ ∧ Stand p l e R s m args below meth c B.U B.locs B.cells B.slots ∧ PostX ⟨T.setVm vm₁, locs, cells, slots⟩ (Value.ref b :: argsL).toArray q B ∧
      Steps p.tables e below (T.setTop g) ((B.U.setTop { g with stack := rest }).pushFrame (.throwing q))) := by
  obtain ⟨mk, methM, hnamed, hmethM, hstM, habM⟩ := Cond.instanceMethod_spec hinst
  obtain ⟨m8, methM', cM, hn8, hmethM', -, -, -, -, -, -, hsigM⟩ := Cond.codeWith_spec hcode
  cases Option.some.inj (hn8.symm.trans hnamed)
  cases hmethM.symm.trans hmethM'
  obtain ⟨c2, r2, m2, q1, q2, q3, q4, kP, hkP, hkPi⟩ := Cond.selects_spec hsel
  cases hcls.symm.trans q1
  cases (State.methodFound?_of_named hnamed hy).symm.trans q2
  cases hnamed.symm.trans q3
  have hselP : selectMethod e.platform s.vm cellB.cls mk = .method mk := by rw [Launch.admits_selectMethod X.admits]; exact q4
  obtain ⟨vm₁, X₁, hstep₁⟩ := X.invokevirtual hexec hown hlink hnamed hmethM hstM hkP hkPi hy (a := b) (cell := cellB) hcell
    (fun z h => by rw [h] at hobj; cases hobj) hselP hmethM habM hkP hkPi (g := g) hg (argsL := argsL) (rest := rest) (hlen _ hsigM) hstack hdg
  rcases hK m meth c ⟨T.setVm vm₁, locs, cells, slots⟩ { g with stack := rest } (.invokevirtual index) mk (Value.ref b :: argsL).toArray X₁ hg hsize hdg hW (X₁.named hnamed) (hpre vm₁ X₁.warmed) with ⟨v, B, X', hpost, hsteps⟩ | ⟨q, B, X', hpost, hsteps⟩
  · exact Or.inl ⟨v, vm₁, B, X₁.warmed, X', hpost, fun target h => hstep₁ _ fun acts => by rw [doInvoke_state]; exact hsteps.trans h⟩
  · exact Or.inr ⟨q, vm₁, B, X₁.warmed, X', hpost, hstep₁ _ fun acts => by rw [doInvoke_state]; exact hsteps⟩
theorem vx_callSX (X : Stand p l e R s m args below meth c T locs cells slots) (hexec : p.tables.exec = Jvm.exec) {own : String} {index : Nat} {y : MethodName} {bytes : ByteArray} {maxL : Nat} {ret : Option FieldType} {hh : List (Nat × Nat × Nat × Nat)}
    (hown : s.vm.findClass own = some m.cls) (hlink : (Cond.methodLink own index y).before args s = true) (hstat : (Cond.static y).before args s = true) (hinit : (Cond.initialized y.cls).before args s = true)
    (hcode : (Cond.codeWith y bytes maxL ret hh).before args s = true) (hy : y.cls ≠ "java/lang/invoke/MethodHandle" ∧ y.cls ≠ "java/lang/invoke/VarHandle")
    {W9 : Nat} {Pre : Pt → Array Value → Prop} {Post : Pt → Array Value → Option Value → Pt → Prop} {PostX : Pt → Array Value → Addr → Pt → Prop} (hK : vx_Back l R p e below s args y 3 W9 Pre Post PostX)
    {g : JFrame} (hg : g.method = m) (hsize : g.locals.size = c.maxLocals) {argsL rest : List Value} (hlen : ∀ sig, parseMethodDescriptor y.desc = some sig → argsL.length = sig.parameters.length)
    (hstack : g.stack = argsL.reverse ++ rest) (hW : 2 * g.monitorRoom + (rest.map fun v => v.category).sum ≤ W9) (hdg : decode c.code g.pc = .ok (.invokestatic index, 3))
    (hpre : ∀ vm₁, s.WarmedH vm₁ → Pre ⟨T.setVm vm₁, locs, cells, slots⟩ argsL.toArray) :
    (∃ (v : Option Value) (vm₁ : Vm) (B : Pt), s.WarmedH vm₁ ∧ Stand p l e R s m args below meth c B.U B.locs B.cells B.slots ∧ Post ⟨T.setVm vm₁, locs, cells, slots⟩ argsL.toArray v B ∧
      ∀ target, Steps p.tables e below (B.U.setTop { g with pc := g.pc + 3, stack := v.toList ++ rest }) target → Steps p.tables e below (T.setTop g) target) ∨
    (∃ (q : Addr) (vm₁ : Vm) (B : Pt), s.WarmedH vm₁ ∧ Stand p l e R s m args below meth c B.U B.locs B.cells B.slots ∧ PostX ⟨T.setVm vm₁, locs, cells, slots⟩ argsL.toArray q B ∧
      Steps p.tables e below (T.setTop g) ((B.U.setTop { g with stack := rest }).pushFrame (.throwing q))) := by
  obtain ⟨mk, methM, cM, hnamed, hmethM, -, -, -, -, -, -, hsigM⟩ := Cond.codeWith_spec hcode
  have hstatic : methM.isStatic = true := Cond.static_spec hnamed hmethM hstat
  obtain ⟨kP, hkP, -⟩ := className_of_methodNamed hnamed
  have hinitP : kP.init = .initialized := Cond.initialized_spec (findClass_of_methodNamed hnamed) hkP hinit
  obtain ⟨vm₁, X₁, hstep₁⟩ := X.invokestatic hexec hown hlink hnamed hmethM hstatic hkP hinitP hy (g := g) hg (argsL := argsL) (rest := rest) (hlen _ hsigM) hstack hdg
  rcases hK m meth c ⟨T.setVm vm₁, locs, cells, slots⟩ { g with stack := rest } (.invokestatic index) mk argsL.toArray X₁ hg hsize hdg hW (X₁.named hnamed) (hpre vm₁ X₁.warmed) with ⟨v, B, X', hpost, hsteps⟩ | ⟨q, B, X', hpost, hsteps⟩
  · exact Or.inl ⟨v, vm₁, B, X₁.warmed, X', hpost, fun target h => hstep₁ _ fun acts => by rw [doInvoke_state]; exact hsteps.trans h⟩
  · exact Or.inr ⟨q, vm₁, B, X₁.warmed, X', hpost, hstep₁ _ fun acts => by rw [doInvoke_state]; exact hsteps⟩
theorem vx_callVW (X : Stand p l e R s m args below meth c T locs cells slots) (hexec : p.tables.exec = Jvm.exec) {own C : String} {index : Nat} {y : MethodName} {bytes : ByteArray} {maxL : Nat} {ret : Option FieldType} {hh : List (Nat × Nat × Nat × Nat)}
    (hown : s.vm.findClass own = some m.cls) (hlink : (Cond.methodLink own index y).before args s = true) (hinst : (Cond.instanceMethod y).before args s = true) (hsel : (Cond.selects C y y).before args s = true)
    (hcode : (Cond.codeWith y bytes maxL ret hh).before args s = true) (hy : y.cls ≠ "java/lang/invoke/MethodHandle" ∧ y.cls ≠ "java/lang/invoke/VarHandle")
    {W9 : Nat} {Pre : Pt → Array Value → Prop} {Post : Pt → Array Value → Option Value → Pt → Prop} (hK : Back l R p e below s args y 3 W9 Pre Post)
    {b : Addr} {cellB : Cell} (hcell : T.heap[b]? = some cellB) (hobj : cellB.vm.isStatics = false) (hcls : s.vm.findClass C = some cellB.cls)
    {g : JFrame} (hg : g.method = m) (hsize : g.locals.size = c.maxLocals) {argsL rest : List Value} (hlen : ∀ sig, parseMethodDescriptor y.desc = some sig → argsL.length = sig.parameters.length)
    (hstack : g.stack = argsL.reverse ++ .ref b :: rest) (hW : 2 * g.monitorRoom + (rest.map fun v => v.category).sum ≤ W9) (hdg : decode c.code g.pc = .ok (.invokevirtual index, 3))
    (hpre : ∀ vm₁, s.WarmedH vm₁ → Pre ⟨T.setVm vm₁, locs, cells, slots⟩ (Value.ref b :: argsL).toArray) :
    ∃ (v : Option Value) (vm₁ : Vm) (B : Pt), s.WarmedH vm₁ ∧ Stand p l e R s m args below meth c B.U B.locs B.cells B.slots ∧ Post ⟨T.setVm vm₁, locs, cells, slots⟩ (Value.ref b :: argsL).toArray v B ∧
      ∀ target, Steps p.tables e below (B.U.setTop { g with pc := g.pc + 3, stack := v.toList ++ rest }) target → Steps p.tables e below (T.setTop g) target := by
  obtain ⟨mk, methM, hnamed, hmethM, hstM, habM⟩ := Cond.instanceMethod_spec hinst
  obtain ⟨m8, methM', cM, hn8, hmethM', -, -, -, -, -, -, hsigM⟩ := Cond.codeWith_spec hcode
  cases Option.some.inj (hn8.symm.trans hnamed)
  cases hmethM.symm.trans hmethM'
  obtain ⟨c2, r2, m2, q1, q2, q3, q4, kP, hkP, hkPi⟩ := Cond.selects_spec hsel
  cases hcls.symm.trans q1
  cases (State.methodFound?_of_named hnamed hy).symm.trans q2
  cases hnamed.symm.trans q3
  have hselP : selectMethod e.platform s.vm cellB.cls mk = .method mk := by rw [Launch.admits_selectMethod X.admits]; exact q4
  obtain ⟨vm₁, X₁, hstep₁⟩ := X.invokevirtual hexec hown hlink hnamed hmethM hstM hkP hkPi hy (a := b) (cell := cellB) hcell
    (fun z h => by rw [h] at hobj; cases hobj) hselP hmethM habM hkP hkPi (g := g) hg (argsL := argsL) (rest := rest) (hlen _ hsigM) hstack hdg
  obtain ⟨v, B, X', hpost, hsteps⟩ := hK m meth c ⟨T.setVm vm₁, locs, cells, slots⟩ { g with stack := rest } (.invokevirtual index) mk (Value.ref b :: argsL).toArray X₁ hg hsize hdg hW (X₁.named hnamed) (hpre vm₁ X₁.warmed)
  exact ⟨v, vm₁, B, X₁.warmed, X', hpost, fun target h => hstep₁ _ fun acts => by rw [doInvoke_state]; exact hsteps.trans h⟩
abbrev vx_CVW (R : Room) (s : State) (args : Array Value) (own C : String) (index : Nat) (y : MethodName) (bytes : ByteArray) (maxL : Nat) (ret : Option FieldType) (hh : List (Nat × Nat × Nat × Nat)) (ws : List Cond) (rm : Room) (mc ms n : Nat) : Prop :=
  (rm.cells = mc ∧ rm.slots = ms ∧ rm.frames + 1 ≤ R.frames ∧ 8 + (maxL + 11) + rm.locals ≤ R.locals ∧ (∀ w ∈ ws, ∀ (a' : Array Value) (U : State), s.WarmedH U.vm → w.before a' U = true) ∧ Cond.codeWith y bytes maxL ret hh ∈ ws) ∧
  (Cond.codeWith y bytes maxL ret hh).before args s = true ∧ (Cond.initialized y.cls).before args s = true ∧ (y.cls ≠ "java/lang/invoke/MethodHandle" ∧ y.cls ≠ "java/lang/invoke/VarHandle") ∧
  (∀ sig, parseMethodDescriptor y.desc = some sig → n = sig.parameters.length) ∧ (Cond.methodLink own index y).before args s = true ∧ (Cond.instanceMethod y).before args s = true ∧ (Cond.selects C y y).before args s = true
theorem vx_cwVW {own C : String} {index maxL mc ms : Nat} {y : MethodName} {bytes : ByteArray} {ret : Option FieldType} {hh : List (Nat × Nat × Nat × Nat)} {Ts ws ws' : List Cond} {rm : Room} (n : Nat) (ht : ∀ w ∈ Ts, w.before args s = true) (hT : GoodIn Ts (wsV own index C y ws)) (hw : ws = Cond.codeWith y bytes maxL ret hh :: ws') (hrc : rm.cells = mc) (hrs : rm.slots = ms)
    (hd : y.cls = C ∧ y.cls ≠ "java/lang/invoke/MethodHandle" ∧ y.cls ≠ "java/lang/invoke/VarHandle" ∧ (parseMethodDescriptor y.desc).map (fun d => d.parameters.length) = some n) (hR : rm.frames + 1 ≤ R.frames ∧ 8 + (maxL + 11) + rm.locals ≤ R.locals) :
    vx_CVW R s args own C index y bytes maxL ret hh ws rm mc ms n := by
  obtain ⟨hC, hd⟩ := hd
  subst hC
  have ok : ∀ w ∈ wsV own index y.cls y ws, w.before args s = true := fun w h => ht w (hT w h).1
  have hG : GoodIn Ts ws := fun w h => hT w (by unfold wsV; exact List.mem_append_right _ h)
  have hc : Cond.codeWith y bytes maxL ret hh ∈ ws := by rw [hw]; exact List.mem_cons_self
  refine ⟨⟨hrc, hrs, hR.1, hR.2, pay_in ht hG, hc⟩, ht _ (hG _ hc).1, ok _ (by simp [wsV]), ⟨hd.1, hd.2.1⟩, fun sig h => ?_, ok _ (by simp [wsV]), ok _ (by simp [wsV]), ok _ (by simp [wsV])⟩
  have h2 := hd.2.2
  rw [h] at h2
  exact (Option.some.inj h2).symm
theorem vx_runVW {y : MethodName} {bytes cc : ByteArray} {maxL nL mc ms n index : Nat} {ret : Option FieldType} {hh : List (Nat × Nat × Nat × Nat)} {ws : List Cond} {rm : Room} {Pc : Array Value → State → Prop} {Qc : Array Value → State → Outcome → State → Prop} {free : Addr → Prop} {Ts : List Cond} {own C : String} {b : Addr} {As rest : List Value} {g : JFrame}
    (S : CallFix p m c cc nL s args Ts own) (hM : Met l y ws rm Pc Qc mc ms free) (cw : vx_CVW R s args own C index y bytes maxL ret hh ws rm mc ms n) (hp : PreV s H C b Pc As)
    (hg : g.method = m) (hn : As.length = n) (hsize : g.locals.size = nL) (hstack : g.stack = As.reverse ++ .ref b :: rest) (hW : 2 * g.monitorRoom + (rest.map fun v => v.category).sum ≤ 8) (hdg : decode cc g.pc = .ok (.invokevirtual index, 3)) (hf : cells + mc ≤ R.cells ∧ slots + ms ≤ R.slots) :
    va_Run p l e R s m args below meth c H locs cells slots mc ms g rest (Qc (Value.ref b :: As).toArray) free := by
  obtain ⟨⟨hrc, hrs, hfr, hlo, hws, hcw⟩, hcode, hini, hy, hlen, hl, hin, hse⟩ := cw
  have hK : Back l R p e below s args y 3 8 (PreOf R mc ms Pc) (PostOf Qc mc ms free) := va_backW (hh := hh) (bytes := bytes) (maxL := maxL) (ret := ret) hM hp.1 hrc hrs hfr hlo hws hcw (fun a' U hW => word_at hW (Or.inl (by first | rfl | simp [Cond.onTables, Cond.keeps, Cond.steady])) hini)
  obtain ⟨hx, hb, hml, ho, -⟩ := S
  obtain ⟨-, ⟨cellB, hcB, hoB, hclB⟩, hPc⟩ := hp
  intro T hT X
  obtain ⟨v, vm₁, ⟨U', l2, c2, s2⟩, hW₁, X', ⟨g', mk, t, L, e1, e2, hq, h1, hL, h2, h3⟩, st⟩ := vx_callVW X hx (C := C) (hh := hh) (bytes := bytes) (maxL := maxL) (ret := ret) ho hl hin hse hcode hy hK (by rw [hT]; exact hcB) hoB hclB hg (hsize.trans hml.symm) (argsL := As) (rest := rest) (fun sig h => hn.trans (hlen sig h)) hstack hW (by rw [hb]; exact hdg)
    (fun vm₁ hW₁ => ⟨hf.1, hf.2, hPc (T.setVm vm₁) hT hW₁⟩)
  dsimp only [Pt.U, Pt.locs, Pt.cells, Pt.slots] at X' e1 e2 h1 h2 h3 st
  subst h1; subst h2; subst h3
  exact ⟨v, (T.setVm vm₁).calling g' mk (Value.ref b :: As).toArray, t, U', L, hT, X', hL, e1, e2, hq, st⟩
section
variable {y : MethodName} {bytes cc : ByteArray} {maxL nL mc ms n index : Nat} {ret : Option FieldType} {ws : List Cond} {rm : Room} {Pc : Array Value → State → Prop} {Qc : Array Value → State → Outcome → State → Prop} {XC : String → State → State → Prop} {free : Addr → Prop} {Ts : List Cond} {own C : String} {b : Addr} {As rest : List Value} {g : JFrame}
theorem vx_runVX {hh : List (Nat × Nat × Nat × Nat)} (S : CallFix p m c cc nL s args Ts own) (hM : vx_Met l y ws rm Pc Qc XC mc ms free) (cw : vx_CVW R s args own C index y bytes maxL ret hh ws rm mc ms n) (hp : PreV s H C b Pc As)
    (hg : g.method = m) (hn : As.length = n) (hsize : g.locals.size = nL) (hstack : g.stack = As.reverse ++ .ref b :: rest) (hW : 2 * g.monitorRoom + (rest.map fun v => v.category).sum ≤ 8) (hdg : decode cc g.pc = .ok (.invokevirtual index, 3)) (hf : cells + mc ≤ R.cells ∧ slots + ms ≤ R.slots) :
    vx_Run p l e R s m args below meth c H locs cells slots mc ms g rest (Qc (Value.ref b :: As).toArray) XC free := by
  obtain ⟨⟨hrc, hrs, hfr, hlo, hws, hcw⟩, hcode, hini, hy, hlen, hl, hin, hse⟩ := cw
  have hK : vx_Back l R p e below s args y 3 8 (PreOf R mc ms Pc) (PostOf Qc mc ms free) (vx_Post XC mc ms free) := vx_backW (hh := hh) (bytes := bytes) (maxL := maxL) (ret := ret) hM hp.1 hrc hrs hfr hlo hws hcw (fun a' U hW => word_at hW (Or.inl (by first | rfl | simp [Cond.onTables, Cond.keeps, Cond.steady])) hini)
  obtain ⟨hx, hb, hml, ho, -⟩ := S
  obtain ⟨-, ⟨cellB, hcB, hoB, hclB⟩, hPc⟩ := hp
  intro T hT X
  rcases vx_callVX X hx (C := C) (hh := hh) (bytes := bytes) (maxL := maxL) (ret := ret) ho hl hin hse hcode hy hK (by rw [hT]; exact hcB) hoB hclB hg (hsize.trans hml.symm) (argsL := As) (rest := rest) (fun sig h => hn.trans (hlen sig h)) hstack hW (by rw [hb]; exact hdg)
    (fun vm₁ hW₁ => ⟨hf.1, hf.2, hPc (T.setVm vm₁) hT hW₁⟩) with ⟨v, vm₁, ⟨U', l2, c2, s2⟩, hW₁, X', ⟨g', mk, t, L, e1, e2, hq, h1, hL, h2, h3⟩, st⟩ | ⟨q, vm₁, ⟨U', l2, c2, s2⟩, hW₁, X', ⟨g', mk, t, L, E, ce, e1, e2, hq, hce, hcv, hcl, h1, hL, h2, h3⟩, st⟩
  · dsimp only [Pt.U, Pt.locs, Pt.cells, Pt.slots] at X' e1 e2 h1 h2 h3 st
    subst h1; subst h2; subst h3
    exact Or.inl ⟨v, (T.setVm vm₁).calling g' mk (Value.ref b :: As).toArray, t, U', L, hT, X', hL, e1, e2, hq, st⟩
  · dsimp only [Pt.U, Pt.locs, Pt.cells, Pt.slots] at X' e1 e2 h1 h2 h3 st hcl
    subst h1; subst h2; subst h3
    exact Or.inr ⟨q, (T.setVm vm₁).calling g' mk (Value.ref b :: As).toArray, t, U', L, E, ce, hT, X', hL, e1, e2, hq, hce, hcv, vx_cls hW₁ hcl, st⟩
theorem vx_runSX {hh : List (Nat × Nat × Nat × Nat)} (S : CallFix p m c cc nL s args Ts own) (hM : vx_Met l y ws rm Pc Qc XC mc ms free) (cw : vx_CSW R s args own index y bytes maxL ret hh ws rm mc ms n) (hp : PreS s H Pc As)
    (hg : g.method = m) (hn : As.length = n) (hsize : g.locals.size = nL) (hstack : g.stack = As.reverse ++ rest) (hW : 2 * g.monitorRoom + (rest.map fun v => v.category).sum ≤ 8) (hdg : decode cc g.pc = .ok (.invokestatic index, 3)) (hf : cells + mc ≤ R.cells ∧ slots + ms ≤ R.slots) :
    vx_Run p l e R s m args below meth c H locs cells slots mc ms g rest (Qc As.toArray) XC free := by
  obtain ⟨⟨hrc, hrs, hfr, hlo, hws, hcw⟩, hcode, hini, hy, hlen, hl, hstt⟩ := cw
  have hK : vx_Back l R p e below s args y 3 8 (PreOf R mc ms Pc) (PostOf Qc mc ms free) (vx_Post XC mc ms free) := vx_backW (hh := hh) (bytes := bytes) (maxL := maxL) (ret := ret) hM hp.1 hrc hrs hfr hlo hws hcw (fun a' U hW => word_at hW (Or.inl (by first | rfl | simp [Cond.onTables, Cond.keeps, Cond.steady])) hini)
  obtain ⟨hx, hb, hml, ho, -⟩ := S
  intro T hT X
  rcases vx_callSX X hx (hh := hh) (bytes := bytes) (maxL := maxL) (ret := ret) ho hl hstt hini hcode hy hK hg (hsize.trans hml.symm) (argsL := As) (rest := rest) (fun sig h => hn.trans (hlen sig h)) hstack hW (by rw [hb]; exact hdg)
    (fun vm₁ hW₁ => ⟨hf.1, hf.2, hp.2 (T.setVm vm₁) hT hW₁⟩) with ⟨v, vm₁, ⟨U', l2, c2, s2⟩, hW₁, X', ⟨g', mk, t, L, e1, e2, hq, h1, hL, h2, h3⟩, st⟩ | ⟨q, vm₁, ⟨U', l2, c2, s2⟩, hW₁, X', ⟨g', mk, t, L, E, ce, e1, e2, hq, hce, hcv, hcl, h1, hL, h2, h3⟩, st⟩
  · dsimp only [Pt.U, Pt.locs, Pt.cells, Pt.slots] at X' e1 e2 h1 h2 h3 st
    subst h1; subst h2; subst h3
    exact Or.inl ⟨v, (T.setVm vm₁).calling g' mk As.toArray, t, U', L, hT, X', hL, e1, e2, hq, st⟩
  · dsimp only [Pt.U, Pt.locs, Pt.cells, Pt.slots] at X' e1 e2 h1 h2 h3 st hcl
    subst h1; subst h2; subst h3
    exact Or.inr ⟨q, (T.setVm vm₁).calling g' mk As.toArray, t, U', L, E, ce, hT, X', hL, e1, e2, hq, hce, hcv, vx_cls hW₁ hcl, st⟩
end
end VXH
theorem vx_ofWH {l : Launch} {y : MethodName} {ws ws' : List Cond} {rm : Room} {Pc : Array Value → State → Prop} {Qc : Array Value → State → Outcome → State → Prop} {XC : String → State → State → Prop} {mc ms : Nat} {free : Addr → Prop} {cc : ByteArray} {maxL : Nat} {ret : Option FieldType} {hh : List (Nat × Nat × Nat × Nat)}
    (hy : plainName y.cls = true) (hw : ws = Cond.codeWith y cc maxL ret hh :: ws')
    (body : ∀ p e s m args below meth c s₁, BodyLoose p l y (headSpec ws rm) cc maxL ret e s m args below meth c s₁ → c.maxLocals = maxL → Pc args s →
      W p l e (headSpec ws rm).room s m args below meth c s.heap [] 0 0 (vx_MQ below Qc XC args s mc ms free) (entryFrame m args maxL)) : vx_Met l y ws rm Pc Qc XC mc ms free := by
  refine MetFree.of_bodyS (code := cc) (maxLocals := maxL) (ret := ret) hy ?_ ?_
  · intro args s m h hn
    obtain ⟨m9, meth, c, hn9, h1, h2, h3, h4, -, h5, h6, -⟩ := Cond.codeWith_spec (atoms_spec (ws := ws) h _ (by rw [hw]; exact List.mem_cons_self))
    cases hn.symm.trans hn9
    exact ⟨meth, c, h1, h2, h3, h4, h5, h6⟩
  · intro p e s m args below meth c s₁ B hml hP _
    have hh0 : s₁.heap = s.heap := by rw [B.state]; rfl
    obtain ⟨t, a1, o, b1, b2, b3⟩ := body p e s m args below meth c s₁ B hml hP s₁ hh0 (Stand.of_body B)
    exact ⟨t, o, a1, b1, b2, b3⟩
/-! ===== END ===== -/

def vx_atN (n : Nat) : List Cond := (Bundle.npeArmAtoms n).filter vx_no
def vx_atM (X : String) (names : List String) : List Cond := (Bundle.messageArmAtoms X names).filter vx_no
end
section
/-! ===== BEGIN printed: names, fields, word lists, decode rows ===== -/
def RX0 : String := "TrainedSegments$Dictionary"
def TX0 : u_T := fun k => match k with
  | 0 => ("TrainedSegments$Dictionary", "words", "LTrainedSegments$Row;", true)
  | 1 => ("TrainedSegments$Dictionary", "pieceLength", "I", false)
  | 2 => ("TrainedSegments$Dictionary", "pieces", "I", false)
  | _ => ("TrainedSegments$Dictionary", "id", "I", false)
def tyX0 : Nat → FieldType := fun k => match k with
  | 0 => .object "TrainedSegments$Row"
  | 1 => .int
  | 2 => .int
  | _ => .int
abbrev wsX00 : List Cond := u_ws RX0 TX0 4
theorem nmX0 : ∀ a, a < 4 → ∀ b, b < 4 → a ≠ b → (TX0 a).2.1 ≠ (TX0 b).2.1 := by decide +kernel
theorem tyX0_ok : ∀ k, k < 4 → parseFieldDescriptor (TX0 k).2.2.1 = some (tyX0 k) := by decide +kernel
abbrev cX0_init : ByteArray := prog_2_method_1_code
def yX0_init : MethodName := ⟨RX0, "<init>", "()V"⟩
abbrev cX0_words : ByteArray := prog_2_method_2_code
def yX0_words : MethodName := ⟨RX0, "words", "()LTrainedSegments$Row;"⟩
abbrev cX0_id : ByteArray := prog_2_method_3_code
def yX0_id : MethodName := ⟨RX0, "id", "()I"⟩
abbrev cX0_isThere : ByteArray := prog_2_method_4_code
def yX0_isThere : MethodName := ⟨RX0, "isThere", "()Z"⟩
abbrev cX0_pieces : ByteArray := prog_2_method_5_code
def yX0_pieces : MethodName := ⟨RX0, "pieces", "()I"⟩
abbrev cX0_pieceLength : ByteArray := prog_2_method_6_code
def yX0_pieceLength : MethodName := ⟨RX0, "pieceLength", "()I"⟩
abbrev cX0_sum : ByteArray := prog_2_method_7_code
def yX0_sum : MethodName := ⟨RX0, "sum", "()I"⟩
abbrev cX0_begin : ByteArray := prog_2_method_8_code
def yX0_begin : MethodName := ⟨RX0, "begin", "(II)V"⟩
abbrev cX0_addPiece : ByteArray := prog_2_method_9_code
def yX0_addPiece : MethodName := ⟨RX0, "addPiece", "(LTrainedSegments$Row;I)V"⟩
abbrev cX0_copyWithout : ByteArray := prog_2_method_10_code
def yX0_copyWithout : MethodName := ⟨RX0, "copyWithout", "(ILTrainedSegments$Row;)V"⟩
abbrev cX0_removePiece : ByteArray := prog_2_method_11_code
def yX0_removePiece : MethodName := ⟨RX0, "removePiece", "(I)V"⟩
def RX1 : String := "TrainedSegments$Opener"
def TX1 : u_T := fun k => match k with
  | 0 => ("TrainedSegments$Opener", "joined", "LTrainedSegments$Row;", true)
  | 1 => ("TrainedSegments$Opener", "start", "I", false)
  | 2 => ("TrainedSegments$Opener", "wanted", "I", false)
  | _ => ("TrainedSegments$Opener", "place", "I", false)
def tyX1 : Nat → FieldType := fun k => match k with
  | 0 => .object "TrainedSegments$Row"
  | 1 => .int
  | 2 => .int
  | _ => .int
abbrev wsX10 : List Cond := u_ws RX1 TX1 4
theorem nmX1 : ∀ a, a < 4 → ∀ b, b < 4 → a ≠ b → (TX1 a).2.1 ≠ (TX1 b).2.1 := by decide +kernel
theorem tyX1_ok : ∀ k, k < 4 → parseFieldDescriptor (TX1 k).2.2.1 = some (tyX1 k) := by decide +kernel
abbrev cX1_init : ByteArray := prog_3_method_1_code
def yX1_init : MethodName := ⟨RX1, "<init>", "()V"⟩
abbrev cX1_decode : ByteArray := prog_3_method_2_code
def yX1_decode : MethodName := ⟨RX1, "decode", "(LTrainedSegments$Row;LTrainedSegments$Dictionary;)I"⟩
abbrev cX1_handOver : ByteArray := prog_3_method_3_code
def yX1_handOver : MethodName := ⟨RX1, "handOver", "(LTrainedSegments$Row;)V"⟩
abbrev cX1_wrongInHeader : ByteArray := prog_3_method_4_code
def yX1_wrongInHeader : MethodName := ⟨RX1, "wrongInHeader", "(LTrainedSegments$Row;LTrainedSegments$Dictionary;)I"⟩
abbrev cX1_readItem : ByteArray := prog_3_method_5_code
def yX1_readItem : MethodName := ⟨RX1, "readItem", "(LTrainedSegments$Row;)I"⟩
abbrev cX1_readPlain : ByteArray := prog_3_method_6_code
def yX1_readPlain : MethodName := ⟨RX1, "readPlain", "(LTrainedSegments$Row;I)I"⟩
abbrev cX1_readMatch : ByteArray := prog_3_method_7_code
def yX1_readMatch : MethodName := ⟨RX1, "readMatch", "(LTrainedSegments$Row;II)I"⟩
def RX2 : String := "TrainedSegments$Output"
def TX2 : u_T := fun k => match k with
  | 0 => ("TrainedSegments$Output", "bytes", "LTrainedSegments$Row;", true)
  | 1 => ("TrainedSegments$Output", "items", "I", false)
  | _ => ("TrainedSegments$Output", "matches", "I", false)
def tyX2 : Nat → FieldType := fun k => match k with
  | 0 => .object "TrainedSegments$Row"
  | 1 => .int
  | _ => .int
abbrev wsX20 : List Cond := u_ws RX2 TX2 3
theorem nmX2 : ∀ a, a < 3 → ∀ b, b < 3 → a ≠ b → (TX2 a).2.1 ≠ (TX2 b).2.1 := by decide +kernel
theorem tyX2_ok : ∀ k, k < 3 → parseFieldDescriptor (TX2 k).2.2.1 = some (tyX2 k) := by decide +kernel
abbrev cX2_init : ByteArray := prog_4_method_1_code
def yX2_init : MethodName := ⟨RX2, "<init>", "()V"⟩
abbrev cX2_bytes : ByteArray := prog_4_method_2_code
def yX2_bytes : MethodName := ⟨RX2, "bytes", "()LTrainedSegments$Row;"⟩
abbrev cX2_items : ByteArray := prog_4_method_3_code
def yX2_items : MethodName := ⟨RX2, "items", "()I"⟩
abbrev cX2_matches : ByteArray := prog_4_method_4_code
def yX2_matches : MethodName := ⟨RX2, "matches", "()I"⟩
abbrev cX2_begin : ByteArray := prog_4_method_5_code
def yX2_begin : MethodName := ⟨RX2, "begin", "(LTrainedSegments$Dictionary;I)V"⟩
abbrev cX2_addMatch : ByteArray := prog_4_method_6_code
def yX2_addMatch : MethodName := ⟨RX2, "addMatch", "(II)V"⟩
abbrev cX2_addPlain : ByteArray := prog_4_method_7_code
def yX2_addPlain : MethodName := ⟨RX2, "addPlain", "([BII)V"⟩
def RX3 : String := "TrainedSegments$Packer"
def TX3 : u_T := fun k => match k with
  | 0 => ("TrainedSegments$Packer", "joined", "[B", true)
  | 1 => ("TrainedSegments$Packer", "earlier", "[I", true)
  | 2 => ("TrainedSegments$Packer", "latest", "[I", true)
  | 3 => ("TrainedSegments$Packer", "cost", "[I", true)
  | 4 => ("TrainedSegments$Packer", "choice", "[I", true)
  | 5 => ("TrainedSegments$Packer", "start", "I", false)
  | _ => ("TrainedSegments$Packer", "length", "I", false)
def tyX3 : Nat → FieldType := fun k => match k with
  | 0 => .array .byte
  | 1 => .array .int
  | 2 => .array .int
  | 3 => .array .int
  | 4 => .array .int
  | 5 => .int
  | _ => .int
abbrev wsX30 : List Cond := u_ws RX3 TX3 7
theorem nmX3 : ∀ a, a < 7 → ∀ b, b < 7 → a ≠ b → (TX3 a).2.1 ≠ (TX3 b).2.1 := by decide +kernel
theorem tyX3_ok : ∀ k, k < 7 → parseFieldDescriptor (TX3 k).2.2.1 = some (tyX3 k) := by decide +kernel
abbrev cX3_init : ByteArray := prog_5_method_1_code
def yX3_init : MethodName := ⟨RX3, "<init>", "()V"⟩
abbrev cX3_measure : ByteArray := prog_5_method_2_code
def yX3_measure : MethodName := ⟨RX3, "measure", "(LTrainedSegments$Row;LTrainedSegments$Row;)I"⟩
abbrev cX3_write : ByteArray := prog_5_method_3_code
def yX3_write : MethodName := ⟨RX3, "write", "(LTrainedSegments$Output;)V"⟩
abbrev cX3_linkSameBytes : ByteArray := prog_5_method_4_code
def yX3_linkSameBytes : MethodName := ⟨RX3, "linkSameBytes", "()V"⟩
abbrev cX3_tryMatches : ByteArray := prog_5_method_5_code
def yX3_tryMatches : MethodName := ⟨RX3, "tryMatches", "(I)V"⟩
abbrev cX3_tryPlain : ByteArray := prog_5_method_6_code
def yX3_tryPlain : MethodName := ⟨RX3, "tryPlain", "(I)V"⟩
abbrev cX3_longestMatch : ByteArray := prog_5_method_7_code
def yX3_longestMatch : MethodName := ⟨RX3, "longestMatch", "(I)I"⟩
abbrev cX3_leastDistance : ByteArray := prog_5_method_8_code
def yX3_leastDistance : MethodName := ⟨RX3, "leastDistance", "(II)I"⟩
abbrev cX3_sameBytes : ByteArray := prog_5_method_9_code
def yX3_sameBytes : MethodName := ⟨RX3, "sameBytes", "(III)I"⟩
def RX4 : String := "TrainedSegments$Row"
def TX4 : u_T := fun k => match k with
  | 0 => ("TrainedSegments$Row", "bytes", "[B", true)
  | _ => ("TrainedSegments$Row", "length", "I", false)
def tyX4 : Nat → FieldType := fun k => match k with
  | 0 => .array .byte
  | _ => .int
abbrev wsX40 : List Cond := u_ws RX4 TX4 2
theorem nmX4 : ∀ a, a < 2 → ∀ b, b < 2 → a ≠ b → (TX4 a).2.1 ≠ (TX4 b).2.1 := by decide +kernel
theorem tyX4_ok : ∀ k, k < 2 → parseFieldDescriptor (TX4 k).2.2.1 = some (tyX4 k) := by decide +kernel
abbrev cX4_init : ByteArray := prog_6_method_1_code
def yX4_init : MethodName := ⟨RX4, "<init>", "(I)V"⟩
abbrev cX4_length : ByteArray := prog_6_method_2_code
def yX4_length : MethodName := ⟨RX4, "length", "()I"⟩
abbrev cX4_has : ByteArray := prog_6_method_3_code
def yX4_has : MethodName := ⟨RX4, "has", "(I)Z"⟩
abbrev cX4_hasRoom : ByteArray := prog_6_method_4_code
def yX4_hasRoom : MethodName := ⟨RX4, "hasRoom", "(I)Z"⟩
abbrev cX4_signedAt : ByteArray := prog_6_method_5_code
def yX4_signedAt : MethodName := ⟨RX4, "signedAt", "(I)B"⟩
abbrev cX4_at : ByteArray := prog_6_method_6_code
def yX4_at : MethodName := ⟨RX4, "at", "(I)I"⟩
abbrev cX4_clear : ByteArray := prog_6_method_7_code
def yX4_clear : MethodName := ⟨RX4, "clear", "()V"⟩
abbrev cX4_add : ByteArray := prog_6_method_8_code
def yX4_add : MethodName := ⟨RX4, "add", "(I)V"⟩
abbrev cX4_addFrom : ByteArray := prog_6_method_9_code
def yX4_addFrom : MethodName := ⟨RX4, "addFrom", "(LTrainedSegments$Row;II)V"⟩
abbrev cX4_become : ByteArray := prog_6_method_10_code
def yX4_become : MethodName := ⟨RX4, "become", "(LTrainedSegments$Row;)V"⟩
abbrev cX4_cutOut : ByteArray := prog_6_method_11_code
def yX4_cutOut : MethodName := ⟨RX4, "cutOut", "(II)V"⟩
abbrev cX4_copyTo : ByteArray := prog_6_method_12_code
def yX4_copyTo : MethodName := ⟨RX4, "copyTo", "([BI)I"⟩
abbrev cX4_sum : ByteArray := prog_6_method_13_code
def yX4_sum : MethodName := ⟨RX4, "sum", "()I"⟩
def RX5 : String := "TrainedSegments$Trainer"
def TX5 : u_T := fun k => match k with
  | 0 => ("TrainedSegments$Trainer", "places", "LTrainedSegments$Row;", true)
  | 1 => ("TrainedSegments$Trainer", "covered", "[Z", true)
  | 2 => ("TrainedSegments$Trainer", "kind", "[I", true)
  | 3 => ("TrainedSegments$Trainer", "count", "[I", true)
  | 4 => ("TrainedSegments$Trainer", "freeFrom", "[I", true)
  | 5 => ("TrainedSegments$Trainer", "taken", "[I", true)
  | 6 => ("TrainedSegments$Trainer", "takenCount", "I", false)
  | _ => ("TrainedSegments$Trainer", "n", "I", false)
def tyX5 : Nat → FieldType := fun k => match k with
  | 0 => .object "TrainedSegments$Row"
  | 1 => .array .boolean
  | 2 => .array .int
  | 3 => .array .int
  | 4 => .array .int
  | 5 => .array .int
  | 6 => .int
  | _ => .int
abbrev wsX50 : List Cond := u_ws RX5 TX5 8
theorem nmX5 : ∀ a, a < 8 → ∀ b, b < 8 → a ≠ b → (TX5 a).2.1 ≠ (TX5 b).2.1 := by decide +kernel
theorem tyX5_ok : ∀ k, k < 8 → parseFieldDescriptor (TX5 k).2.2.1 = some (tyX5 k) := by decide +kernel
abbrev cX5_init : ByteArray := prog_7_method_1_code
def yX5_init : MethodName := ⟨RX5, "<init>", "()V"⟩
abbrev cX5_load : ByteArray := prog_7_method_2_code
def yX5_load : MethodName := ⟨RX5, "load", "([LTrainedSegments$Row;II)V"⟩
abbrev cX5_takeRows : ByteArray := prog_7_method_3_code
def yX5_takeRows : MethodName := ⟨RX5, "takeRows", "(I)V"⟩
abbrev cX5_handOver : ByteArray := prog_7_method_4_code
def yX5_handOver : MethodName := ⟨RX5, "handOver", "(LTrainedSegments$Dictionary;)V"⟩
abbrev cX5_markKinds : ByteArray := prog_7_method_5_code
def yX5_markKinds : MethodName := ⟨RX5, "markKinds", "(II)V"⟩
abbrev cX5_firstSameRow : ByteArray := prog_7_method_6_code
def yX5_firstSameRow : MethodName := ⟨RX5, "firstSameRow", "(I)I"⟩
abbrev cX5_isSameRow : ByteArray := prog_7_method_7_code
def yX5_isSameRow : MethodName := ⟨RX5, "isSameRow", "(II)Z"⟩
abbrev cX5_isFreeRow : ByteArray := prog_7_method_8_code
def yX5_isFreeRow : MethodName := ⟨RX5, "isFreeRow", "(I)Z"⟩
abbrev cX5_countRows : ByteArray := prog_7_method_9_code
def yX5_countRows : MethodName := ⟨RX5, "countRows", "()V"⟩
abbrev cX5_placeOfMost : ByteArray := prog_7_method_10_code
def yX5_placeOfMost : MethodName := ⟨RX5, "placeOfMost", "()I"⟩
abbrev cX5_cover : ByteArray := prog_7_method_11_code
def yX5_cover : MethodName := ⟨RX5, "cover", "(I)V"⟩
abbrev cX5_coverFrom : ByteArray := prog_7_method_12_code
def yX5_coverFrom : MethodName := ⟨RX5, "coverFrom", "(IIZ)V"⟩
def RX6 : String := "TrainedSegments"
def TX6 : u_T := fun k => match k with
  | 0 => ("TrainedSegments", "tape", "LTrainedSegments$Row;", true)
  | 1 => ("TrainedSegments", "samples", "[LTrainedSegments$Row;", true)
  | 2 => ("TrainedSegments", "dictionaries", "[LTrainedSegments$Dictionary;", true)
  | 3 => ("TrainedSegments", "none", "LTrainedSegments$Dictionary;", true)
  | 4 => ("TrainedSegments", "trial", "LTrainedSegments$Row;", true)
  | 5 => ("TrainedSegments", "opened", "LTrainedSegments$Row;", true)
  | 6 => ("TrainedSegments", "output", "LTrainedSegments$Output;", true)
  | 7 => ("TrainedSegments", "packer", "LTrainedSegments$Packer;", true)
  | 8 => ("TrainedSegments", "trainer", "LTrainedSegments$Trainer;", true)
  | 9 => ("TrainedSegments", "opener", "LTrainedSegments$Opener;", true)
  | _ => ("TrainedSegments", "sampleCount", "I", false)
def tyX6 : Nat → FieldType := fun k => match k with
  | 0 => .object "TrainedSegments$Row"
  | 1 => .array (.object "TrainedSegments$Row")
  | 2 => .array (.object "TrainedSegments$Dictionary")
  | 3 => .object "TrainedSegments$Dictionary"
  | 4 => .object "TrainedSegments$Row"
  | 5 => .object "TrainedSegments$Row"
  | 6 => .object "TrainedSegments$Output"
  | 7 => .object "TrainedSegments$Packer"
  | 8 => .object "TrainedSegments$Trainer"
  | 9 => .object "TrainedSegments$Opener"
  | _ => .int
abbrev wsX60 : List Cond := u_ws RX6 TX6 11
theorem nmX6 : ∀ a, a < 11 → ∀ b, b < 11 → a ≠ b → (TX6 a).2.1 ≠ (TX6 b).2.1 := by decide +kernel
theorem tyX6_ok : ∀ k, k < 11 → parseFieldDescriptor (TX6 k).2.2.1 = some (tyX6 k) := by decide +kernel
abbrev cX6_init : ByteArray := prog_1_method_1_code
def yX6_init : MethodName := ⟨RX6, "<init>", "()V"⟩
abbrev cX6_feed : ByteArray := prog_1_method_2_code
def yX6_feed : MethodName := ⟨RX6, "feed", "(IJ)I"⟩
abbrev cX6_sample : ByteArray := prog_1_method_3_code
def yX6_sample : MethodName := ⟨RX6, "sample", "()I"⟩
abbrev cX6_forget : ByteArray := prog_1_method_4_code
def yX6_forget : MethodName := ⟨RX6, "forget", "()I"⟩
abbrev cX6_train : ByteArray := prog_1_method_5_code
def yX6_train : MethodName := ⟨RX6, "train", "(IIII)I"⟩
abbrev cX6_give : ByteArray := prog_1_method_6_code
def yX6_give : MethodName := ⟨RX6, "give", "(II)I"⟩
abbrev cX6_trim : ByteArray := prog_1_method_7_code
def yX6_trim : MethodName := ⟨RX6, "trim", "(I)I"⟩
abbrev cX6_drop : ByteArray := prog_1_method_8_code
def yX6_drop : MethodName := ⟨RX6, "drop", "(I)I"⟩
abbrev cX6_told : ByteArray := prog_1_method_9_code
def yX6_told : MethodName := ⟨RX6, "told", "(II)I"⟩
abbrev cX6_content : ByteArray := prog_1_method_10_code
def yX6_content : MethodName := ⟨RX6, "content", "(II)B"⟩
abbrev cX6_pack : ByteArray := prog_1_method_11_code
def yX6_pack : MethodName := ⟨RX6, "pack", "(I)I"⟩
abbrev cX6_out : ByteArray := prog_1_method_12_code
def yX6_out : MethodName := ⟨RX6, "out", "(I)I"⟩
abbrev cX6_open : ByteArray := prog_1_method_13_code
def yX6_open : MethodName := ⟨RX6, "open", "()I"⟩
abbrev cX6_text : ByteArray := prog_1_method_14_code
def yX6_text : MethodName := ⟨RX6, "text", "(I)I"⟩
abbrev cX6_size : ByteArray := prog_1_method_15_code
def yX6_size : MethodName := ⟨RX6, "size", "(II)I"⟩
abbrev cX6_best : ByteArray := prog_1_method_16_code
def yX6_best : MethodName := ⟨RX6, "best", "(I)I"⟩
abbrev cX6_share : ByteArray := prog_1_method_17_code
def yX6_share : MethodName := ⟨RX6, "share", "(I)I"⟩
abbrev cX6_about : ByteArray := prog_1_method_18_code
def yX6_about : MethodName := ⟨RX6, "about", "(I)I"⟩
abbrev cX6_isNumber : ByteArray := prog_1_method_19_code
def yX6_isNumber : MethodName := ⟨RX6, "isNumber", "(I)Z"⟩
abbrev cX6_isId : ByteArray := prog_1_method_20_code
def yX6_isId : MethodName := ⟨RX6, "isId", "(I)Z"⟩
abbrev cX6_isSample : ByteArray := prog_1_method_21_code
def yX6_isSample : MethodName := ⟨RX6, "isSample", "(I)Z"⟩
abbrev cX6_thereAt : ByteArray := prog_1_method_22_code
def yX6_thereAt : MethodName := ⟨RX6, "thereAt", "(I)LTrainedSegments$Dictionary;"⟩
abbrev cX6_noneOrThereAt : ByteArray := prog_1_method_23_code
def yX6_noneOrThereAt : MethodName := ⟨RX6, "noneOrThereAt", "(I)LTrainedSegments$Dictionary;"⟩
abbrev cX6_firstWithId : ByteArray := prog_1_method_24_code
def yX6_firstWithId : MethodName := ⟨RX6, "firstWithId", "(I)LTrainedSegments$Dictionary;"⟩
abbrev cX6_countThere : ByteArray := prog_1_method_25_code
def yX6_countThere : MethodName := ⟨RX6, "countThere", "()I"⟩
abbrev cX6_bytesOfSamples : ByteArray := prog_1_method_26_code
def yX6_bytesOfSamples : MethodName := ⟨RX6, "bytesOfSamples", "(LTrainedSegments$Row;)I"⟩
abbrev cX6_leaveOutIdlePieces : ByteArray := prog_1_method_27_code
def yX6_leaveOutIdlePieces : MethodName := ⟨RX6, "leaveOutIdlePieces", "(LTrainedSegments$Dictionary;)I"⟩
def RX7 : String := "TrainedSegmentsModel"
def TX7 : u_T := fun k => match k with
  | 0 => ("TrainedSegmentsModel", "thrown", "I", false)
  | 1 => ("TrainedSegmentsModel", "tape", "[I", true)
  | 2 => ("TrainedSegmentsModel", "taped", "I", false)
  | 3 => ("TrainedSegmentsModel", "samples", "I", false)
  | 4 => ("TrainedSegmentsModel", "sampleLong", "[I", true)
  | 5 => ("TrainedSegmentsModel", "sampleByte", "[I", true)
  | 6 => ("TrainedSegmentsModel", "idOf", "[I", true)
  | 7 => ("TrainedSegmentsModel", "pieces", "[I", true)
  | 8 => ("TrainedSegmentsModel", "pieceLong", "[I", true)
  | 9 => ("TrainedSegmentsModel", "bytesOf", "[I", true)
  | 10 => ("TrainedSegmentsModel", "dictionary", "[I", true)
  | 11 => ("TrainedSegmentsModel", "covered", "[Z", true)
  | 12 => ("TrainedSegmentsModel", "taken", "[I", true)
  | 13 => ("TrainedSegmentsModel", "takenMany", "I", false)
  | 14 => ("TrainedSegmentsModel", "row", "[I", true)
  | 15 => ("TrainedSegmentsModel", "ahead", "I", false)
  | 16 => ("TrainedSegmentsModel", "textLong", "I", false)
  | 17 => ("TrainedSegmentsModel", "cost", "[I", true)
  | 18 => ("TrainedSegmentsModel", "leastD", "[I", true)
  | 19 => ("TrainedSegmentsModel", "out", "[I", true)
  | 20 => ("TrainedSegmentsModel", "outMany", "I", false)
  | 21 => ("TrainedSegmentsModel", "items", "I", false)
  | 22 => ("TrainedSegmentsModel", "matches", "I", false)
  | 23 => ("TrainedSegmentsModel", "text", "[I", true)
  | _ => ("TrainedSegmentsModel", "textMany", "I", false)
def tyX7 : Nat → FieldType := fun k => match k with
  | 0 => .int
  | 1 => .array .int
  | 2 => .int
  | 3 => .int
  | 4 => .array .int
  | 5 => .array .int
  | 6 => .array .int
  | 7 => .array .int
  | 8 => .array .int
  | 9 => .array .int
  | 10 => .array .int
  | 11 => .array .boolean
  | 12 => .array .int
  | 13 => .int
  | 14 => .array .int
  | 15 => .int
  | 16 => .int
  | 17 => .array .int
  | 18 => .array .int
  | 19 => .array .int
  | 20 => .int
  | 21 => .int
  | 22 => .int
  | 23 => .array .int
  | _ => .int
abbrev wsX70 : List Cond := u_ws RX7 TX7 25
theorem nmX7 : ∀ a, a < 25 → ∀ b, b < 25 → a ≠ b → (TX7 a).2.1 ≠ (TX7 b).2.1 := by decide +kernel
theorem tyX7_ok : ∀ k, k < 25 → parseFieldDescriptor (TX7 k).2.2.1 = some (tyX7 k) := by decide +kernel
abbrev cX7_init : ByteArray := prog_9_method_1_code
def yX7_init : MethodName := ⟨RX7, "<init>", "()V"⟩
abbrev cX7_thrown : ByteArray := prog_9_method_2_code
def yX7_thrown : MethodName := ⟨RX7, "thrown", "()I"⟩
abbrev cX7_in : ByteArray := prog_9_method_3_code
def yX7_in : MethodName := ⟨RX7, "in", "(JJJ)Z"⟩
abbrev cX7_feed : ByteArray := prog_9_method_4_code
def yX7_feed : MethodName := ⟨RX7, "feed", "(IJ)I"⟩
abbrev cX7_sample : ByteArray := prog_9_method_5_code
def yX7_sample : MethodName := ⟨RX7, "sample", "()I"⟩
abbrev cX7_forget : ByteArray := prog_9_method_6_code
def yX7_forget : MethodName := ⟨RX7, "forget", "()I"⟩
abbrev cX7_isOpen : ByteArray := prog_9_method_7_code
def yX7_isOpen : MethodName := ⟨RX7, "isOpen", "(III)Z"⟩
abbrev cX7_areAlike : ByteArray := prog_9_method_8_code
def yX7_areAlike : MethodName := ⟨RX7, "areAlike", "(III)Z"⟩
abbrev cX7_counted : ByteArray := prog_9_method_9_code
def yX7_counted : MethodName := ⟨RX7, "counted", "(IIZ)I"⟩
abbrev cX7_train : ByteArray := prog_9_method_10_code
def yX7_train : MethodName := ⟨RX7, "train", "(IIII)I"⟩
abbrev cX7_give : ByteArray := prog_9_method_11_code
def yX7_give : MethodName := ⟨RX7, "give", "(II)I"⟩
abbrev cX7_isThere : ByteArray := prog_9_method_12_code
def yX7_isThere : MethodName := ⟨RX7, "isThere", "(I)Z"⟩
abbrev cX7_pieceAt : ByteArray := prog_9_method_13_code
def yX7_pieceAt : MethodName := ⟨RX7, "pieceAt", "(II)I"⟩
abbrev cX7_layAhead : ByteArray := prog_9_method_14_code
def yX7_layAhead : MethodName := ⟨RX7, "layAhead", "(II)V"⟩
abbrev cX7_laySample : ByteArray := prog_9_method_15_code
def yX7_laySample : MethodName := ⟨RX7, "laySample", "(I)V"⟩
abbrev cX7_findMatches : ByteArray := prog_9_method_16_code
def yX7_findMatches : MethodName := ⟨RX7, "findMatches", "(I)V"⟩
abbrev cX7_packedLong : ByteArray := prog_9_method_17_code
def yX7_packedLong : MethodName := ⟨RX7, "packedLong", "()I"⟩
abbrev cX7_sizeOf : ByteArray := prog_9_method_18_code
def yX7_sizeOf : MethodName := ⟨RX7, "sizeOf", "(III)I"⟩
abbrev cX7_sizeOfAll : ByteArray := prog_9_method_19_code
def yX7_sizeOfAll : MethodName := ⟨RX7, "sizeOfAll", "(II)I"⟩
abbrev cX7_trim : ByteArray := prog_9_method_20_code
def yX7_trim : MethodName := ⟨RX7, "trim", "(I)I"⟩
abbrev cX7_goes : ByteArray := prog_9_method_21_code
def yX7_goes : MethodName := ⟨RX7, "goes", "(II)V"⟩
abbrev cX7_drop : ByteArray := prog_9_method_22_code
def yX7_drop : MethodName := ⟨RX7, "drop", "(I)I"⟩
abbrev cX7_sumOf : ByteArray := prog_9_method_23_code
def yX7_sumOf : MethodName := ⟨RX7, "sumOf", "(I)I"⟩
abbrev cX7_told : ByteArray := prog_9_method_24_code
def yX7_told : MethodName := ⟨RX7, "told", "(II)I"⟩
abbrev cX7_content : ByteArray := prog_9_method_25_code
def yX7_content : MethodName := ⟨RX7, "content", "(II)B"⟩
abbrev cX7_put : ByteArray := prog_9_method_26_code
def yX7_put : MethodName := ⟨RX7, "put", "(I)V"⟩
abbrev cX7_putItem : ByteArray := prog_9_method_27_code
def yX7_putItem : MethodName := ⟨RX7, "putItem", "(I)I"⟩
abbrev cX7_pack : ByteArray := prog_9_method_28_code
def yX7_pack : MethodName := ⟨RX7, "pack", "(I)I"⟩
abbrev cX7_out : ByteArray := prog_9_method_29_code
def yX7_out : MethodName := ⟨RX7, "out", "(I)I"⟩
abbrev cX7_firstWith : ByteArray := prog_9_method_30_code
def yX7_firstWith : MethodName := ⟨RX7, "firstWith", "(I)I"⟩
abbrev cX7_wrong : ByteArray := prog_9_method_31_code
def yX7_wrong : MethodName := ⟨RX7, "wrong", "()I"⟩
abbrev cX7_open : ByteArray := prog_9_method_32_code
def yX7_open : MethodName := ⟨RX7, "open", "()I"⟩
abbrev cX7_text : ByteArray := prog_9_method_33_code
def yX7_text : MethodName := ⟨RX7, "text", "(I)I"⟩
abbrev cX7_size : ByteArray := prog_9_method_34_code
def yX7_size : MethodName := ⟨RX7, "size", "(II)I"⟩
abbrev cX7_best : ByteArray := prog_9_method_35_code
def yX7_best : MethodName := ⟨RX7, "best", "(I)I"⟩
abbrev cX7_share : ByteArray := prog_9_method_36_code
def yX7_share : MethodName := ⟨RX7, "share", "(I)I"⟩
abbrev cX7_about : ByteArray := prog_9_method_37_code
def yX7_about : MethodName := ⟨RX7, "about", "(I)I"⟩
def RJx00060 : String := "java/lang/ArrayIndexOutOfBoundsException"
def TJx00060 : u_T := fun k => match k with
  | 0 => ("java/lang/Throwable", "backtrace", "Ljava/lang/Object;", false)
  | 1 => ("java/lang/Throwable", "detailMessage", "Ljava/lang/String;", false)
  | 2 => ("java/lang/Throwable", "cause", "Ljava/lang/Throwable;", false)
  | 3 => ("java/lang/Throwable", "stackTrace", "[Ljava/lang/StackTraceElement;", false)
  | 4 => ("java/lang/Throwable", "depth", "I", false)
  | _ => ("java/lang/Throwable", "suppressedExceptions", "Ljava/util/List;", false)
def tyJx00060 : Nat → FieldType := fun k => match k with
  | 0 => .object "java/lang/Object"
  | 1 => .object "java/lang/String"
  | 2 => .object "java/lang/Throwable"
  | 3 => .array (.object "java/lang/StackTraceElement")
  | 4 => .int
  | _ => .object "java/util/List"
abbrev wsJx000600 : List Cond := u_ws RJx00060 TJx00060 6
theorem nmJx00060 : ∀ a, a < 6 → ∀ b, b < 6 → a ≠ b → (TJx00060 a).2.1 ≠ (TJx00060 b).2.1 := by decide +kernel
theorem tyJx00060_ok : ∀ k, k < 6 → parseFieldDescriptor (TJx00060 k).2.2.1 = some (tyJx00060 k) := by decide +kernel
abbrev cJx00060_init_a7421 : ByteArray := prog_11_method_2_code
def yJx00060_init_a7421 : MethodName := ⟨RJx00060, "<init>", "(Ljava/lang/String;)V"⟩
def RJ9 : String := "java/lang/Math"
def TJ9 : u_T := fun k => match k with
  | _ => ("", "", "", false)
def tyJ9 : Nat → FieldType := fun k => match k with
  | _ => .int
abbrev wsJ90 : List Cond := u_ws RJ9 TJ9 0
theorem nmJ9 : ∀ a, a < 0 → ∀ b, b < 0 → a ≠ b → (TJ9 a).2.1 ≠ (TJ9 b).2.1 := by decide +kernel
theorem tyJ9_ok : ∀ k, k < 0 → parseFieldDescriptor (TJ9 k).2.2.1 = some (tyJ9 k) := by decide +kernel
abbrev cJ9_abs_0f7a4 : ByteArray := prog_14_method_59_code
def yJ9_abs_0f7a4 : MethodName := ⟨RJ9, "abs", "(I)I"⟩
abbrev cJ9_max_7cf53 : ByteArray := prog_14_method_65_code
def yJ9_max_7cf53 : MethodName := ⟨RJ9, "max", "(II)I"⟩
abbrev cJ9_min_7cf53 : ByteArray := prog_14_method_69_code
def yJ9_min_7cf53 : MethodName := ⟨RJ9, "min", "(II)I"⟩
def RJx5d777 : String := "java/lang/NullPointerException"
def TJx5d777 : u_T := fun k => match k with
  | 0 => ("java/lang/Throwable", "backtrace", "Ljava/lang/Object;", false)
  | 1 => ("java/lang/Throwable", "detailMessage", "Ljava/lang/String;", false)
  | 2 => ("java/lang/Throwable", "cause", "Ljava/lang/Throwable;", false)
  | 3 => ("java/lang/Throwable", "stackTrace", "[Ljava/lang/StackTraceElement;", false)
  | 4 => ("java/lang/Throwable", "depth", "I", false)
  | 5 => ("java/lang/Throwable", "suppressedExceptions", "Ljava/util/List;", false)
  | 6 => ("java/lang/NullPointerException", "extendedMessageState", "I", false)
  | _ => ("java/lang/NullPointerException", "extendedMessage", "Ljava/lang/String;", false)
def tyJx5d777 : Nat → FieldType := fun k => match k with
  | 0 => .object "java/lang/Object"
  | 1 => .object "java/lang/String"
  | 2 => .object "java/lang/Throwable"
  | 3 => .array (.object "java/lang/StackTraceElement")
  | 4 => .int
  | 5 => .object "java/util/List"
  | 6 => .int
  | _ => .object "java/lang/String"
abbrev wsJx5d7770 : List Cond := u_ws RJx5d777 TJx5d777 8
theorem nmJx5d777 : ∀ a, a < 8 → ∀ b, b < 8 → a ≠ b → (TJx5d777 a).2.1 ≠ (TJx5d777 b).2.1 := by decide +kernel
theorem tyJx5d777_ok : ∀ k, k < 8 → parseFieldDescriptor (TJx5d777 k).2.2.1 = some (tyJx5d777 k) := by decide +kernel
abbrev cJx5d777_init_da8c8 : ByteArray := prog_15_method_1_code
def yJx5d777_init_da8c8 : MethodName := ⟨RJx5d777, "<init>", "()V"⟩
abbrev cJx5d777_init_a7421 : ByteArray := prog_15_method_2_code
def yJx5d777_init_a7421 : MethodName := ⟨RJx5d777, "<init>", "(Ljava/lang/String;)V"⟩
abbrev cJx5d777_fillInStackTrace_cddbd : ByteArray := prog_15_method_3_code
def yJx5d777_fillInStackTrace_cddbd : MethodName := ⟨RJx5d777, "fillInStackTrace", "()Ljava/lang/Throwable;"⟩
def RJ0 : String := "java/lang/String"
def TJ0 : u_T := fun k => match k with
  | 0 => ("java/lang/String", "value", "[B", true)
  | _ => ("java/lang/String", "coder", "B", true)
def tyJ0 : Nat → FieldType := fun k => match k with
  | 0 => .array .byte
  | _ => .byte
abbrev wsJ00 : List Cond := u_ws RJ0 TJ0 2
theorem nmJ0 : ∀ a, a < 2 → ∀ b, b < 2 → a ≠ b → (TJ0 a).2.1 ≠ (TJ0 b).2.1 := by decide +kernel
theorem tyJ0_ok : ∀ k, k < 2 → parseFieldDescriptor (TJ0 k).2.2.1 = some (tyJ0 k) := by decide +kernel
def RJ7 : String := "java/util/Arrays"
def TJ7 : u_T := fun k => match k with
  | _ => ("", "", "", false)
def tyJ7 : Nat → FieldType := fun k => match k with
  | _ => .int
abbrev wsJ70 : List Cond := u_ws RJ7 TJ7 0
theorem nmJ7 : ∀ a, a < 0 → ∀ b, b < 0 → a ≠ b → (TJ7 a).2.1 ≠ (TJ7 b).2.1 := by decide +kernel
theorem tyJ7_ok : ∀ k, k < 0 → parseFieldDescriptor (TJ7 k).2.2.1 = some (tyJ7 k) := by decide +kernel
abbrev cJ7_fill_53178 : ByteArray := prog_19_method_103_code
def yJ7_fill_53178 : MethodName := ⟨RJ7, "fill", "([II)V"⟩
def RL : String := "TrainedSegmentsLaw"
abbrev cL_content : ByteArray := method_3_code
def yL_content : MethodName := ⟨RL, "content", "(LTrainedSegments;II[J)I"⟩
abbrev cL_out : ByteArray := method_4_code
def yL_out : MethodName := ⟨RL, "out", "(LTrainedSegments;I[J)I"⟩
abbrev cL_text : ByteArray := method_5_code
def yL_text : MethodName := ⟨RL, "text", "(LTrainedSegments;I[J)I"⟩
abbrev cL_share : ByteArray := method_6_code
def yL_share : MethodName := ⟨RL, "share", "(LTrainedSegments;I[J)I"⟩
abbrev cL_law : ByteArray := code
def yL_law : MethodName := ⟨RL, "law", "([I)Z"⟩
def wsX4_init : List Cond := .code yX4_init cX4_init 2 none :: ([.methodLink RX4 1 objectInit, .instanceMethod objectInit, .code objectInit ⟨#[0xb1]⟩ 1 none, .methodLink RX4 7 Lib.Math.max.name, .static Lib.Math.max.name, .initialized "java/lang/Math", .code Lib.Math.max.name Lib.Math.max.code 2 (some .int), .arrayClass .byte, .fieldLink RX4 13 "TrainedSegments$Row" "bytes" "[B"] ++ wsX40)
def wsX0_init : List Cond := .code yX0_init cX0_init 1 none :: ([.methodLink RX0 3 objectInit, .instanceMethod objectInit, .code objectInit ⟨#[0xb1]⟩ 1 none, .classLink RX0 9 RX4, .instantiable RX4 2, .initialized RX4, .fieldLink RX0 14 "TrainedSegments$Dictionary" "words" "LTrainedSegments$Row;", .methodLink RX0 11 yX4_init, .instanceMethod yX4_init, .code yX4_init cX4_init 2 none, .methodLink RX4 1 objectInit, .methodLink RX4 7 Lib.Math.max.name, .static Lib.Math.max.name, .initialized "java/lang/Math", .code Lib.Math.max.name Lib.Math.max.code 2 (some .int), .arrayClass .byte, .fieldLink RX4 13 "TrainedSegments$Row" "bytes" "[B"] ++ wsX40 ++ wsX00)
def wsX0_words : List Cond := .code yX0_words cX0_words 1 (some (.object "TrainedSegments$Row")) :: ([.fieldLink RX0 14 "TrainedSegments$Dictionary" "words" "LTrainedSegments$Row;"] ++ wsX00)
def wsX0_id : List Cond := .code yX0_id cX0_id 1 (some .int) :: ([.fieldLink RX0 20 "TrainedSegments$Dictionary" "id" "I"] ++ wsX00)
def wsX0_isThere : List Cond := .code yX0_isThere cX0_isThere 1 (some .boolean) :: ([.fieldLink RX0 20 "TrainedSegments$Dictionary" "id" "I"] ++ wsX00)
def wsX0_pieces : List Cond := .code yX0_pieces cX0_pieces 1 (some .int) :: ([.fieldLink RX0 24 "TrainedSegments$Dictionary" "pieces" "I"] ++ wsX00)
def wsX0_pieceLength : List Cond := .code yX0_pieceLength cX0_pieceLength 1 (some .int) :: ([.fieldLink RX0 27 "TrainedSegments$Dictionary" "pieceLength" "I"] ++ wsX00)
def wsX4_has : List Cond := .code yX4_has cX4_has 2 (some .boolean) :: ([.fieldLink RX4 19 "TrainedSegments$Row" "length" "I"] ++ wsX40)
def wsX4_signedAt : List Cond := .code yX4_signedAt cX4_signedAt 2 (some .byte) :: ([.fieldLink RX4 13 "TrainedSegments$Row" "bytes" "[B", .methodLink RX4 23 yX4_has, .instanceMethod yX4_has, .selects RX4 yX4_has yX4_has, .initialized RX4, .code yX4_has cX4_has 2 (some .boolean), .fieldLink RX4 19 "TrainedSegments$Row" "length" "I"] ++ wsX40 ++ (vx_atN 8).filter goodWord ++ (vx_atM "java/lang/ArrayIndexOutOfBoundsException" ["java/lang/IndexOutOfBoundsException", "java/lang/RuntimeException", "java/lang/Exception"]).filter goodWord)
def wsX4_at : List Cond := .code yX4_at cX4_at 2 (some .int) :: ([.methodLink RX4 27 yX4_signedAt, .instanceMethod yX4_signedAt, .selects RX4 yX4_signedAt yX4_signedAt, .initialized RX4, .code yX4_signedAt cX4_signedAt 2 (some .byte), .fieldLink RX4 13 "TrainedSegments$Row" "bytes" "[B", .methodLink RX4 23 yX4_has, .instanceMethod yX4_has, .selects RX4 yX4_has yX4_has, .code yX4_has cX4_has 2 (some .boolean), .fieldLink RX4 19 "TrainedSegments$Row" "length" "I"] ++ wsX40 ++ (vx_atN 8).filter goodWord ++ (vx_atM "java/lang/ArrayIndexOutOfBoundsException" ["java/lang/IndexOutOfBoundsException", "java/lang/RuntimeException", "java/lang/Exception"]).filter goodWord)
def wsX4_sum : List Cond := .code yX4_sum cX4_sum 4 (some .int) :: ([.fieldLink RX4 19 "TrainedSegments$Row" "length" "I", .methodLink RX4 45 yX4_at, .instanceMethod yX4_at, .selects RX4 yX4_at yX4_at, .initialized RX4, .code yX4_at cX4_at 2 (some .int), .methodLink RX4 27 yX4_signedAt, .instanceMethod yX4_signedAt, .selects RX4 yX4_signedAt yX4_signedAt, .code yX4_signedAt cX4_signedAt 2 (some .byte), .fieldLink RX4 13 "TrainedSegments$Row" "bytes" "[B", .methodLink RX4 23 yX4_has, .instanceMethod yX4_has, .selects RX4 yX4_has yX4_has, .code yX4_has cX4_has 2 (some .boolean)] ++ wsX40 ++ (vx_atN 8).filter goodWord ++ (vx_atM "java/lang/ArrayIndexOutOfBoundsException" ["java/lang/IndexOutOfBoundsException", "java/lang/RuntimeException", "java/lang/Exception"]).filter goodWord)
def wsX0_sum : List Cond := .code yX0_sum cX0_sum 1 (some .int) :: ([.fieldLink RX0 20 "TrainedSegments$Dictionary" "id" "I", .fieldLink RX0 14 "TrainedSegments$Dictionary" "words" "LTrainedSegments$Row;", .methodLink RX0 30 yX4_sum, .instanceMethod yX4_sum, .selects RX4 yX4_sum yX4_sum, .initialized RX4, .code yX4_sum cX4_sum 4 (some .int), .fieldLink RX4 19 "TrainedSegments$Row" "length" "I", .methodLink RX4 45 yX4_at, .instanceMethod yX4_at, .selects RX4 yX4_at yX4_at, .code yX4_at cX4_at 2 (some .int), .methodLink RX4 27 yX4_signedAt, .instanceMethod yX4_signedAt, .selects RX4 yX4_signedAt yX4_signedAt, .code yX4_signedAt cX4_signedAt 2 (some .byte), .fieldLink RX4 13 "TrainedSegments$Row" "bytes" "[B", .methodLink RX4 23 yX4_has, .instanceMethod yX4_has, .selects RX4 yX4_has yX4_has, .code yX4_has cX4_has 2 (some .boolean)] ++ wsX00 ++ wsX40 ++ (vx_atN 8).filter goodWord ++ (vx_atM "java/lang/ArrayIndexOutOfBoundsException" ["java/lang/IndexOutOfBoundsException", "java/lang/RuntimeException", "java/lang/Exception"]).filter goodWord)
def wsX4_clear : List Cond := .code yX4_clear cX4_clear 1 none :: ([.fieldLink RX4 19 "TrainedSegments$Row" "length" "I"] ++ wsX40)
def wsX0_begin : List Cond := .code yX0_begin cX0_begin 3 none :: ([.fieldLink RX0 20 "TrainedSegments$Dictionary" "id" "I", .fieldLink RX0 27 "TrainedSegments$Dictionary" "pieceLength" "I", .fieldLink RX0 24 "TrainedSegments$Dictionary" "pieces" "I", .fieldLink RX0 14 "TrainedSegments$Dictionary" "words" "LTrainedSegments$Row;", .methodLink RX0 34 yX4_clear, .instanceMethod yX4_clear, .selects RX4 yX4_clear yX4_clear, .initialized RX4, .code yX4_clear cX4_clear 1 none, .fieldLink RX4 19 "TrainedSegments$Row" "length" "I"] ++ wsX00 ++ wsX40 ++ (vx_atN 8).filter goodWord)
def wsX4_hasRoom : List Cond := .code yX4_hasRoom cX4_hasRoom 2 (some .boolean) :: ([.fieldLink RX4 13 "TrainedSegments$Row" "bytes" "[B", .fieldLink RX4 19 "TrainedSegments$Row" "length" "I"] ++ wsX40 ++ (vx_atN 8).filter goodWord)
def wsX4_add : List Cond := .code yX4_add cX4_add 2 none :: ([.fieldLink RX4 19 "TrainedSegments$Row" "length" "I", .fieldLink RX4 13 "TrainedSegments$Row" "bytes" "[B"] ++ wsX40 ++ (vx_atN 8).filter goodWord ++ (vx_atM "java/lang/ArrayIndexOutOfBoundsException" ["java/lang/IndexOutOfBoundsException", "java/lang/RuntimeException", "java/lang/Exception"]).filter goodWord)
def wsX4_addFrom : List Cond := .code yX4_addFrom cX4_addFrom 5 none :: ([.methodLink RX4 27 yX4_signedAt, .instanceMethod yX4_signedAt, .selects RX4 yX4_signedAt yX4_signedAt, .initialized RX4, .code yX4_signedAt cX4_signedAt 2 (some .byte), .fieldLink RX4 13 "TrainedSegments$Row" "bytes" "[B", .methodLink RX4 23 yX4_has, .instanceMethod yX4_has, .selects RX4 yX4_has yX4_has, .code yX4_has cX4_has 2 (some .boolean), .fieldLink RX4 19 "TrainedSegments$Row" "length" "I", .methodLink RX4 31 yX4_add, .instanceMethod yX4_add, .selects RX4 yX4_add yX4_add, .code yX4_add cX4_add 2 none] ++ wsX40 ++ (vx_atN 8).filter goodWord ++ (vx_atM "java/lang/ArrayIndexOutOfBoundsException" ["java/lang/IndexOutOfBoundsException", "java/lang/RuntimeException", "java/lang/Exception"]).filter goodWord)
def wsX0_addPiece_r1 : List Cond := [Cond.fieldLink RX0 27 "TrainedSegments$Dictionary" "pieceLength" "I", Cond.fieldLink RX0 14 "TrainedSegments$Dictionary" "words" "LTrainedSegments$Row;", Cond.fieldLink RX0 24 "TrainedSegments$Dictionary" "pieces" "I", Cond.methodLink RX0 37 yX4_hasRoom, Cond.instanceMethod yX4_hasRoom, Cond.selects RX4 yX4_hasRoom yX4_hasRoom, Cond.initialized RX4, Cond.code yX4_hasRoom cX4_hasRoom 2 (some .boolean), Cond.fieldLink RX4 13 "TrainedSegments$Row" "bytes" "[B", Cond.fieldLink RX4 19 "TrainedSegments$Row" "length" "I", Cond.methodLink RX0 41 yX4_addFrom, Cond.instanceMethod yX4_addFrom, Cond.selects RX4 yX4_addFrom yX4_addFrom, Cond.code yX4_addFrom cX4_addFrom 5 none, Cond.methodLink RX4 27 yX4_signedAt, Cond.instanceMethod yX4_signedAt, Cond.selects RX4 yX4_signedAt yX4_signedAt, Cond.code yX4_signedAt cX4_signedAt 2 (some .byte), Cond.methodLink RX4 23 yX4_has, Cond.instanceMethod yX4_has, Cond.selects RX4 yX4_has yX4_has, Cond.code yX4_has cX4_has 2 (some .boolean), Cond.methodLink RX4 31 yX4_add, Cond.instanceMethod yX4_add]
def wsX0_addPiece_r2 : List Cond := [Cond.selects RX4 yX4_add yX4_add, Cond.code yX4_add cX4_add 2 none]
def wsX0_addPiece : List Cond := .code yX0_addPiece cX0_addPiece 3 none :: ((wsX0_addPiece_r1 ++ wsX0_addPiece_r2) ++ wsX00 ++ wsX40 ++ (vx_atN 8).filter goodWord ++ (vx_atM "java/lang/ArrayIndexOutOfBoundsException" ["java/lang/IndexOutOfBoundsException", "java/lang/RuntimeException", "java/lang/Exception"]).filter goodWord)
def wsX4_become : List Cond := .code yX4_become cX4_become 2 none :: ([.fieldLink RX4 19 "TrainedSegments$Row" "length" "I", .methodLink RX4 35 yX4_clear, .instanceMethod yX4_clear, .selects RX4 yX4_clear yX4_clear, .initialized RX4, .code yX4_clear cX4_clear 1 none, .methodLink RX4 38 yX4_addFrom, .instanceMethod yX4_addFrom, .selects RX4 yX4_addFrom yX4_addFrom, .code yX4_addFrom cX4_addFrom 5 none, .methodLink RX4 27 yX4_signedAt, .instanceMethod yX4_signedAt, .selects RX4 yX4_signedAt yX4_signedAt, .code yX4_signedAt cX4_signedAt 2 (some .byte), .fieldLink RX4 13 "TrainedSegments$Row" "bytes" "[B", .methodLink RX4 23 yX4_has, .instanceMethod yX4_has, .selects RX4 yX4_has yX4_has, .code yX4_has cX4_has 2 (some .boolean), .methodLink RX4 31 yX4_add, .instanceMethod yX4_add, .selects RX4 yX4_add yX4_add, .code yX4_add cX4_add 2 none] ++ wsX40 ++ (vx_atN 8).filter goodWord ++ (vx_atM "java/lang/ArrayIndexOutOfBoundsException" ["java/lang/IndexOutOfBoundsException", "java/lang/RuntimeException", "java/lang/Exception"]).filter goodWord)
def wsX4_cutOut : List Cond := .code yX4_cutOut cX4_cutOut 5 none :: ([.fieldLink RX4 19 "TrainedSegments$Row" "length" "I", .fieldLink RX4 13 "TrainedSegments$Row" "bytes" "[B", .methodLink RX4 31 yX4_add, .instanceMethod yX4_add, .selects RX4 yX4_add yX4_add, .initialized RX4, .code yX4_add cX4_add 2 none] ++ wsX40 ++ (vx_atM "java/lang/ArrayIndexOutOfBoundsException" ["java/lang/IndexOutOfBoundsException", "java/lang/RuntimeException", "java/lang/Exception"]).filter goodWord ++ (vx_atN 8).filter goodWord)
def wsX0_copyWithout_r1 : List Cond := [Cond.fieldLink RX0 14 "TrainedSegments$Dictionary" "words" "LTrainedSegments$Row;", Cond.fieldLink RX0 27 "TrainedSegments$Dictionary" "pieceLength" "I", Cond.methodLink RX0 45 yX4_become, Cond.instanceMethod yX4_become, Cond.selects RX4 yX4_become yX4_become, Cond.initialized RX4, Cond.code yX4_become cX4_become 2 none, Cond.fieldLink RX4 19 "TrainedSegments$Row" "length" "I", Cond.methodLink RX4 35 yX4_clear, Cond.instanceMethod yX4_clear, Cond.selects RX4 yX4_clear yX4_clear, Cond.code yX4_clear cX4_clear 1 none, Cond.methodLink RX4 38 yX4_addFrom, Cond.instanceMethod yX4_addFrom, Cond.selects RX4 yX4_addFrom yX4_addFrom, Cond.code yX4_addFrom cX4_addFrom 5 none, Cond.methodLink RX4 27 yX4_signedAt, Cond.instanceMethod yX4_signedAt, Cond.selects RX4 yX4_signedAt yX4_signedAt, Cond.code yX4_signedAt cX4_signedAt 2 (some .byte), Cond.fieldLink RX4 13 "TrainedSegments$Row" "bytes" "[B", Cond.methodLink RX4 23 yX4_has, Cond.instanceMethod yX4_has, Cond.selects RX4 yX4_has yX4_has]
def wsX0_copyWithout_r2 : List Cond := [Cond.code yX4_has cX4_has 2 (some .boolean), Cond.methodLink RX4 31 yX4_add, Cond.instanceMethod yX4_add, Cond.selects RX4 yX4_add yX4_add, Cond.code yX4_add cX4_add 2 none, Cond.methodLink RX0 49 yX4_cutOut, Cond.instanceMethod yX4_cutOut, Cond.selects RX4 yX4_cutOut yX4_cutOut, Cond.code yX4_cutOut cX4_cutOut 5 none]
def wsX0_copyWithout : List Cond := .code yX0_copyWithout cX0_copyWithout 3 none :: ((wsX0_copyWithout_r1 ++ wsX0_copyWithout_r2) ++ wsX00 ++ wsX40 ++ (vx_atN 8).filter goodWord ++ (vx_atM "java/lang/ArrayIndexOutOfBoundsException" ["java/lang/IndexOutOfBoundsException", "java/lang/RuntimeException", "java/lang/Exception"]).filter goodWord)
def wsX0_removePiece : List Cond := .code yX0_removePiece cX0_removePiece 2 none :: ([.fieldLink RX0 24 "TrainedSegments$Dictionary" "pieces" "I", .fieldLink RX0 14 "TrainedSegments$Dictionary" "words" "LTrainedSegments$Row;", .fieldLink RX0 27 "TrainedSegments$Dictionary" "pieceLength" "I", .methodLink RX0 49 yX4_cutOut, .instanceMethod yX4_cutOut, .selects RX4 yX4_cutOut yX4_cutOut, .initialized RX4, .code yX4_cutOut cX4_cutOut 5 none, .fieldLink RX4 19 "TrainedSegments$Row" "length" "I", .fieldLink RX4 13 "TrainedSegments$Row" "bytes" "[B", .methodLink RX4 31 yX4_add, .instanceMethod yX4_add, .selects RX4 yX4_add yX4_add, .code yX4_add cX4_add 2 none] ++ wsX00 ++ wsX40 ++ (vx_atN 8).filter goodWord ++ (vx_atM "java/lang/ArrayIndexOutOfBoundsException" ["java/lang/IndexOutOfBoundsException", "java/lang/RuntimeException", "java/lang/Exception"]).filter goodWord)
def wsX1_init : List Cond := .code yX1_init cX1_init 1 none :: ([.methodLink RX1 3 objectInit, .instanceMethod objectInit, .code objectInit ⟨#[0xb1]⟩ 1 none, .classLink RX1 9 RX4, .instantiable RX4 2, .initialized RX4, .fieldLink RX1 14 "TrainedSegments$Opener" "joined" "LTrainedSegments$Row;", .methodLink RX1 11 yX4_init, .instanceMethod yX4_init, .code yX4_init cX4_init 2 none, .methodLink RX4 1 objectInit, .methodLink RX4 7 Lib.Math.max.name, .static Lib.Math.max.name, .initialized "java/lang/Math", .code Lib.Math.max.name Lib.Math.max.code 2 (some .int), .arrayClass .byte, .fieldLink RX4 13 "TrainedSegments$Row" "bytes" "[B"] ++ wsX40 ++ wsX10)
def wsX4_length : List Cond := .code yX4_length cX4_length 1 (some .int) :: ([.fieldLink RX4 19 "TrainedSegments$Row" "length" "I"] ++ wsX40)
def wsX1_wrongInHeader_r1 : List Cond := [Cond.methodLink RX1 20 yX4_length, Cond.instanceMethod yX4_length, Cond.selects RX4 yX4_length yX4_length, Cond.initialized RX4, Cond.code yX4_length cX4_length 1 (some .int), Cond.fieldLink RX4 19 "TrainedSegments$Row" "length" "I", Cond.methodLink RX1 42 yX4_at, Cond.instanceMethod yX4_at, Cond.selects RX4 yX4_at yX4_at, Cond.code yX4_at cX4_at 2 (some .int), Cond.methodLink RX4 27 yX4_signedAt, Cond.instanceMethod yX4_signedAt, Cond.selects RX4 yX4_signedAt yX4_signedAt, Cond.code yX4_signedAt cX4_signedAt 2 (some .byte), Cond.fieldLink RX4 13 "TrainedSegments$Row" "bytes" "[B", Cond.methodLink RX4 23 yX4_has, Cond.instanceMethod yX4_has, Cond.selects RX4 yX4_has yX4_has, Cond.code yX4_has cX4_has 2 (some .boolean), Cond.methodLink RX1 63 yX0_sum, Cond.instanceMethod yX0_sum, Cond.selects RX0 yX0_sum yX0_sum, Cond.initialized RX0, Cond.code yX0_sum cX0_sum 1 (some .int)]
def wsX1_wrongInHeader_r2 : List Cond := [Cond.fieldLink RX0 20 "TrainedSegments$Dictionary" "id" "I", Cond.fieldLink RX0 14 "TrainedSegments$Dictionary" "words" "LTrainedSegments$Row;", Cond.methodLink RX0 30 yX4_sum, Cond.instanceMethod yX4_sum, Cond.selects RX4 yX4_sum yX4_sum, Cond.code yX4_sum cX4_sum 4 (some .int), Cond.methodLink RX4 45 yX4_at]
def wsX1_wrongInHeader : List Cond := .code yX1_wrongInHeader cX1_wrongInHeader 3 (some .int) :: ((wsX1_wrongInHeader_r1 ++ wsX1_wrongInHeader_r2) ++ wsX40 ++ wsX00 ++ (vx_atN 8).filter goodWord ++ (vx_atM "java/lang/ArrayIndexOutOfBoundsException" ["java/lang/IndexOutOfBoundsException", "java/lang/RuntimeException", "java/lang/Exception"]).filter goodWord)
def wsX1_readPlain_r1 : List Cond := [Cond.fieldLink RX1 49 "TrainedSegments$Opener" "place" "I", Cond.fieldLink RX1 14 "TrainedSegments$Opener" "joined" "LTrainedSegments$Row;", Cond.methodLink RX1 20 yX4_length, Cond.instanceMethod yX4_length, Cond.selects RX4 yX4_length yX4_length, Cond.initialized RX4, Cond.code yX4_length cX4_length 1 (some .int), Cond.fieldLink RX4 19 "TrainedSegments$Row" "length" "I", Cond.methodLink RX1 59 yX4_addFrom, Cond.instanceMethod yX4_addFrom, Cond.selects RX4 yX4_addFrom yX4_addFrom, Cond.code yX4_addFrom cX4_addFrom 5 none, Cond.methodLink RX4 27 yX4_signedAt, Cond.instanceMethod yX4_signedAt, Cond.selects RX4 yX4_signedAt yX4_signedAt, Cond.code yX4_signedAt cX4_signedAt 2 (some .byte), Cond.fieldLink RX4 13 "TrainedSegments$Row" "bytes" "[B", Cond.methodLink RX4 23 yX4_has, Cond.instanceMethod yX4_has, Cond.selects RX4 yX4_has yX4_has, Cond.code yX4_has cX4_has 2 (some .boolean), Cond.methodLink RX4 31 yX4_add, Cond.instanceMethod yX4_add, Cond.selects RX4 yX4_add yX4_add]
def wsX1_readPlain_r2 : List Cond := [Cond.code yX4_add cX4_add 2 none]
def wsX1_readPlain : List Cond := .code yX1_readPlain cX1_readPlain 3 (some .int) :: ((wsX1_readPlain_r1 ++ wsX1_readPlain_r2) ++ wsX10 ++ wsX40 ++ (vx_atN 8).filter goodWord ++ (vx_atM "java/lang/ArrayIndexOutOfBoundsException" ["java/lang/IndexOutOfBoundsException", "java/lang/RuntimeException", "java/lang/Exception"]).filter goodWord)
def wsX1_readMatch_r1 : List Cond := [Cond.fieldLink RX1 49 "TrainedSegments$Opener" "place" "I", Cond.fieldLink RX1 14 "TrainedSegments$Opener" "joined" "LTrainedSegments$Row;", Cond.methodLink RX1 20 yX4_length, Cond.instanceMethod yX4_length, Cond.selects RX4 yX4_length yX4_length, Cond.initialized RX4, Cond.code yX4_length cX4_length 1 (some .int), Cond.fieldLink RX4 19 "TrainedSegments$Row" "length" "I", Cond.methodLink RX1 42 yX4_at, Cond.instanceMethod yX4_at, Cond.selects RX4 yX4_at yX4_at, Cond.code yX4_at cX4_at 2 (some .int), Cond.methodLink RX4 27 yX4_signedAt, Cond.instanceMethod yX4_signedAt, Cond.selects RX4 yX4_signedAt yX4_signedAt, Cond.code yX4_signedAt cX4_signedAt 2 (some .byte), Cond.fieldLink RX4 13 "TrainedSegments$Row" "bytes" "[B", Cond.methodLink RX4 23 yX4_has, Cond.instanceMethod yX4_has, Cond.selects RX4 yX4_has yX4_has, Cond.code yX4_has cX4_has 2 (some .boolean), Cond.methodLink RX1 74 yX4_add, Cond.instanceMethod yX4_add, Cond.selects RX4 yX4_add yX4_add]
def wsX1_readMatch_r2 : List Cond := [Cond.code yX4_add cX4_add 2 none]
def wsX1_readMatch : List Cond := .code yX1_readMatch cX1_readMatch 6 (some .int) :: ((wsX1_readMatch_r1 ++ wsX1_readMatch_r2) ++ wsX10 ++ wsX40 ++ (vx_atN 8).filter goodWord ++ (vx_atM "java/lang/ArrayIndexOutOfBoundsException" ["java/lang/IndexOutOfBoundsException", "java/lang/RuntimeException", "java/lang/Exception"]).filter goodWord)
def wsX1_readItem_r1 : List Cond := [Cond.fieldLink RX1 49 "TrainedSegments$Opener" "place" "I", Cond.fieldLink RX1 46 "TrainedSegments$Opener" "wanted" "I", Cond.methodLink RX1 20 yX4_length, Cond.instanceMethod yX4_length, Cond.selects RX4 yX4_length yX4_length, Cond.initialized RX4, Cond.code yX4_length cX4_length 1 (some .int), Cond.fieldLink RX4 19 "TrainedSegments$Row" "length" "I", Cond.methodLink RX1 42 yX4_at, Cond.instanceMethod yX4_at, Cond.selects RX4 yX4_at yX4_at, Cond.code yX4_at cX4_at 2 (some .int), Cond.methodLink RX4 27 yX4_signedAt, Cond.instanceMethod yX4_signedAt, Cond.selects RX4 yX4_signedAt yX4_signedAt, Cond.code yX4_signedAt cX4_signedAt 2 (some .byte), Cond.fieldLink RX4 13 "TrainedSegments$Row" "bytes" "[B", Cond.methodLink RX4 23 yX4_has, Cond.instanceMethod yX4_has, Cond.selects RX4 yX4_has yX4_has, Cond.code yX4_has cX4_has 2 (some .boolean), Cond.methodLink RX1 66 yX1_readPlain, Cond.instanceMethod yX1_readPlain, Cond.selects RX1 yX1_readPlain yX1_readPlain]
def wsX1_readItem_r2 : List Cond := [Cond.initialized RX1, Cond.code yX1_readPlain cX1_readPlain 3 (some .int), Cond.fieldLink RX1 14 "TrainedSegments$Opener" "joined" "LTrainedSegments$Row;", Cond.methodLink RX1 59 yX4_addFrom, Cond.instanceMethod yX4_addFrom, Cond.selects RX4 yX4_addFrom yX4_addFrom, Cond.code yX4_addFrom cX4_addFrom 5 none, Cond.methodLink RX4 31 yX4_add, Cond.instanceMethod yX4_add, Cond.selects RX4 yX4_add yX4_add, Cond.code yX4_add cX4_add 2 none, Cond.methodLink RX1 70 yX1_readMatch, Cond.instanceMethod yX1_readMatch, Cond.selects RX1 yX1_readMatch yX1_readMatch, Cond.code yX1_readMatch cX1_readMatch 6 (some .int), Cond.methodLink RX1 74 yX4_add]
def wsX1_readItem : List Cond := .code yX1_readItem cX1_readItem 4 (some .int) :: ((wsX1_readItem_r1 ++ wsX1_readItem_r2) ++ wsX10 ++ wsX40 ++ (vx_atN 8).filter goodWord ++ (vx_atM "java/lang/ArrayIndexOutOfBoundsException" ["java/lang/IndexOutOfBoundsException", "java/lang/RuntimeException", "java/lang/Exception"]).filter goodWord)
def wsX1_decode_r1 : List Cond := [Cond.fieldLink RX1 14 "TrainedSegments$Opener" "joined" "LTrainedSegments$Row;", Cond.fieldLink RX1 38 "TrainedSegments$Opener" "start" "I", Cond.fieldLink RX1 46 "TrainedSegments$Opener" "wanted" "I", Cond.fieldLink RX1 49 "TrainedSegments$Opener" "place" "I", Cond.methodLink RX1 20 yX4_length, Cond.instanceMethod yX4_length, Cond.selects RX4 yX4_length yX4_length, Cond.initialized RX4, Cond.code yX4_length cX4_length 1 (some .int), Cond.fieldLink RX4 19 "TrainedSegments$Row" "length" "I", Cond.methodLink RX1 24 yX1_wrongInHeader, Cond.instanceMethod yX1_wrongInHeader, Cond.selects RX1 yX1_wrongInHeader yX1_wrongInHeader, Cond.initialized RX1, Cond.code yX1_wrongInHeader cX1_wrongInHeader 3 (some .int), Cond.methodLink RX1 42 yX4_at, Cond.instanceMethod yX4_at, Cond.selects RX4 yX4_at yX4_at, Cond.code yX4_at cX4_at 2 (some .int), Cond.methodLink RX4 27 yX4_signedAt, Cond.instanceMethod yX4_signedAt, Cond.selects RX4 yX4_signedAt yX4_signedAt, Cond.code yX4_signedAt cX4_signedAt 2 (some .byte), Cond.fieldLink RX4 13 "TrainedSegments$Row" "bytes" "[B"]
def wsX1_decode_r2 : List Cond := [Cond.methodLink RX4 23 yX4_has, Cond.instanceMethod yX4_has, Cond.selects RX4 yX4_has yX4_has, Cond.code yX4_has cX4_has 2 (some .boolean), Cond.methodLink RX1 63 yX0_sum, Cond.instanceMethod yX0_sum, Cond.selects RX0 yX0_sum yX0_sum, Cond.initialized RX0, Cond.code yX0_sum cX0_sum 1 (some .int), Cond.fieldLink RX0 20 "TrainedSegments$Dictionary" "id" "I", Cond.fieldLink RX0 14 "TrainedSegments$Dictionary" "words" "LTrainedSegments$Row;", Cond.methodLink RX0 30 yX4_sum, Cond.instanceMethod yX4_sum, Cond.selects RX4 yX4_sum yX4_sum, Cond.code yX4_sum cX4_sum 4 (some .int), Cond.methodLink RX4 45 yX4_at, Cond.methodLink RX1 28 yX0_words, Cond.instanceMethod yX0_words, Cond.selects RX0 yX0_words yX0_words, Cond.code yX0_words cX0_words 1 (some (.object "TrainedSegments$Row")), Cond.methodLink RX1 34 yX4_become, Cond.instanceMethod yX4_become, Cond.selects RX4 yX4_become yX4_become, Cond.code yX4_become cX4_become 2 none]
def wsX1_decode_r3 : List Cond := [Cond.methodLink RX4 35 yX4_clear, Cond.instanceMethod yX4_clear, Cond.selects RX4 yX4_clear yX4_clear, Cond.code yX4_clear cX4_clear 1 none, Cond.methodLink RX4 38 yX4_addFrom, Cond.instanceMethod yX4_addFrom, Cond.selects RX4 yX4_addFrom yX4_addFrom, Cond.code yX4_addFrom cX4_addFrom 5 none, Cond.methodLink RX4 31 yX4_add, Cond.instanceMethod yX4_add, Cond.selects RX4 yX4_add yX4_add, Cond.code yX4_add cX4_add 2 none, Cond.methodLink RX1 52 yX1_readItem, Cond.instanceMethod yX1_readItem, Cond.selects RX1 yX1_readItem yX1_readItem, Cond.code yX1_readItem cX1_readItem 4 (some .int), Cond.methodLink RX1 66 yX1_readPlain, Cond.instanceMethod yX1_readPlain, Cond.selects RX1 yX1_readPlain yX1_readPlain, Cond.code yX1_readPlain cX1_readPlain 3 (some .int), Cond.methodLink RX1 59 yX4_addFrom, Cond.methodLink RX1 70 yX1_readMatch, Cond.instanceMethod yX1_readMatch, Cond.selects RX1 yX1_readMatch yX1_readMatch]
def wsX1_decode_r4 : List Cond := [Cond.code yX1_readMatch cX1_readMatch 6 (some .int), Cond.methodLink RX1 74 yX4_add]
def wsX1_decode : List Cond := .code yX1_decode cX1_decode 5 (some .int) :: ((wsX1_decode_r1 ++ (wsX1_decode_r2 ++ (wsX1_decode_r3 ++ wsX1_decode_r4))) ++ wsX10 ++ wsX40 ++ wsX00 ++ (vx_atN 8).filter goodWord ++ (vx_atM "java/lang/ArrayIndexOutOfBoundsException" ["java/lang/IndexOutOfBoundsException", "java/lang/RuntimeException", "java/lang/Exception"]).filter goodWord)
def wsX1_handOver_r1 : List Cond := [Cond.fieldLink RX1 14 "TrainedSegments$Opener" "joined" "LTrainedSegments$Row;", Cond.fieldLink RX1 38 "TrainedSegments$Opener" "start" "I", Cond.methodLink RX1 56 yX4_clear, Cond.instanceMethod yX4_clear, Cond.selects RX4 yX4_clear yX4_clear, Cond.initialized RX4, Cond.code yX4_clear cX4_clear 1 none, Cond.fieldLink RX4 19 "TrainedSegments$Row" "length" "I", Cond.methodLink RX1 20 yX4_length, Cond.instanceMethod yX4_length, Cond.selects RX4 yX4_length yX4_length, Cond.code yX4_length cX4_length 1 (some .int), Cond.methodLink RX1 59 yX4_addFrom, Cond.instanceMethod yX4_addFrom, Cond.selects RX4 yX4_addFrom yX4_addFrom, Cond.code yX4_addFrom cX4_addFrom 5 none, Cond.methodLink RX4 27 yX4_signedAt, Cond.instanceMethod yX4_signedAt, Cond.selects RX4 yX4_signedAt yX4_signedAt, Cond.code yX4_signedAt cX4_signedAt 2 (some .byte), Cond.fieldLink RX4 13 "TrainedSegments$Row" "bytes" "[B", Cond.methodLink RX4 23 yX4_has, Cond.instanceMethod yX4_has, Cond.selects RX4 yX4_has yX4_has]
def wsX1_handOver_r2 : List Cond := [Cond.code yX4_has cX4_has 2 (some .boolean), Cond.methodLink RX4 31 yX4_add, Cond.instanceMethod yX4_add, Cond.selects RX4 yX4_add yX4_add, Cond.code yX4_add cX4_add 2 none]
def wsX1_handOver : List Cond := .code yX1_handOver cX1_handOver 2 none :: ((wsX1_handOver_r1 ++ wsX1_handOver_r2) ++ wsX10 ++ wsX40 ++ (vx_atN 8).filter goodWord ++ (vx_atM "java/lang/ArrayIndexOutOfBoundsException" ["java/lang/IndexOutOfBoundsException", "java/lang/RuntimeException", "java/lang/Exception"]).filter goodWord)
def wsX2_init : List Cond := .code yX2_init cX2_init 1 none :: ([.methodLink RX2 3 objectInit, .instanceMethod objectInit, .code objectInit ⟨#[0xb1]⟩ 1 none, .classLink RX2 9 RX4, .instantiable RX4 2, .initialized RX4, .fieldLink RX2 14 "TrainedSegments$Output" "bytes" "LTrainedSegments$Row;", .methodLink RX2 11 yX4_init, .instanceMethod yX4_init, .code yX4_init cX4_init 2 none, .methodLink RX4 1 objectInit, .methodLink RX4 7 Lib.Math.max.name, .static Lib.Math.max.name, .initialized "java/lang/Math", .code Lib.Math.max.name Lib.Math.max.code 2 (some .int), .arrayClass .byte, .fieldLink RX4 13 "TrainedSegments$Row" "bytes" "[B"] ++ wsX40 ++ wsX20)
def wsX2_bytes : List Cond := .code yX2_bytes cX2_bytes 1 (some (.object "TrainedSegments$Row")) :: ([.fieldLink RX2 14 "TrainedSegments$Output" "bytes" "LTrainedSegments$Row;"] ++ wsX20)
def wsX2_items : List Cond := .code yX2_items cX2_items 1 (some .int) :: ([.fieldLink RX2 20 "TrainedSegments$Output" "items" "I"] ++ wsX20)
def wsX2_matches : List Cond := .code yX2_matches cX2_matches 1 (some .int) :: ([.fieldLink RX2 24 "TrainedSegments$Output" "matches" "I"] ++ wsX20)
def wsX2_begin_r1 : List Cond := [Cond.fieldLink RX2 20 "TrainedSegments$Output" "items" "I", Cond.fieldLink RX2 24 "TrainedSegments$Output" "matches" "I", Cond.fieldLink RX2 14 "TrainedSegments$Output" "bytes" "LTrainedSegments$Row;", Cond.methodLink RX2 27 yX4_clear, Cond.instanceMethod yX4_clear, Cond.selects RX4 yX4_clear yX4_clear, Cond.initialized RX4, Cond.code yX4_clear cX4_clear 1 none, Cond.fieldLink RX4 19 "TrainedSegments$Row" "length" "I", Cond.methodLink RX2 30 yX0_id, Cond.instanceMethod yX0_id, Cond.selects RX0 yX0_id yX0_id, Cond.initialized RX0, Cond.code yX0_id cX0_id 1 (some .int), Cond.fieldLink RX0 20 "TrainedSegments$Dictionary" "id" "I", Cond.methodLink RX2 36 yX4_add, Cond.instanceMethod yX4_add, Cond.selects RX4 yX4_add yX4_add, Cond.code yX4_add cX4_add 2 none, Cond.fieldLink RX4 13 "TrainedSegments$Row" "bytes" "[B", Cond.methodLink RX2 39 yX0_sum, Cond.instanceMethod yX0_sum, Cond.selects RX0 yX0_sum yX0_sum, Cond.code yX0_sum cX0_sum 1 (some .int)]
def wsX2_begin_r2 : List Cond := [Cond.fieldLink RX0 14 "TrainedSegments$Dictionary" "words" "LTrainedSegments$Row;", Cond.methodLink RX0 30 yX4_sum, Cond.instanceMethod yX4_sum, Cond.selects RX4 yX4_sum yX4_sum, Cond.code yX4_sum cX4_sum 4 (some .int), Cond.methodLink RX4 45 yX4_at, Cond.instanceMethod yX4_at, Cond.selects RX4 yX4_at yX4_at, Cond.code yX4_at cX4_at 2 (some .int), Cond.methodLink RX4 27 yX4_signedAt, Cond.instanceMethod yX4_signedAt, Cond.selects RX4 yX4_signedAt yX4_signedAt, Cond.code yX4_signedAt cX4_signedAt 2 (some .byte), Cond.methodLink RX4 23 yX4_has, Cond.instanceMethod yX4_has, Cond.selects RX4 yX4_has yX4_has, Cond.code yX4_has cX4_has 2 (some .boolean)]
def wsX2_begin : List Cond := .code yX2_begin cX2_begin 3 none :: ((wsX2_begin_r1 ++ wsX2_begin_r2) ++ wsX20 ++ wsX40 ++ wsX00 ++ (vx_atN 8).filter goodWord ++ (vx_atM "java/lang/ArrayIndexOutOfBoundsException" ["java/lang/IndexOutOfBoundsException", "java/lang/RuntimeException", "java/lang/Exception"]).filter goodWord)
def wsX2_addMatch : List Cond := .code yX2_addMatch cX2_addMatch 3 none :: ([.fieldLink RX2 14 "TrainedSegments$Output" "bytes" "LTrainedSegments$Row;", .fieldLink RX2 20 "TrainedSegments$Output" "items" "I", .fieldLink RX2 24 "TrainedSegments$Output" "matches" "I", .methodLink RX2 36 yX4_add, .instanceMethod yX4_add, .selects RX4 yX4_add yX4_add, .initialized RX4, .code yX4_add cX4_add 2 none, .fieldLink RX4 19 "TrainedSegments$Row" "length" "I", .fieldLink RX4 13 "TrainedSegments$Row" "bytes" "[B"] ++ wsX20 ++ wsX40 ++ (vx_atN 8).filter goodWord ++ (vx_atM "java/lang/ArrayIndexOutOfBoundsException" ["java/lang/IndexOutOfBoundsException", "java/lang/RuntimeException", "java/lang/Exception"]).filter goodWord)
def wsX2_addPlain : List Cond := .code yX2_addPlain cX2_addPlain 5 none :: ([.fieldLink RX2 14 "TrainedSegments$Output" "bytes" "LTrainedSegments$Row;", .fieldLink RX2 20 "TrainedSegments$Output" "items" "I", .methodLink RX2 36 yX4_add, .instanceMethod yX4_add, .selects RX4 yX4_add yX4_add, .initialized RX4, .code yX4_add cX4_add 2 none, .fieldLink RX4 19 "TrainedSegments$Row" "length" "I", .fieldLink RX4 13 "TrainedSegments$Row" "bytes" "[B"] ++ wsX20 ++ wsX40 ++ (vx_atN 8).filter goodWord ++ (vx_atM "java/lang/ArrayIndexOutOfBoundsException" ["java/lang/IndexOutOfBoundsException", "java/lang/RuntimeException", "java/lang/Exception"]).filter goodWord)
def wsX3_init : List Cond := .code yX3_init cX3_init 1 none :: ([.methodLink RX3 3 objectInit, .instanceMethod objectInit, .code objectInit ⟨#[0xb1]⟩ 1 none, .arrayClass .byte, .fieldLink RX3 9 "TrainedSegments$Packer" "joined" "[B", .arrayClass .int, .fieldLink RX3 15 "TrainedSegments$Packer" "earlier" "[I", .fieldLink RX3 19 "TrainedSegments$Packer" "latest" "[I", .fieldLink RX3 22 "TrainedSegments$Packer" "cost" "[I", .fieldLink RX3 25 "TrainedSegments$Packer" "choice" "[I"] ++ wsX30)
def wsX4_copyTo : List Cond := .code yX4_copyTo cX4_copyTo 5 (some .int) :: ([.fieldLink RX4 19 "TrainedSegments$Row" "length" "I", .methodLink RX4 42 Lib.Math.min.name, .static Lib.Math.min.name, .initialized "java/lang/Math", .code Lib.Math.min.name Lib.Math.min.code 2 (some .int), .methodLink RX4 7 Lib.Math.max.name, .static Lib.Math.max.name, .code Lib.Math.max.name Lib.Math.max.code 2 (some .int), .fieldLink RX4 13 "TrainedSegments$Row" "bytes" "[B"] ++ wsX40 ++ (vx_atN 8).filter goodWord ++ (vx_atM "java/lang/ArrayIndexOutOfBoundsException" ["java/lang/IndexOutOfBoundsException", "java/lang/RuntimeException", "java/lang/Exception"]).filter goodWord)
def wsJ7_fill_53178 : List Cond := .code yJ7_fill_53178 cJ7_fill_53178 4 none :: ([])
def wsX3_linkSameBytes : List Cond := .code yX3_linkSameBytes cX3_linkSameBytes 3 none :: ([.fieldLink RX3 19 "TrainedSegments$Packer" "latest" "[I", .fieldLink RX3 34 "TrainedSegments$Packer" "start" "I", .fieldLink RX3 44 "TrainedSegments$Packer" "length" "I", .fieldLink RX3 9 "TrainedSegments$Packer" "joined" "[B", .fieldLink RX3 15 "TrainedSegments$Packer" "earlier" "[I", .methodLink RX3 77 yJ7_fill_53178, .static yJ7_fill_53178, .initialized RJ7, .code yJ7_fill_53178 cJ7_fill_53178 4 none] ++ wsX30 ++ (vx_atM "java/lang/ArrayIndexOutOfBoundsException" ["java/lang/IndexOutOfBoundsException", "java/lang/RuntimeException", "java/lang/Exception"]).filter goodWord ++ (vx_atN 8).filter goodWord)
def wsX3_sameBytes : List Cond := .code yX3_sameBytes cX3_sameBytes 5 (some .int) :: ([.fieldLink RX3 9 "TrainedSegments$Packer" "joined" "[B"] ++ wsX30 ++ (vx_atM "java/lang/ArrayIndexOutOfBoundsException" ["java/lang/IndexOutOfBoundsException", "java/lang/RuntimeException", "java/lang/Exception"]).filter goodWord ++ (vx_atN 8).filter goodWord)
def wsX3_longestMatch : List Cond := .code yX3_longestMatch cX3_longestMatch 6 (some .int) :: ([.fieldLink RX3 44 "TrainedSegments$Packer" "length" "I", .methodLink RX3 38 Lib.Math.min.name, .static Lib.Math.min.name, .initialized "java/lang/Math", .code Lib.Math.min.name Lib.Math.min.code 2 (some .int), .fieldLink RX3 15 "TrainedSegments$Packer" "earlier" "[I", .fieldLink RX3 34 "TrainedSegments$Packer" "start" "I", .fieldLink RX3 9 "TrainedSegments$Packer" "joined" "[B", .methodLink RX3 90 Lib.Math.max.name, .static Lib.Math.max.name, .code Lib.Math.max.name Lib.Math.max.code 2 (some .int), .methodLink RX3 86 yX3_sameBytes, .instanceMethod yX3_sameBytes, .selects RX3 yX3_sameBytes yX3_sameBytes, .initialized RX3, .code yX3_sameBytes cX3_sameBytes 5 (some .int)] ++ wsX30 ++ (vx_atM "java/lang/ArrayIndexOutOfBoundsException" ["java/lang/IndexOutOfBoundsException", "java/lang/RuntimeException", "java/lang/Exception"]).filter goodWord ++ (vx_atN 8).filter goodWord)
def wsX3_tryMatches : List Cond := .code yX3_tryMatches cX3_tryMatches 3 none :: ([.fieldLink RX3 22 "TrainedSegments$Packer" "cost" "[I", .fieldLink RX3 25 "TrainedSegments$Packer" "choice" "[I", .methodLink RX3 83 yX3_longestMatch, .instanceMethod yX3_longestMatch, .selects RX3 yX3_longestMatch yX3_longestMatch, .initialized RX3, .code yX3_longestMatch cX3_longestMatch 6 (some .int), .fieldLink RX3 44 "TrainedSegments$Packer" "length" "I", .methodLink RX3 38 Lib.Math.min.name, .static Lib.Math.min.name, .initialized "java/lang/Math", .code Lib.Math.min.name Lib.Math.min.code 2 (some .int), .fieldLink RX3 15 "TrainedSegments$Packer" "earlier" "[I", .fieldLink RX3 34 "TrainedSegments$Packer" "start" "I", .fieldLink RX3 9 "TrainedSegments$Packer" "joined" "[B", .methodLink RX3 90 Lib.Math.max.name, .static Lib.Math.max.name, .code Lib.Math.max.name Lib.Math.max.code 2 (some .int), .methodLink RX3 86 yX3_sameBytes, .instanceMethod yX3_sameBytes, .selects RX3 yX3_sameBytes yX3_sameBytes, .code yX3_sameBytes cX3_sameBytes 5 (some .int)] ++ wsX30 ++ (vx_atN 8).filter goodWord ++ (vx_atM "java/lang/ArrayIndexOutOfBoundsException" ["java/lang/IndexOutOfBoundsException", "java/lang/RuntimeException", "java/lang/Exception"]).filter goodWord)
def wsX3_tryPlain : List Cond := .code yX3_tryPlain cX3_tryPlain 3 none :: ([.fieldLink RX3 44 "TrainedSegments$Packer" "length" "I", .methodLink RX3 38 Lib.Math.min.name, .static Lib.Math.min.name, .initialized "java/lang/Math", .code Lib.Math.min.name Lib.Math.min.code 2 (some .int), .fieldLink RX3 22 "TrainedSegments$Packer" "cost" "[I", .fieldLink RX3 25 "TrainedSegments$Packer" "choice" "[I"] ++ wsX30 ++ (vx_atM "java/lang/ArrayIndexOutOfBoundsException" ["java/lang/IndexOutOfBoundsException", "java/lang/RuntimeException", "java/lang/Exception"]).filter goodWord ++ (vx_atN 8).filter goodWord)
def wsX3_measure_r1 : List Cond := [Cond.fieldLink RX3 9 "TrainedSegments$Packer" "joined" "[B", Cond.fieldLink RX3 34 "TrainedSegments$Packer" "start" "I", Cond.methodLink RX3 38 Lib.Math.min.name, Cond.static Lib.Math.min.name, Cond.initialized "java/lang/Math", Cond.code Lib.Math.min.name Lib.Math.min.code 2 (some .int), Cond.fieldLink RX3 44 "TrainedSegments$Packer" "length" "I", Cond.fieldLink RX3 22 "TrainedSegments$Packer" "cost" "[I", Cond.constant RX3 52 (2147483647), Cond.methodLink RX3 28 yX4_copyTo, Cond.instanceMethod yX4_copyTo, Cond.selects RX4 yX4_copyTo yX4_copyTo, Cond.initialized RX4, Cond.code yX4_copyTo cX4_copyTo 5 (some .int), Cond.fieldLink RX4 19 "TrainedSegments$Row" "length" "I", Cond.methodLink RX4 42 Lib.Math.min.name, Cond.methodLink RX4 7 Lib.Math.max.name, Cond.static Lib.Math.max.name, Cond.code Lib.Math.max.name Lib.Math.max.code 2 (some .int), Cond.fieldLink RX4 13 "TrainedSegments$Row" "bytes" "[B", Cond.methodLink RX3 47 yX3_linkSameBytes, Cond.instanceMethod yX3_linkSameBytes, Cond.selects RX3 yX3_linkSameBytes yX3_linkSameBytes, Cond.initialized RX3]
def wsX3_measure_r2 : List Cond := [Cond.code yX3_linkSameBytes cX3_linkSameBytes 3 none, Cond.fieldLink RX3 19 "TrainedSegments$Packer" "latest" "[I", Cond.fieldLink RX3 15 "TrainedSegments$Packer" "earlier" "[I", Cond.methodLink RX3 77 yJ7_fill_53178, Cond.static yJ7_fill_53178, Cond.initialized RJ7, Cond.code yJ7_fill_53178 cJ7_fill_53178 4 none, Cond.methodLink RX3 53 yX3_tryMatches, Cond.instanceMethod yX3_tryMatches, Cond.selects RX3 yX3_tryMatches yX3_tryMatches, Cond.code yX3_tryMatches cX3_tryMatches 3 none, Cond.fieldLink RX3 25 "TrainedSegments$Packer" "choice" "[I", Cond.methodLink RX3 83 yX3_longestMatch, Cond.instanceMethod yX3_longestMatch, Cond.selects RX3 yX3_longestMatch yX3_longestMatch, Cond.code yX3_longestMatch cX3_longestMatch 6 (some .int), Cond.methodLink RX3 90 Lib.Math.max.name, Cond.methodLink RX3 86 yX3_sameBytes, Cond.instanceMethod yX3_sameBytes, Cond.selects RX3 yX3_sameBytes yX3_sameBytes, Cond.code yX3_sameBytes cX3_sameBytes 5 (some .int), Cond.methodLink RX3 57 yX3_tryPlain, Cond.instanceMethod yX3_tryPlain, Cond.selects RX3 yX3_tryPlain yX3_tryPlain]
def wsX3_measure_r3 : List Cond := [Cond.code yX3_tryPlain cX3_tryPlain 3 none]
def wsX3_measure : List Cond := .code yX3_measure cX3_measure 4 (some .int) :: ((wsX3_measure_r1 ++ (wsX3_measure_r2 ++ wsX3_measure_r3)) ++ wsX30 ++ wsX40 ++ (vx_atN 8).filter goodWord ++ (vx_atM "java/lang/ArrayIndexOutOfBoundsException" ["java/lang/IndexOutOfBoundsException", "java/lang/RuntimeException", "java/lang/Exception"]).filter goodWord)
def wsX3_leastDistance : List Cond := .code yX3_leastDistance cX3_leastDistance 5 (some .int) :: ([.fieldLink RX3 15 "TrainedSegments$Packer" "earlier" "[I", .fieldLink RX3 9 "TrainedSegments$Packer" "joined" "[B", .methodLink RX3 86 yX3_sameBytes, .instanceMethod yX3_sameBytes, .selects RX3 yX3_sameBytes yX3_sameBytes, .initialized RX3, .code yX3_sameBytes cX3_sameBytes 5 (some .int)] ++ wsX30 ++ (vx_atM "java/lang/ArrayIndexOutOfBoundsException" ["java/lang/IndexOutOfBoundsException", "java/lang/RuntimeException", "java/lang/Exception"]).filter goodWord ++ (vx_atN 8).filter goodWord)
def wsX3_write_r1 : List Cond := [Cond.fieldLink RX3 44 "TrainedSegments$Packer" "length" "I", Cond.fieldLink RX3 25 "TrainedSegments$Packer" "choice" "[I", Cond.fieldLink RX3 34 "TrainedSegments$Packer" "start" "I", Cond.fieldLink RX3 9 "TrainedSegments$Packer" "joined" "[B", Cond.methodLink RX3 73 Lib.Math.abs.name, Cond.static Lib.Math.abs.name, Cond.initialized "java/lang/Math", Cond.code Lib.Math.abs.name Lib.Math.abs.code 1 (some .int), Cond.methodLink RX3 60 yX3_leastDistance, Cond.instanceMethod yX3_leastDistance, Cond.selects RX3 yX3_leastDistance yX3_leastDistance, Cond.initialized RX3, Cond.code yX3_leastDistance cX3_leastDistance 5 (some .int), Cond.fieldLink RX3 15 "TrainedSegments$Packer" "earlier" "[I", Cond.methodLink RX3 86 yX3_sameBytes, Cond.instanceMethod yX3_sameBytes, Cond.selects RX3 yX3_sameBytes yX3_sameBytes, Cond.code yX3_sameBytes cX3_sameBytes 5 (some .int), Cond.methodLink RX3 63 yX2_addMatch, Cond.instanceMethod yX2_addMatch, Cond.selects RX2 yX2_addMatch yX2_addMatch, Cond.initialized RX2, Cond.code yX2_addMatch cX2_addMatch 3 none, Cond.fieldLink RX2 14 "TrainedSegments$Output" "bytes" "LTrainedSegments$Row;"]
def wsX3_write_r2 : List Cond := [Cond.fieldLink RX2 20 "TrainedSegments$Output" "items" "I", Cond.fieldLink RX2 24 "TrainedSegments$Output" "matches" "I", Cond.methodLink RX2 36 yX4_add, Cond.instanceMethod yX4_add, Cond.selects RX4 yX4_add yX4_add, Cond.initialized RX4, Cond.code yX4_add cX4_add 2 none, Cond.fieldLink RX4 19 "TrainedSegments$Row" "length" "I", Cond.fieldLink RX4 13 "TrainedSegments$Row" "bytes" "[B", Cond.methodLink RX3 69 yX2_addPlain, Cond.instanceMethod yX2_addPlain, Cond.selects RX2 yX2_addPlain yX2_addPlain, Cond.code yX2_addPlain cX2_addPlain 5 none]
def wsX3_write : List Cond := .code yX3_write cX3_write 5 none :: ((wsX3_write_r1 ++ wsX3_write_r2) ++ wsX30 ++ wsX20 ++ wsX40 ++ (vx_atM "java/lang/ArrayIndexOutOfBoundsException" ["java/lang/IndexOutOfBoundsException", "java/lang/RuntimeException", "java/lang/Exception"]).filter goodWord ++ (vx_atN 8).filter goodWord)
def wsX5_init : List Cond := .code yX5_init cX5_init 1 none :: ([.methodLink RX5 3 objectInit, .instanceMethod objectInit, .code objectInit ⟨#[0xb1]⟩ 1 none, .classLink RX5 9 RX4, .instantiable RX4 2, .initialized RX4, .fieldLink RX5 16 "TrainedSegments$Trainer" "places" "LTrainedSegments$Row;", .arrayClass .boolean, .fieldLink RX5 20 "TrainedSegments$Trainer" "covered" "[Z", .arrayClass .int, .fieldLink RX5 24 "TrainedSegments$Trainer" "kind" "[I", .fieldLink RX5 28 "TrainedSegments$Trainer" "count" "[I", .fieldLink RX5 31 "TrainedSegments$Trainer" "freeFrom" "[I", .fieldLink RX5 34 "TrainedSegments$Trainer" "taken" "[I", .methodLink RX5 13 yX4_init, .instanceMethod yX4_init, .code yX4_init cX4_init 2 none, .methodLink RX4 1 objectInit, .methodLink RX4 7 Lib.Math.max.name, .static Lib.Math.max.name, .initialized "java/lang/Math", .code Lib.Math.max.name Lib.Math.max.code 2 (some .int), .arrayClass .byte, .fieldLink RX4 13 "TrainedSegments$Row" "bytes" "[B"] ++ wsX40 ++ wsX50)
def wsX5_coverFrom : List Cond := .code yX5_coverFrom cX5_coverFrom 5 none :: ([.fieldLink RX5 20 "TrainedSegments$Trainer" "covered" "[Z"] ++ wsX50 ++ (vx_atM "java/lang/ArrayIndexOutOfBoundsException" ["java/lang/IndexOutOfBoundsException", "java/lang/RuntimeException", "java/lang/Exception"]).filter goodWord ++ (vx_atN 8).filter goodWord)
def wsX5_isSameRow : List Cond := .code yX5_isSameRow cX5_isSameRow 4 (some .boolean) :: ([.fieldLink RX5 37 "TrainedSegments$Trainer" "n" "I", .fieldLink RX5 16 "TrainedSegments$Trainer" "places" "LTrainedSegments$Row;", .methodLink RX5 92 yX4_signedAt, .instanceMethod yX4_signedAt, .selects RX4 yX4_signedAt yX4_signedAt, .initialized RX4, .code yX4_signedAt cX4_signedAt 2 (some .byte), .fieldLink RX4 13 "TrainedSegments$Row" "bytes" "[B", .methodLink RX4 23 yX4_has, .instanceMethod yX4_has, .selects RX4 yX4_has yX4_has, .code yX4_has cX4_has 2 (some .boolean), .fieldLink RX4 19 "TrainedSegments$Row" "length" "I"] ++ wsX50 ++ wsX40 ++ (vx_atN 8).filter goodWord ++ (vx_atM "java/lang/ArrayIndexOutOfBoundsException" ["java/lang/IndexOutOfBoundsException", "java/lang/RuntimeException", "java/lang/Exception"]).filter goodWord)
def wsX5_firstSameRow : List Cond := .code yX5_firstSameRow cX5_firstSameRow 3 (some .int) :: ([.fieldLink RX5 24 "TrainedSegments$Trainer" "kind" "[I", .methodLink RX5 88 yX5_isSameRow, .instanceMethod yX5_isSameRow, .selects RX5 yX5_isSameRow yX5_isSameRow, .initialized RX5, .code yX5_isSameRow cX5_isSameRow 4 (some .boolean), .fieldLink RX5 37 "TrainedSegments$Trainer" "n" "I", .fieldLink RX5 16 "TrainedSegments$Trainer" "places" "LTrainedSegments$Row;", .methodLink RX5 92 yX4_signedAt, .instanceMethod yX4_signedAt, .selects RX4 yX4_signedAt yX4_signedAt, .initialized RX4, .code yX4_signedAt cX4_signedAt 2 (some .byte), .fieldLink RX4 13 "TrainedSegments$Row" "bytes" "[B", .methodLink RX4 23 yX4_has, .instanceMethod yX4_has, .selects RX4 yX4_has yX4_has, .code yX4_has cX4_has 2 (some .boolean), .fieldLink RX4 19 "TrainedSegments$Row" "length" "I"] ++ wsX50 ++ wsX40 ++ (vx_atM "java/lang/ArrayIndexOutOfBoundsException" ["java/lang/IndexOutOfBoundsException", "java/lang/RuntimeException", "java/lang/Exception"]).filter goodWord ++ (vx_atN 8).filter goodWord)
def wsX5_markKinds : List Cond := .code yX5_markKinds cX5_markKinds 4 none :: ([.fieldLink RX5 24 "TrainedSegments$Trainer" "kind" "[I", .methodLink RX5 84 yX5_firstSameRow, .instanceMethod yX5_firstSameRow, .selects RX5 yX5_firstSameRow yX5_firstSameRow, .initialized RX5, .code yX5_firstSameRow cX5_firstSameRow 3 (some .int), .methodLink RX5 88 yX5_isSameRow, .instanceMethod yX5_isSameRow, .selects RX5 yX5_isSameRow yX5_isSameRow, .code yX5_isSameRow cX5_isSameRow 4 (some .boolean), .fieldLink RX5 37 "TrainedSegments$Trainer" "n" "I", .fieldLink RX5 16 "TrainedSegments$Trainer" "places" "LTrainedSegments$Row;", .methodLink RX5 92 yX4_signedAt, .instanceMethod yX4_signedAt, .selects RX4 yX4_signedAt yX4_signedAt, .initialized RX4, .code yX4_signedAt cX4_signedAt 2 (some .byte), .fieldLink RX4 13 "TrainedSegments$Row" "bytes" "[B", .methodLink RX4 23 yX4_has, .instanceMethod yX4_has, .selects RX4 yX4_has yX4_has, .code yX4_has cX4_has 2 (some .boolean), .fieldLink RX4 19 "TrainedSegments$Row" "length" "I"] ++ wsX50 ++ wsX40 ++ (vx_atN 8).filter goodWord ++ (vx_atM "java/lang/ArrayIndexOutOfBoundsException" ["java/lang/IndexOutOfBoundsException", "java/lang/RuntimeException", "java/lang/Exception"]).filter goodWord)
def wsX5_load_r1 : List Cond := [Cond.fieldLink RX5 37 "TrainedSegments$Trainer" "n" "I", Cond.fieldLink RX5 41 "TrainedSegments$Trainer" "takenCount" "I", Cond.fieldLink RX5 16 "TrainedSegments$Trainer" "places" "LTrainedSegments$Row;", Cond.fieldLink RX5 24 "TrainedSegments$Trainer" "kind" "[I", Cond.methodLink RX5 44 yX4_clear, Cond.instanceMethod yX4_clear, Cond.selects RX4 yX4_clear yX4_clear, Cond.initialized RX4, Cond.code yX4_clear cX4_clear 1 none, Cond.fieldLink RX4 19 "TrainedSegments$Row" "length" "I", Cond.methodLink RX5 47 yX5_coverFrom, Cond.instanceMethod yX5_coverFrom, Cond.selects RX5 yX5_coverFrom yX5_coverFrom, Cond.initialized RX5, Cond.code yX5_coverFrom cX5_coverFrom 5 none, Cond.fieldLink RX5 20 "TrainedSegments$Trainer" "covered" "[Z", Cond.methodLink RX5 51 yJ7_fill_53178, Cond.static yJ7_fill_53178, Cond.initialized RJ7, Cond.code yJ7_fill_53178 cJ7_fill_53178 4 none, Cond.methodLink RX5 57 yX4_addFrom, Cond.instanceMethod yX4_addFrom, Cond.selects RX4 yX4_addFrom yX4_addFrom, Cond.code yX4_addFrom cX4_addFrom 5 none]
def wsX5_load_r2 : List Cond := [Cond.methodLink RX4 27 yX4_signedAt, Cond.instanceMethod yX4_signedAt, Cond.selects RX4 yX4_signedAt yX4_signedAt, Cond.code yX4_signedAt cX4_signedAt 2 (some .byte), Cond.fieldLink RX4 13 "TrainedSegments$Row" "bytes" "[B", Cond.methodLink RX4 23 yX4_has, Cond.instanceMethod yX4_has, Cond.selects RX4 yX4_has yX4_has, Cond.code yX4_has cX4_has 2 (some .boolean), Cond.methodLink RX4 31 yX4_add, Cond.instanceMethod yX4_add, Cond.selects RX4 yX4_add yX4_add, Cond.code yX4_add cX4_add 2 none, Cond.methodLink RX5 61 yX4_length, Cond.instanceMethod yX4_length, Cond.selects RX4 yX4_length yX4_length, Cond.code yX4_length cX4_length 1 (some .int), Cond.methodLink RX5 65 yX5_markKinds, Cond.instanceMethod yX5_markKinds, Cond.selects RX5 yX5_markKinds yX5_markKinds, Cond.code yX5_markKinds cX5_markKinds 4 none, Cond.methodLink RX5 84 yX5_firstSameRow, Cond.instanceMethod yX5_firstSameRow, Cond.selects RX5 yX5_firstSameRow yX5_firstSameRow]
def wsX5_load_r3 : List Cond := [Cond.code yX5_firstSameRow cX5_firstSameRow 3 (some .int), Cond.methodLink RX5 88 yX5_isSameRow, Cond.instanceMethod yX5_isSameRow, Cond.selects RX5 yX5_isSameRow yX5_isSameRow, Cond.code yX5_isSameRow cX5_isSameRow 4 (some .boolean), Cond.methodLink RX5 92 yX4_signedAt]
def wsX5_load : List Cond := .code yX5_load cX5_load 5 none :: ((wsX5_load_r1 ++ (wsX5_load_r2 ++ wsX5_load_r3)) ++ wsX50 ++ wsX40 ++ (vx_atN 8).filter goodWord ++ (vx_atM "java/lang/ArrayIndexOutOfBoundsException" ["java/lang/IndexOutOfBoundsException", "java/lang/RuntimeException", "java/lang/Exception"]).filter goodWord)
def wsX5_isFreeRow : List Cond := .code yX5_isFreeRow cX5_isFreeRow 3 (some .boolean) :: ([.fieldLink RX5 24 "TrainedSegments$Trainer" "kind" "[I", .fieldLink RX5 37 "TrainedSegments$Trainer" "n" "I", .fieldLink RX5 20 "TrainedSegments$Trainer" "covered" "[Z"] ++ wsX50 ++ (vx_atM "java/lang/ArrayIndexOutOfBoundsException" ["java/lang/IndexOutOfBoundsException", "java/lang/RuntimeException", "java/lang/Exception"]).filter goodWord ++ (vx_atN 8).filter goodWord)
def wsX5_countRows : List Cond := .code yX5_countRows cX5_countRows 2 none :: ([.fieldLink RX5 28 "TrainedSegments$Trainer" "count" "[I", .fieldLink RX5 31 "TrainedSegments$Trainer" "freeFrom" "[I", .fieldLink RX5 24 "TrainedSegments$Trainer" "kind" "[I", .fieldLink RX5 37 "TrainedSegments$Trainer" "n" "I", .methodLink RX5 51 yJ7_fill_53178, .static yJ7_fill_53178, .initialized RJ7, .code yJ7_fill_53178 cJ7_fill_53178 4 none, .methodLink RX5 96 yX5_isFreeRow, .instanceMethod yX5_isFreeRow, .selects RX5 yX5_isFreeRow yX5_isFreeRow, .initialized RX5, .code yX5_isFreeRow cX5_isFreeRow 3 (some .boolean), .fieldLink RX5 20 "TrainedSegments$Trainer" "covered" "[Z"] ++ wsX50 ++ (vx_atN 8).filter goodWord ++ (vx_atM "java/lang/ArrayIndexOutOfBoundsException" ["java/lang/IndexOutOfBoundsException", "java/lang/RuntimeException", "java/lang/Exception"]).filter goodWord)
def wsX5_placeOfMost : List Cond := .code yX5_placeOfMost cX5_placeOfMost 4 (some .int) :: ([.fieldLink RX5 24 "TrainedSegments$Trainer" "kind" "[I", .fieldLink RX5 28 "TrainedSegments$Trainer" "count" "[I", .methodLink RX5 96 yX5_isFreeRow, .instanceMethod yX5_isFreeRow, .selects RX5 yX5_isFreeRow yX5_isFreeRow, .initialized RX5, .code yX5_isFreeRow cX5_isFreeRow 3 (some .boolean), .fieldLink RX5 37 "TrainedSegments$Trainer" "n" "I", .fieldLink RX5 20 "TrainedSegments$Trainer" "covered" "[Z"] ++ wsX50 ++ (vx_atM "java/lang/ArrayIndexOutOfBoundsException" ["java/lang/IndexOutOfBoundsException", "java/lang/RuntimeException", "java/lang/Exception"]).filter goodWord ++ (vx_atN 8).filter goodWord)
def wsX5_cover : List Cond := .code yX5_cover cX5_cover 3 none :: ([.fieldLink RX5 24 "TrainedSegments$Trainer" "kind" "[I", .fieldLink RX5 37 "TrainedSegments$Trainer" "n" "I", .methodLink RX5 96 yX5_isFreeRow, .instanceMethod yX5_isFreeRow, .selects RX5 yX5_isFreeRow yX5_isFreeRow, .initialized RX5, .code yX5_isFreeRow cX5_isFreeRow 3 (some .boolean), .fieldLink RX5 20 "TrainedSegments$Trainer" "covered" "[Z", .methodLink RX5 47 yX5_coverFrom, .instanceMethod yX5_coverFrom, .selects RX5 yX5_coverFrom yX5_coverFrom, .code yX5_coverFrom cX5_coverFrom 5 none] ++ wsX50 ++ (vx_atM "java/lang/ArrayIndexOutOfBoundsException" ["java/lang/IndexOutOfBoundsException", "java/lang/RuntimeException", "java/lang/Exception"]).filter goodWord ++ (vx_atN 8).filter goodWord)
def wsX5_takeRows_r1 : List Cond := [Cond.fieldLink RX5 41 "TrainedSegments$Trainer" "takenCount" "I", Cond.fieldLink RX5 37 "TrainedSegments$Trainer" "n" "I", Cond.fieldLink RX5 28 "TrainedSegments$Trainer" "count" "[I", Cond.fieldLink RX5 24 "TrainedSegments$Trainer" "kind" "[I", Cond.fieldLink RX5 34 "TrainedSegments$Trainer" "taken" "[I", Cond.methodLink RX5 69 yX5_countRows, Cond.instanceMethod yX5_countRows, Cond.selects RX5 yX5_countRows yX5_countRows, Cond.initialized RX5, Cond.code yX5_countRows cX5_countRows 2 none, Cond.fieldLink RX5 31 "TrainedSegments$Trainer" "freeFrom" "[I", Cond.methodLink RX5 51 yJ7_fill_53178, Cond.static yJ7_fill_53178, Cond.initialized RJ7, Cond.code yJ7_fill_53178 cJ7_fill_53178 4 none, Cond.methodLink RX5 96 yX5_isFreeRow, Cond.instanceMethod yX5_isFreeRow, Cond.selects RX5 yX5_isFreeRow yX5_isFreeRow, Cond.code yX5_isFreeRow cX5_isFreeRow 3 (some .boolean), Cond.fieldLink RX5 20 "TrainedSegments$Trainer" "covered" "[Z", Cond.methodLink RX5 72 yX5_placeOfMost, Cond.instanceMethod yX5_placeOfMost, Cond.selects RX5 yX5_placeOfMost yX5_placeOfMost, Cond.code yX5_placeOfMost cX5_placeOfMost 4 (some .int)]
def wsX5_takeRows_r2 : List Cond := [Cond.methodLink RX5 75 yX5_cover, Cond.instanceMethod yX5_cover, Cond.selects RX5 yX5_cover yX5_cover, Cond.code yX5_cover cX5_cover 3 none, Cond.methodLink RX5 47 yX5_coverFrom, Cond.instanceMethod yX5_coverFrom, Cond.selects RX5 yX5_coverFrom yX5_coverFrom, Cond.code yX5_coverFrom cX5_coverFrom 5 none]
def wsX5_takeRows : List Cond := .code yX5_takeRows cX5_takeRows 3 none :: ((wsX5_takeRows_r1 ++ wsX5_takeRows_r2) ++ wsX50 ++ (vx_atN 8).filter goodWord ++ (vx_atM "java/lang/ArrayIndexOutOfBoundsException" ["java/lang/IndexOutOfBoundsException", "java/lang/RuntimeException", "java/lang/Exception"]).filter goodWord)
def wsX5_handOver_r1 : List Cond := [Cond.fieldLink RX5 41 "TrainedSegments$Trainer" "takenCount" "I", Cond.fieldLink RX5 16 "TrainedSegments$Trainer" "places" "LTrainedSegments$Row;", Cond.fieldLink RX5 34 "TrainedSegments$Trainer" "taken" "[I", Cond.methodLink RX5 78 yX0_addPiece, Cond.instanceMethod yX0_addPiece, Cond.selects RX0 yX0_addPiece yX0_addPiece, Cond.initialized RX0, Cond.code yX0_addPiece cX0_addPiece 3 none, Cond.fieldLink RX0 27 "TrainedSegments$Dictionary" "pieceLength" "I", Cond.fieldLink RX0 14 "TrainedSegments$Dictionary" "words" "LTrainedSegments$Row;", Cond.fieldLink RX0 24 "TrainedSegments$Dictionary" "pieces" "I", Cond.methodLink RX0 37 yX4_hasRoom, Cond.instanceMethod yX4_hasRoom, Cond.selects RX4 yX4_hasRoom yX4_hasRoom, Cond.initialized RX4, Cond.code yX4_hasRoom cX4_hasRoom 2 (some .boolean), Cond.fieldLink RX4 13 "TrainedSegments$Row" "bytes" "[B", Cond.fieldLink RX4 19 "TrainedSegments$Row" "length" "I", Cond.methodLink RX0 41 yX4_addFrom, Cond.instanceMethod yX4_addFrom, Cond.selects RX4 yX4_addFrom yX4_addFrom, Cond.code yX4_addFrom cX4_addFrom 5 none, Cond.methodLink RX4 27 yX4_signedAt, Cond.instanceMethod yX4_signedAt]
def wsX5_handOver_r2 : List Cond := [Cond.selects RX4 yX4_signedAt yX4_signedAt, Cond.code yX4_signedAt cX4_signedAt 2 (some .byte), Cond.methodLink RX4 23 yX4_has, Cond.instanceMethod yX4_has, Cond.selects RX4 yX4_has yX4_has, Cond.code yX4_has cX4_has 2 (some .boolean), Cond.methodLink RX4 31 yX4_add, Cond.instanceMethod yX4_add, Cond.selects RX4 yX4_add yX4_add, Cond.code yX4_add cX4_add 2 none]
def wsX5_handOver : List Cond := .code yX5_handOver cX5_handOver 3 none :: ((wsX5_handOver_r1 ++ wsX5_handOver_r2) ++ wsX50 ++ wsX00 ++ wsX40 ++ (vx_atM "java/lang/ArrayIndexOutOfBoundsException" ["java/lang/IndexOutOfBoundsException", "java/lang/RuntimeException", "java/lang/Exception"]).filter goodWord ++ (vx_atN 8).filter goodWord)
def wsX6_init_r1 : List Cond := [Cond.methodLink RX6 3 objectInit, Cond.instanceMethod objectInit, Cond.code objectInit ⟨#[0xb1]⟩ 1 none, Cond.classLink RX6 9 RX4, Cond.instantiable RX4 2, Cond.initialized RX4, Cond.fieldLink RX6 14 "TrainedSegments" "tape" "LTrainedSegments$Row;", Cond.fieldLink RX6 18 "TrainedSegments" "samples" "[LTrainedSegments$Row;", Cond.classLink RX6 22 RX0, Cond.fieldLink RX6 24 "TrainedSegments" "dictionaries" "[LTrainedSegments$Dictionary;", Cond.instantiable RX0 4, Cond.initialized RX0, Cond.fieldLink RX6 29 "TrainedSegments" "none" "LTrainedSegments$Dictionary;", Cond.fieldLink RX6 33 "TrainedSegments" "trial" "LTrainedSegments$Row;", Cond.fieldLink RX6 36 "TrainedSegments" "opened" "LTrainedSegments$Row;", Cond.classLink RX6 39 RX2, Cond.instantiable RX2 3, Cond.initialized RX2, Cond.fieldLink RX6 42 "TrainedSegments" "output" "LTrainedSegments$Output;", Cond.classLink RX6 46 RX3, Cond.instantiable RX3 7, Cond.initialized RX3, Cond.fieldLink RX6 49 "TrainedSegments" "packer" "LTrainedSegments$Packer;", Cond.classLink RX6 53 RX5]
def wsX6_init_r2 : List Cond := [Cond.instantiable RX5 8, Cond.initialized RX5, Cond.fieldLink RX6 56 "TrainedSegments" "trainer" "LTrainedSegments$Trainer;", Cond.classLink RX6 60 RX1, Cond.instantiable RX1 4, Cond.initialized RX1, Cond.fieldLink RX6 63 "TrainedSegments" "opener" "LTrainedSegments$Opener;", Cond.methodLink RX6 11 yX4_init, Cond.instanceMethod yX4_init, Cond.code yX4_init cX4_init 2 none, Cond.methodLink RX4 1 objectInit, Cond.methodLink RX4 7 Lib.Math.max.name, Cond.static Lib.Math.max.name, Cond.initialized "java/lang/Math", Cond.code Lib.Math.max.name Lib.Math.max.code 2 (some .int), Cond.arrayClass .byte, Cond.fieldLink RX4 13 "TrainedSegments$Row" "bytes" "[B", Cond.methodLink RX6 28 yX0_init, Cond.instanceMethod yX0_init, Cond.code yX0_init cX0_init 1 none, Cond.methodLink RX0 3 objectInit, Cond.classLink RX0 9 RX4, Cond.fieldLink RX0 14 "TrainedSegments$Dictionary" "words" "LTrainedSegments$Row;", Cond.methodLink RX0 11 yX4_init]
def wsX6_init_r3 : List Cond := [Cond.methodLink RX6 41 yX2_init, Cond.instanceMethod yX2_init, Cond.code yX2_init cX2_init 1 none, Cond.methodLink RX2 3 objectInit, Cond.classLink RX2 9 RX4, Cond.fieldLink RX2 14 "TrainedSegments$Output" "bytes" "LTrainedSegments$Row;", Cond.methodLink RX2 11 yX4_init, Cond.methodLink RX6 48 yX3_init, Cond.instanceMethod yX3_init, Cond.code yX3_init cX3_init 1 none, Cond.methodLink RX3 3 objectInit, Cond.fieldLink RX3 9 "TrainedSegments$Packer" "joined" "[B", Cond.arrayClass .int, Cond.fieldLink RX3 15 "TrainedSegments$Packer" "earlier" "[I", Cond.fieldLink RX3 19 "TrainedSegments$Packer" "latest" "[I", Cond.fieldLink RX3 22 "TrainedSegments$Packer" "cost" "[I", Cond.fieldLink RX3 25 "TrainedSegments$Packer" "choice" "[I", Cond.methodLink RX6 55 yX5_init, Cond.instanceMethod yX5_init, Cond.code yX5_init cX5_init 1 none, Cond.methodLink RX5 3 objectInit, Cond.classLink RX5 9 RX4, Cond.fieldLink RX5 16 "TrainedSegments$Trainer" "places" "LTrainedSegments$Row;", Cond.arrayClass .boolean]
def wsX6_init_r4 : List Cond := [Cond.fieldLink RX5 20 "TrainedSegments$Trainer" "covered" "[Z", Cond.fieldLink RX5 24 "TrainedSegments$Trainer" "kind" "[I", Cond.fieldLink RX5 28 "TrainedSegments$Trainer" "count" "[I", Cond.fieldLink RX5 31 "TrainedSegments$Trainer" "freeFrom" "[I", Cond.fieldLink RX5 34 "TrainedSegments$Trainer" "taken" "[I", Cond.methodLink RX5 13 yX4_init, Cond.methodLink RX6 62 yX1_init, Cond.instanceMethod yX1_init, Cond.code yX1_init cX1_init 1 none, Cond.methodLink RX1 3 objectInit, Cond.classLink RX1 9 RX4, Cond.fieldLink RX1 14 "TrainedSegments$Opener" "joined" "LTrainedSegments$Row;", Cond.methodLink RX1 11 yX4_init]
def wsX6_init : List Cond := .code yX6_init cX6_init 2 none :: ((wsX6_init_r1 ++ (wsX6_init_r2 ++ (wsX6_init_r3 ++ wsX6_init_r4))) ++ wsX40 ++ wsX60 ++ wsX00 ++ wsX20 ++ wsX30 ++ wsX50 ++ wsX10)
def wsX6_feed : List Cond := .code yX6_feed cX6_feed 5 (some .int) :: ([.fieldLink RX6 14 "TrainedSegments" "tape" "LTrainedSegments$Row;", .methodLink RX6 67 yX4_hasRoom, .instanceMethod yX4_hasRoom, .selects RX4 yX4_hasRoom yX4_hasRoom, .initialized RX4, .code yX4_hasRoom cX4_hasRoom 2 (some .boolean), .fieldLink RX4 13 "TrainedSegments$Row" "bytes" "[B", .fieldLink RX4 19 "TrainedSegments$Row" "length" "I", .methodLink RX6 71 yX4_add, .instanceMethod yX4_add, .selects RX4 yX4_add yX4_add, .code yX4_add cX4_add 2 none, .methodLink RX6 74 yX4_length, .instanceMethod yX4_length, .selects RX4 yX4_length yX4_length, .code yX4_length cX4_length 1 (some .int)] ++ wsX60 ++ wsX40 ++ (vx_atN 8).filter goodWord ++ (vx_atM "java/lang/ArrayIndexOutOfBoundsException" ["java/lang/IndexOutOfBoundsException", "java/lang/RuntimeException", "java/lang/Exception"]).filter goodWord)
def wsX6_sample_r1 : List Cond := [Cond.fieldLink RX6 14 "TrainedSegments" "tape" "LTrainedSegments$Row;", Cond.fieldLink RX6 78 "TrainedSegments" "sampleCount" "I", Cond.fieldLink RX6 18 "TrainedSegments" "samples" "[LTrainedSegments$Row;", Cond.methodLink RX6 74 yX4_length, Cond.instanceMethod yX4_length, Cond.selects RX4 yX4_length yX4_length, Cond.initialized RX4, Cond.code yX4_length cX4_length 1 (some .int), Cond.fieldLink RX4 19 "TrainedSegments$Row" "length" "I", Cond.methodLink RX6 82 yX4_become, Cond.instanceMethod yX4_become, Cond.selects RX4 yX4_become yX4_become, Cond.code yX4_become cX4_become 2 none, Cond.methodLink RX4 35 yX4_clear, Cond.instanceMethod yX4_clear, Cond.selects RX4 yX4_clear yX4_clear, Cond.code yX4_clear cX4_clear 1 none, Cond.methodLink RX4 38 yX4_addFrom, Cond.instanceMethod yX4_addFrom, Cond.selects RX4 yX4_addFrom yX4_addFrom, Cond.code yX4_addFrom cX4_addFrom 5 none, Cond.methodLink RX4 27 yX4_signedAt, Cond.instanceMethod yX4_signedAt, Cond.selects RX4 yX4_signedAt yX4_signedAt]
def wsX6_sample_r2 : List Cond := [Cond.code yX4_signedAt cX4_signedAt 2 (some .byte), Cond.fieldLink RX4 13 "TrainedSegments$Row" "bytes" "[B", Cond.methodLink RX4 23 yX4_has, Cond.instanceMethod yX4_has, Cond.selects RX4 yX4_has yX4_has, Cond.code yX4_has cX4_has 2 (some .boolean), Cond.methodLink RX4 31 yX4_add, Cond.instanceMethod yX4_add, Cond.selects RX4 yX4_add yX4_add, Cond.code yX4_add cX4_add 2 none, Cond.methodLink RX6 86 yX4_clear]
def wsX6_sample : List Cond := .code yX6_sample cX6_sample 2 (some .int) :: ((wsX6_sample_r1 ++ wsX6_sample_r2) ++ wsX60 ++ wsX40 ++ (vx_atN 8).filter goodWord ++ (vx_atM "java/lang/ArrayIndexOutOfBoundsException" ["java/lang/IndexOutOfBoundsException", "java/lang/RuntimeException", "java/lang/Exception"]).filter goodWord)
def wsX6_forget : List Cond := .code yX6_forget cX6_forget 2 (some .int) :: ([.fieldLink RX6 78 "TrainedSegments" "sampleCount" "I"] ++ wsX60)
def wsX6_isNumber : List Cond := .code yX6_isNumber cX6_isNumber 1 (some .boolean) :: ([])
def wsX6_isId : List Cond := .code yX6_isId cX6_isId 1 (some .boolean) :: ([])
def wsX6_train_r1 : List Cond := [Cond.fieldLink RX6 78 "TrainedSegments" "sampleCount" "I", Cond.fieldLink RX6 56 "TrainedSegments" "trainer" "LTrainedSegments$Trainer;", Cond.fieldLink RX6 18 "TrainedSegments" "samples" "[LTrainedSegments$Row;", Cond.fieldLink RX6 24 "TrainedSegments" "dictionaries" "[LTrainedSegments$Dictionary;", Cond.methodLink RX6 89 yX6_isNumber, Cond.static yX6_isNumber, Cond.initialized RX6, Cond.code yX6_isNumber cX6_isNumber 1 (some .boolean), Cond.methodLink RX6 92 yX6_isId, Cond.static yX6_isId, Cond.code yX6_isId cX6_isId 1 (some .boolean), Cond.methodLink RX6 95 yX5_load, Cond.instanceMethod yX5_load, Cond.selects RX5 yX5_load yX5_load, Cond.initialized RX5, Cond.code yX5_load cX5_load 5 none, Cond.fieldLink RX5 37 "TrainedSegments$Trainer" "n" "I", Cond.fieldLink RX5 41 "TrainedSegments$Trainer" "takenCount" "I", Cond.fieldLink RX5 16 "TrainedSegments$Trainer" "places" "LTrainedSegments$Row;", Cond.fieldLink RX5 24 "TrainedSegments$Trainer" "kind" "[I", Cond.methodLink RX5 44 yX4_clear, Cond.instanceMethod yX4_clear, Cond.selects RX4 yX4_clear yX4_clear, Cond.initialized RX4]
def wsX6_train_r2 : List Cond := [Cond.code yX4_clear cX4_clear 1 none, Cond.fieldLink RX4 19 "TrainedSegments$Row" "length" "I", Cond.methodLink RX5 47 yX5_coverFrom, Cond.instanceMethod yX5_coverFrom, Cond.selects RX5 yX5_coverFrom yX5_coverFrom, Cond.code yX5_coverFrom cX5_coverFrom 5 none, Cond.fieldLink RX5 20 "TrainedSegments$Trainer" "covered" "[Z", Cond.methodLink RX5 51 yJ7_fill_53178, Cond.static yJ7_fill_53178, Cond.initialized RJ7, Cond.code yJ7_fill_53178 cJ7_fill_53178 4 none, Cond.methodLink RX5 57 yX4_addFrom, Cond.instanceMethod yX4_addFrom, Cond.selects RX4 yX4_addFrom yX4_addFrom, Cond.code yX4_addFrom cX4_addFrom 5 none, Cond.methodLink RX4 27 yX4_signedAt, Cond.instanceMethod yX4_signedAt, Cond.selects RX4 yX4_signedAt yX4_signedAt, Cond.code yX4_signedAt cX4_signedAt 2 (some .byte), Cond.fieldLink RX4 13 "TrainedSegments$Row" "bytes" "[B", Cond.methodLink RX4 23 yX4_has, Cond.instanceMethod yX4_has, Cond.selects RX4 yX4_has yX4_has, Cond.code yX4_has cX4_has 2 (some .boolean)]
def wsX6_train_r3 : List Cond := [Cond.methodLink RX4 31 yX4_add, Cond.instanceMethod yX4_add, Cond.selects RX4 yX4_add yX4_add, Cond.code yX4_add cX4_add 2 none, Cond.methodLink RX5 61 yX4_length, Cond.instanceMethod yX4_length, Cond.selects RX4 yX4_length yX4_length, Cond.code yX4_length cX4_length 1 (some .int), Cond.methodLink RX5 65 yX5_markKinds, Cond.instanceMethod yX5_markKinds, Cond.selects RX5 yX5_markKinds yX5_markKinds, Cond.code yX5_markKinds cX5_markKinds 4 none, Cond.methodLink RX5 84 yX5_firstSameRow, Cond.instanceMethod yX5_firstSameRow, Cond.selects RX5 yX5_firstSameRow yX5_firstSameRow, Cond.code yX5_firstSameRow cX5_firstSameRow 3 (some .int), Cond.methodLink RX5 88 yX5_isSameRow, Cond.instanceMethod yX5_isSameRow, Cond.selects RX5 yX5_isSameRow yX5_isSameRow, Cond.code yX5_isSameRow cX5_isSameRow 4 (some .boolean), Cond.methodLink RX5 92 yX4_signedAt, Cond.methodLink RX6 99 yX5_takeRows, Cond.instanceMethod yX5_takeRows, Cond.selects RX5 yX5_takeRows yX5_takeRows]
def wsX6_train_r4 : List Cond := [Cond.code yX5_takeRows cX5_takeRows 3 none, Cond.fieldLink RX5 28 "TrainedSegments$Trainer" "count" "[I", Cond.fieldLink RX5 34 "TrainedSegments$Trainer" "taken" "[I", Cond.methodLink RX5 69 yX5_countRows, Cond.instanceMethod yX5_countRows, Cond.selects RX5 yX5_countRows yX5_countRows, Cond.code yX5_countRows cX5_countRows 2 none, Cond.fieldLink RX5 31 "TrainedSegments$Trainer" "freeFrom" "[I", Cond.methodLink RX5 96 yX5_isFreeRow, Cond.instanceMethod yX5_isFreeRow, Cond.selects RX5 yX5_isFreeRow yX5_isFreeRow, Cond.code yX5_isFreeRow cX5_isFreeRow 3 (some .boolean), Cond.methodLink RX5 72 yX5_placeOfMost, Cond.instanceMethod yX5_placeOfMost, Cond.selects RX5 yX5_placeOfMost yX5_placeOfMost, Cond.code yX5_placeOfMost cX5_placeOfMost 4 (some .int), Cond.methodLink RX5 75 yX5_cover, Cond.instanceMethod yX5_cover, Cond.selects RX5 yX5_cover yX5_cover, Cond.code yX5_cover cX5_cover 3 none, Cond.methodLink RX6 102 yX0_begin, Cond.instanceMethod yX0_begin, Cond.selects RX0 yX0_begin yX0_begin, Cond.initialized RX0]
def wsX6_train_r5 : List Cond := [Cond.code yX0_begin cX0_begin 3 none, Cond.fieldLink RX0 20 "TrainedSegments$Dictionary" "id" "I", Cond.fieldLink RX0 27 "TrainedSegments$Dictionary" "pieceLength" "I", Cond.fieldLink RX0 24 "TrainedSegments$Dictionary" "pieces" "I", Cond.fieldLink RX0 14 "TrainedSegments$Dictionary" "words" "LTrainedSegments$Row;", Cond.methodLink RX0 34 yX4_clear, Cond.methodLink RX6 106 yX5_handOver, Cond.instanceMethod yX5_handOver, Cond.selects RX5 yX5_handOver yX5_handOver, Cond.code yX5_handOver cX5_handOver 3 none, Cond.methodLink RX5 78 yX0_addPiece, Cond.instanceMethod yX0_addPiece, Cond.selects RX0 yX0_addPiece yX0_addPiece, Cond.code yX0_addPiece cX0_addPiece 3 none, Cond.methodLink RX0 37 yX4_hasRoom, Cond.instanceMethod yX4_hasRoom, Cond.selects RX4 yX4_hasRoom yX4_hasRoom, Cond.code yX4_hasRoom cX4_hasRoom 2 (some .boolean), Cond.methodLink RX0 41 yX4_addFrom, Cond.methodLink RX6 110 yX0_pieces, Cond.instanceMethod yX0_pieces, Cond.selects RX0 yX0_pieces yX0_pieces, Cond.code yX0_pieces cX0_pieces 1 (some .int)]
def wsX6_train : List Cond := .code yX6_train cX6_train 6 (some .int) :: ((wsX6_train_r1 ++ (wsX6_train_r2 ++ (wsX6_train_r3 ++ (wsX6_train_r4 ++ wsX6_train_r5)))) ++ wsX60 ++ wsX50 ++ wsX40 ++ wsX00 ++ (vx_atN 8).filter goodWord ++ (vx_atM "java/lang/ArrayIndexOutOfBoundsException" ["java/lang/IndexOutOfBoundsException", "java/lang/RuntimeException", "java/lang/Exception"]).filter goodWord)
def wsX6_give_r1 : List Cond := [Cond.fieldLink RX6 14 "TrainedSegments" "tape" "LTrainedSegments$Row;", Cond.fieldLink RX6 24 "TrainedSegments" "dictionaries" "[LTrainedSegments$Dictionary;", Cond.methodLink RX6 89 yX6_isNumber, Cond.static yX6_isNumber, Cond.initialized RX6, Cond.code yX6_isNumber cX6_isNumber 1 (some .boolean), Cond.methodLink RX6 92 yX6_isId, Cond.static yX6_isId, Cond.code yX6_isId cX6_isId 1 (some .boolean), Cond.methodLink RX6 74 yX4_length, Cond.instanceMethod yX4_length, Cond.selects RX4 yX4_length yX4_length, Cond.initialized RX4, Cond.code yX4_length cX4_length 1 (some .int), Cond.fieldLink RX4 19 "TrainedSegments$Row" "length" "I", Cond.methodLink RX6 102 yX0_begin, Cond.instanceMethod yX0_begin, Cond.selects RX0 yX0_begin yX0_begin, Cond.initialized RX0, Cond.code yX0_begin cX0_begin 3 none, Cond.fieldLink RX0 20 "TrainedSegments$Dictionary" "id" "I", Cond.fieldLink RX0 27 "TrainedSegments$Dictionary" "pieceLength" "I", Cond.fieldLink RX0 24 "TrainedSegments$Dictionary" "pieces" "I", Cond.fieldLink RX0 14 "TrainedSegments$Dictionary" "words" "LTrainedSegments$Row;"]
def wsX6_give_r2 : List Cond := [Cond.methodLink RX0 34 yX4_clear, Cond.instanceMethod yX4_clear, Cond.selects RX4 yX4_clear yX4_clear, Cond.code yX4_clear cX4_clear 1 none, Cond.methodLink RX6 113 yX0_addPiece, Cond.instanceMethod yX0_addPiece, Cond.selects RX0 yX0_addPiece yX0_addPiece, Cond.code yX0_addPiece cX0_addPiece 3 none, Cond.methodLink RX0 37 yX4_hasRoom, Cond.instanceMethod yX4_hasRoom, Cond.selects RX4 yX4_hasRoom yX4_hasRoom, Cond.code yX4_hasRoom cX4_hasRoom 2 (some .boolean), Cond.fieldLink RX4 13 "TrainedSegments$Row" "bytes" "[B", Cond.methodLink RX0 41 yX4_addFrom, Cond.instanceMethod yX4_addFrom, Cond.selects RX4 yX4_addFrom yX4_addFrom, Cond.code yX4_addFrom cX4_addFrom 5 none, Cond.methodLink RX4 27 yX4_signedAt, Cond.instanceMethod yX4_signedAt, Cond.selects RX4 yX4_signedAt yX4_signedAt, Cond.code yX4_signedAt cX4_signedAt 2 (some .byte), Cond.methodLink RX4 23 yX4_has, Cond.instanceMethod yX4_has, Cond.selects RX4 yX4_has yX4_has]
def wsX6_give_r3 : List Cond := [Cond.code yX4_has cX4_has 2 (some .boolean), Cond.methodLink RX4 31 yX4_add, Cond.instanceMethod yX4_add, Cond.selects RX4 yX4_add yX4_add, Cond.code yX4_add cX4_add 2 none, Cond.methodLink RX6 86 yX4_clear, Cond.methodLink RX6 117 yX0_words, Cond.instanceMethod yX0_words, Cond.selects RX0 yX0_words yX0_words, Cond.code yX0_words cX0_words 1 (some (.object "TrainedSegments$Row"))]
def wsX6_give : List Cond := .code yX6_give cX6_give 4 (some .int) :: ((wsX6_give_r1 ++ (wsX6_give_r2 ++ wsX6_give_r3)) ++ wsX60 ++ wsX40 ++ wsX00 ++ (vx_atN 8).filter goodWord ++ (vx_atM "java/lang/ArrayIndexOutOfBoundsException" ["java/lang/IndexOutOfBoundsException", "java/lang/RuntimeException", "java/lang/Exception"]).filter goodWord)
def wsX6_thereAt : List Cond := .code yX6_thereAt cX6_thereAt 2 (some (.object "TrainedSegments$Dictionary")) :: ([.fieldLink RX6 24 "TrainedSegments" "dictionaries" "[LTrainedSegments$Dictionary;", .methodLink RX6 89 yX6_isNumber, .static yX6_isNumber, .initialized RX6, .code yX6_isNumber cX6_isNumber 1 (some .boolean), .methodLink RX6 196 yX0_isThere, .instanceMethod yX0_isThere, .selects RX0 yX0_isThere yX0_isThere, .initialized RX0, .code yX0_isThere cX0_isThere 1 (some .boolean), .fieldLink RX0 20 "TrainedSegments$Dictionary" "id" "I"] ++ wsX60 ++ wsX00 ++ (vx_atN 8).filter goodWord)
def wsX6_bytesOfSamples_r1 : List Cond := [Cond.fieldLink RX6 78 "TrainedSegments" "sampleCount" "I", Cond.fieldLink RX6 49 "TrainedSegments" "packer" "LTrainedSegments$Packer;", Cond.fieldLink RX6 18 "TrainedSegments" "samples" "[LTrainedSegments$Row;", Cond.methodLink RX6 162 yX3_measure, Cond.instanceMethod yX3_measure, Cond.selects RX3 yX3_measure yX3_measure, Cond.initialized RX3, Cond.code yX3_measure cX3_measure 4 (some .int), Cond.fieldLink RX3 9 "TrainedSegments$Packer" "joined" "[B", Cond.fieldLink RX3 34 "TrainedSegments$Packer" "start" "I", Cond.methodLink RX3 38 Lib.Math.min.name, Cond.static Lib.Math.min.name, Cond.initialized "java/lang/Math", Cond.code Lib.Math.min.name Lib.Math.min.code 2 (some .int), Cond.fieldLink RX3 44 "TrainedSegments$Packer" "length" "I", Cond.fieldLink RX3 22 "TrainedSegments$Packer" "cost" "[I", Cond.constant RX3 52 (2147483647), Cond.methodLink RX3 28 yX4_copyTo, Cond.instanceMethod yX4_copyTo, Cond.selects RX4 yX4_copyTo yX4_copyTo, Cond.initialized RX4, Cond.code yX4_copyTo cX4_copyTo 5 (some .int), Cond.fieldLink RX4 19 "TrainedSegments$Row" "length" "I", Cond.methodLink RX4 42 Lib.Math.min.name]
def wsX6_bytesOfSamples_r2 : List Cond := [Cond.methodLink RX4 7 Lib.Math.max.name, Cond.static Lib.Math.max.name, Cond.code Lib.Math.max.name Lib.Math.max.code 2 (some .int), Cond.fieldLink RX4 13 "TrainedSegments$Row" "bytes" "[B", Cond.methodLink RX3 47 yX3_linkSameBytes, Cond.instanceMethod yX3_linkSameBytes, Cond.selects RX3 yX3_linkSameBytes yX3_linkSameBytes, Cond.code yX3_linkSameBytes cX3_linkSameBytes 3 none, Cond.fieldLink RX3 19 "TrainedSegments$Packer" "latest" "[I", Cond.fieldLink RX3 15 "TrainedSegments$Packer" "earlier" "[I", Cond.methodLink RX3 77 yJ7_fill_53178, Cond.static yJ7_fill_53178, Cond.initialized RJ7, Cond.code yJ7_fill_53178 cJ7_fill_53178 4 none, Cond.methodLink RX3 53 yX3_tryMatches, Cond.instanceMethod yX3_tryMatches, Cond.selects RX3 yX3_tryMatches yX3_tryMatches, Cond.code yX3_tryMatches cX3_tryMatches 3 none, Cond.fieldLink RX3 25 "TrainedSegments$Packer" "choice" "[I", Cond.methodLink RX3 83 yX3_longestMatch, Cond.instanceMethod yX3_longestMatch, Cond.selects RX3 yX3_longestMatch yX3_longestMatch, Cond.code yX3_longestMatch cX3_longestMatch 6 (some .int), Cond.methodLink RX3 90 Lib.Math.max.name]
def wsX6_bytesOfSamples_r3 : List Cond := [Cond.methodLink RX3 86 yX3_sameBytes, Cond.instanceMethod yX3_sameBytes, Cond.selects RX3 yX3_sameBytes yX3_sameBytes, Cond.code yX3_sameBytes cX3_sameBytes 5 (some .int), Cond.methodLink RX3 57 yX3_tryPlain, Cond.instanceMethod yX3_tryPlain, Cond.selects RX3 yX3_tryPlain yX3_tryPlain, Cond.code yX3_tryPlain cX3_tryPlain 3 none]
def wsX6_bytesOfSamples : List Cond := .code yX6_bytesOfSamples cX6_bytesOfSamples 4 (some .int) :: ((wsX6_bytesOfSamples_r1 ++ (wsX6_bytesOfSamples_r2 ++ wsX6_bytesOfSamples_r3)) ++ wsX60 ++ wsX30 ++ wsX40 ++ (vx_atN 8).filter goodWord ++ (vx_atM "java/lang/ArrayIndexOutOfBoundsException" ["java/lang/IndexOutOfBoundsException", "java/lang/RuntimeException", "java/lang/Exception"]).filter goodWord)
def wsX6_leaveOutIdlePieces_r1 : List Cond := [Cond.fieldLink RX6 33 "TrainedSegments" "trial" "LTrainedSegments$Row;", Cond.methodLink RX6 110 yX0_pieces, Cond.instanceMethod yX0_pieces, Cond.selects RX0 yX0_pieces yX0_pieces, Cond.initialized RX0, Cond.code yX0_pieces cX0_pieces 1 (some .int), Cond.fieldLink RX0 24 "TrainedSegments$Dictionary" "pieces" "I", Cond.methodLink RX6 117 yX0_words, Cond.instanceMethod yX0_words, Cond.selects RX0 yX0_words yX0_words, Cond.code yX0_words cX0_words 1 (some (.object "TrainedSegments$Row")), Cond.fieldLink RX0 14 "TrainedSegments$Dictionary" "words" "LTrainedSegments$Row;", Cond.methodLink RX6 200 yX6_bytesOfSamples, Cond.instanceMethod yX6_bytesOfSamples, Cond.selects RX6 yX6_bytesOfSamples yX6_bytesOfSamples, Cond.initialized RX6, Cond.code yX6_bytesOfSamples cX6_bytesOfSamples 4 (some .int), Cond.fieldLink RX6 78 "TrainedSegments" "sampleCount" "I", Cond.fieldLink RX6 49 "TrainedSegments" "packer" "LTrainedSegments$Packer;", Cond.fieldLink RX6 18 "TrainedSegments" "samples" "[LTrainedSegments$Row;", Cond.methodLink RX6 162 yX3_measure, Cond.instanceMethod yX3_measure, Cond.selects RX3 yX3_measure yX3_measure, Cond.initialized RX3]
def wsX6_leaveOutIdlePieces_r2 : List Cond := [Cond.code yX3_measure cX3_measure 4 (some .int), Cond.fieldLink RX3 9 "TrainedSegments$Packer" "joined" "[B", Cond.fieldLink RX3 34 "TrainedSegments$Packer" "start" "I", Cond.methodLink RX3 38 Lib.Math.min.name, Cond.static Lib.Math.min.name, Cond.initialized "java/lang/Math", Cond.code Lib.Math.min.name Lib.Math.min.code 2 (some .int), Cond.fieldLink RX3 44 "TrainedSegments$Packer" "length" "I", Cond.fieldLink RX3 22 "TrainedSegments$Packer" "cost" "[I", Cond.constant RX3 52 (2147483647), Cond.methodLink RX3 28 yX4_copyTo, Cond.instanceMethod yX4_copyTo, Cond.selects RX4 yX4_copyTo yX4_copyTo, Cond.initialized RX4, Cond.code yX4_copyTo cX4_copyTo 5 (some .int), Cond.fieldLink RX4 19 "TrainedSegments$Row" "length" "I", Cond.methodLink RX4 42 Lib.Math.min.name, Cond.methodLink RX4 7 Lib.Math.max.name, Cond.static Lib.Math.max.name, Cond.code Lib.Math.max.name Lib.Math.max.code 2 (some .int), Cond.fieldLink RX4 13 "TrainedSegments$Row" "bytes" "[B", Cond.methodLink RX3 47 yX3_linkSameBytes, Cond.instanceMethod yX3_linkSameBytes, Cond.selects RX3 yX3_linkSameBytes yX3_linkSameBytes]
def wsX6_leaveOutIdlePieces_r3 : List Cond := [Cond.code yX3_linkSameBytes cX3_linkSameBytes 3 none, Cond.fieldLink RX3 19 "TrainedSegments$Packer" "latest" "[I", Cond.fieldLink RX3 15 "TrainedSegments$Packer" "earlier" "[I", Cond.methodLink RX3 77 yJ7_fill_53178, Cond.static yJ7_fill_53178, Cond.initialized RJ7, Cond.code yJ7_fill_53178 cJ7_fill_53178 4 none, Cond.methodLink RX3 53 yX3_tryMatches, Cond.instanceMethod yX3_tryMatches, Cond.selects RX3 yX3_tryMatches yX3_tryMatches, Cond.code yX3_tryMatches cX3_tryMatches 3 none, Cond.fieldLink RX3 25 "TrainedSegments$Packer" "choice" "[I", Cond.methodLink RX3 83 yX3_longestMatch, Cond.instanceMethod yX3_longestMatch, Cond.selects RX3 yX3_longestMatch yX3_longestMatch, Cond.code yX3_longestMatch cX3_longestMatch 6 (some .int), Cond.methodLink RX3 90 Lib.Math.max.name, Cond.methodLink RX3 86 yX3_sameBytes, Cond.instanceMethod yX3_sameBytes, Cond.selects RX3 yX3_sameBytes yX3_sameBytes, Cond.code yX3_sameBytes cX3_sameBytes 5 (some .int), Cond.methodLink RX3 57 yX3_tryPlain, Cond.instanceMethod yX3_tryPlain, Cond.selects RX3 yX3_tryPlain yX3_tryPlain]
def wsX6_leaveOutIdlePieces_r4 : List Cond := [Cond.code yX3_tryPlain cX3_tryPlain 3 none, Cond.methodLink RX6 218 yX0_copyWithout, Cond.instanceMethod yX0_copyWithout, Cond.selects RX0 yX0_copyWithout yX0_copyWithout, Cond.code yX0_copyWithout cX0_copyWithout 3 none, Cond.fieldLink RX0 27 "TrainedSegments$Dictionary" "pieceLength" "I", Cond.methodLink RX0 45 yX4_become, Cond.instanceMethod yX4_become, Cond.selects RX4 yX4_become yX4_become, Cond.code yX4_become cX4_become 2 none, Cond.methodLink RX4 35 yX4_clear, Cond.instanceMethod yX4_clear, Cond.selects RX4 yX4_clear yX4_clear, Cond.code yX4_clear cX4_clear 1 none, Cond.methodLink RX4 38 yX4_addFrom, Cond.instanceMethod yX4_addFrom, Cond.selects RX4 yX4_addFrom yX4_addFrom, Cond.code yX4_addFrom cX4_addFrom 5 none, Cond.methodLink RX4 27 yX4_signedAt, Cond.instanceMethod yX4_signedAt, Cond.selects RX4 yX4_signedAt yX4_signedAt, Cond.code yX4_signedAt cX4_signedAt 2 (some .byte), Cond.methodLink RX4 23 yX4_has, Cond.instanceMethod yX4_has]
def wsX6_leaveOutIdlePieces_r5 : List Cond := [Cond.selects RX4 yX4_has yX4_has, Cond.code yX4_has cX4_has 2 (some .boolean), Cond.methodLink RX4 31 yX4_add, Cond.instanceMethod yX4_add, Cond.selects RX4 yX4_add yX4_add, Cond.code yX4_add cX4_add 2 none, Cond.methodLink RX0 49 yX4_cutOut, Cond.instanceMethod yX4_cutOut, Cond.selects RX4 yX4_cutOut yX4_cutOut, Cond.code yX4_cutOut cX4_cutOut 5 none, Cond.methodLink RX6 222 yX0_removePiece, Cond.instanceMethod yX0_removePiece, Cond.selects RX0 yX0_removePiece yX0_removePiece, Cond.code yX0_removePiece cX0_removePiece 2 none]
def wsX6_leaveOutIdlePieces : List Cond := .code yX6_leaveOutIdlePieces cX6_leaveOutIdlePieces 7 (some .int) :: ((wsX6_leaveOutIdlePieces_r1 ++ (wsX6_leaveOutIdlePieces_r2 ++ (wsX6_leaveOutIdlePieces_r3 ++ (wsX6_leaveOutIdlePieces_r4 ++ wsX6_leaveOutIdlePieces_r5)))) ++ wsX60 ++ wsX00 ++ wsX30 ++ wsX40 ++ (vx_atN 8).filter goodWord ++ (vx_atM "java/lang/ArrayIndexOutOfBoundsException" ["java/lang/IndexOutOfBoundsException", "java/lang/RuntimeException", "java/lang/Exception"]).filter goodWord)
def wsX6_trim_r1 : List Cond := [Cond.fieldLink RX6 78 "TrainedSegments" "sampleCount" "I", Cond.methodLink RX6 121 yX6_thereAt, Cond.instanceMethod yX6_thereAt, Cond.selects RX6 yX6_thereAt yX6_thereAt, Cond.initialized RX6, Cond.code yX6_thereAt cX6_thereAt 2 (some (.object "TrainedSegments$Dictionary")), Cond.fieldLink RX6 24 "TrainedSegments" "dictionaries" "[LTrainedSegments$Dictionary;", Cond.methodLink RX6 89 yX6_isNumber, Cond.static yX6_isNumber, Cond.code yX6_isNumber cX6_isNumber 1 (some .boolean), Cond.methodLink RX6 196 yX0_isThere, Cond.instanceMethod yX0_isThere, Cond.selects RX0 yX0_isThere yX0_isThere, Cond.initialized RX0, Cond.code yX0_isThere cX0_isThere 1 (some .boolean), Cond.fieldLink RX0 20 "TrainedSegments$Dictionary" "id" "I", Cond.methodLink RX6 125 yX6_leaveOutIdlePieces, Cond.instanceMethod yX6_leaveOutIdlePieces, Cond.selects RX6 yX6_leaveOutIdlePieces yX6_leaveOutIdlePieces, Cond.code yX6_leaveOutIdlePieces cX6_leaveOutIdlePieces 7 (some .int), Cond.fieldLink RX6 33 "TrainedSegments" "trial" "LTrainedSegments$Row;", Cond.methodLink RX6 110 yX0_pieces, Cond.instanceMethod yX0_pieces, Cond.selects RX0 yX0_pieces yX0_pieces]
def wsX6_trim_r2 : List Cond := [Cond.code yX0_pieces cX0_pieces 1 (some .int), Cond.fieldLink RX0 24 "TrainedSegments$Dictionary" "pieces" "I", Cond.methodLink RX6 117 yX0_words, Cond.instanceMethod yX0_words, Cond.selects RX0 yX0_words yX0_words, Cond.code yX0_words cX0_words 1 (some (.object "TrainedSegments$Row")), Cond.fieldLink RX0 14 "TrainedSegments$Dictionary" "words" "LTrainedSegments$Row;", Cond.methodLink RX6 200 yX6_bytesOfSamples, Cond.instanceMethod yX6_bytesOfSamples, Cond.selects RX6 yX6_bytesOfSamples yX6_bytesOfSamples, Cond.code yX6_bytesOfSamples cX6_bytesOfSamples 4 (some .int), Cond.fieldLink RX6 49 "TrainedSegments" "packer" "LTrainedSegments$Packer;", Cond.fieldLink RX6 18 "TrainedSegments" "samples" "[LTrainedSegments$Row;", Cond.methodLink RX6 162 yX3_measure, Cond.instanceMethod yX3_measure, Cond.selects RX3 yX3_measure yX3_measure, Cond.initialized RX3, Cond.code yX3_measure cX3_measure 4 (some .int), Cond.fieldLink RX3 9 "TrainedSegments$Packer" "joined" "[B", Cond.fieldLink RX3 34 "TrainedSegments$Packer" "start" "I", Cond.methodLink RX3 38 Lib.Math.min.name, Cond.static Lib.Math.min.name, Cond.initialized "java/lang/Math", Cond.code Lib.Math.min.name Lib.Math.min.code 2 (some .int)]
def wsX6_trim_r3 : List Cond := [Cond.fieldLink RX3 44 "TrainedSegments$Packer" "length" "I", Cond.fieldLink RX3 22 "TrainedSegments$Packer" "cost" "[I", Cond.constant RX3 52 (2147483647), Cond.methodLink RX3 28 yX4_copyTo, Cond.instanceMethod yX4_copyTo, Cond.selects RX4 yX4_copyTo yX4_copyTo, Cond.initialized RX4, Cond.code yX4_copyTo cX4_copyTo 5 (some .int), Cond.fieldLink RX4 19 "TrainedSegments$Row" "length" "I", Cond.methodLink RX4 42 Lib.Math.min.name, Cond.methodLink RX4 7 Lib.Math.max.name, Cond.static Lib.Math.max.name, Cond.code Lib.Math.max.name Lib.Math.max.code 2 (some .int), Cond.fieldLink RX4 13 "TrainedSegments$Row" "bytes" "[B", Cond.methodLink RX3 47 yX3_linkSameBytes, Cond.instanceMethod yX3_linkSameBytes, Cond.selects RX3 yX3_linkSameBytes yX3_linkSameBytes, Cond.code yX3_linkSameBytes cX3_linkSameBytes 3 none, Cond.fieldLink RX3 19 "TrainedSegments$Packer" "latest" "[I", Cond.fieldLink RX3 15 "TrainedSegments$Packer" "earlier" "[I", Cond.methodLink RX3 77 yJ7_fill_53178, Cond.static yJ7_fill_53178, Cond.initialized RJ7, Cond.code yJ7_fill_53178 cJ7_fill_53178 4 none]
def wsX6_trim_r4 : List Cond := [Cond.methodLink RX3 53 yX3_tryMatches, Cond.instanceMethod yX3_tryMatches, Cond.selects RX3 yX3_tryMatches yX3_tryMatches, Cond.code yX3_tryMatches cX3_tryMatches 3 none, Cond.fieldLink RX3 25 "TrainedSegments$Packer" "choice" "[I", Cond.methodLink RX3 83 yX3_longestMatch, Cond.instanceMethod yX3_longestMatch, Cond.selects RX3 yX3_longestMatch yX3_longestMatch, Cond.code yX3_longestMatch cX3_longestMatch 6 (some .int), Cond.methodLink RX3 90 Lib.Math.max.name, Cond.methodLink RX3 86 yX3_sameBytes, Cond.instanceMethod yX3_sameBytes, Cond.selects RX3 yX3_sameBytes yX3_sameBytes, Cond.code yX3_sameBytes cX3_sameBytes 5 (some .int), Cond.methodLink RX3 57 yX3_tryPlain, Cond.instanceMethod yX3_tryPlain, Cond.selects RX3 yX3_tryPlain yX3_tryPlain, Cond.code yX3_tryPlain cX3_tryPlain 3 none, Cond.methodLink RX6 218 yX0_copyWithout, Cond.instanceMethod yX0_copyWithout, Cond.selects RX0 yX0_copyWithout yX0_copyWithout, Cond.code yX0_copyWithout cX0_copyWithout 3 none, Cond.fieldLink RX0 27 "TrainedSegments$Dictionary" "pieceLength" "I", Cond.methodLink RX0 45 yX4_become]
def wsX6_trim_r5 : List Cond := [Cond.instanceMethod yX4_become, Cond.selects RX4 yX4_become yX4_become, Cond.code yX4_become cX4_become 2 none, Cond.methodLink RX4 35 yX4_clear, Cond.instanceMethod yX4_clear, Cond.selects RX4 yX4_clear yX4_clear, Cond.code yX4_clear cX4_clear 1 none, Cond.methodLink RX4 38 yX4_addFrom, Cond.instanceMethod yX4_addFrom, Cond.selects RX4 yX4_addFrom yX4_addFrom, Cond.code yX4_addFrom cX4_addFrom 5 none, Cond.methodLink RX4 27 yX4_signedAt, Cond.instanceMethod yX4_signedAt, Cond.selects RX4 yX4_signedAt yX4_signedAt, Cond.code yX4_signedAt cX4_signedAt 2 (some .byte), Cond.methodLink RX4 23 yX4_has, Cond.instanceMethod yX4_has, Cond.selects RX4 yX4_has yX4_has, Cond.code yX4_has cX4_has 2 (some .boolean), Cond.methodLink RX4 31 yX4_add, Cond.instanceMethod yX4_add, Cond.selects RX4 yX4_add yX4_add, Cond.code yX4_add cX4_add 2 none, Cond.methodLink RX0 49 yX4_cutOut]
def wsX6_trim_r6 : List Cond := [Cond.instanceMethod yX4_cutOut, Cond.selects RX4 yX4_cutOut yX4_cutOut, Cond.code yX4_cutOut cX4_cutOut 5 none, Cond.methodLink RX6 222 yX0_removePiece, Cond.instanceMethod yX0_removePiece, Cond.selects RX0 yX0_removePiece yX0_removePiece, Cond.code yX0_removePiece cX0_removePiece 2 none]
def wsX6_trim : List Cond := .code yX6_trim cX6_trim 3 (some .int) :: ((wsX6_trim_r1 ++ (wsX6_trim_r2 ++ (wsX6_trim_r3 ++ (wsX6_trim_r4 ++ (wsX6_trim_r5 ++ wsX6_trim_r6))))) ++ wsX60 ++ wsX00 ++ wsX30 ++ wsX40 ++ (vx_atN 8).filter goodWord ++ (vx_atM "java/lang/ArrayIndexOutOfBoundsException" ["java/lang/IndexOutOfBoundsException", "java/lang/RuntimeException", "java/lang/Exception"]).filter goodWord)
def wsX6_drop_r1 : List Cond := [Cond.methodLink RX6 121 yX6_thereAt, Cond.instanceMethod yX6_thereAt, Cond.selects RX6 yX6_thereAt yX6_thereAt, Cond.initialized RX6, Cond.code yX6_thereAt cX6_thereAt 2 (some (.object "TrainedSegments$Dictionary")), Cond.fieldLink RX6 24 "TrainedSegments" "dictionaries" "[LTrainedSegments$Dictionary;", Cond.methodLink RX6 89 yX6_isNumber, Cond.static yX6_isNumber, Cond.code yX6_isNumber cX6_isNumber 1 (some .boolean), Cond.methodLink RX6 196 yX0_isThere, Cond.instanceMethod yX0_isThere, Cond.selects RX0 yX0_isThere yX0_isThere, Cond.initialized RX0, Cond.code yX0_isThere cX0_isThere 1 (some .boolean), Cond.fieldLink RX0 20 "TrainedSegments$Dictionary" "id" "I", Cond.methodLink RX6 110 yX0_pieces, Cond.instanceMethod yX0_pieces, Cond.selects RX0 yX0_pieces yX0_pieces, Cond.code yX0_pieces cX0_pieces 1 (some .int), Cond.fieldLink RX0 24 "TrainedSegments$Dictionary" "pieces" "I", Cond.methodLink RX6 102 yX0_begin, Cond.instanceMethod yX0_begin, Cond.selects RX0 yX0_begin yX0_begin, Cond.code yX0_begin cX0_begin 3 none]
def wsX6_drop_r2 : List Cond := [Cond.fieldLink RX0 27 "TrainedSegments$Dictionary" "pieceLength" "I", Cond.fieldLink RX0 14 "TrainedSegments$Dictionary" "words" "LTrainedSegments$Row;", Cond.methodLink RX0 34 yX4_clear, Cond.instanceMethod yX4_clear, Cond.selects RX4 yX4_clear yX4_clear, Cond.initialized RX4, Cond.code yX4_clear cX4_clear 1 none, Cond.fieldLink RX4 19 "TrainedSegments$Row" "length" "I"]
def wsX6_drop : List Cond := .code yX6_drop cX6_drop 4 (some .int) :: ((wsX6_drop_r1 ++ wsX6_drop_r2) ++ wsX60 ++ wsX00 ++ wsX40 ++ (vx_atN 8).filter goodWord)
def wsX6_told_r1 : List Cond := [Cond.methodLink RX6 121 yX6_thereAt, Cond.instanceMethod yX6_thereAt, Cond.selects RX6 yX6_thereAt yX6_thereAt, Cond.initialized RX6, Cond.code yX6_thereAt cX6_thereAt 2 (some (.object "TrainedSegments$Dictionary")), Cond.fieldLink RX6 24 "TrainedSegments" "dictionaries" "[LTrainedSegments$Dictionary;", Cond.methodLink RX6 89 yX6_isNumber, Cond.static yX6_isNumber, Cond.code yX6_isNumber cX6_isNumber 1 (some .boolean), Cond.methodLink RX6 196 yX0_isThere, Cond.instanceMethod yX0_isThere, Cond.selects RX0 yX0_isThere yX0_isThere, Cond.initialized RX0, Cond.code yX0_isThere cX0_isThere 1 (some .boolean), Cond.fieldLink RX0 20 "TrainedSegments$Dictionary" "id" "I", Cond.methodLink RX6 129 yX0_id, Cond.instanceMethod yX0_id, Cond.selects RX0 yX0_id yX0_id, Cond.code yX0_id cX0_id 1 (some .int), Cond.methodLink RX6 110 yX0_pieces, Cond.instanceMethod yX0_pieces, Cond.selects RX0 yX0_pieces yX0_pieces, Cond.code yX0_pieces cX0_pieces 1 (some .int), Cond.fieldLink RX0 24 "TrainedSegments$Dictionary" "pieces" "I"]
def wsX6_told_r2 : List Cond := [Cond.methodLink RX6 117 yX0_words, Cond.instanceMethod yX0_words, Cond.selects RX0 yX0_words yX0_words, Cond.code yX0_words cX0_words 1 (some (.object "TrainedSegments$Row")), Cond.fieldLink RX0 14 "TrainedSegments$Dictionary" "words" "LTrainedSegments$Row;", Cond.methodLink RX6 74 yX4_length, Cond.instanceMethod yX4_length, Cond.selects RX4 yX4_length yX4_length, Cond.initialized RX4, Cond.code yX4_length cX4_length 1 (some .int), Cond.fieldLink RX4 19 "TrainedSegments$Row" "length" "I", Cond.methodLink RX6 132 yX0_sum, Cond.instanceMethod yX0_sum, Cond.selects RX0 yX0_sum yX0_sum, Cond.code yX0_sum cX0_sum 1 (some .int), Cond.methodLink RX0 30 yX4_sum, Cond.instanceMethod yX4_sum, Cond.selects RX4 yX4_sum yX4_sum, Cond.code yX4_sum cX4_sum 4 (some .int), Cond.methodLink RX4 45 yX4_at, Cond.instanceMethod yX4_at, Cond.selects RX4 yX4_at yX4_at, Cond.code yX4_at cX4_at 2 (some .int), Cond.methodLink RX4 27 yX4_signedAt]
def wsX6_told_r3 : List Cond := [Cond.instanceMethod yX4_signedAt, Cond.selects RX4 yX4_signedAt yX4_signedAt, Cond.code yX4_signedAt cX4_signedAt 2 (some .byte), Cond.fieldLink RX4 13 "TrainedSegments$Row" "bytes" "[B", Cond.methodLink RX4 23 yX4_has, Cond.instanceMethod yX4_has, Cond.selects RX4 yX4_has yX4_has, Cond.code yX4_has cX4_has 2 (some .boolean), Cond.methodLink RX6 135 yX0_pieceLength, Cond.instanceMethod yX0_pieceLength, Cond.selects RX0 yX0_pieceLength yX0_pieceLength, Cond.code yX0_pieceLength cX0_pieceLength 1 (some .int), Cond.fieldLink RX0 27 "TrainedSegments$Dictionary" "pieceLength" "I"]
def wsX6_told : List Cond := .code yX6_told cX6_told 4 (some .int) :: ((wsX6_told_r1 ++ (wsX6_told_r2 ++ wsX6_told_r3)) ++ wsX60 ++ wsX00 ++ wsX40 ++ (vx_atN 8).filter goodWord ++ (vx_atM "java/lang/ArrayIndexOutOfBoundsException" ["java/lang/IndexOutOfBoundsException", "java/lang/RuntimeException", "java/lang/Exception"]).filter goodWord)
def wsX6_content_r1 : List Cond := [Cond.classLink RX6 138 RJx00060, Cond.instantiable RJx00060 6, Cond.initialized RJx00060, Cond.classLink RX6 145 RJx5d777, Cond.instantiable RJx5d777 8, Cond.initialized RJx5d777, Cond.methodLink RX6 89 yX6_isNumber, Cond.static yX6_isNumber, Cond.initialized RX6, Cond.code yX6_isNumber cX6_isNumber 1 (some .boolean), Cond.methodLink RX6 121 yX6_thereAt, Cond.instanceMethod yX6_thereAt, Cond.selects RX6 yX6_thereAt yX6_thereAt, Cond.code yX6_thereAt cX6_thereAt 2 (some (.object "TrainedSegments$Dictionary")), Cond.fieldLink RX6 24 "TrainedSegments" "dictionaries" "[LTrainedSegments$Dictionary;", Cond.methodLink RX6 196 yX0_isThere, Cond.instanceMethod yX0_isThere, Cond.selects RX0 yX0_isThere yX0_isThere, Cond.initialized RX0, Cond.code yX0_isThere cX0_isThere 1 (some .boolean), Cond.fieldLink RX0 20 "TrainedSegments$Dictionary" "id" "I", Cond.methodLink RX6 117 yX0_words, Cond.instanceMethod yX0_words, Cond.selects RX0 yX0_words yX0_words]
def wsX6_content_r2 : List Cond := [Cond.code yX0_words cX0_words 1 (some (.object "TrainedSegments$Row")), Cond.fieldLink RX0 14 "TrainedSegments$Dictionary" "words" "LTrainedSegments$Row;", Cond.methodLink RX6 150 yX4_has, Cond.instanceMethod yX4_has, Cond.selects RX4 yX4_has yX4_has, Cond.initialized RX4, Cond.code yX4_has cX4_has 2 (some .boolean), Cond.fieldLink RX4 19 "TrainedSegments$Row" "length" "I", Cond.methodLink RX6 155 yX4_signedAt, Cond.instanceMethod yX4_signedAt, Cond.selects RX4 yX4_signedAt yX4_signedAt, Cond.code yX4_signedAt cX4_signedAt 2 (some .byte), Cond.fieldLink RX4 13 "TrainedSegments$Row" "bytes" "[B", Cond.methodLink RX4 23 yX4_has]
def wsX6_content : List Cond := .code yX6_content cX6_content 4 (some .byte) :: ((wsX6_content_r1 ++ wsX6_content_r2) ++ wsJx000600 ++ wsJx5d7770 ++ wsX60 ++ wsX00 ++ wsX40 ++ (vx_atN 8).filter goodWord ++ (vx_atM "java/lang/ArrayIndexOutOfBoundsException" ["java/lang/IndexOutOfBoundsException", "java/lang/RuntimeException", "java/lang/Exception"]).filter goodWord)
def wsX6_noneOrThereAt : List Cond := .code yX6_noneOrThereAt cX6_noneOrThereAt 2 (some (.object "TrainedSegments$Dictionary")) :: ([.fieldLink RX6 29 "TrainedSegments" "none" "LTrainedSegments$Dictionary;", .methodLink RX6 121 yX6_thereAt, .instanceMethod yX6_thereAt, .selects RX6 yX6_thereAt yX6_thereAt, .initialized RX6, .code yX6_thereAt cX6_thereAt 2 (some (.object "TrainedSegments$Dictionary")), .fieldLink RX6 24 "TrainedSegments" "dictionaries" "[LTrainedSegments$Dictionary;", .methodLink RX6 89 yX6_isNumber, .static yX6_isNumber, .code yX6_isNumber cX6_isNumber 1 (some .boolean), .methodLink RX6 196 yX0_isThere, .instanceMethod yX0_isThere, .selects RX0 yX0_isThere yX0_isThere, .initialized RX0, .code yX0_isThere cX0_isThere 1 (some .boolean), .fieldLink RX0 20 "TrainedSegments$Dictionary" "id" "I"] ++ wsX60 ++ wsX00 ++ (vx_atN 8).filter goodWord)
def wsX6_pack_r1 : List Cond := [Cond.fieldLink RX6 49 "TrainedSegments" "packer" "LTrainedSegments$Packer;", Cond.fieldLink RX6 14 "TrainedSegments" "tape" "LTrainedSegments$Row;", Cond.fieldLink RX6 42 "TrainedSegments" "output" "LTrainedSegments$Output;", Cond.methodLink RX6 159 yX6_noneOrThereAt, Cond.instanceMethod yX6_noneOrThereAt, Cond.selects RX6 yX6_noneOrThereAt yX6_noneOrThereAt, Cond.initialized RX6, Cond.code yX6_noneOrThereAt cX6_noneOrThereAt 2 (some (.object "TrainedSegments$Dictionary")), Cond.fieldLink RX6 29 "TrainedSegments" "none" "LTrainedSegments$Dictionary;", Cond.methodLink RX6 121 yX6_thereAt, Cond.instanceMethod yX6_thereAt, Cond.selects RX6 yX6_thereAt yX6_thereAt, Cond.code yX6_thereAt cX6_thereAt 2 (some (.object "TrainedSegments$Dictionary")), Cond.fieldLink RX6 24 "TrainedSegments" "dictionaries" "[LTrainedSegments$Dictionary;", Cond.methodLink RX6 89 yX6_isNumber, Cond.static yX6_isNumber, Cond.code yX6_isNumber cX6_isNumber 1 (some .boolean), Cond.methodLink RX6 196 yX0_isThere, Cond.instanceMethod yX0_isThere, Cond.selects RX0 yX0_isThere yX0_isThere, Cond.initialized RX0, Cond.code yX0_isThere cX0_isThere 1 (some .boolean), Cond.fieldLink RX0 20 "TrainedSegments$Dictionary" "id" "I", Cond.methodLink RX6 117 yX0_words]
def wsX6_pack_r2 : List Cond := [Cond.instanceMethod yX0_words, Cond.selects RX0 yX0_words yX0_words, Cond.code yX0_words cX0_words 1 (some (.object "TrainedSegments$Row")), Cond.fieldLink RX0 14 "TrainedSegments$Dictionary" "words" "LTrainedSegments$Row;", Cond.methodLink RX6 162 yX3_measure, Cond.instanceMethod yX3_measure, Cond.selects RX3 yX3_measure yX3_measure, Cond.initialized RX3, Cond.code yX3_measure cX3_measure 4 (some .int), Cond.fieldLink RX3 9 "TrainedSegments$Packer" "joined" "[B", Cond.fieldLink RX3 34 "TrainedSegments$Packer" "start" "I", Cond.methodLink RX3 38 Lib.Math.min.name, Cond.static Lib.Math.min.name, Cond.initialized "java/lang/Math", Cond.code Lib.Math.min.name Lib.Math.min.code 2 (some .int), Cond.fieldLink RX3 44 "TrainedSegments$Packer" "length" "I", Cond.fieldLink RX3 22 "TrainedSegments$Packer" "cost" "[I", Cond.constant RX3 52 (2147483647), Cond.methodLink RX3 28 yX4_copyTo, Cond.instanceMethod yX4_copyTo, Cond.selects RX4 yX4_copyTo yX4_copyTo, Cond.initialized RX4, Cond.code yX4_copyTo cX4_copyTo 5 (some .int), Cond.fieldLink RX4 19 "TrainedSegments$Row" "length" "I"]
def wsX6_pack_r3 : List Cond := [Cond.methodLink RX4 42 Lib.Math.min.name, Cond.methodLink RX4 7 Lib.Math.max.name, Cond.static Lib.Math.max.name, Cond.code Lib.Math.max.name Lib.Math.max.code 2 (some .int), Cond.fieldLink RX4 13 "TrainedSegments$Row" "bytes" "[B", Cond.methodLink RX3 47 yX3_linkSameBytes, Cond.instanceMethod yX3_linkSameBytes, Cond.selects RX3 yX3_linkSameBytes yX3_linkSameBytes, Cond.code yX3_linkSameBytes cX3_linkSameBytes 3 none, Cond.fieldLink RX3 19 "TrainedSegments$Packer" "latest" "[I", Cond.fieldLink RX3 15 "TrainedSegments$Packer" "earlier" "[I", Cond.methodLink RX3 77 yJ7_fill_53178, Cond.static yJ7_fill_53178, Cond.initialized RJ7, Cond.code yJ7_fill_53178 cJ7_fill_53178 4 none, Cond.methodLink RX3 53 yX3_tryMatches, Cond.instanceMethod yX3_tryMatches, Cond.selects RX3 yX3_tryMatches yX3_tryMatches, Cond.code yX3_tryMatches cX3_tryMatches 3 none, Cond.fieldLink RX3 25 "TrainedSegments$Packer" "choice" "[I", Cond.methodLink RX3 83 yX3_longestMatch, Cond.instanceMethod yX3_longestMatch, Cond.selects RX3 yX3_longestMatch yX3_longestMatch, Cond.code yX3_longestMatch cX3_longestMatch 6 (some .int)]
def wsX6_pack_r4 : List Cond := [Cond.methodLink RX3 90 Lib.Math.max.name, Cond.methodLink RX3 86 yX3_sameBytes, Cond.instanceMethod yX3_sameBytes, Cond.selects RX3 yX3_sameBytes yX3_sameBytes, Cond.code yX3_sameBytes cX3_sameBytes 5 (some .int), Cond.methodLink RX3 57 yX3_tryPlain, Cond.instanceMethod yX3_tryPlain, Cond.selects RX3 yX3_tryPlain yX3_tryPlain, Cond.code yX3_tryPlain cX3_tryPlain 3 none, Cond.methodLink RX6 74 yX4_length, Cond.instanceMethod yX4_length, Cond.selects RX4 yX4_length yX4_length, Cond.code yX4_length cX4_length 1 (some .int), Cond.methodLink RX6 166 yX2_begin, Cond.instanceMethod yX2_begin, Cond.selects RX2 yX2_begin yX2_begin, Cond.initialized RX2, Cond.code yX2_begin cX2_begin 3 none, Cond.fieldLink RX2 20 "TrainedSegments$Output" "items" "I", Cond.fieldLink RX2 24 "TrainedSegments$Output" "matches" "I", Cond.fieldLink RX2 14 "TrainedSegments$Output" "bytes" "LTrainedSegments$Row;", Cond.methodLink RX2 27 yX4_clear, Cond.instanceMethod yX4_clear, Cond.selects RX4 yX4_clear yX4_clear]
def wsX6_pack_r5 : List Cond := [Cond.code yX4_clear cX4_clear 1 none, Cond.methodLink RX2 30 yX0_id, Cond.instanceMethod yX0_id, Cond.selects RX0 yX0_id yX0_id, Cond.code yX0_id cX0_id 1 (some .int), Cond.methodLink RX2 36 yX4_add, Cond.instanceMethod yX4_add, Cond.selects RX4 yX4_add yX4_add, Cond.code yX4_add cX4_add 2 none, Cond.methodLink RX2 39 yX0_sum, Cond.instanceMethod yX0_sum, Cond.selects RX0 yX0_sum yX0_sum, Cond.code yX0_sum cX0_sum 1 (some .int), Cond.methodLink RX0 30 yX4_sum, Cond.instanceMethod yX4_sum, Cond.selects RX4 yX4_sum yX4_sum, Cond.code yX4_sum cX4_sum 4 (some .int), Cond.methodLink RX4 45 yX4_at, Cond.instanceMethod yX4_at, Cond.selects RX4 yX4_at yX4_at, Cond.code yX4_at cX4_at 2 (some .int), Cond.methodLink RX4 27 yX4_signedAt, Cond.instanceMethod yX4_signedAt, Cond.selects RX4 yX4_signedAt yX4_signedAt]
def wsX6_pack_r6 : List Cond := [Cond.code yX4_signedAt cX4_signedAt 2 (some .byte), Cond.methodLink RX4 23 yX4_has, Cond.instanceMethod yX4_has, Cond.selects RX4 yX4_has yX4_has, Cond.code yX4_has cX4_has 2 (some .boolean), Cond.methodLink RX6 169 yX3_write, Cond.instanceMethod yX3_write, Cond.selects RX3 yX3_write yX3_write, Cond.code yX3_write cX3_write 5 none, Cond.methodLink RX3 73 Lib.Math.abs.name, Cond.static Lib.Math.abs.name, Cond.code Lib.Math.abs.name Lib.Math.abs.code 1 (some .int), Cond.methodLink RX3 60 yX3_leastDistance, Cond.instanceMethod yX3_leastDistance, Cond.selects RX3 yX3_leastDistance yX3_leastDistance, Cond.code yX3_leastDistance cX3_leastDistance 5 (some .int), Cond.methodLink RX3 63 yX2_addMatch, Cond.instanceMethod yX2_addMatch, Cond.selects RX2 yX2_addMatch yX2_addMatch, Cond.code yX2_addMatch cX2_addMatch 3 none, Cond.methodLink RX3 69 yX2_addPlain, Cond.instanceMethod yX2_addPlain, Cond.selects RX2 yX2_addPlain yX2_addPlain, Cond.code yX2_addPlain cX2_addPlain 5 none]
def wsX6_pack_r7 : List Cond := [Cond.methodLink RX6 86 yX4_clear, Cond.methodLink RX6 173 yX2_bytes, Cond.instanceMethod yX2_bytes, Cond.selects RX2 yX2_bytes yX2_bytes, Cond.code yX2_bytes cX2_bytes 1 (some (.object "TrainedSegments$Row"))]
def wsX6_pack : List Cond := .code yX6_pack cX6_pack 3 (some .int) :: ((wsX6_pack_r1 ++ (wsX6_pack_r2 ++ (wsX6_pack_r3 ++ (wsX6_pack_r4 ++ (wsX6_pack_r5 ++ (wsX6_pack_r6 ++ wsX6_pack_r7)))))) ++ wsX60 ++ wsX00 ++ wsX30 ++ wsX40 ++ wsX20 ++ (vx_atN 8).filter goodWord ++ (vx_atM "java/lang/ArrayIndexOutOfBoundsException" ["java/lang/IndexOutOfBoundsException", "java/lang/RuntimeException", "java/lang/Exception"]).filter goodWord)
def wsX6_out_r1 : List Cond := [Cond.fieldLink RX6 42 "TrainedSegments" "output" "LTrainedSegments$Output;", Cond.classLink RX6 138 RJx00060, Cond.instantiable RJx00060 6, Cond.initialized RJx00060, Cond.methodLink RX6 173 yX2_bytes, Cond.instanceMethod yX2_bytes, Cond.selects RX2 yX2_bytes yX2_bytes, Cond.initialized RX2, Cond.code yX2_bytes cX2_bytes 1 (some (.object "TrainedSegments$Row")), Cond.fieldLink RX2 14 "TrainedSegments$Output" "bytes" "LTrainedSegments$Row;", Cond.methodLink RX6 150 yX4_has, Cond.instanceMethod yX4_has, Cond.selects RX4 yX4_has yX4_has, Cond.initialized RX4, Cond.code yX4_has cX4_has 2 (some .boolean), Cond.fieldLink RX4 19 "TrainedSegments$Row" "length" "I", Cond.methodLink RX6 178 yX4_at, Cond.instanceMethod yX4_at, Cond.selects RX4 yX4_at yX4_at, Cond.code yX4_at cX4_at 2 (some .int), Cond.methodLink RX4 27 yX4_signedAt, Cond.instanceMethod yX4_signedAt, Cond.selects RX4 yX4_signedAt yX4_signedAt, Cond.code yX4_signedAt cX4_signedAt 2 (some .byte)]
def wsX6_out_r2 : List Cond := [Cond.fieldLink RX4 13 "TrainedSegments$Row" "bytes" "[B", Cond.methodLink RX4 23 yX4_has]
def wsX6_out : List Cond := .code yX6_out cX6_out 2 (some .int) :: ((wsX6_out_r1 ++ wsX6_out_r2) ++ wsX60 ++ wsJx000600 ++ wsX20 ++ wsX40 ++ (vx_atN 8).filter goodWord ++ (vx_atM "java/lang/ArrayIndexOutOfBoundsException" ["java/lang/IndexOutOfBoundsException", "java/lang/RuntimeException", "java/lang/Exception"]).filter goodWord)
def wsX6_firstWithId : List Cond := .code yX6_firstWithId cX6_firstWithId 3 (some (.object "TrainedSegments$Dictionary")) :: ([.fieldLink RX6 29 "TrainedSegments" "none" "LTrainedSegments$Dictionary;", .fieldLink RX6 24 "TrainedSegments" "dictionaries" "[LTrainedSegments$Dictionary;", .methodLink RX6 129 yX0_id, .instanceMethod yX0_id, .selects RX0 yX0_id yX0_id, .initialized RX0, .code yX0_id cX0_id 1 (some .int), .fieldLink RX0 20 "TrainedSegments$Dictionary" "id" "I"] ++ wsX60 ++ wsX00 ++ (vx_atN 8).filter goodWord)
def wsX6_open_r1 : List Cond := [Cond.fieldLink RX6 63 "TrainedSegments" "opener" "LTrainedSegments$Opener;", Cond.fieldLink RX6 14 "TrainedSegments" "tape" "LTrainedSegments$Row;", Cond.fieldLink RX6 36 "TrainedSegments" "opened" "LTrainedSegments$Row;", Cond.methodLink RX6 178 yX4_at, Cond.instanceMethod yX4_at, Cond.selects RX4 yX4_at yX4_at, Cond.initialized RX4, Cond.code yX4_at cX4_at 2 (some .int), Cond.methodLink RX4 27 yX4_signedAt, Cond.instanceMethod yX4_signedAt, Cond.selects RX4 yX4_signedAt yX4_signedAt, Cond.code yX4_signedAt cX4_signedAt 2 (some .byte), Cond.fieldLink RX4 13 "TrainedSegments$Row" "bytes" "[B", Cond.methodLink RX4 23 yX4_has, Cond.instanceMethod yX4_has, Cond.selects RX4 yX4_has yX4_has, Cond.code yX4_has cX4_has 2 (some .boolean), Cond.fieldLink RX4 19 "TrainedSegments$Row" "length" "I", Cond.methodLink RX6 182 yX6_firstWithId, Cond.instanceMethod yX6_firstWithId, Cond.selects RX6 yX6_firstWithId yX6_firstWithId, Cond.initialized RX6, Cond.code yX6_firstWithId cX6_firstWithId 3 (some (.object "TrainedSegments$Dictionary")), Cond.fieldLink RX6 29 "TrainedSegments" "none" "LTrainedSegments$Dictionary;"]
def wsX6_open_r2 : List Cond := [Cond.fieldLink RX6 24 "TrainedSegments" "dictionaries" "[LTrainedSegments$Dictionary;", Cond.methodLink RX6 129 yX0_id, Cond.instanceMethod yX0_id, Cond.selects RX0 yX0_id yX0_id, Cond.initialized RX0, Cond.code yX0_id cX0_id 1 (some .int), Cond.fieldLink RX0 20 "TrainedSegments$Dictionary" "id" "I", Cond.methodLink RX6 185 yX1_decode, Cond.instanceMethod yX1_decode, Cond.selects RX1 yX1_decode yX1_decode, Cond.initialized RX1, Cond.code yX1_decode cX1_decode 5 (some .int), Cond.fieldLink RX1 14 "TrainedSegments$Opener" "joined" "LTrainedSegments$Row;", Cond.fieldLink RX1 38 "TrainedSegments$Opener" "start" "I", Cond.fieldLink RX1 46 "TrainedSegments$Opener" "wanted" "I", Cond.fieldLink RX1 49 "TrainedSegments$Opener" "place" "I", Cond.methodLink RX1 20 yX4_length, Cond.instanceMethod yX4_length, Cond.selects RX4 yX4_length yX4_length, Cond.code yX4_length cX4_length 1 (some .int), Cond.methodLink RX1 24 yX1_wrongInHeader, Cond.instanceMethod yX1_wrongInHeader, Cond.selects RX1 yX1_wrongInHeader yX1_wrongInHeader, Cond.code yX1_wrongInHeader cX1_wrongInHeader 3 (some .int)]
def wsX6_open_r3 : List Cond := [Cond.methodLink RX1 42 yX4_at, Cond.methodLink RX1 63 yX0_sum, Cond.instanceMethod yX0_sum, Cond.selects RX0 yX0_sum yX0_sum, Cond.code yX0_sum cX0_sum 1 (some .int), Cond.fieldLink RX0 14 "TrainedSegments$Dictionary" "words" "LTrainedSegments$Row;", Cond.methodLink RX0 30 yX4_sum, Cond.instanceMethod yX4_sum, Cond.selects RX4 yX4_sum yX4_sum, Cond.code yX4_sum cX4_sum 4 (some .int), Cond.methodLink RX4 45 yX4_at, Cond.methodLink RX1 28 yX0_words, Cond.instanceMethod yX0_words, Cond.selects RX0 yX0_words yX0_words, Cond.code yX0_words cX0_words 1 (some (.object "TrainedSegments$Row")), Cond.methodLink RX1 34 yX4_become, Cond.instanceMethod yX4_become, Cond.selects RX4 yX4_become yX4_become, Cond.code yX4_become cX4_become 2 none, Cond.methodLink RX4 35 yX4_clear, Cond.instanceMethod yX4_clear, Cond.selects RX4 yX4_clear yX4_clear, Cond.code yX4_clear cX4_clear 1 none, Cond.methodLink RX4 38 yX4_addFrom]
def wsX6_open_r4 : List Cond := [Cond.instanceMethod yX4_addFrom, Cond.selects RX4 yX4_addFrom yX4_addFrom, Cond.code yX4_addFrom cX4_addFrom 5 none, Cond.methodLink RX4 31 yX4_add, Cond.instanceMethod yX4_add, Cond.selects RX4 yX4_add yX4_add, Cond.code yX4_add cX4_add 2 none, Cond.methodLink RX1 52 yX1_readItem, Cond.instanceMethod yX1_readItem, Cond.selects RX1 yX1_readItem yX1_readItem, Cond.code yX1_readItem cX1_readItem 4 (some .int), Cond.methodLink RX1 66 yX1_readPlain, Cond.instanceMethod yX1_readPlain, Cond.selects RX1 yX1_readPlain yX1_readPlain, Cond.code yX1_readPlain cX1_readPlain 3 (some .int), Cond.methodLink RX1 59 yX4_addFrom, Cond.methodLink RX1 70 yX1_readMatch, Cond.instanceMethod yX1_readMatch, Cond.selects RX1 yX1_readMatch yX1_readMatch, Cond.code yX1_readMatch cX1_readMatch 6 (some .int), Cond.methodLink RX1 74 yX4_add, Cond.methodLink RX6 86 yX4_clear, Cond.methodLink RX6 189 yX1_handOver, Cond.instanceMethod yX1_handOver]
def wsX6_open_r5 : List Cond := [Cond.selects RX1 yX1_handOver yX1_handOver, Cond.code yX1_handOver cX1_handOver 2 none, Cond.methodLink RX1 56 yX4_clear, Cond.methodLink RX6 74 yX4_length]
def wsX6_open : List Cond := .code yX6_open cX6_open 2 (some .int) :: ((wsX6_open_r1 ++ (wsX6_open_r2 ++ (wsX6_open_r3 ++ (wsX6_open_r4 ++ wsX6_open_r5)))) ++ wsX60 ++ wsX40 ++ wsX00 ++ wsX10 ++ (vx_atN 8).filter goodWord ++ (vx_atM "java/lang/ArrayIndexOutOfBoundsException" ["java/lang/IndexOutOfBoundsException", "java/lang/RuntimeException", "java/lang/Exception"]).filter goodWord)
def wsX6_text : List Cond := .code yX6_text cX6_text 2 (some .int) :: ([.fieldLink RX6 36 "TrainedSegments" "opened" "LTrainedSegments$Row;", .classLink RX6 138 RJx00060, .instantiable RJx00060 6, .initialized RJx00060, .methodLink RX6 150 yX4_has, .instanceMethod yX4_has, .selects RX4 yX4_has yX4_has, .initialized RX4, .code yX4_has cX4_has 2 (some .boolean), .fieldLink RX4 19 "TrainedSegments$Row" "length" "I", .methodLink RX6 178 yX4_at, .instanceMethod yX4_at, .selects RX4 yX4_at yX4_at, .code yX4_at cX4_at 2 (some .int), .methodLink RX4 27 yX4_signedAt, .instanceMethod yX4_signedAt, .selects RX4 yX4_signedAt yX4_signedAt, .code yX4_signedAt cX4_signedAt 2 (some .byte), .fieldLink RX4 13 "TrainedSegments$Row" "bytes" "[B", .methodLink RX4 23 yX4_has] ++ wsX60 ++ wsJx000600 ++ wsX40 ++ (vx_atN 8).filter goodWord ++ (vx_atM "java/lang/ArrayIndexOutOfBoundsException" ["java/lang/IndexOutOfBoundsException", "java/lang/RuntimeException", "java/lang/Exception"]).filter goodWord)
def wsX6_isSample : List Cond := .code yX6_isSample cX6_isSample 2 (some .boolean) :: ([.fieldLink RX6 78 "TrainedSegments" "sampleCount" "I"] ++ wsX60)
def wsX6_size_r1 : List Cond := [Cond.fieldLink RX6 49 "TrainedSegments" "packer" "LTrainedSegments$Packer;", Cond.fieldLink RX6 18 "TrainedSegments" "samples" "[LTrainedSegments$Row;", Cond.methodLink RX6 159 yX6_noneOrThereAt, Cond.instanceMethod yX6_noneOrThereAt, Cond.selects RX6 yX6_noneOrThereAt yX6_noneOrThereAt, Cond.initialized RX6, Cond.code yX6_noneOrThereAt cX6_noneOrThereAt 2 (some (.object "TrainedSegments$Dictionary")), Cond.fieldLink RX6 29 "TrainedSegments" "none" "LTrainedSegments$Dictionary;", Cond.methodLink RX6 121 yX6_thereAt, Cond.instanceMethod yX6_thereAt, Cond.selects RX6 yX6_thereAt yX6_thereAt, Cond.code yX6_thereAt cX6_thereAt 2 (some (.object "TrainedSegments$Dictionary")), Cond.fieldLink RX6 24 "TrainedSegments" "dictionaries" "[LTrainedSegments$Dictionary;", Cond.methodLink RX6 89 yX6_isNumber, Cond.static yX6_isNumber, Cond.code yX6_isNumber cX6_isNumber 1 (some .boolean), Cond.methodLink RX6 196 yX0_isThere, Cond.instanceMethod yX0_isThere, Cond.selects RX0 yX0_isThere yX0_isThere, Cond.initialized RX0, Cond.code yX0_isThere cX0_isThere 1 (some .boolean), Cond.fieldLink RX0 20 "TrainedSegments$Dictionary" "id" "I", Cond.methodLink RX6 193 yX6_isSample, Cond.instanceMethod yX6_isSample]
def wsX6_size_r2 : List Cond := [Cond.selects RX6 yX6_isSample yX6_isSample, Cond.code yX6_isSample cX6_isSample 2 (some .boolean), Cond.fieldLink RX6 78 "TrainedSegments" "sampleCount" "I", Cond.methodLink RX6 117 yX0_words, Cond.instanceMethod yX0_words, Cond.selects RX0 yX0_words yX0_words, Cond.code yX0_words cX0_words 1 (some (.object "TrainedSegments$Row")), Cond.fieldLink RX0 14 "TrainedSegments$Dictionary" "words" "LTrainedSegments$Row;", Cond.methodLink RX6 162 yX3_measure, Cond.instanceMethod yX3_measure, Cond.selects RX3 yX3_measure yX3_measure, Cond.initialized RX3, Cond.code yX3_measure cX3_measure 4 (some .int), Cond.fieldLink RX3 9 "TrainedSegments$Packer" "joined" "[B", Cond.fieldLink RX3 34 "TrainedSegments$Packer" "start" "I", Cond.methodLink RX3 38 Lib.Math.min.name, Cond.static Lib.Math.min.name, Cond.initialized "java/lang/Math", Cond.code Lib.Math.min.name Lib.Math.min.code 2 (some .int), Cond.fieldLink RX3 44 "TrainedSegments$Packer" "length" "I", Cond.fieldLink RX3 22 "TrainedSegments$Packer" "cost" "[I", Cond.constant RX3 52 (2147483647), Cond.methodLink RX3 28 yX4_copyTo, Cond.instanceMethod yX4_copyTo]
def wsX6_size_r3 : List Cond := [Cond.selects RX4 yX4_copyTo yX4_copyTo, Cond.initialized RX4, Cond.code yX4_copyTo cX4_copyTo 5 (some .int), Cond.fieldLink RX4 19 "TrainedSegments$Row" "length" "I", Cond.methodLink RX4 42 Lib.Math.min.name, Cond.methodLink RX4 7 Lib.Math.max.name, Cond.static Lib.Math.max.name, Cond.code Lib.Math.max.name Lib.Math.max.code 2 (some .int), Cond.fieldLink RX4 13 "TrainedSegments$Row" "bytes" "[B", Cond.methodLink RX3 47 yX3_linkSameBytes, Cond.instanceMethod yX3_linkSameBytes, Cond.selects RX3 yX3_linkSameBytes yX3_linkSameBytes, Cond.code yX3_linkSameBytes cX3_linkSameBytes 3 none, Cond.fieldLink RX3 19 "TrainedSegments$Packer" "latest" "[I", Cond.fieldLink RX3 15 "TrainedSegments$Packer" "earlier" "[I", Cond.methodLink RX3 77 yJ7_fill_53178, Cond.static yJ7_fill_53178, Cond.initialized RJ7, Cond.code yJ7_fill_53178 cJ7_fill_53178 4 none, Cond.methodLink RX3 53 yX3_tryMatches, Cond.instanceMethod yX3_tryMatches, Cond.selects RX3 yX3_tryMatches yX3_tryMatches, Cond.code yX3_tryMatches cX3_tryMatches 3 none, Cond.fieldLink RX3 25 "TrainedSegments$Packer" "choice" "[I"]
def wsX6_size_r4 : List Cond := [Cond.methodLink RX3 83 yX3_longestMatch, Cond.instanceMethod yX3_longestMatch, Cond.selects RX3 yX3_longestMatch yX3_longestMatch, Cond.code yX3_longestMatch cX3_longestMatch 6 (some .int), Cond.methodLink RX3 90 Lib.Math.max.name, Cond.methodLink RX3 86 yX3_sameBytes, Cond.instanceMethod yX3_sameBytes, Cond.selects RX3 yX3_sameBytes yX3_sameBytes, Cond.code yX3_sameBytes cX3_sameBytes 5 (some .int), Cond.methodLink RX3 57 yX3_tryPlain, Cond.instanceMethod yX3_tryPlain, Cond.selects RX3 yX3_tryPlain yX3_tryPlain, Cond.code yX3_tryPlain cX3_tryPlain 3 none]
def wsX6_size : List Cond := .code yX6_size cX6_size 4 (some .int) :: ((wsX6_size_r1 ++ (wsX6_size_r2 ++ (wsX6_size_r3 ++ wsX6_size_r4))) ++ wsX60 ++ wsX00 ++ wsX30 ++ wsX40 ++ (vx_atN 8).filter goodWord ++ (vx_atM "java/lang/ArrayIndexOutOfBoundsException" ["java/lang/IndexOutOfBoundsException", "java/lang/RuntimeException", "java/lang/Exception"]).filter goodWord)
def wsX6_best_r1 : List Cond := [Cond.fieldLink RX6 49 "TrainedSegments" "packer" "LTrainedSegments$Packer;", Cond.fieldLink RX6 18 "TrainedSegments" "samples" "[LTrainedSegments$Row;", Cond.fieldLink RX6 29 "TrainedSegments" "none" "LTrainedSegments$Dictionary;", Cond.fieldLink RX6 24 "TrainedSegments" "dictionaries" "[LTrainedSegments$Dictionary;", Cond.methodLink RX6 193 yX6_isSample, Cond.instanceMethod yX6_isSample, Cond.selects RX6 yX6_isSample yX6_isSample, Cond.initialized RX6, Cond.code yX6_isSample cX6_isSample 2 (some .boolean), Cond.fieldLink RX6 78 "TrainedSegments" "sampleCount" "I", Cond.methodLink RX6 117 yX0_words, Cond.instanceMethod yX0_words, Cond.selects RX0 yX0_words yX0_words, Cond.initialized RX0, Cond.code yX0_words cX0_words 1 (some (.object "TrainedSegments$Row")), Cond.fieldLink RX0 14 "TrainedSegments$Dictionary" "words" "LTrainedSegments$Row;", Cond.methodLink RX6 162 yX3_measure, Cond.instanceMethod yX3_measure, Cond.selects RX3 yX3_measure yX3_measure, Cond.initialized RX3, Cond.code yX3_measure cX3_measure 4 (some .int), Cond.fieldLink RX3 9 "TrainedSegments$Packer" "joined" "[B", Cond.fieldLink RX3 34 "TrainedSegments$Packer" "start" "I", Cond.methodLink RX3 38 Lib.Math.min.name]
def wsX6_best_r2 : List Cond := [Cond.static Lib.Math.min.name, Cond.initialized "java/lang/Math", Cond.code Lib.Math.min.name Lib.Math.min.code 2 (some .int), Cond.fieldLink RX3 44 "TrainedSegments$Packer" "length" "I", Cond.fieldLink RX3 22 "TrainedSegments$Packer" "cost" "[I", Cond.constant RX3 52 (2147483647), Cond.methodLink RX3 28 yX4_copyTo, Cond.instanceMethod yX4_copyTo, Cond.selects RX4 yX4_copyTo yX4_copyTo, Cond.initialized RX4, Cond.code yX4_copyTo cX4_copyTo 5 (some .int), Cond.fieldLink RX4 19 "TrainedSegments$Row" "length" "I", Cond.methodLink RX4 42 Lib.Math.min.name, Cond.methodLink RX4 7 Lib.Math.max.name, Cond.static Lib.Math.max.name, Cond.code Lib.Math.max.name Lib.Math.max.code 2 (some .int), Cond.fieldLink RX4 13 "TrainedSegments$Row" "bytes" "[B", Cond.methodLink RX3 47 yX3_linkSameBytes, Cond.instanceMethod yX3_linkSameBytes, Cond.selects RX3 yX3_linkSameBytes yX3_linkSameBytes, Cond.code yX3_linkSameBytes cX3_linkSameBytes 3 none, Cond.fieldLink RX3 19 "TrainedSegments$Packer" "latest" "[I", Cond.fieldLink RX3 15 "TrainedSegments$Packer" "earlier" "[I", Cond.methodLink RX3 77 yJ7_fill_53178]
def wsX6_best_r3 : List Cond := [Cond.static yJ7_fill_53178, Cond.initialized RJ7, Cond.code yJ7_fill_53178 cJ7_fill_53178 4 none, Cond.methodLink RX3 53 yX3_tryMatches, Cond.instanceMethod yX3_tryMatches, Cond.selects RX3 yX3_tryMatches yX3_tryMatches, Cond.code yX3_tryMatches cX3_tryMatches 3 none, Cond.fieldLink RX3 25 "TrainedSegments$Packer" "choice" "[I", Cond.methodLink RX3 83 yX3_longestMatch, Cond.instanceMethod yX3_longestMatch, Cond.selects RX3 yX3_longestMatch yX3_longestMatch, Cond.code yX3_longestMatch cX3_longestMatch 6 (some .int), Cond.methodLink RX3 90 Lib.Math.max.name, Cond.methodLink RX3 86 yX3_sameBytes, Cond.instanceMethod yX3_sameBytes, Cond.selects RX3 yX3_sameBytes yX3_sameBytes, Cond.code yX3_sameBytes cX3_sameBytes 5 (some .int), Cond.methodLink RX3 57 yX3_tryPlain, Cond.instanceMethod yX3_tryPlain, Cond.selects RX3 yX3_tryPlain yX3_tryPlain, Cond.code yX3_tryPlain cX3_tryPlain 3 none, Cond.methodLink RX6 196 yX0_isThere, Cond.instanceMethod yX0_isThere, Cond.selects RX0 yX0_isThere yX0_isThere]
def wsX6_best_r4 : List Cond := [Cond.code yX0_isThere cX0_isThere 1 (some .boolean), Cond.fieldLink RX0 20 "TrainedSegments$Dictionary" "id" "I"]
def wsX6_best : List Cond := .code yX6_best cX6_best 6 (some .int) :: ((wsX6_best_r1 ++ (wsX6_best_r2 ++ (wsX6_best_r3 ++ wsX6_best_r4))) ++ wsX60 ++ wsX00 ++ wsX30 ++ wsX40 ++ (vx_atN 8).filter goodWord ++ (vx_atM "java/lang/ArrayIndexOutOfBoundsException" ["java/lang/IndexOutOfBoundsException", "java/lang/RuntimeException", "java/lang/Exception"]).filter goodWord)
def wsX6_share_r1 : List Cond := [Cond.classLink RX6 204 "java/lang/ArithmeticException", Cond.initialized "java/lang/ArithmeticException", Cond.fieldLink RX6 29 "TrainedSegments" "none" "LTrainedSegments$Dictionary;", Cond.methodLink RX6 121 yX6_thereAt, Cond.instanceMethod yX6_thereAt, Cond.selects RX6 yX6_thereAt yX6_thereAt, Cond.initialized RX6, Cond.code yX6_thereAt cX6_thereAt 2 (some (.object "TrainedSegments$Dictionary")), Cond.fieldLink RX6 24 "TrainedSegments" "dictionaries" "[LTrainedSegments$Dictionary;", Cond.methodLink RX6 89 yX6_isNumber, Cond.static yX6_isNumber, Cond.code yX6_isNumber cX6_isNumber 1 (some .boolean), Cond.methodLink RX6 196 yX0_isThere, Cond.instanceMethod yX0_isThere, Cond.selects RX0 yX0_isThere yX0_isThere, Cond.initialized RX0, Cond.code yX0_isThere cX0_isThere 1 (some .boolean), Cond.fieldLink RX0 20 "TrainedSegments$Dictionary" "id" "I", Cond.methodLink RX6 117 yX0_words, Cond.instanceMethod yX0_words, Cond.selects RX0 yX0_words yX0_words, Cond.code yX0_words cX0_words 1 (some (.object "TrainedSegments$Row")), Cond.fieldLink RX0 14 "TrainedSegments$Dictionary" "words" "LTrainedSegments$Row;", Cond.methodLink RX6 200 yX6_bytesOfSamples]
def wsX6_share_r2 : List Cond := [Cond.instanceMethod yX6_bytesOfSamples, Cond.selects RX6 yX6_bytesOfSamples yX6_bytesOfSamples, Cond.code yX6_bytesOfSamples cX6_bytesOfSamples 4 (some .int), Cond.fieldLink RX6 78 "TrainedSegments" "sampleCount" "I", Cond.fieldLink RX6 49 "TrainedSegments" "packer" "LTrainedSegments$Packer;", Cond.fieldLink RX6 18 "TrainedSegments" "samples" "[LTrainedSegments$Row;", Cond.methodLink RX6 162 yX3_measure, Cond.instanceMethod yX3_measure, Cond.selects RX3 yX3_measure yX3_measure, Cond.initialized RX3, Cond.code yX3_measure cX3_measure 4 (some .int), Cond.fieldLink RX3 9 "TrainedSegments$Packer" "joined" "[B", Cond.fieldLink RX3 34 "TrainedSegments$Packer" "start" "I", Cond.methodLink RX3 38 Lib.Math.min.name, Cond.static Lib.Math.min.name, Cond.initialized "java/lang/Math", Cond.code Lib.Math.min.name Lib.Math.min.code 2 (some .int), Cond.fieldLink RX3 44 "TrainedSegments$Packer" "length" "I", Cond.fieldLink RX3 22 "TrainedSegments$Packer" "cost" "[I", Cond.constant RX3 52 (2147483647), Cond.methodLink RX3 28 yX4_copyTo, Cond.instanceMethod yX4_copyTo, Cond.selects RX4 yX4_copyTo yX4_copyTo, Cond.initialized RX4]
def wsX6_share_r3 : List Cond := [Cond.code yX4_copyTo cX4_copyTo 5 (some .int), Cond.fieldLink RX4 19 "TrainedSegments$Row" "length" "I", Cond.methodLink RX4 42 Lib.Math.min.name, Cond.methodLink RX4 7 Lib.Math.max.name, Cond.static Lib.Math.max.name, Cond.code Lib.Math.max.name Lib.Math.max.code 2 (some .int), Cond.fieldLink RX4 13 "TrainedSegments$Row" "bytes" "[B", Cond.methodLink RX3 47 yX3_linkSameBytes, Cond.instanceMethod yX3_linkSameBytes, Cond.selects RX3 yX3_linkSameBytes yX3_linkSameBytes, Cond.code yX3_linkSameBytes cX3_linkSameBytes 3 none, Cond.fieldLink RX3 19 "TrainedSegments$Packer" "latest" "[I", Cond.fieldLink RX3 15 "TrainedSegments$Packer" "earlier" "[I", Cond.methodLink RX3 77 yJ7_fill_53178, Cond.static yJ7_fill_53178, Cond.initialized RJ7, Cond.code yJ7_fill_53178 cJ7_fill_53178 4 none, Cond.methodLink RX3 53 yX3_tryMatches, Cond.instanceMethod yX3_tryMatches, Cond.selects RX3 yX3_tryMatches yX3_tryMatches, Cond.code yX3_tryMatches cX3_tryMatches 3 none, Cond.fieldLink RX3 25 "TrainedSegments$Packer" "choice" "[I", Cond.methodLink RX3 83 yX3_longestMatch, Cond.instanceMethod yX3_longestMatch]
def wsX6_share_r4 : List Cond := [Cond.selects RX3 yX3_longestMatch yX3_longestMatch, Cond.code yX3_longestMatch cX3_longestMatch 6 (some .int), Cond.methodLink RX3 90 Lib.Math.max.name, Cond.methodLink RX3 86 yX3_sameBytes, Cond.instanceMethod yX3_sameBytes, Cond.selects RX3 yX3_sameBytes yX3_sameBytes, Cond.code yX3_sameBytes cX3_sameBytes 5 (some .int), Cond.methodLink RX3 57 yX3_tryPlain, Cond.instanceMethod yX3_tryPlain, Cond.selects RX3 yX3_tryPlain yX3_tryPlain, Cond.code yX3_tryPlain cX3_tryPlain 3 none]
def wsX6_share : List Cond := .code yX6_share cX6_share 4 (some .int) :: ((wsX6_share_r1 ++ (wsX6_share_r2 ++ (wsX6_share_r3 ++ wsX6_share_r4))) ++ wsX60 ++ wsX00 ++ wsX30 ++ wsX40 ++ (vx_atN 8).filter goodWord ++ (vx_atS RX6 208 "java/lang/ArithmeticException" ["java/lang/RuntimeException", "java/lang/Exception"]).filter goodWord ++ (vx_atM "java/lang/ArithmeticException" ["java/lang/RuntimeException", "java/lang/Exception"]).filter goodWord ++ (vx_atM "java/lang/ArrayIndexOutOfBoundsException" ["java/lang/IndexOutOfBoundsException", "java/lang/RuntimeException", "java/lang/Exception"]).filter goodWord)
def wsX6_countThere : List Cond := .code yX6_countThere cX6_countThere 3 (some .int) :: ([.fieldLink RX6 24 "TrainedSegments" "dictionaries" "[LTrainedSegments$Dictionary;", .methodLink RX6 196 yX0_isThere, .instanceMethod yX0_isThere, .selects RX0 yX0_isThere yX0_isThere, .initialized RX0, .code yX0_isThere cX0_isThere 1 (some .boolean), .fieldLink RX0 20 "TrainedSegments$Dictionary" "id" "I"] ++ wsX60 ++ wsX00 ++ (vx_atN 8).filter goodWord)
def wsX6_about_r1 : List Cond := [Cond.fieldLink RX6 14 "TrainedSegments" "tape" "LTrainedSegments$Row;", Cond.fieldLink RX6 78 "TrainedSegments" "sampleCount" "I", Cond.fieldLink RX6 42 "TrainedSegments" "output" "LTrainedSegments$Output;", Cond.fieldLink RX6 36 "TrainedSegments" "opened" "LTrainedSegments$Row;", Cond.methodLink RX6 74 yX4_length, Cond.instanceMethod yX4_length, Cond.selects RX4 yX4_length yX4_length, Cond.initialized RX4, Cond.code yX4_length cX4_length 1 (some .int), Cond.fieldLink RX4 19 "TrainedSegments$Row" "length" "I", Cond.methodLink RX6 209 yX6_countThere, Cond.instanceMethod yX6_countThere, Cond.selects RX6 yX6_countThere yX6_countThere, Cond.initialized RX6, Cond.code yX6_countThere cX6_countThere 3 (some .int), Cond.fieldLink RX6 24 "TrainedSegments" "dictionaries" "[LTrainedSegments$Dictionary;", Cond.methodLink RX6 196 yX0_isThere, Cond.instanceMethod yX0_isThere, Cond.selects RX0 yX0_isThere yX0_isThere, Cond.initialized RX0, Cond.code yX0_isThere cX0_isThere 1 (some .boolean), Cond.fieldLink RX0 20 "TrainedSegments$Dictionary" "id" "I", Cond.methodLink RX6 173 yX2_bytes, Cond.instanceMethod yX2_bytes]
def wsX6_about_r2 : List Cond := [Cond.selects RX2 yX2_bytes yX2_bytes, Cond.initialized RX2, Cond.code yX2_bytes cX2_bytes 1 (some (.object "TrainedSegments$Row")), Cond.fieldLink RX2 14 "TrainedSegments$Output" "bytes" "LTrainedSegments$Row;", Cond.methodLink RX6 212 yX2_items, Cond.instanceMethod yX2_items, Cond.selects RX2 yX2_items yX2_items, Cond.code yX2_items cX2_items 1 (some .int), Cond.fieldLink RX2 20 "TrainedSegments$Output" "items" "I", Cond.methodLink RX6 215 yX2_matches, Cond.instanceMethod yX2_matches, Cond.selects RX2 yX2_matches yX2_matches, Cond.code yX2_matches cX2_matches 1 (some .int), Cond.fieldLink RX2 24 "TrainedSegments$Output" "matches" "I"]
def wsX6_about : List Cond := .code yX6_about cX6_about 2 (some .int) :: ((wsX6_about_r1 ++ wsX6_about_r2) ++ wsX60 ++ wsX40 ++ wsX00 ++ wsX20 ++ (vx_atN 8).filter goodWord)
def wsX7_init : List Cond := .code yX7_init cX7_init 1 none :: ([.methodLink RX7 1 objectInit, .instanceMethod objectInit, .code objectInit ⟨#[0xb1]⟩ 1 none, .arrayClass .int, .fieldLink RX7 7 "TrainedSegmentsModel" "tape" "[I", .fieldLink RX7 13 "TrainedSegmentsModel" "sampleLong" "[I", .fieldLink RX7 16 "TrainedSegmentsModel" "sampleByte" "[I", .fieldLink RX7 19 "TrainedSegmentsModel" "idOf" "[I", .fieldLink RX7 22 "TrainedSegmentsModel" "pieces" "[I", .fieldLink RX7 25 "TrainedSegmentsModel" "pieceLong" "[I", .fieldLink RX7 28 "TrainedSegmentsModel" "bytesOf" "[I", .fieldLink RX7 31 "TrainedSegmentsModel" "dictionary" "[I", .arrayClass .boolean, .fieldLink RX7 34 "TrainedSegmentsModel" "covered" "[Z", .fieldLink RX7 38 "TrainedSegmentsModel" "taken" "[I", .fieldLink RX7 41 "TrainedSegmentsModel" "row" "[I", .fieldLink RX7 44 "TrainedSegmentsModel" "cost" "[I", .fieldLink RX7 47 "TrainedSegmentsModel" "leastD" "[I", .fieldLink RX7 50 "TrainedSegmentsModel" "out" "[I", .fieldLink RX7 53 "TrainedSegmentsModel" "text" "[I", .fieldLink RX7 56 "TrainedSegmentsModel" "taped" "I"] ++ wsX70)
def wsX7_thrown : List Cond := .code yX7_thrown cX7_thrown 1 (some .int) :: ([.fieldLink RX7 60 "TrainedSegmentsModel" "thrown" "I"] ++ wsX70)
def wsX7_in : List Cond := .code yX7_in cX7_in 6 (some .boolean) :: ([])
def wsX7_feed : List Cond := .code yX7_feed cX7_feed 5 (some .int) :: ([.fieldLink RX7 60 "TrainedSegmentsModel" "thrown" "I", .constantLong RX7 63 (8), .fieldLink RX7 56 "TrainedSegmentsModel" "taped" "I", .fieldLink RX7 7 "TrainedSegmentsModel" "tape" "[I", .methodLink RX7 65 yX7_in, .static yX7_in, .initialized RX7, .code yX7_in cX7_in 6 (some .boolean)] ++ wsX70 ++ (vx_atM "java/lang/ArrayIndexOutOfBoundsException" ["java/lang/IndexOutOfBoundsException", "java/lang/RuntimeException", "java/lang/Exception"]).filter goodWord ++ (vx_atN 8).filter goodWord)
def wsX7_sample : List Cond := .code yX7_sample cX7_sample 2 (some .int) :: ([.fieldLink RX7 60 "TrainedSegmentsModel" "thrown" "I", .fieldLink RX7 56 "TrainedSegmentsModel" "taped" "I", .constantLong RX7 69 (40), .fieldLink RX7 71 "TrainedSegmentsModel" "samples" "I", .fieldLink RX7 16 "TrainedSegmentsModel" "sampleByte" "[I", .fieldLink RX7 7 "TrainedSegmentsModel" "tape" "[I", .fieldLink RX7 13 "TrainedSegmentsModel" "sampleLong" "[I", .methodLink RX7 65 yX7_in, .static yX7_in, .initialized RX7, .code yX7_in cX7_in 6 (some .boolean)] ++ wsX70 ++ (vx_atM "java/lang/ArrayIndexOutOfBoundsException" ["java/lang/IndexOutOfBoundsException", "java/lang/RuntimeException", "java/lang/Exception"]).filter goodWord ++ (vx_atN 8).filter goodWord)
def wsX7_forget : List Cond := .code yX7_forget cX7_forget 2 (some .int) :: ([.fieldLink RX7 60 "TrainedSegmentsModel" "thrown" "I", .fieldLink RX7 71 "TrainedSegmentsModel" "samples" "I"] ++ wsX70)
def wsX7_isOpen : List Cond := .code yX7_isOpen cX7_isOpen 6 (some .boolean) :: ([.fieldLink RX7 13 "TrainedSegmentsModel" "sampleLong" "[I", .fieldLink RX7 34 "TrainedSegmentsModel" "covered" "[Z"] ++ wsX70 ++ (vx_atM "java/lang/ArrayIndexOutOfBoundsException" ["java/lang/IndexOutOfBoundsException", "java/lang/RuntimeException", "java/lang/Exception"]).filter goodWord ++ (vx_atN 8).filter goodWord)
def wsX7_areAlike : List Cond := .code yX7_areAlike cX7_areAlike 6 (some .boolean) :: ([.fieldLink RX7 16 "TrainedSegmentsModel" "sampleByte" "[I"] ++ wsX70 ++ (vx_atM "java/lang/ArrayIndexOutOfBoundsException" ["java/lang/IndexOutOfBoundsException", "java/lang/RuntimeException", "java/lang/Exception"]).filter goodWord ++ (vx_atN 8).filter goodWord)
def wsX7_counted : List Cond := .code yX7_counted cX7_counted 8 (some .int) :: ([.fieldLink RX7 71 "TrainedSegmentsModel" "samples" "I", .fieldLink RX7 13 "TrainedSegmentsModel" "sampleLong" "[I", .fieldLink RX7 34 "TrainedSegmentsModel" "covered" "[Z", .methodLink RX7 74 yX7_areAlike, .instanceMethod yX7_areAlike, .selects RX7 yX7_areAlike yX7_areAlike, .initialized RX7, .code yX7_areAlike cX7_areAlike 6 (some .boolean), .fieldLink RX7 16 "TrainedSegmentsModel" "sampleByte" "[I", .methodLink RX7 78 yX7_isOpen, .instanceMethod yX7_isOpen, .selects RX7 yX7_isOpen yX7_isOpen, .code yX7_isOpen cX7_isOpen 6 (some .boolean)] ++ wsX70 ++ (vx_atM "java/lang/ArrayIndexOutOfBoundsException" ["java/lang/IndexOutOfBoundsException", "java/lang/RuntimeException", "java/lang/Exception"]).filter goodWord ++ (vx_atN 8).filter goodWord)
def wsX7_train_r1 : List Cond := [Cond.fieldLink RX7 60 "TrainedSegmentsModel" "thrown" "I", Cond.constantLong RX7 81 (5), Cond.constantLong RX7 83 (255), Cond.constantLong RX7 85 (2), Cond.constantLong RX7 63 (8), Cond.constantLong RX7 87 (80), Cond.fieldLink RX7 71 "TrainedSegmentsModel" "samples" "I", Cond.fieldLink RX7 34 "TrainedSegmentsModel" "covered" "[Z", Cond.fieldLink RX7 89 "TrainedSegmentsModel" "takenMany" "I", Cond.fieldLink RX7 13 "TrainedSegmentsModel" "sampleLong" "[I", Cond.fieldLink RX7 38 "TrainedSegmentsModel" "taken" "[I", Cond.fieldLink RX7 16 "TrainedSegmentsModel" "sampleByte" "[I", Cond.fieldLink RX7 19 "TrainedSegmentsModel" "idOf" "[I", Cond.fieldLink RX7 22 "TrainedSegmentsModel" "pieces" "[I", Cond.fieldLink RX7 28 "TrainedSegmentsModel" "bytesOf" "[I", Cond.fieldLink RX7 25 "TrainedSegmentsModel" "pieceLong" "[I", Cond.fieldLink RX7 31 "TrainedSegmentsModel" "dictionary" "[I", Cond.methodLink RX7 65 yX7_in, Cond.static yX7_in, Cond.initialized RX7, Cond.code yX7_in cX7_in 6 (some .boolean), Cond.methodLink RX7 78 yX7_isOpen, Cond.instanceMethod yX7_isOpen, Cond.selects RX7 yX7_isOpen yX7_isOpen]
def wsX7_train_r2 : List Cond := [Cond.code yX7_isOpen cX7_isOpen 6 (some .boolean), Cond.methodLink RX7 92 yX7_counted, Cond.instanceMethod yX7_counted, Cond.selects RX7 yX7_counted yX7_counted, Cond.code yX7_counted cX7_counted 8 (some .int), Cond.methodLink RX7 74 yX7_areAlike, Cond.instanceMethod yX7_areAlike, Cond.selects RX7 yX7_areAlike yX7_areAlike, Cond.code yX7_areAlike cX7_areAlike 6 (some .boolean)]
def wsX7_train : List Cond := .code yX7_train cX7_train 11 (some .int) :: ((wsX7_train_r1 ++ wsX7_train_r2) ++ wsX70 ++ (vx_atM "java/lang/ArrayIndexOutOfBoundsException" ["java/lang/IndexOutOfBoundsException", "java/lang/RuntimeException", "java/lang/Exception"]).filter goodWord ++ (vx_atN 8).filter goodWord)
def wsX7_give : List Cond := .code yX7_give cX7_give 4 (some .int) :: ([.fieldLink RX7 60 "TrainedSegmentsModel" "thrown" "I", .constantLong RX7 81 (5), .constantLong RX7 83 (255), .fieldLink RX7 56 "TrainedSegmentsModel" "taped" "I", .fieldLink RX7 19 "TrainedSegmentsModel" "idOf" "[I", .fieldLink RX7 28 "TrainedSegmentsModel" "bytesOf" "[I", .fieldLink RX7 22 "TrainedSegmentsModel" "pieces" "[I", .fieldLink RX7 25 "TrainedSegmentsModel" "pieceLong" "[I", .fieldLink RX7 31 "TrainedSegmentsModel" "dictionary" "[I", .fieldLink RX7 7 "TrainedSegmentsModel" "tape" "[I", .methodLink RX7 65 yX7_in, .static yX7_in, .initialized RX7, .code yX7_in cX7_in 6 (some .boolean)] ++ wsX70 ++ (vx_atM "java/lang/ArrayIndexOutOfBoundsException" ["java/lang/IndexOutOfBoundsException", "java/lang/RuntimeException", "java/lang/Exception"]).filter goodWord ++ (vx_atN 8).filter goodWord)
def wsX7_isThere : List Cond := .code yX7_isThere cX7_isThere 2 (some .boolean) :: ([.constantLong RX7 81 (5), .fieldLink RX7 19 "TrainedSegmentsModel" "idOf" "[I", .methodLink RX7 65 yX7_in, .static yX7_in, .initialized RX7, .code yX7_in cX7_in 6 (some .boolean)] ++ wsX70 ++ (vx_atM "java/lang/ArrayIndexOutOfBoundsException" ["java/lang/IndexOutOfBoundsException", "java/lang/RuntimeException", "java/lang/Exception"]).filter goodWord ++ (vx_atN 8).filter goodWord)
def wsX7_pieceAt : List Cond := .code yX7_pieceAt cX7_pieceAt 5 (some .int) :: ([.fieldLink RX7 25 "TrainedSegmentsModel" "pieceLong" "[I"] ++ wsX70 ++ (vx_atM "java/lang/ArrayIndexOutOfBoundsException" ["java/lang/IndexOutOfBoundsException", "java/lang/RuntimeException", "java/lang/Exception"]).filter goodWord ++ (vx_atN 8).filter goodWord)
def wsX7_layAhead : List Cond := .code yX7_layAhead cX7_layAhead 6 none :: ([.fieldLink RX7 96 "TrainedSegmentsModel" "ahead" "I", .fieldLink RX7 25 "TrainedSegmentsModel" "pieceLong" "[I", .fieldLink RX7 28 "TrainedSegmentsModel" "bytesOf" "[I", .fieldLink RX7 41 "TrainedSegmentsModel" "row" "[I", .fieldLink RX7 31 "TrainedSegmentsModel" "dictionary" "[I", .methodLink RX7 99 yX7_pieceAt, .instanceMethod yX7_pieceAt, .selects RX7 yX7_pieceAt yX7_pieceAt, .initialized RX7, .code yX7_pieceAt cX7_pieceAt 5 (some .int)] ++ wsX70 ++ (vx_atN 8).filter goodWord ++ (vx_atM "java/lang/ArrayIndexOutOfBoundsException" ["java/lang/IndexOutOfBoundsException", "java/lang/RuntimeException", "java/lang/Exception"]).filter goodWord)
def wsX7_laySample : List Cond := .code yX7_laySample cX7_laySample 3 none :: ([.fieldLink RX7 13 "TrainedSegmentsModel" "sampleLong" "[I", .fieldLink RX7 103 "TrainedSegmentsModel" "textLong" "I", .fieldLink RX7 41 "TrainedSegmentsModel" "row" "[I", .fieldLink RX7 96 "TrainedSegmentsModel" "ahead" "I", .fieldLink RX7 16 "TrainedSegmentsModel" "sampleByte" "[I"] ++ wsX70 ++ (vx_atM "java/lang/ArrayIndexOutOfBoundsException" ["java/lang/IndexOutOfBoundsException", "java/lang/RuntimeException", "java/lang/Exception"]).filter goodWord ++ (vx_atN 8).filter goodWord)
def wsX7_findMatches : List Cond := .code yX7_findMatches cX7_findMatches 5 none :: ([.fieldLink RX7 47 "TrainedSegmentsModel" "leastD" "[I", .fieldLink RX7 96 "TrainedSegmentsModel" "ahead" "I", .fieldLink RX7 103 "TrainedSegmentsModel" "textLong" "I", .fieldLink RX7 41 "TrainedSegmentsModel" "row" "[I"] ++ wsX70 ++ (vx_atM "java/lang/ArrayIndexOutOfBoundsException" ["java/lang/IndexOutOfBoundsException", "java/lang/RuntimeException", "java/lang/Exception"]).filter goodWord ++ (vx_atN 8).filter goodWord)
def wsX7_packedLong : List Cond := .code yX7_packedLong cX7_packedLong 5 (some .int) :: ([.fieldLink RX7 44 "TrainedSegmentsModel" "cost" "[I", .fieldLink RX7 103 "TrainedSegmentsModel" "textLong" "I", .fieldLink RX7 47 "TrainedSegmentsModel" "leastD" "[I", .methodLink RX7 106 yX7_findMatches, .instanceMethod yX7_findMatches, .selects RX7 yX7_findMatches yX7_findMatches, .initialized RX7, .code yX7_findMatches cX7_findMatches 5 none, .fieldLink RX7 96 "TrainedSegmentsModel" "ahead" "I", .fieldLink RX7 41 "TrainedSegmentsModel" "row" "[I"] ++ wsX70 ++ (vx_atM "java/lang/ArrayIndexOutOfBoundsException" ["java/lang/IndexOutOfBoundsException", "java/lang/RuntimeException", "java/lang/Exception"]).filter goodWord ++ (vx_atN 8).filter goodWord)
def wsX7_sizeOf_r1 : List Cond := [Cond.methodLink RX7 110 yX7_layAhead, Cond.instanceMethod yX7_layAhead, Cond.selects RX7 yX7_layAhead yX7_layAhead, Cond.initialized RX7, Cond.code yX7_layAhead cX7_layAhead 6 none, Cond.fieldLink RX7 96 "TrainedSegmentsModel" "ahead" "I", Cond.fieldLink RX7 25 "TrainedSegmentsModel" "pieceLong" "[I", Cond.fieldLink RX7 28 "TrainedSegmentsModel" "bytesOf" "[I", Cond.fieldLink RX7 41 "TrainedSegmentsModel" "row" "[I", Cond.fieldLink RX7 31 "TrainedSegmentsModel" "dictionary" "[I", Cond.methodLink RX7 99 yX7_pieceAt, Cond.instanceMethod yX7_pieceAt, Cond.selects RX7 yX7_pieceAt yX7_pieceAt, Cond.code yX7_pieceAt cX7_pieceAt 5 (some .int), Cond.methodLink RX7 114 yX7_laySample, Cond.instanceMethod yX7_laySample, Cond.selects RX7 yX7_laySample yX7_laySample, Cond.code yX7_laySample cX7_laySample 3 none, Cond.fieldLink RX7 13 "TrainedSegmentsModel" "sampleLong" "[I", Cond.fieldLink RX7 103 "TrainedSegmentsModel" "textLong" "I", Cond.fieldLink RX7 16 "TrainedSegmentsModel" "sampleByte" "[I", Cond.methodLink RX7 117 yX7_packedLong, Cond.instanceMethod yX7_packedLong, Cond.selects RX7 yX7_packedLong yX7_packedLong]
def wsX7_sizeOf_r2 : List Cond := [Cond.code yX7_packedLong cX7_packedLong 5 (some .int), Cond.fieldLink RX7 44 "TrainedSegmentsModel" "cost" "[I", Cond.fieldLink RX7 47 "TrainedSegmentsModel" "leastD" "[I", Cond.methodLink RX7 106 yX7_findMatches, Cond.instanceMethod yX7_findMatches, Cond.selects RX7 yX7_findMatches yX7_findMatches, Cond.code yX7_findMatches cX7_findMatches 5 none]
def wsX7_sizeOf : List Cond := .code yX7_sizeOf cX7_sizeOf 4 (some .int) :: ((wsX7_sizeOf_r1 ++ wsX7_sizeOf_r2) ++ wsX70 ++ (vx_atN 8).filter goodWord ++ (vx_atM "java/lang/ArrayIndexOutOfBoundsException" ["java/lang/IndexOutOfBoundsException", "java/lang/RuntimeException", "java/lang/Exception"]).filter goodWord)
def wsX7_sizeOfAll_r1 : List Cond := [Cond.fieldLink RX7 71 "TrainedSegmentsModel" "samples" "I", Cond.methodLink RX7 121 yX7_sizeOf, Cond.instanceMethod yX7_sizeOf, Cond.selects RX7 yX7_sizeOf yX7_sizeOf, Cond.initialized RX7, Cond.code yX7_sizeOf cX7_sizeOf 4 (some .int), Cond.methodLink RX7 110 yX7_layAhead, Cond.instanceMethod yX7_layAhead, Cond.selects RX7 yX7_layAhead yX7_layAhead, Cond.code yX7_layAhead cX7_layAhead 6 none, Cond.fieldLink RX7 96 "TrainedSegmentsModel" "ahead" "I", Cond.fieldLink RX7 25 "TrainedSegmentsModel" "pieceLong" "[I", Cond.fieldLink RX7 28 "TrainedSegmentsModel" "bytesOf" "[I", Cond.fieldLink RX7 41 "TrainedSegmentsModel" "row" "[I", Cond.fieldLink RX7 31 "TrainedSegmentsModel" "dictionary" "[I", Cond.methodLink RX7 99 yX7_pieceAt, Cond.instanceMethod yX7_pieceAt, Cond.selects RX7 yX7_pieceAt yX7_pieceAt, Cond.code yX7_pieceAt cX7_pieceAt 5 (some .int), Cond.methodLink RX7 114 yX7_laySample, Cond.instanceMethod yX7_laySample, Cond.selects RX7 yX7_laySample yX7_laySample, Cond.code yX7_laySample cX7_laySample 3 none, Cond.fieldLink RX7 13 "TrainedSegmentsModel" "sampleLong" "[I"]
def wsX7_sizeOfAll_r2 : List Cond := [Cond.fieldLink RX7 103 "TrainedSegmentsModel" "textLong" "I", Cond.fieldLink RX7 16 "TrainedSegmentsModel" "sampleByte" "[I", Cond.methodLink RX7 117 yX7_packedLong, Cond.instanceMethod yX7_packedLong, Cond.selects RX7 yX7_packedLong yX7_packedLong, Cond.code yX7_packedLong cX7_packedLong 5 (some .int), Cond.fieldLink RX7 44 "TrainedSegmentsModel" "cost" "[I", Cond.fieldLink RX7 47 "TrainedSegmentsModel" "leastD" "[I", Cond.methodLink RX7 106 yX7_findMatches, Cond.instanceMethod yX7_findMatches, Cond.selects RX7 yX7_findMatches yX7_findMatches, Cond.code yX7_findMatches cX7_findMatches 5 none]
def wsX7_sizeOfAll : List Cond := .code yX7_sizeOfAll cX7_sizeOfAll 5 (some .int) :: ((wsX7_sizeOfAll_r1 ++ wsX7_sizeOfAll_r2) ++ wsX70 ++ (vx_atN 8).filter goodWord ++ (vx_atM "java/lang/ArrayIndexOutOfBoundsException" ["java/lang/IndexOutOfBoundsException", "java/lang/RuntimeException", "java/lang/Exception"]).filter goodWord)
def wsX7_goes : List Cond := .code yX7_goes cX7_goes 6 none :: ([.fieldLink RX7 25 "TrainedSegmentsModel" "pieceLong" "[I", .fieldLink RX7 28 "TrainedSegmentsModel" "bytesOf" "[I", .fieldLink RX7 31 "TrainedSegmentsModel" "dictionary" "[I", .fieldLink RX7 22 "TrainedSegmentsModel" "pieces" "[I", .methodLink RX7 99 yX7_pieceAt, .instanceMethod yX7_pieceAt, .selects RX7 yX7_pieceAt yX7_pieceAt, .initialized RX7, .code yX7_pieceAt cX7_pieceAt 5 (some .int)] ++ wsX70 ++ (vx_atN 8).filter goodWord ++ (vx_atM "java/lang/ArrayIndexOutOfBoundsException" ["java/lang/IndexOutOfBoundsException", "java/lang/RuntimeException", "java/lang/Exception"]).filter goodWord)
def wsX7_trim_r1 : List Cond := [Cond.fieldLink RX7 60 "TrainedSegmentsModel" "thrown" "I", Cond.fieldLink RX7 71 "TrainedSegmentsModel" "samples" "I", Cond.fieldLink RX7 22 "TrainedSegmentsModel" "pieces" "[I", Cond.methodLink RX7 125 yX7_isThere, Cond.instanceMethod yX7_isThere, Cond.selects RX7 yX7_isThere yX7_isThere, Cond.initialized RX7, Cond.code yX7_isThere cX7_isThere 2 (some .boolean), Cond.constantLong RX7 81 (5), Cond.fieldLink RX7 19 "TrainedSegmentsModel" "idOf" "[I", Cond.methodLink RX7 65 yX7_in, Cond.static yX7_in, Cond.code yX7_in cX7_in 6 (some .boolean), Cond.methodLink RX7 129 yX7_sizeOfAll, Cond.instanceMethod yX7_sizeOfAll, Cond.selects RX7 yX7_sizeOfAll yX7_sizeOfAll, Cond.code yX7_sizeOfAll cX7_sizeOfAll 5 (some .int), Cond.methodLink RX7 121 yX7_sizeOf, Cond.instanceMethod yX7_sizeOf, Cond.selects RX7 yX7_sizeOf yX7_sizeOf, Cond.code yX7_sizeOf cX7_sizeOf 4 (some .int), Cond.methodLink RX7 110 yX7_layAhead, Cond.instanceMethod yX7_layAhead, Cond.selects RX7 yX7_layAhead yX7_layAhead]
def wsX7_trim_r2 : List Cond := [Cond.code yX7_layAhead cX7_layAhead 6 none, Cond.fieldLink RX7 96 "TrainedSegmentsModel" "ahead" "I", Cond.fieldLink RX7 25 "TrainedSegmentsModel" "pieceLong" "[I", Cond.fieldLink RX7 28 "TrainedSegmentsModel" "bytesOf" "[I", Cond.fieldLink RX7 41 "TrainedSegmentsModel" "row" "[I", Cond.fieldLink RX7 31 "TrainedSegmentsModel" "dictionary" "[I", Cond.methodLink RX7 99 yX7_pieceAt, Cond.instanceMethod yX7_pieceAt, Cond.selects RX7 yX7_pieceAt yX7_pieceAt, Cond.code yX7_pieceAt cX7_pieceAt 5 (some .int), Cond.methodLink RX7 114 yX7_laySample, Cond.instanceMethod yX7_laySample, Cond.selects RX7 yX7_laySample yX7_laySample, Cond.code yX7_laySample cX7_laySample 3 none, Cond.fieldLink RX7 13 "TrainedSegmentsModel" "sampleLong" "[I", Cond.fieldLink RX7 103 "TrainedSegmentsModel" "textLong" "I", Cond.fieldLink RX7 16 "TrainedSegmentsModel" "sampleByte" "[I", Cond.methodLink RX7 117 yX7_packedLong, Cond.instanceMethod yX7_packedLong, Cond.selects RX7 yX7_packedLong yX7_packedLong, Cond.code yX7_packedLong cX7_packedLong 5 (some .int), Cond.fieldLink RX7 44 "TrainedSegmentsModel" "cost" "[I", Cond.fieldLink RX7 47 "TrainedSegmentsModel" "leastD" "[I", Cond.methodLink RX7 106 yX7_findMatches]
def wsX7_trim_r3 : List Cond := [Cond.instanceMethod yX7_findMatches, Cond.selects RX7 yX7_findMatches yX7_findMatches, Cond.code yX7_findMatches cX7_findMatches 5 none, Cond.methodLink RX7 132 yX7_goes, Cond.instanceMethod yX7_goes, Cond.selects RX7 yX7_goes yX7_goes, Cond.code yX7_goes cX7_goes 6 none]
def wsX7_trim : List Cond := .code yX7_trim cX7_trim 4 (some .int) :: ((wsX7_trim_r1 ++ (wsX7_trim_r2 ++ wsX7_trim_r3)) ++ wsX70 ++ (vx_atN 8).filter goodWord ++ (vx_atM "java/lang/ArrayIndexOutOfBoundsException" ["java/lang/IndexOutOfBoundsException", "java/lang/RuntimeException", "java/lang/Exception"]).filter goodWord)
def wsX7_drop : List Cond := .code yX7_drop cX7_drop 2 (some .int) :: ([.fieldLink RX7 60 "TrainedSegmentsModel" "thrown" "I", .fieldLink RX7 19 "TrainedSegmentsModel" "idOf" "[I", .fieldLink RX7 22 "TrainedSegmentsModel" "pieces" "[I", .methodLink RX7 125 yX7_isThere, .instanceMethod yX7_isThere, .selects RX7 yX7_isThere yX7_isThere, .initialized RX7, .code yX7_isThere cX7_isThere 2 (some .boolean), .constantLong RX7 81 (5), .methodLink RX7 65 yX7_in, .static yX7_in, .code yX7_in cX7_in 6 (some .boolean)] ++ wsX70 ++ (vx_atN 8).filter goodWord ++ (vx_atM "java/lang/ArrayIndexOutOfBoundsException" ["java/lang/IndexOutOfBoundsException", "java/lang/RuntimeException", "java/lang/Exception"]).filter goodWord)
def wsX7_sumOf : List Cond := .code yX7_sumOf cX7_sumOf 5 (some .int) :: ([.fieldLink RX7 28 "TrainedSegmentsModel" "bytesOf" "[I", .fieldLink RX7 31 "TrainedSegmentsModel" "dictionary" "[I"] ++ wsX70 ++ (vx_atM "java/lang/ArrayIndexOutOfBoundsException" ["java/lang/IndexOutOfBoundsException", "java/lang/RuntimeException", "java/lang/Exception"]).filter goodWord ++ (vx_atN 8).filter goodWord)
def wsX7_told : List Cond := .code yX7_told cX7_told 3 (some .int) :: ([.fieldLink RX7 60 "TrainedSegmentsModel" "thrown" "I", .fieldLink RX7 19 "TrainedSegmentsModel" "idOf" "[I", .fieldLink RX7 22 "TrainedSegmentsModel" "pieces" "[I", .fieldLink RX7 28 "TrainedSegmentsModel" "bytesOf" "[I", .constantLong RX7 139 (10), .fieldLink RX7 25 "TrainedSegmentsModel" "pieceLong" "[I", .methodLink RX7 125 yX7_isThere, .instanceMethod yX7_isThere, .selects RX7 yX7_isThere yX7_isThere, .initialized RX7, .code yX7_isThere cX7_isThere 2 (some .boolean), .constantLong RX7 81 (5), .methodLink RX7 65 yX7_in, .static yX7_in, .code yX7_in cX7_in 6 (some .boolean), .methodLink RX7 135 yX7_sumOf, .instanceMethod yX7_sumOf, .selects RX7 yX7_sumOf yX7_sumOf, .code yX7_sumOf cX7_sumOf 5 (some .int), .fieldLink RX7 31 "TrainedSegmentsModel" "dictionary" "[I"] ++ wsX70 ++ (vx_atN 8).filter goodWord ++ (vx_atM "java/lang/ArrayIndexOutOfBoundsException" ["java/lang/IndexOutOfBoundsException", "java/lang/RuntimeException", "java/lang/Exception"]).filter goodWord)
def wsX7_content : List Cond := .code yX7_content cX7_content 3 (some .byte) :: ([.constantLong RX7 81 (5), .fieldLink RX7 19 "TrainedSegmentsModel" "idOf" "[I", .fieldLink RX7 28 "TrainedSegmentsModel" "bytesOf" "[I", .fieldLink RX7 60 "TrainedSegmentsModel" "thrown" "I", .fieldLink RX7 31 "TrainedSegmentsModel" "dictionary" "[I", .methodLink RX7 65 yX7_in, .static yX7_in, .initialized RX7, .code yX7_in cX7_in 6 (some .boolean)] ++ wsX70 ++ (vx_atM "java/lang/ArrayIndexOutOfBoundsException" ["java/lang/IndexOutOfBoundsException", "java/lang/RuntimeException", "java/lang/Exception"]).filter goodWord ++ (vx_atN 8).filter goodWord)
def wsX7_put : List Cond := .code yX7_put cX7_put 2 none :: ([.fieldLink RX7 50 "TrainedSegmentsModel" "out" "[I", .fieldLink RX7 141 "TrainedSegmentsModel" "outMany" "I"] ++ wsX70 ++ (vx_atM "java/lang/ArrayIndexOutOfBoundsException" ["java/lang/IndexOutOfBoundsException", "java/lang/RuntimeException", "java/lang/Exception"]).filter goodWord ++ (vx_atN 8).filter goodWord)
def wsX7_putItem : List Cond := .code yX7_putItem cX7_putItem 4 (some .int) :: ([.fieldLink RX7 47 "TrainedSegmentsModel" "leastD" "[I", .fieldLink RX7 44 "TrainedSegmentsModel" "cost" "[I", .fieldLink RX7 147 "TrainedSegmentsModel" "matches" "I", .fieldLink RX7 103 "TrainedSegmentsModel" "textLong" "I", .fieldLink RX7 41 "TrainedSegmentsModel" "row" "[I", .fieldLink RX7 96 "TrainedSegmentsModel" "ahead" "I", .methodLink RX7 144 yX7_put, .instanceMethod yX7_put, .selects RX7 yX7_put yX7_put, .initialized RX7, .code yX7_put cX7_put 2 none, .fieldLink RX7 50 "TrainedSegmentsModel" "out" "[I", .fieldLink RX7 141 "TrainedSegmentsModel" "outMany" "I"] ++ wsX70 ++ (vx_atM "java/lang/ArrayIndexOutOfBoundsException" ["java/lang/IndexOutOfBoundsException", "java/lang/RuntimeException", "java/lang/Exception"]).filter goodWord ++ (vx_atN 8).filter goodWord)
def wsX7_pack_r1 : List Cond := [Cond.fieldLink RX7 60 "TrainedSegmentsModel" "thrown" "I", Cond.fieldLink RX7 56 "TrainedSegmentsModel" "taped" "I", Cond.fieldLink RX7 103 "TrainedSegmentsModel" "textLong" "I", Cond.fieldLink RX7 41 "TrainedSegmentsModel" "row" "[I", Cond.fieldLink RX7 96 "TrainedSegmentsModel" "ahead" "I", Cond.fieldLink RX7 7 "TrainedSegmentsModel" "tape" "[I", Cond.fieldLink RX7 141 "TrainedSegmentsModel" "outMany" "I", Cond.fieldLink RX7 150 "TrainedSegmentsModel" "items" "I", Cond.fieldLink RX7 147 "TrainedSegmentsModel" "matches" "I", Cond.fieldLink RX7 19 "TrainedSegmentsModel" "idOf" "[I", Cond.methodLink RX7 125 yX7_isThere, Cond.instanceMethod yX7_isThere, Cond.selects RX7 yX7_isThere yX7_isThere, Cond.initialized RX7, Cond.code yX7_isThere cX7_isThere 2 (some .boolean), Cond.constantLong RX7 81 (5), Cond.methodLink RX7 65 yX7_in, Cond.static yX7_in, Cond.code yX7_in cX7_in 6 (some .boolean), Cond.methodLink RX7 110 yX7_layAhead, Cond.instanceMethod yX7_layAhead, Cond.selects RX7 yX7_layAhead yX7_layAhead, Cond.code yX7_layAhead cX7_layAhead 6 none, Cond.fieldLink RX7 25 "TrainedSegmentsModel" "pieceLong" "[I"]
def wsX7_pack_r2 : List Cond := [Cond.fieldLink RX7 28 "TrainedSegmentsModel" "bytesOf" "[I", Cond.fieldLink RX7 31 "TrainedSegmentsModel" "dictionary" "[I", Cond.methodLink RX7 99 yX7_pieceAt, Cond.instanceMethod yX7_pieceAt, Cond.selects RX7 yX7_pieceAt yX7_pieceAt, Cond.code yX7_pieceAt cX7_pieceAt 5 (some .int), Cond.methodLink RX7 117 yX7_packedLong, Cond.instanceMethod yX7_packedLong, Cond.selects RX7 yX7_packedLong yX7_packedLong, Cond.code yX7_packedLong cX7_packedLong 5 (some .int), Cond.fieldLink RX7 44 "TrainedSegmentsModel" "cost" "[I", Cond.fieldLink RX7 47 "TrainedSegmentsModel" "leastD" "[I", Cond.methodLink RX7 106 yX7_findMatches, Cond.instanceMethod yX7_findMatches, Cond.selects RX7 yX7_findMatches yX7_findMatches, Cond.code yX7_findMatches cX7_findMatches 5 none, Cond.methodLink RX7 135 yX7_sumOf, Cond.instanceMethod yX7_sumOf, Cond.selects RX7 yX7_sumOf yX7_sumOf, Cond.code yX7_sumOf cX7_sumOf 5 (some .int), Cond.methodLink RX7 144 yX7_put, Cond.instanceMethod yX7_put, Cond.selects RX7 yX7_put yX7_put, Cond.code yX7_put cX7_put 2 none]
def wsX7_pack_r3 : List Cond := [Cond.fieldLink RX7 50 "TrainedSegmentsModel" "out" "[I", Cond.methodLink RX7 153 yX7_putItem, Cond.instanceMethod yX7_putItem, Cond.selects RX7 yX7_putItem yX7_putItem, Cond.code yX7_putItem cX7_putItem 4 (some .int)]
def wsX7_pack : List Cond := .code yX7_pack cX7_pack 5 (some .int) :: ((wsX7_pack_r1 ++ (wsX7_pack_r2 ++ wsX7_pack_r3)) ++ wsX70 ++ (vx_atN 8).filter goodWord ++ (vx_atM "java/lang/ArrayIndexOutOfBoundsException" ["java/lang/IndexOutOfBoundsException", "java/lang/RuntimeException", "java/lang/Exception"]).filter goodWord)
def wsX7_out : List Cond := .code yX7_out cX7_out 2 (some .int) :: ([.fieldLink RX7 141 "TrainedSegmentsModel" "outMany" "I", .fieldLink RX7 60 "TrainedSegmentsModel" "thrown" "I", .fieldLink RX7 50 "TrainedSegmentsModel" "out" "[I", .methodLink RX7 65 yX7_in, .static yX7_in, .initialized RX7, .code yX7_in cX7_in 6 (some .boolean)] ++ wsX70 ++ (vx_atN 8).filter goodWord ++ (vx_atM "java/lang/ArrayIndexOutOfBoundsException" ["java/lang/IndexOutOfBoundsException", "java/lang/RuntimeException", "java/lang/Exception"]).filter goodWord)
def wsX7_firstWith : List Cond := .code yX7_firstWith cX7_firstWith 3 (some .int) :: ([.fieldLink RX7 19 "TrainedSegmentsModel" "idOf" "[I"] ++ wsX70 ++ (vx_atM "java/lang/ArrayIndexOutOfBoundsException" ["java/lang/IndexOutOfBoundsException", "java/lang/RuntimeException", "java/lang/Exception"]).filter goodWord ++ (vx_atN 8).filter goodWord)
def wsX7_wrong_r1 : List Cond := [Cond.fieldLink RX7 56 "TrainedSegmentsModel" "taped" "I", Cond.fieldLink RX7 7 "TrainedSegmentsModel" "tape" "[I", Cond.fieldLink RX7 103 "TrainedSegmentsModel" "textLong" "I", Cond.fieldLink RX7 41 "TrainedSegmentsModel" "row" "[I", Cond.fieldLink RX7 96 "TrainedSegmentsModel" "ahead" "I", Cond.methodLink RX7 156 yX7_firstWith, Cond.instanceMethod yX7_firstWith, Cond.selects RX7 yX7_firstWith yX7_firstWith, Cond.initialized RX7, Cond.code yX7_firstWith cX7_firstWith 3 (some .int), Cond.fieldLink RX7 19 "TrainedSegmentsModel" "idOf" "[I", Cond.methodLink RX7 135 yX7_sumOf, Cond.instanceMethod yX7_sumOf, Cond.selects RX7 yX7_sumOf yX7_sumOf, Cond.code yX7_sumOf cX7_sumOf 5 (some .int), Cond.fieldLink RX7 28 "TrainedSegmentsModel" "bytesOf" "[I", Cond.fieldLink RX7 31 "TrainedSegmentsModel" "dictionary" "[I", Cond.methodLink RX7 110 yX7_layAhead, Cond.instanceMethod yX7_layAhead, Cond.selects RX7 yX7_layAhead yX7_layAhead, Cond.code yX7_layAhead cX7_layAhead 6 none, Cond.fieldLink RX7 25 "TrainedSegmentsModel" "pieceLong" "[I", Cond.methodLink RX7 99 yX7_pieceAt, Cond.instanceMethod yX7_pieceAt]
def wsX7_wrong_r2 : List Cond := [Cond.selects RX7 yX7_pieceAt yX7_pieceAt, Cond.code yX7_pieceAt cX7_pieceAt 5 (some .int)]
def wsX7_wrong : List Cond := .code yX7_wrong cX7_wrong 9 (some .int) :: ((wsX7_wrong_r1 ++ wsX7_wrong_r2) ++ wsX70 ++ (vx_atM "java/lang/ArrayIndexOutOfBoundsException" ["java/lang/IndexOutOfBoundsException", "java/lang/RuntimeException", "java/lang/Exception"]).filter goodWord ++ (vx_atN 8).filter goodWord)
def wsX7_open_r1 : List Cond := [Cond.fieldLink RX7 60 "TrainedSegmentsModel" "thrown" "I", Cond.fieldLink RX7 56 "TrainedSegmentsModel" "taped" "I", Cond.fieldLink RX7 103 "TrainedSegmentsModel" "textLong" "I", Cond.fieldLink RX7 162 "TrainedSegmentsModel" "textMany" "I", Cond.fieldLink RX7 53 "TrainedSegmentsModel" "text" "[I", Cond.fieldLink RX7 41 "TrainedSegmentsModel" "row" "[I", Cond.fieldLink RX7 96 "TrainedSegmentsModel" "ahead" "I", Cond.methodLink RX7 159 yX7_wrong, Cond.instanceMethod yX7_wrong, Cond.selects RX7 yX7_wrong yX7_wrong, Cond.initialized RX7, Cond.code yX7_wrong cX7_wrong 9 (some .int), Cond.fieldLink RX7 7 "TrainedSegmentsModel" "tape" "[I", Cond.methodLink RX7 156 yX7_firstWith, Cond.instanceMethod yX7_firstWith, Cond.selects RX7 yX7_firstWith yX7_firstWith, Cond.code yX7_firstWith cX7_firstWith 3 (some .int), Cond.fieldLink RX7 19 "TrainedSegmentsModel" "idOf" "[I", Cond.methodLink RX7 135 yX7_sumOf, Cond.instanceMethod yX7_sumOf, Cond.selects RX7 yX7_sumOf yX7_sumOf, Cond.code yX7_sumOf cX7_sumOf 5 (some .int), Cond.fieldLink RX7 28 "TrainedSegmentsModel" "bytesOf" "[I", Cond.fieldLink RX7 31 "TrainedSegmentsModel" "dictionary" "[I"]
def wsX7_open_r2 : List Cond := [Cond.methodLink RX7 110 yX7_layAhead, Cond.instanceMethod yX7_layAhead, Cond.selects RX7 yX7_layAhead yX7_layAhead, Cond.code yX7_layAhead cX7_layAhead 6 none, Cond.fieldLink RX7 25 "TrainedSegmentsModel" "pieceLong" "[I", Cond.methodLink RX7 99 yX7_pieceAt, Cond.instanceMethod yX7_pieceAt, Cond.selects RX7 yX7_pieceAt yX7_pieceAt, Cond.code yX7_pieceAt cX7_pieceAt 5 (some .int)]
def wsX7_open : List Cond := .code yX7_open cX7_open 3 (some .int) :: ((wsX7_open_r1 ++ wsX7_open_r2) ++ wsX70 ++ (vx_atN 8).filter goodWord ++ (vx_atM "java/lang/ArrayIndexOutOfBoundsException" ["java/lang/IndexOutOfBoundsException", "java/lang/RuntimeException", "java/lang/Exception"]).filter goodWord)
def wsX7_text : List Cond := .code yX7_text cX7_text 2 (some .int) :: ([.fieldLink RX7 162 "TrainedSegmentsModel" "textMany" "I", .fieldLink RX7 60 "TrainedSegmentsModel" "thrown" "I", .fieldLink RX7 53 "TrainedSegmentsModel" "text" "[I", .methodLink RX7 65 yX7_in, .static yX7_in, .initialized RX7, .code yX7_in cX7_in 6 (some .boolean)] ++ wsX70 ++ (vx_atN 8).filter goodWord ++ (vx_atM "java/lang/ArrayIndexOutOfBoundsException" ["java/lang/IndexOutOfBoundsException", "java/lang/RuntimeException", "java/lang/Exception"]).filter goodWord)
def wsX7_size_r1 : List Cond := [Cond.fieldLink RX7 60 "TrainedSegmentsModel" "thrown" "I", Cond.fieldLink RX7 71 "TrainedSegmentsModel" "samples" "I", Cond.methodLink RX7 65 yX7_in, Cond.static yX7_in, Cond.initialized RX7, Cond.code yX7_in cX7_in 6 (some .boolean), Cond.methodLink RX7 125 yX7_isThere, Cond.instanceMethod yX7_isThere, Cond.selects RX7 yX7_isThere yX7_isThere, Cond.code yX7_isThere cX7_isThere 2 (some .boolean), Cond.constantLong RX7 81 (5), Cond.fieldLink RX7 19 "TrainedSegmentsModel" "idOf" "[I", Cond.methodLink RX7 121 yX7_sizeOf, Cond.instanceMethod yX7_sizeOf, Cond.selects RX7 yX7_sizeOf yX7_sizeOf, Cond.code yX7_sizeOf cX7_sizeOf 4 (some .int), Cond.methodLink RX7 110 yX7_layAhead, Cond.instanceMethod yX7_layAhead, Cond.selects RX7 yX7_layAhead yX7_layAhead, Cond.code yX7_layAhead cX7_layAhead 6 none, Cond.fieldLink RX7 96 "TrainedSegmentsModel" "ahead" "I", Cond.fieldLink RX7 25 "TrainedSegmentsModel" "pieceLong" "[I", Cond.fieldLink RX7 28 "TrainedSegmentsModel" "bytesOf" "[I", Cond.fieldLink RX7 41 "TrainedSegmentsModel" "row" "[I"]
def wsX7_size_r2 : List Cond := [Cond.fieldLink RX7 31 "TrainedSegmentsModel" "dictionary" "[I", Cond.methodLink RX7 99 yX7_pieceAt, Cond.instanceMethod yX7_pieceAt, Cond.selects RX7 yX7_pieceAt yX7_pieceAt, Cond.code yX7_pieceAt cX7_pieceAt 5 (some .int), Cond.methodLink RX7 114 yX7_laySample, Cond.instanceMethod yX7_laySample, Cond.selects RX7 yX7_laySample yX7_laySample, Cond.code yX7_laySample cX7_laySample 3 none, Cond.fieldLink RX7 13 "TrainedSegmentsModel" "sampleLong" "[I", Cond.fieldLink RX7 103 "TrainedSegmentsModel" "textLong" "I", Cond.fieldLink RX7 16 "TrainedSegmentsModel" "sampleByte" "[I", Cond.methodLink RX7 117 yX7_packedLong, Cond.instanceMethod yX7_packedLong, Cond.selects RX7 yX7_packedLong yX7_packedLong, Cond.code yX7_packedLong cX7_packedLong 5 (some .int), Cond.fieldLink RX7 44 "TrainedSegmentsModel" "cost" "[I", Cond.fieldLink RX7 47 "TrainedSegmentsModel" "leastD" "[I", Cond.methodLink RX7 106 yX7_findMatches, Cond.instanceMethod yX7_findMatches, Cond.selects RX7 yX7_findMatches yX7_findMatches, Cond.code yX7_findMatches cX7_findMatches 5 none]
def wsX7_size : List Cond := .code yX7_size cX7_size 3 (some .int) :: ((wsX7_size_r1 ++ wsX7_size_r2) ++ wsX70 ++ (vx_atN 8).filter goodWord ++ (vx_atM "java/lang/ArrayIndexOutOfBoundsException" ["java/lang/IndexOutOfBoundsException", "java/lang/RuntimeException", "java/lang/Exception"]).filter goodWord)
def wsX7_best_r1 : List Cond := [Cond.fieldLink RX7 60 "TrainedSegmentsModel" "thrown" "I", Cond.fieldLink RX7 71 "TrainedSegmentsModel" "samples" "I", Cond.methodLink RX7 65 yX7_in, Cond.static yX7_in, Cond.initialized RX7, Cond.code yX7_in cX7_in 6 (some .boolean), Cond.methodLink RX7 121 yX7_sizeOf, Cond.instanceMethod yX7_sizeOf, Cond.selects RX7 yX7_sizeOf yX7_sizeOf, Cond.code yX7_sizeOf cX7_sizeOf 4 (some .int), Cond.methodLink RX7 110 yX7_layAhead, Cond.instanceMethod yX7_layAhead, Cond.selects RX7 yX7_layAhead yX7_layAhead, Cond.code yX7_layAhead cX7_layAhead 6 none, Cond.fieldLink RX7 96 "TrainedSegmentsModel" "ahead" "I", Cond.fieldLink RX7 25 "TrainedSegmentsModel" "pieceLong" "[I", Cond.fieldLink RX7 28 "TrainedSegmentsModel" "bytesOf" "[I", Cond.fieldLink RX7 41 "TrainedSegmentsModel" "row" "[I", Cond.fieldLink RX7 31 "TrainedSegmentsModel" "dictionary" "[I", Cond.methodLink RX7 99 yX7_pieceAt, Cond.instanceMethod yX7_pieceAt, Cond.selects RX7 yX7_pieceAt yX7_pieceAt, Cond.code yX7_pieceAt cX7_pieceAt 5 (some .int), Cond.methodLink RX7 114 yX7_laySample]
def wsX7_best_r2 : List Cond := [Cond.instanceMethod yX7_laySample, Cond.selects RX7 yX7_laySample yX7_laySample, Cond.code yX7_laySample cX7_laySample 3 none, Cond.fieldLink RX7 13 "TrainedSegmentsModel" "sampleLong" "[I", Cond.fieldLink RX7 103 "TrainedSegmentsModel" "textLong" "I", Cond.fieldLink RX7 16 "TrainedSegmentsModel" "sampleByte" "[I", Cond.methodLink RX7 117 yX7_packedLong, Cond.instanceMethod yX7_packedLong, Cond.selects RX7 yX7_packedLong yX7_packedLong, Cond.code yX7_packedLong cX7_packedLong 5 (some .int), Cond.fieldLink RX7 44 "TrainedSegmentsModel" "cost" "[I", Cond.fieldLink RX7 47 "TrainedSegmentsModel" "leastD" "[I", Cond.methodLink RX7 106 yX7_findMatches, Cond.instanceMethod yX7_findMatches, Cond.selects RX7 yX7_findMatches yX7_findMatches, Cond.code yX7_findMatches cX7_findMatches 5 none, Cond.methodLink RX7 125 yX7_isThere, Cond.instanceMethod yX7_isThere, Cond.selects RX7 yX7_isThere yX7_isThere, Cond.code yX7_isThere cX7_isThere 2 (some .boolean), Cond.constantLong RX7 81 (5), Cond.fieldLink RX7 19 "TrainedSegmentsModel" "idOf" "[I"]
def wsX7_best : List Cond := .code yX7_best cX7_best 6 (some .int) :: ((wsX7_best_r1 ++ wsX7_best_r2) ++ wsX70 ++ (vx_atN 8).filter goodWord ++ (vx_atM "java/lang/ArrayIndexOutOfBoundsException" ["java/lang/IndexOutOfBoundsException", "java/lang/RuntimeException", "java/lang/Exception"]).filter goodWord)
def wsX7_share_r1 : List Cond := [Cond.fieldLink RX7 60 "TrainedSegmentsModel" "thrown" "I", Cond.fieldLink RX7 71 "TrainedSegmentsModel" "samples" "I", Cond.methodLink RX7 125 yX7_isThere, Cond.instanceMethod yX7_isThere, Cond.selects RX7 yX7_isThere yX7_isThere, Cond.initialized RX7, Cond.code yX7_isThere cX7_isThere 2 (some .boolean), Cond.constantLong RX7 81 (5), Cond.fieldLink RX7 19 "TrainedSegmentsModel" "idOf" "[I", Cond.methodLink RX7 65 yX7_in, Cond.static yX7_in, Cond.code yX7_in cX7_in 6 (some .boolean), Cond.methodLink RX7 129 yX7_sizeOfAll, Cond.instanceMethod yX7_sizeOfAll, Cond.selects RX7 yX7_sizeOfAll yX7_sizeOfAll, Cond.code yX7_sizeOfAll cX7_sizeOfAll 5 (some .int), Cond.methodLink RX7 121 yX7_sizeOf, Cond.instanceMethod yX7_sizeOf, Cond.selects RX7 yX7_sizeOf yX7_sizeOf, Cond.code yX7_sizeOf cX7_sizeOf 4 (some .int), Cond.methodLink RX7 110 yX7_layAhead, Cond.instanceMethod yX7_layAhead, Cond.selects RX7 yX7_layAhead yX7_layAhead, Cond.code yX7_layAhead cX7_layAhead 6 none]
def wsX7_share_r2 : List Cond := [Cond.fieldLink RX7 96 "TrainedSegmentsModel" "ahead" "I", Cond.fieldLink RX7 25 "TrainedSegmentsModel" "pieceLong" "[I", Cond.fieldLink RX7 28 "TrainedSegmentsModel" "bytesOf" "[I", Cond.fieldLink RX7 41 "TrainedSegmentsModel" "row" "[I", Cond.fieldLink RX7 31 "TrainedSegmentsModel" "dictionary" "[I", Cond.methodLink RX7 99 yX7_pieceAt, Cond.instanceMethod yX7_pieceAt, Cond.selects RX7 yX7_pieceAt yX7_pieceAt, Cond.code yX7_pieceAt cX7_pieceAt 5 (some .int), Cond.methodLink RX7 114 yX7_laySample, Cond.instanceMethod yX7_laySample, Cond.selects RX7 yX7_laySample yX7_laySample, Cond.code yX7_laySample cX7_laySample 3 none, Cond.fieldLink RX7 13 "TrainedSegmentsModel" "sampleLong" "[I", Cond.fieldLink RX7 103 "TrainedSegmentsModel" "textLong" "I", Cond.fieldLink RX7 16 "TrainedSegmentsModel" "sampleByte" "[I", Cond.methodLink RX7 117 yX7_packedLong, Cond.instanceMethod yX7_packedLong, Cond.selects RX7 yX7_packedLong yX7_packedLong, Cond.code yX7_packedLong cX7_packedLong 5 (some .int), Cond.fieldLink RX7 44 "TrainedSegmentsModel" "cost" "[I", Cond.fieldLink RX7 47 "TrainedSegmentsModel" "leastD" "[I", Cond.methodLink RX7 106 yX7_findMatches, Cond.instanceMethod yX7_findMatches]
def wsX7_share_r3 : List Cond := [Cond.selects RX7 yX7_findMatches yX7_findMatches, Cond.code yX7_findMatches cX7_findMatches 5 none]
def wsX7_share : List Cond := .code yX7_share cX7_share 3 (some .int) :: ((wsX7_share_r1 ++ (wsX7_share_r2 ++ wsX7_share_r3)) ++ wsX70 ++ (vx_atN 8).filter goodWord ++ (vx_atM "java/lang/ArithmeticException" ["java/lang/RuntimeException", "java/lang/Exception"]).filter goodWord ++ (vx_atM "java/lang/ArrayIndexOutOfBoundsException" ["java/lang/IndexOutOfBoundsException", "java/lang/RuntimeException", "java/lang/Exception"]).filter goodWord)
def wsX7_about : List Cond := .code yX7_about cX7_about 4 (some .int) :: ([.fieldLink RX7 60 "TrainedSegmentsModel" "thrown" "I", .fieldLink RX7 19 "TrainedSegmentsModel" "idOf" "[I", .fieldLink RX7 56 "TrainedSegmentsModel" "taped" "I", .fieldLink RX7 71 "TrainedSegmentsModel" "samples" "I", .fieldLink RX7 141 "TrainedSegmentsModel" "outMany" "I", .fieldLink RX7 162 "TrainedSegmentsModel" "textMany" "I", .fieldLink RX7 150 "TrainedSegmentsModel" "items" "I", .fieldLink RX7 147 "TrainedSegmentsModel" "matches" "I"] ++ wsX70 ++ (vx_atM "java/lang/ArrayIndexOutOfBoundsException" ["java/lang/IndexOutOfBoundsException", "java/lang/RuntimeException", "java/lang/Exception"]).filter goodWord ++ (vx_atN 8).filter goodWord)
def wsJx00060_init_a7421 : List Cond := .code yJx00060_init_a7421 cJx00060_init_a7421 2 none :: ([])
def wsJ9_abs_0f7a4 : List Cond := .code yJ9_abs_0f7a4 cJ9_abs_0f7a4 1 (some .int) :: ([])
def wsJ9_max_7cf53 : List Cond := .code yJ9_max_7cf53 cJ9_max_7cf53 2 (some .int) :: ([])
def wsJ9_min_7cf53 : List Cond := .code yJ9_min_7cf53 cJ9_min_7cf53 2 (some .int) :: ([])
def wsJx5d777_init_da8c8 : List Cond := .code yJx5d777_init_da8c8 cJx5d777_init_da8c8 1 none :: ([])
def wsJx5d777_init_a7421 : List Cond := .code yJx5d777_init_a7421 cJx5d777_init_a7421 2 none :: ([])
def wsJx5d777_fillInStackTrace_cddbd : List Cond := .code yJx5d777_fillInStackTrace_cddbd cJx5d777_fillInStackTrace_cddbd 1 (some (.object "java/lang/Throwable")) :: ([.fieldLink RJx5d777 10 "java/lang/NullPointerException" "extendedMessageState" "I", .fieldLink RJx5d777 20 "java/lang/NullPointerException" "extendedMessage" "Ljava/lang/String;"] ++ wsJx5d7770)
def wsL_content_r1 : List Cond := [Cond.classLink RL 13 "java/lang/NullPointerException", Cond.classLink RL 15 "java/lang/ArrayIndexOutOfBoundsException", Cond.methodLink RL 7 yX6_content, Cond.instanceMethod yX6_content, Cond.selects RX6 yX6_content yX6_content, Cond.initialized RX6, Cond.code yX6_content cX6_content 4 (some .byte), Cond.classLink RX6 138 RJx00060, Cond.instantiable RJx00060 6, Cond.initialized RJx00060, Cond.classLink RX6 145 RJx5d777, Cond.instantiable RJx5d777 8, Cond.initialized RJx5d777, Cond.methodLink RX6 89 yX6_isNumber, Cond.static yX6_isNumber, Cond.code yX6_isNumber cX6_isNumber 1 (some .boolean), Cond.methodLink RX6 121 yX6_thereAt, Cond.instanceMethod yX6_thereAt, Cond.selects RX6 yX6_thereAt yX6_thereAt, Cond.code yX6_thereAt cX6_thereAt 2 (some (.object "TrainedSegments$Dictionary")), Cond.fieldLink RX6 24 "TrainedSegments" "dictionaries" "[LTrainedSegments$Dictionary;", Cond.methodLink RX6 196 yX0_isThere, Cond.instanceMethod yX0_isThere, Cond.selects RX0 yX0_isThere yX0_isThere]
def wsL_content_r2 : List Cond := [Cond.initialized RX0, Cond.code yX0_isThere cX0_isThere 1 (some .boolean), Cond.fieldLink RX0 20 "TrainedSegments$Dictionary" "id" "I", Cond.methodLink RX6 117 yX0_words, Cond.instanceMethod yX0_words, Cond.selects RX0 yX0_words yX0_words, Cond.code yX0_words cX0_words 1 (some (.object "TrainedSegments$Row")), Cond.fieldLink RX0 14 "TrainedSegments$Dictionary" "words" "LTrainedSegments$Row;", Cond.methodLink RX6 150 yX4_has, Cond.instanceMethod yX4_has, Cond.selects RX4 yX4_has yX4_has, Cond.initialized RX4, Cond.code yX4_has cX4_has 2 (some .boolean), Cond.fieldLink RX4 19 "TrainedSegments$Row" "length" "I", Cond.methodLink RX6 155 yX4_signedAt, Cond.instanceMethod yX4_signedAt, Cond.selects RX4 yX4_signedAt yX4_signedAt, Cond.code yX4_signedAt cX4_signedAt 2 (some .byte), Cond.fieldLink RX4 13 "TrainedSegments$Row" "bytes" "[B", Cond.methodLink RX4 23 yX4_has]
def wsL_content : List Cond := .codeWith yL_content cL_content 5 (some .int) [(0, 10, 13, 13), (0, 10, 17, 15)] :: ((wsL_content_r1 ++ wsL_content_r2) ++ wsJx000600 ++ wsJx5d7770 ++ wsX60 ++ wsX00 ++ wsX40 ++ (vx_atN 8).filter goodWord ++ (vx_atM "java/lang/ArrayIndexOutOfBoundsException" ["java/lang/IndexOutOfBoundsException", "java/lang/RuntimeException", "java/lang/Exception"]).filter goodWord)
def wsL_out_r1 : List Cond := [Cond.classLink RL 15 "java/lang/ArrayIndexOutOfBoundsException", Cond.methodLink RL 17 yX6_out, Cond.instanceMethod yX6_out, Cond.selects RX6 yX6_out yX6_out, Cond.initialized RX6, Cond.code yX6_out cX6_out 2 (some .int), Cond.fieldLink RX6 42 "TrainedSegments" "output" "LTrainedSegments$Output;", Cond.classLink RX6 138 RJx00060, Cond.instantiable RJx00060 6, Cond.initialized RJx00060, Cond.methodLink RX6 173 yX2_bytes, Cond.instanceMethod yX2_bytes, Cond.selects RX2 yX2_bytes yX2_bytes, Cond.initialized RX2, Cond.code yX2_bytes cX2_bytes 1 (some (.object "TrainedSegments$Row")), Cond.fieldLink RX2 14 "TrainedSegments$Output" "bytes" "LTrainedSegments$Row;", Cond.methodLink RX6 150 yX4_has, Cond.instanceMethod yX4_has, Cond.selects RX4 yX4_has yX4_has, Cond.initialized RX4, Cond.code yX4_has cX4_has 2 (some .boolean), Cond.fieldLink RX4 19 "TrainedSegments$Row" "length" "I", Cond.methodLink RX6 178 yX4_at, Cond.instanceMethod yX4_at]
def wsL_out_r2 : List Cond := [Cond.selects RX4 yX4_at yX4_at, Cond.code yX4_at cX4_at 2 (some .int), Cond.methodLink RX4 27 yX4_signedAt, Cond.instanceMethod yX4_signedAt, Cond.selects RX4 yX4_signedAt yX4_signedAt, Cond.code yX4_signedAt cX4_signedAt 2 (some .byte), Cond.fieldLink RX4 13 "TrainedSegments$Row" "bytes" "[B", Cond.methodLink RX4 23 yX4_has]
def wsL_out : List Cond := .codeWith yL_out cL_out 4 (some .int) [(0, 9, 12, 15)] :: ((wsL_out_r1 ++ wsL_out_r2) ++ wsX60 ++ wsJx000600 ++ wsX20 ++ wsX40 ++ (vx_atN 8).filter goodWord ++ (vx_atM "java/lang/ArrayIndexOutOfBoundsException" ["java/lang/IndexOutOfBoundsException", "java/lang/RuntimeException", "java/lang/Exception"]).filter goodWord)
def wsL_text_r1 : List Cond := [Cond.classLink RL 15 "java/lang/ArrayIndexOutOfBoundsException", Cond.methodLink RL 21 yX6_text, Cond.instanceMethod yX6_text, Cond.selects RX6 yX6_text yX6_text, Cond.initialized RX6, Cond.code yX6_text cX6_text 2 (some .int), Cond.fieldLink RX6 36 "TrainedSegments" "opened" "LTrainedSegments$Row;", Cond.classLink RX6 138 RJx00060, Cond.instantiable RJx00060 6, Cond.initialized RJx00060, Cond.methodLink RX6 150 yX4_has, Cond.instanceMethod yX4_has, Cond.selects RX4 yX4_has yX4_has, Cond.initialized RX4, Cond.code yX4_has cX4_has 2 (some .boolean), Cond.fieldLink RX4 19 "TrainedSegments$Row" "length" "I", Cond.methodLink RX6 178 yX4_at, Cond.instanceMethod yX4_at, Cond.selects RX4 yX4_at yX4_at, Cond.code yX4_at cX4_at 2 (some .int), Cond.methodLink RX4 27 yX4_signedAt, Cond.instanceMethod yX4_signedAt, Cond.selects RX4 yX4_signedAt yX4_signedAt, Cond.code yX4_signedAt cX4_signedAt 2 (some .byte)]
def wsL_text_r2 : List Cond := [Cond.fieldLink RX4 13 "TrainedSegments$Row" "bytes" "[B", Cond.methodLink RX4 23 yX4_has]
def wsL_text : List Cond := .codeWith yL_text cL_text 4 (some .int) [(0, 9, 12, 15)] :: ((wsL_text_r1 ++ wsL_text_r2) ++ wsX60 ++ wsJx000600 ++ wsX40 ++ (vx_atN 8).filter goodWord ++ (vx_atM "java/lang/ArrayIndexOutOfBoundsException" ["java/lang/IndexOutOfBoundsException", "java/lang/RuntimeException", "java/lang/Exception"]).filter goodWord)
def wsL_share_r1 : List Cond := [Cond.classLink RL 27 "java/lang/ArithmeticException", Cond.methodLink RL 24 yX6_share, Cond.instanceMethod yX6_share, Cond.selects RX6 yX6_share yX6_share, Cond.initialized RX6, Cond.code yX6_share cX6_share 4 (some .int), Cond.classLink RX6 204 "java/lang/ArithmeticException", Cond.initialized "java/lang/ArithmeticException", Cond.fieldLink RX6 29 "TrainedSegments" "none" "LTrainedSegments$Dictionary;", Cond.methodLink RX6 121 yX6_thereAt, Cond.instanceMethod yX6_thereAt, Cond.selects RX6 yX6_thereAt yX6_thereAt, Cond.code yX6_thereAt cX6_thereAt 2 (some (.object "TrainedSegments$Dictionary")), Cond.fieldLink RX6 24 "TrainedSegments" "dictionaries" "[LTrainedSegments$Dictionary;", Cond.methodLink RX6 89 yX6_isNumber, Cond.static yX6_isNumber, Cond.code yX6_isNumber cX6_isNumber 1 (some .boolean), Cond.methodLink RX6 196 yX0_isThere, Cond.instanceMethod yX0_isThere, Cond.selects RX0 yX0_isThere yX0_isThere, Cond.initialized RX0, Cond.code yX0_isThere cX0_isThere 1 (some .boolean), Cond.fieldLink RX0 20 "TrainedSegments$Dictionary" "id" "I", Cond.methodLink RX6 117 yX0_words]
def wsL_share_r2 : List Cond := [Cond.instanceMethod yX0_words, Cond.selects RX0 yX0_words yX0_words, Cond.code yX0_words cX0_words 1 (some (.object "TrainedSegments$Row")), Cond.fieldLink RX0 14 "TrainedSegments$Dictionary" "words" "LTrainedSegments$Row;", Cond.methodLink RX6 200 yX6_bytesOfSamples, Cond.instanceMethod yX6_bytesOfSamples, Cond.selects RX6 yX6_bytesOfSamples yX6_bytesOfSamples, Cond.code yX6_bytesOfSamples cX6_bytesOfSamples 4 (some .int), Cond.fieldLink RX6 78 "TrainedSegments" "sampleCount" "I", Cond.fieldLink RX6 49 "TrainedSegments" "packer" "LTrainedSegments$Packer;", Cond.fieldLink RX6 18 "TrainedSegments" "samples" "[LTrainedSegments$Row;", Cond.methodLink RX6 162 yX3_measure, Cond.instanceMethod yX3_measure, Cond.selects RX3 yX3_measure yX3_measure, Cond.initialized RX3, Cond.code yX3_measure cX3_measure 4 (some .int), Cond.fieldLink RX3 9 "TrainedSegments$Packer" "joined" "[B", Cond.fieldLink RX3 34 "TrainedSegments$Packer" "start" "I", Cond.methodLink RX3 38 Lib.Math.min.name, Cond.static Lib.Math.min.name, Cond.initialized "java/lang/Math", Cond.code Lib.Math.min.name Lib.Math.min.code 2 (some .int), Cond.fieldLink RX3 44 "TrainedSegments$Packer" "length" "I", Cond.fieldLink RX3 22 "TrainedSegments$Packer" "cost" "[I"]
def wsL_share_r3 : List Cond := [Cond.constant RX3 52 (2147483647), Cond.methodLink RX3 28 yX4_copyTo, Cond.instanceMethod yX4_copyTo, Cond.selects RX4 yX4_copyTo yX4_copyTo, Cond.initialized RX4, Cond.code yX4_copyTo cX4_copyTo 5 (some .int), Cond.fieldLink RX4 19 "TrainedSegments$Row" "length" "I", Cond.methodLink RX4 42 Lib.Math.min.name, Cond.methodLink RX4 7 Lib.Math.max.name, Cond.static Lib.Math.max.name, Cond.code Lib.Math.max.name Lib.Math.max.code 2 (some .int), Cond.fieldLink RX4 13 "TrainedSegments$Row" "bytes" "[B", Cond.methodLink RX3 47 yX3_linkSameBytes, Cond.instanceMethod yX3_linkSameBytes, Cond.selects RX3 yX3_linkSameBytes yX3_linkSameBytes, Cond.code yX3_linkSameBytes cX3_linkSameBytes 3 none, Cond.fieldLink RX3 19 "TrainedSegments$Packer" "latest" "[I", Cond.fieldLink RX3 15 "TrainedSegments$Packer" "earlier" "[I", Cond.methodLink RX3 77 yJ7_fill_53178, Cond.static yJ7_fill_53178, Cond.initialized RJ7, Cond.code yJ7_fill_53178 cJ7_fill_53178 4 none, Cond.methodLink RX3 53 yX3_tryMatches, Cond.instanceMethod yX3_tryMatches]
def wsL_share_r4 : List Cond := [Cond.selects RX3 yX3_tryMatches yX3_tryMatches, Cond.code yX3_tryMatches cX3_tryMatches 3 none, Cond.fieldLink RX3 25 "TrainedSegments$Packer" "choice" "[I", Cond.methodLink RX3 83 yX3_longestMatch, Cond.instanceMethod yX3_longestMatch, Cond.selects RX3 yX3_longestMatch yX3_longestMatch, Cond.code yX3_longestMatch cX3_longestMatch 6 (some .int), Cond.methodLink RX3 90 Lib.Math.max.name, Cond.methodLink RX3 86 yX3_sameBytes, Cond.instanceMethod yX3_sameBytes, Cond.selects RX3 yX3_sameBytes yX3_sameBytes, Cond.code yX3_sameBytes cX3_sameBytes 5 (some .int), Cond.methodLink RX3 57 yX3_tryPlain, Cond.instanceMethod yX3_tryPlain, Cond.selects RX3 yX3_tryPlain yX3_tryPlain, Cond.code yX3_tryPlain cX3_tryPlain 3 none]
def wsL_share : List Cond := .codeWith yL_share cL_share 4 (some .int) [(0, 9, 12, 27)] :: ((wsL_share_r1 ++ (wsL_share_r2 ++ (wsL_share_r3 ++ wsL_share_r4))) ++ wsX60 ++ wsX00 ++ wsX30 ++ wsX40 ++ (vx_atN 8).filter goodWord ++ (vx_atM "java/lang/ArrayIndexOutOfBoundsException" ["java/lang/IndexOutOfBoundsException", "java/lang/RuntimeException", "java/lang/Exception"]).filter goodWord ++ (vx_atS RX6 208 "java/lang/ArithmeticException" ["java/lang/RuntimeException", "java/lang/Exception"]).filter goodWord ++ (vx_atM "java/lang/ArithmeticException" ["java/lang/RuntimeException", "java/lang/Exception"]).filter goodWord)
def wsL_law0_r1 : List Cond := [Cond.classLink RL 8 RX6, Cond.instantiable RX6 11, Cond.initialized RX6, Cond.classLink RL 30 RX7, Cond.instantiable RX7 25, Cond.initialized RX7, Cond.arrayClass .long, Cond.constantLong RL 33 (4294967295), Cond.methodLink RL 29 yX6_init, Cond.instanceMethod yX6_init, Cond.code yX6_init cX6_init 2 none, Cond.methodLink RX6 3 objectInit, Cond.instanceMethod objectInit, Cond.code objectInit ⟨#[0xb1]⟩ 1 none, Cond.classLink RX6 9 RX4, Cond.instantiable RX4 2, Cond.initialized RX4, Cond.fieldLink RX6 14 "TrainedSegments" "tape" "LTrainedSegments$Row;", Cond.fieldLink RX6 18 "TrainedSegments" "samples" "[LTrainedSegments$Row;", Cond.classLink RX6 22 RX0, Cond.fieldLink RX6 24 "TrainedSegments" "dictionaries" "[LTrainedSegments$Dictionary;", Cond.instantiable RX0 4, Cond.initialized RX0, Cond.fieldLink RX6 29 "TrainedSegments" "none" "LTrainedSegments$Dictionary;"]
def wsL_law0_r2 : List Cond := [Cond.fieldLink RX6 33 "TrainedSegments" "trial" "LTrainedSegments$Row;", Cond.fieldLink RX6 36 "TrainedSegments" "opened" "LTrainedSegments$Row;", Cond.classLink RX6 39 RX2, Cond.instantiable RX2 3, Cond.initialized RX2, Cond.fieldLink RX6 42 "TrainedSegments" "output" "LTrainedSegments$Output;", Cond.classLink RX6 46 RX3, Cond.instantiable RX3 7, Cond.initialized RX3, Cond.fieldLink RX6 49 "TrainedSegments" "packer" "LTrainedSegments$Packer;", Cond.classLink RX6 53 RX5, Cond.instantiable RX5 8, Cond.initialized RX5, Cond.fieldLink RX6 56 "TrainedSegments" "trainer" "LTrainedSegments$Trainer;", Cond.classLink RX6 60 RX1, Cond.instantiable RX1 4, Cond.initialized RX1, Cond.fieldLink RX6 63 "TrainedSegments" "opener" "LTrainedSegments$Opener;", Cond.methodLink RX6 11 yX4_init, Cond.instanceMethod yX4_init, Cond.code yX4_init cX4_init 2 none, Cond.methodLink RX4 1 objectInit, Cond.methodLink RX4 7 Lib.Math.max.name, Cond.static Lib.Math.max.name]
def wsL_law0_r3 : List Cond := [Cond.initialized "java/lang/Math", Cond.code Lib.Math.max.name Lib.Math.max.code 2 (some .int), Cond.arrayClass .byte, Cond.fieldLink RX4 13 "TrainedSegments$Row" "bytes" "[B", Cond.methodLink RX6 28 yX0_init, Cond.instanceMethod yX0_init, Cond.code yX0_init cX0_init 1 none, Cond.methodLink RX0 3 objectInit, Cond.classLink RX0 9 RX4, Cond.fieldLink RX0 14 "TrainedSegments$Dictionary" "words" "LTrainedSegments$Row;", Cond.methodLink RX0 11 yX4_init, Cond.methodLink RX6 41 yX2_init, Cond.instanceMethod yX2_init, Cond.code yX2_init cX2_init 1 none, Cond.methodLink RX2 3 objectInit, Cond.classLink RX2 9 RX4, Cond.fieldLink RX2 14 "TrainedSegments$Output" "bytes" "LTrainedSegments$Row;", Cond.methodLink RX2 11 yX4_init, Cond.methodLink RX6 48 yX3_init, Cond.instanceMethod yX3_init, Cond.code yX3_init cX3_init 1 none, Cond.methodLink RX3 3 objectInit, Cond.fieldLink RX3 9 "TrainedSegments$Packer" "joined" "[B", Cond.arrayClass .int]
def wsL_law0_r4 : List Cond := [Cond.fieldLink RX3 15 "TrainedSegments$Packer" "earlier" "[I", Cond.fieldLink RX3 19 "TrainedSegments$Packer" "latest" "[I", Cond.fieldLink RX3 22 "TrainedSegments$Packer" "cost" "[I", Cond.fieldLink RX3 25 "TrainedSegments$Packer" "choice" "[I", Cond.methodLink RX6 55 yX5_init, Cond.instanceMethod yX5_init, Cond.code yX5_init cX5_init 1 none, Cond.methodLink RX5 3 objectInit, Cond.classLink RX5 9 RX4, Cond.fieldLink RX5 16 "TrainedSegments$Trainer" "places" "LTrainedSegments$Row;", Cond.arrayClass .boolean, Cond.fieldLink RX5 20 "TrainedSegments$Trainer" "covered" "[Z", Cond.fieldLink RX5 24 "TrainedSegments$Trainer" "kind" "[I", Cond.fieldLink RX5 28 "TrainedSegments$Trainer" "count" "[I", Cond.fieldLink RX5 31 "TrainedSegments$Trainer" "freeFrom" "[I", Cond.fieldLink RX5 34 "TrainedSegments$Trainer" "taken" "[I", Cond.methodLink RX5 13 yX4_init, Cond.methodLink RX6 62 yX1_init, Cond.instanceMethod yX1_init, Cond.code yX1_init cX1_init 1 none, Cond.methodLink RX1 3 objectInit, Cond.classLink RX1 9 RX4, Cond.fieldLink RX1 14 "TrainedSegments$Opener" "joined" "LTrainedSegments$Row;", Cond.methodLink RX1 11 yX4_init]
def wsL_law0_r5 : List Cond := [Cond.methodLink RL 32 yX7_init, Cond.instanceMethod yX7_init, Cond.code yX7_init cX7_init 1 none, Cond.methodLink RX7 1 objectInit, Cond.fieldLink RX7 7 "TrainedSegmentsModel" "tape" "[I", Cond.fieldLink RX7 13 "TrainedSegmentsModel" "sampleLong" "[I", Cond.fieldLink RX7 16 "TrainedSegmentsModel" "sampleByte" "[I", Cond.fieldLink RX7 19 "TrainedSegmentsModel" "idOf" "[I", Cond.fieldLink RX7 22 "TrainedSegmentsModel" "pieces" "[I", Cond.fieldLink RX7 25 "TrainedSegmentsModel" "pieceLong" "[I", Cond.fieldLink RX7 28 "TrainedSegmentsModel" "bytesOf" "[I", Cond.fieldLink RX7 31 "TrainedSegmentsModel" "dictionary" "[I", Cond.fieldLink RX7 34 "TrainedSegmentsModel" "covered" "[Z", Cond.fieldLink RX7 38 "TrainedSegmentsModel" "taken" "[I", Cond.fieldLink RX7 41 "TrainedSegmentsModel" "row" "[I", Cond.fieldLink RX7 44 "TrainedSegmentsModel" "cost" "[I", Cond.fieldLink RX7 47 "TrainedSegmentsModel" "leastD" "[I", Cond.fieldLink RX7 50 "TrainedSegmentsModel" "out" "[I", Cond.fieldLink RX7 53 "TrainedSegmentsModel" "text" "[I", Cond.fieldLink RX7 56 "TrainedSegmentsModel" "taped" "I", Cond.methodLink RL 35 yX6_feed, Cond.instanceMethod yX6_feed, Cond.selects RX6 yX6_feed yX6_feed, Cond.code yX6_feed cX6_feed 5 (some .int)]
def wsL_law0_r6 : List Cond := [Cond.methodLink RX6 67 yX4_hasRoom, Cond.instanceMethod yX4_hasRoom, Cond.selects RX4 yX4_hasRoom yX4_hasRoom, Cond.code yX4_hasRoom cX4_hasRoom 2 (some .boolean), Cond.fieldLink RX4 19 "TrainedSegments$Row" "length" "I", Cond.methodLink RX6 71 yX4_add, Cond.instanceMethod yX4_add, Cond.selects RX4 yX4_add yX4_add, Cond.code yX4_add cX4_add 2 none, Cond.methodLink RX6 74 yX4_length, Cond.instanceMethod yX4_length, Cond.selects RX4 yX4_length yX4_length, Cond.code yX4_length cX4_length 1 (some .int), Cond.methodLink RL 39 yX7_feed, Cond.instanceMethod yX7_feed, Cond.selects RX7 yX7_feed yX7_feed, Cond.code yX7_feed cX7_feed 5 (some .int), Cond.fieldLink RX7 60 "TrainedSegmentsModel" "thrown" "I", Cond.constantLong RX7 63 (8), Cond.methodLink RX7 65 yX7_in, Cond.static yX7_in, Cond.code yX7_in cX7_in 6 (some .boolean), Cond.methodLink RL 40 yX6_sample, Cond.instanceMethod yX6_sample]
def wsL_law0_r7 : List Cond := [Cond.selects RX6 yX6_sample yX6_sample, Cond.code yX6_sample cX6_sample 2 (some .int), Cond.fieldLink RX6 78 "TrainedSegments" "sampleCount" "I", Cond.methodLink RX6 82 yX4_become, Cond.instanceMethod yX4_become, Cond.selects RX4 yX4_become yX4_become, Cond.code yX4_become cX4_become 2 none, Cond.methodLink RX4 35 yX4_clear, Cond.instanceMethod yX4_clear, Cond.selects RX4 yX4_clear yX4_clear, Cond.code yX4_clear cX4_clear 1 none, Cond.methodLink RX4 38 yX4_addFrom, Cond.instanceMethod yX4_addFrom, Cond.selects RX4 yX4_addFrom yX4_addFrom, Cond.code yX4_addFrom cX4_addFrom 5 none, Cond.methodLink RX4 27 yX4_signedAt, Cond.instanceMethod yX4_signedAt, Cond.selects RX4 yX4_signedAt yX4_signedAt, Cond.code yX4_signedAt cX4_signedAt 2 (some .byte), Cond.methodLink RX4 23 yX4_has, Cond.instanceMethod yX4_has, Cond.selects RX4 yX4_has yX4_has, Cond.code yX4_has cX4_has 2 (some .boolean), Cond.methodLink RX4 31 yX4_add]
def wsL_law0_r8 : List Cond := [Cond.methodLink RX6 86 yX4_clear, Cond.methodLink RL 44 yX7_sample, Cond.instanceMethod yX7_sample, Cond.selects RX7 yX7_sample yX7_sample, Cond.code yX7_sample cX7_sample 2 (some .int), Cond.constantLong RX7 69 (40), Cond.fieldLink RX7 71 "TrainedSegmentsModel" "samples" "I", Cond.methodLink RL 45 yX6_forget, Cond.instanceMethod yX6_forget, Cond.selects RX6 yX6_forget yX6_forget, Cond.code yX6_forget cX6_forget 2 (some .int), Cond.methodLink RL 48 yX7_forget, Cond.instanceMethod yX7_forget, Cond.selects RX7 yX7_forget yX7_forget, Cond.code yX7_forget cX7_forget 2 (some .int), Cond.methodLink RL 49 yX6_train, Cond.instanceMethod yX6_train, Cond.selects RX6 yX6_train yX6_train, Cond.code yX6_train cX6_train 6 (some .int), Cond.methodLink RX6 89 yX6_isNumber, Cond.static yX6_isNumber, Cond.code yX6_isNumber cX6_isNumber 1 (some .boolean), Cond.methodLink RX6 92 yX6_isId, Cond.static yX6_isId]
def wsL_law0_r9 : List Cond := [Cond.code yX6_isId cX6_isId 1 (some .boolean), Cond.methodLink RX6 95 yX5_load, Cond.instanceMethod yX5_load, Cond.selects RX5 yX5_load yX5_load, Cond.code yX5_load cX5_load 5 none, Cond.fieldLink RX5 37 "TrainedSegments$Trainer" "n" "I", Cond.fieldLink RX5 41 "TrainedSegments$Trainer" "takenCount" "I", Cond.methodLink RX5 44 yX4_clear, Cond.methodLink RX5 47 yX5_coverFrom, Cond.instanceMethod yX5_coverFrom, Cond.selects RX5 yX5_coverFrom yX5_coverFrom, Cond.code yX5_coverFrom cX5_coverFrom 5 none, Cond.methodLink RX5 51 yJ7_fill_53178, Cond.static yJ7_fill_53178, Cond.initialized RJ7, Cond.code yJ7_fill_53178 cJ7_fill_53178 4 none, Cond.methodLink RX5 57 yX4_addFrom, Cond.methodLink RX5 61 yX4_length, Cond.methodLink RX5 65 yX5_markKinds, Cond.instanceMethod yX5_markKinds, Cond.selects RX5 yX5_markKinds yX5_markKinds, Cond.code yX5_markKinds cX5_markKinds 4 none, Cond.methodLink RX5 84 yX5_firstSameRow, Cond.instanceMethod yX5_firstSameRow]
def wsL_law0_r10 : List Cond := [Cond.selects RX5 yX5_firstSameRow yX5_firstSameRow, Cond.code yX5_firstSameRow cX5_firstSameRow 3 (some .int), Cond.methodLink RX5 88 yX5_isSameRow, Cond.instanceMethod yX5_isSameRow, Cond.selects RX5 yX5_isSameRow yX5_isSameRow, Cond.code yX5_isSameRow cX5_isSameRow 4 (some .boolean), Cond.methodLink RX5 92 yX4_signedAt, Cond.methodLink RX6 99 yX5_takeRows, Cond.instanceMethod yX5_takeRows, Cond.selects RX5 yX5_takeRows yX5_takeRows, Cond.code yX5_takeRows cX5_takeRows 3 none, Cond.methodLink RX5 69 yX5_countRows, Cond.instanceMethod yX5_countRows, Cond.selects RX5 yX5_countRows yX5_countRows, Cond.code yX5_countRows cX5_countRows 2 none, Cond.methodLink RX5 96 yX5_isFreeRow, Cond.instanceMethod yX5_isFreeRow, Cond.selects RX5 yX5_isFreeRow yX5_isFreeRow, Cond.code yX5_isFreeRow cX5_isFreeRow 3 (some .boolean), Cond.methodLink RX5 72 yX5_placeOfMost, Cond.instanceMethod yX5_placeOfMost, Cond.selects RX5 yX5_placeOfMost yX5_placeOfMost, Cond.code yX5_placeOfMost cX5_placeOfMost 4 (some .int), Cond.methodLink RX5 75 yX5_cover]
def wsL_law0_r11 : List Cond := [Cond.instanceMethod yX5_cover, Cond.selects RX5 yX5_cover yX5_cover, Cond.code yX5_cover cX5_cover 3 none, Cond.methodLink RX6 102 yX0_begin, Cond.instanceMethod yX0_begin, Cond.selects RX0 yX0_begin yX0_begin, Cond.code yX0_begin cX0_begin 3 none, Cond.fieldLink RX0 20 "TrainedSegments$Dictionary" "id" "I", Cond.fieldLink RX0 27 "TrainedSegments$Dictionary" "pieceLength" "I", Cond.fieldLink RX0 24 "TrainedSegments$Dictionary" "pieces" "I", Cond.methodLink RX0 34 yX4_clear, Cond.methodLink RX6 106 yX5_handOver, Cond.instanceMethod yX5_handOver, Cond.selects RX5 yX5_handOver yX5_handOver, Cond.code yX5_handOver cX5_handOver 3 none, Cond.methodLink RX5 78 yX0_addPiece, Cond.instanceMethod yX0_addPiece, Cond.selects RX0 yX0_addPiece yX0_addPiece, Cond.code yX0_addPiece cX0_addPiece 3 none, Cond.methodLink RX0 37 yX4_hasRoom, Cond.methodLink RX0 41 yX4_addFrom, Cond.methodLink RX6 110 yX0_pieces, Cond.instanceMethod yX0_pieces, Cond.selects RX0 yX0_pieces yX0_pieces]
def wsL_law0_r12 : List Cond := [Cond.code yX0_pieces cX0_pieces 1 (some .int), Cond.methodLink RL 53 yX7_train, Cond.instanceMethod yX7_train, Cond.selects RX7 yX7_train yX7_train, Cond.code yX7_train cX7_train 11 (some .int), Cond.constantLong RX7 81 (5), Cond.constantLong RX7 83 (255), Cond.constantLong RX7 85 (2), Cond.constantLong RX7 87 (80), Cond.fieldLink RX7 89 "TrainedSegmentsModel" "takenMany" "I", Cond.methodLink RX7 78 yX7_isOpen, Cond.instanceMethod yX7_isOpen, Cond.selects RX7 yX7_isOpen yX7_isOpen, Cond.code yX7_isOpen cX7_isOpen 6 (some .boolean), Cond.methodLink RX7 92 yX7_counted, Cond.instanceMethod yX7_counted, Cond.selects RX7 yX7_counted yX7_counted, Cond.code yX7_counted cX7_counted 8 (some .int), Cond.methodLink RX7 74 yX7_areAlike, Cond.instanceMethod yX7_areAlike, Cond.selects RX7 yX7_areAlike yX7_areAlike, Cond.code yX7_areAlike cX7_areAlike 6 (some .boolean), Cond.methodLink RL 54 yX6_give, Cond.instanceMethod yX6_give]
def wsL_law0_r13 : List Cond := [Cond.selects RX6 yX6_give yX6_give, Cond.code yX6_give cX6_give 4 (some .int), Cond.methodLink RX6 113 yX0_addPiece, Cond.methodLink RX6 117 yX0_words, Cond.instanceMethod yX0_words, Cond.selects RX0 yX0_words yX0_words, Cond.code yX0_words cX0_words 1 (some (.object "TrainedSegments$Row")), Cond.methodLink RL 58 yX7_give, Cond.instanceMethod yX7_give, Cond.selects RX7 yX7_give yX7_give, Cond.code yX7_give cX7_give 4 (some .int), Cond.methodLink RL 59 yX6_trim, Cond.instanceMethod yX6_trim, Cond.selects RX6 yX6_trim yX6_trim, Cond.code yX6_trim cX6_trim 3 (some .int), Cond.methodLink RX6 121 yX6_thereAt, Cond.instanceMethod yX6_thereAt, Cond.selects RX6 yX6_thereAt yX6_thereAt, Cond.code yX6_thereAt cX6_thereAt 2 (some (.object "TrainedSegments$Dictionary")), Cond.methodLink RX6 196 yX0_isThere, Cond.instanceMethod yX0_isThere, Cond.selects RX0 yX0_isThere yX0_isThere, Cond.code yX0_isThere cX0_isThere 1 (some .boolean), Cond.methodLink RX6 125 yX6_leaveOutIdlePieces]
def wsL_law0_r14 : List Cond := [Cond.instanceMethod yX6_leaveOutIdlePieces, Cond.selects RX6 yX6_leaveOutIdlePieces yX6_leaveOutIdlePieces, Cond.code yX6_leaveOutIdlePieces cX6_leaveOutIdlePieces 7 (some .int), Cond.methodLink RX6 200 yX6_bytesOfSamples, Cond.instanceMethod yX6_bytesOfSamples, Cond.selects RX6 yX6_bytesOfSamples yX6_bytesOfSamples, Cond.code yX6_bytesOfSamples cX6_bytesOfSamples 4 (some .int), Cond.methodLink RX6 162 yX3_measure, Cond.instanceMethod yX3_measure, Cond.selects RX3 yX3_measure yX3_measure, Cond.code yX3_measure cX3_measure 4 (some .int), Cond.fieldLink RX3 34 "TrainedSegments$Packer" "start" "I", Cond.methodLink RX3 38 Lib.Math.min.name, Cond.static Lib.Math.min.name, Cond.code Lib.Math.min.name Lib.Math.min.code 2 (some .int), Cond.fieldLink RX3 44 "TrainedSegments$Packer" "length" "I", Cond.constant RX3 52 (2147483647), Cond.methodLink RX3 28 yX4_copyTo, Cond.instanceMethod yX4_copyTo, Cond.selects RX4 yX4_copyTo yX4_copyTo, Cond.code yX4_copyTo cX4_copyTo 5 (some .int), Cond.methodLink RX4 42 Lib.Math.min.name, Cond.methodLink RX3 47 yX3_linkSameBytes, Cond.instanceMethod yX3_linkSameBytes]
def wsL_law0_r15 : List Cond := [Cond.selects RX3 yX3_linkSameBytes yX3_linkSameBytes, Cond.code yX3_linkSameBytes cX3_linkSameBytes 3 none, Cond.methodLink RX3 77 yJ7_fill_53178, Cond.methodLink RX3 53 yX3_tryMatches, Cond.instanceMethod yX3_tryMatches, Cond.selects RX3 yX3_tryMatches yX3_tryMatches, Cond.code yX3_tryMatches cX3_tryMatches 3 none, Cond.methodLink RX3 83 yX3_longestMatch, Cond.instanceMethod yX3_longestMatch, Cond.selects RX3 yX3_longestMatch yX3_longestMatch, Cond.code yX3_longestMatch cX3_longestMatch 6 (some .int), Cond.methodLink RX3 90 Lib.Math.max.name, Cond.methodLink RX3 86 yX3_sameBytes, Cond.instanceMethod yX3_sameBytes, Cond.selects RX3 yX3_sameBytes yX3_sameBytes, Cond.code yX3_sameBytes cX3_sameBytes 5 (some .int), Cond.methodLink RX3 57 yX3_tryPlain, Cond.instanceMethod yX3_tryPlain, Cond.selects RX3 yX3_tryPlain yX3_tryPlain, Cond.code yX3_tryPlain cX3_tryPlain 3 none, Cond.methodLink RX6 218 yX0_copyWithout, Cond.instanceMethod yX0_copyWithout, Cond.selects RX0 yX0_copyWithout yX0_copyWithout, Cond.code yX0_copyWithout cX0_copyWithout 3 none]
def wsL_law0_r16 : List Cond := [Cond.methodLink RX0 45 yX4_become, Cond.methodLink RX0 49 yX4_cutOut, Cond.instanceMethod yX4_cutOut, Cond.selects RX4 yX4_cutOut yX4_cutOut, Cond.code yX4_cutOut cX4_cutOut 5 none, Cond.methodLink RX6 222 yX0_removePiece, Cond.instanceMethod yX0_removePiece, Cond.selects RX0 yX0_removePiece yX0_removePiece, Cond.code yX0_removePiece cX0_removePiece 2 none, Cond.methodLink RL 62 yX7_trim, Cond.instanceMethod yX7_trim, Cond.selects RX7 yX7_trim yX7_trim, Cond.code yX7_trim cX7_trim 4 (some .int), Cond.methodLink RX7 125 yX7_isThere, Cond.instanceMethod yX7_isThere, Cond.selects RX7 yX7_isThere yX7_isThere, Cond.code yX7_isThere cX7_isThere 2 (some .boolean), Cond.methodLink RX7 129 yX7_sizeOfAll, Cond.instanceMethod yX7_sizeOfAll, Cond.selects RX7 yX7_sizeOfAll yX7_sizeOfAll, Cond.code yX7_sizeOfAll cX7_sizeOfAll 5 (some .int), Cond.methodLink RX7 121 yX7_sizeOf, Cond.instanceMethod yX7_sizeOf, Cond.selects RX7 yX7_sizeOf yX7_sizeOf]
def wsL_law0_r17 : List Cond := [Cond.code yX7_sizeOf cX7_sizeOf 4 (some .int), Cond.methodLink RX7 110 yX7_layAhead, Cond.instanceMethod yX7_layAhead, Cond.selects RX7 yX7_layAhead yX7_layAhead, Cond.code yX7_layAhead cX7_layAhead 6 none, Cond.fieldLink RX7 96 "TrainedSegmentsModel" "ahead" "I", Cond.methodLink RX7 99 yX7_pieceAt, Cond.instanceMethod yX7_pieceAt, Cond.selects RX7 yX7_pieceAt yX7_pieceAt, Cond.code yX7_pieceAt cX7_pieceAt 5 (some .int), Cond.methodLink RX7 114 yX7_laySample, Cond.instanceMethod yX7_laySample, Cond.selects RX7 yX7_laySample yX7_laySample, Cond.code yX7_laySample cX7_laySample 3 none, Cond.fieldLink RX7 103 "TrainedSegmentsModel" "textLong" "I", Cond.methodLink RX7 117 yX7_packedLong, Cond.instanceMethod yX7_packedLong, Cond.selects RX7 yX7_packedLong yX7_packedLong, Cond.code yX7_packedLong cX7_packedLong 5 (some .int), Cond.methodLink RX7 106 yX7_findMatches, Cond.instanceMethod yX7_findMatches, Cond.selects RX7 yX7_findMatches yX7_findMatches, Cond.code yX7_findMatches cX7_findMatches 5 none, Cond.methodLink RX7 132 yX7_goes]
def wsL_law0_r18 : List Cond := [Cond.instanceMethod yX7_goes, Cond.selects RX7 yX7_goes yX7_goes, Cond.code yX7_goes cX7_goes 6 none, Cond.methodLink RL 63 yX6_drop, Cond.instanceMethod yX6_drop, Cond.selects RX6 yX6_drop yX6_drop, Cond.code yX6_drop cX6_drop 4 (some .int), Cond.methodLink RL 66 yX7_drop, Cond.instanceMethod yX7_drop, Cond.selects RX7 yX7_drop yX7_drop, Cond.code yX7_drop cX7_drop 2 (some .int), Cond.methodLink RL 67 yX6_told, Cond.instanceMethod yX6_told, Cond.selects RX6 yX6_told yX6_told, Cond.code yX6_told cX6_told 4 (some .int), Cond.methodLink RX6 129 yX0_id, Cond.instanceMethod yX0_id, Cond.selects RX0 yX0_id yX0_id, Cond.code yX0_id cX0_id 1 (some .int), Cond.methodLink RX6 132 yX0_sum, Cond.instanceMethod yX0_sum, Cond.selects RX0 yX0_sum yX0_sum, Cond.code yX0_sum cX0_sum 1 (some .int), Cond.methodLink RX0 30 yX4_sum]
def wsL_law0_r19 : List Cond := [Cond.instanceMethod yX4_sum, Cond.selects RX4 yX4_sum yX4_sum, Cond.code yX4_sum cX4_sum 4 (some .int), Cond.methodLink RX4 45 yX4_at, Cond.instanceMethod yX4_at, Cond.selects RX4 yX4_at yX4_at, Cond.code yX4_at cX4_at 2 (some .int), Cond.methodLink RX6 135 yX0_pieceLength, Cond.instanceMethod yX0_pieceLength, Cond.selects RX0 yX0_pieceLength yX0_pieceLength, Cond.code yX0_pieceLength cX0_pieceLength 1 (some .int), Cond.methodLink RL 70 yX7_told, Cond.instanceMethod yX7_told, Cond.selects RX7 yX7_told yX7_told, Cond.code yX7_told cX7_told 3 (some .int), Cond.constantLong RX7 139 (10), Cond.methodLink RX7 135 yX7_sumOf, Cond.instanceMethod yX7_sumOf, Cond.selects RX7 yX7_sumOf yX7_sumOf, Cond.code yX7_sumOf cX7_sumOf 5 (some .int), Cond.methodLink RL 71 yL_content, Cond.static yL_content, Cond.initialized RL, Cond.codeWith yL_content cL_content 5 (some .int) [(0, 10, 13, 13), (0, 10, 17, 15)]]
def wsL_law0_r20 : List Cond := [Cond.classLink RL 13 "java/lang/NullPointerException", Cond.classLink RL 15 "java/lang/ArrayIndexOutOfBoundsException", Cond.methodLink RL 7 yX6_content, Cond.instanceMethod yX6_content, Cond.selects RX6 yX6_content yX6_content, Cond.code yX6_content cX6_content 4 (some .byte), Cond.classLink RX6 138 RJx00060, Cond.instantiable RJx00060 6, Cond.initialized RJx00060, Cond.classLink RX6 145 RJx5d777, Cond.instantiable RJx5d777 8, Cond.initialized RJx5d777, Cond.methodLink RX6 150 yX4_has, Cond.methodLink RX6 155 yX4_signedAt, Cond.methodLink RL 76 yX7_content, Cond.instanceMethod yX7_content, Cond.selects RX7 yX7_content yX7_content, Cond.code yX7_content cX7_content 3 (some .byte), Cond.methodLink RL 77 yX7_thrown, Cond.instanceMethod yX7_thrown, Cond.selects RX7 yX7_thrown yX7_thrown, Cond.code yX7_thrown cX7_thrown 1 (some .int), Cond.methodLink RL 80 yX6_pack, Cond.instanceMethod yX6_pack]
def wsL_law0_r21 : List Cond := [Cond.selects RX6 yX6_pack yX6_pack, Cond.code yX6_pack cX6_pack 3 (some .int), Cond.methodLink RX6 159 yX6_noneOrThereAt, Cond.instanceMethod yX6_noneOrThereAt, Cond.selects RX6 yX6_noneOrThereAt yX6_noneOrThereAt, Cond.code yX6_noneOrThereAt cX6_noneOrThereAt 2 (some (.object "TrainedSegments$Dictionary")), Cond.methodLink RX6 166 yX2_begin, Cond.instanceMethod yX2_begin, Cond.selects RX2 yX2_begin yX2_begin, Cond.code yX2_begin cX2_begin 3 none, Cond.fieldLink RX2 20 "TrainedSegments$Output" "items" "I", Cond.fieldLink RX2 24 "TrainedSegments$Output" "matches" "I", Cond.methodLink RX2 27 yX4_clear, Cond.methodLink RX2 30 yX0_id, Cond.methodLink RX2 36 yX4_add, Cond.methodLink RX2 39 yX0_sum, Cond.methodLink RX6 169 yX3_write, Cond.instanceMethod yX3_write, Cond.selects RX3 yX3_write yX3_write, Cond.code yX3_write cX3_write 5 none, Cond.methodLink RX3 73 Lib.Math.abs.name, Cond.static Lib.Math.abs.name, Cond.code Lib.Math.abs.name Lib.Math.abs.code 1 (some .int), Cond.methodLink RX3 60 yX3_leastDistance]
def wsL_law0_r22 : List Cond := [Cond.instanceMethod yX3_leastDistance, Cond.selects RX3 yX3_leastDistance yX3_leastDistance, Cond.code yX3_leastDistance cX3_leastDistance 5 (some .int), Cond.methodLink RX3 63 yX2_addMatch, Cond.instanceMethod yX2_addMatch, Cond.selects RX2 yX2_addMatch yX2_addMatch, Cond.code yX2_addMatch cX2_addMatch 3 none, Cond.methodLink RX3 69 yX2_addPlain, Cond.instanceMethod yX2_addPlain, Cond.selects RX2 yX2_addPlain yX2_addPlain, Cond.code yX2_addPlain cX2_addPlain 5 none, Cond.methodLink RX6 173 yX2_bytes, Cond.instanceMethod yX2_bytes, Cond.selects RX2 yX2_bytes yX2_bytes, Cond.code yX2_bytes cX2_bytes 1 (some (.object "TrainedSegments$Row")), Cond.methodLink RL 83 yX7_pack, Cond.instanceMethod yX7_pack, Cond.selects RX7 yX7_pack yX7_pack, Cond.code yX7_pack cX7_pack 5 (some .int), Cond.fieldLink RX7 141 "TrainedSegmentsModel" "outMany" "I", Cond.fieldLink RX7 150 "TrainedSegmentsModel" "items" "I", Cond.fieldLink RX7 147 "TrainedSegmentsModel" "matches" "I", Cond.methodLink RX7 144 yX7_put, Cond.instanceMethod yX7_put]
def wsL_law0_r23 : List Cond := [Cond.selects RX7 yX7_put yX7_put, Cond.code yX7_put cX7_put 2 none, Cond.methodLink RX7 153 yX7_putItem, Cond.instanceMethod yX7_putItem, Cond.selects RX7 yX7_putItem yX7_putItem, Cond.code yX7_putItem cX7_putItem 4 (some .int), Cond.methodLink RL 84 yL_out, Cond.static yL_out, Cond.codeWith yL_out cL_out 4 (some .int) [(0, 9, 12, 15)], Cond.methodLink RL 17 yX6_out, Cond.instanceMethod yX6_out, Cond.selects RX6 yX6_out yX6_out, Cond.code yX6_out cX6_out 2 (some .int), Cond.methodLink RX6 178 yX4_at, Cond.methodLink RL 87 yX7_out, Cond.instanceMethod yX7_out, Cond.selects RX7 yX7_out yX7_out, Cond.code yX7_out cX7_out 2 (some .int), Cond.methodLink RL 88 yX6_open, Cond.instanceMethod yX6_open, Cond.selects RX6 yX6_open yX6_open, Cond.code yX6_open cX6_open 2 (some .int), Cond.methodLink RX6 182 yX6_firstWithId, Cond.instanceMethod yX6_firstWithId]
def wsL_law0_r24 : List Cond := [Cond.selects RX6 yX6_firstWithId yX6_firstWithId, Cond.code yX6_firstWithId cX6_firstWithId 3 (some (.object "TrainedSegments$Dictionary")), Cond.methodLink RX6 185 yX1_decode, Cond.instanceMethod yX1_decode, Cond.selects RX1 yX1_decode yX1_decode, Cond.code yX1_decode cX1_decode 5 (some .int), Cond.fieldLink RX1 38 "TrainedSegments$Opener" "start" "I", Cond.fieldLink RX1 46 "TrainedSegments$Opener" "wanted" "I", Cond.fieldLink RX1 49 "TrainedSegments$Opener" "place" "I", Cond.methodLink RX1 20 yX4_length, Cond.methodLink RX1 24 yX1_wrongInHeader, Cond.instanceMethod yX1_wrongInHeader, Cond.selects RX1 yX1_wrongInHeader yX1_wrongInHeader, Cond.code yX1_wrongInHeader cX1_wrongInHeader 3 (some .int), Cond.methodLink RX1 42 yX4_at, Cond.methodLink RX1 63 yX0_sum, Cond.methodLink RX1 28 yX0_words, Cond.methodLink RX1 34 yX4_become, Cond.methodLink RX1 52 yX1_readItem, Cond.instanceMethod yX1_readItem, Cond.selects RX1 yX1_readItem yX1_readItem, Cond.code yX1_readItem cX1_readItem 4 (some .int), Cond.methodLink RX1 66 yX1_readPlain, Cond.instanceMethod yX1_readPlain]
def wsL_law0_r25 : List Cond := [Cond.selects RX1 yX1_readPlain yX1_readPlain, Cond.code yX1_readPlain cX1_readPlain 3 (some .int), Cond.methodLink RX1 59 yX4_addFrom, Cond.methodLink RX1 70 yX1_readMatch, Cond.instanceMethod yX1_readMatch, Cond.selects RX1 yX1_readMatch yX1_readMatch, Cond.code yX1_readMatch cX1_readMatch 6 (some .int), Cond.methodLink RX1 74 yX4_add, Cond.methodLink RX6 189 yX1_handOver, Cond.instanceMethod yX1_handOver, Cond.selects RX1 yX1_handOver yX1_handOver, Cond.code yX1_handOver cX1_handOver 2 none, Cond.methodLink RX1 56 yX4_clear, Cond.methodLink RL 91 yX7_open, Cond.instanceMethod yX7_open, Cond.selects RX7 yX7_open yX7_open, Cond.code yX7_open cX7_open 3 (some .int), Cond.fieldLink RX7 162 "TrainedSegmentsModel" "textMany" "I", Cond.methodLink RX7 159 yX7_wrong, Cond.instanceMethod yX7_wrong, Cond.selects RX7 yX7_wrong yX7_wrong, Cond.code yX7_wrong cX7_wrong 9 (some .int), Cond.methodLink RX7 156 yX7_firstWith, Cond.instanceMethod yX7_firstWith]
def wsL_law0_r26 : List Cond := [Cond.selects RX7 yX7_firstWith yX7_firstWith, Cond.code yX7_firstWith cX7_firstWith 3 (some .int), Cond.methodLink RL 92 yL_text, Cond.static yL_text, Cond.codeWith yL_text cL_text 4 (some .int) [(0, 9, 12, 15)], Cond.methodLink RL 21 yX6_text, Cond.instanceMethod yX6_text, Cond.selects RX6 yX6_text yX6_text, Cond.code yX6_text cX6_text 2 (some .int), Cond.methodLink RL 94 yX7_text, Cond.instanceMethod yX7_text, Cond.selects RX7 yX7_text yX7_text, Cond.code yX7_text cX7_text 2 (some .int), Cond.methodLink RL 95 yX6_size, Cond.instanceMethod yX6_size, Cond.selects RX6 yX6_size yX6_size, Cond.code yX6_size cX6_size 4 (some .int), Cond.methodLink RX6 193 yX6_isSample, Cond.instanceMethod yX6_isSample, Cond.selects RX6 yX6_isSample yX6_isSample, Cond.code yX6_isSample cX6_isSample 2 (some .boolean), Cond.methodLink RL 98 yX7_size, Cond.instanceMethod yX7_size, Cond.selects RX7 yX7_size yX7_size]
def wsL_law0_r27 : List Cond := [Cond.code yX7_size cX7_size 3 (some .int), Cond.methodLink RL 99 yX6_best, Cond.instanceMethod yX6_best, Cond.selects RX6 yX6_best yX6_best, Cond.code yX6_best cX6_best 6 (some .int), Cond.methodLink RL 102 yX7_best, Cond.instanceMethod yX7_best, Cond.selects RX7 yX7_best yX7_best, Cond.code yX7_best cX7_best 6 (some .int), Cond.methodLink RL 103 yL_share, Cond.static yL_share, Cond.codeWith yL_share cL_share 4 (some .int) [(0, 9, 12, 27)], Cond.classLink RL 27 "java/lang/ArithmeticException", Cond.methodLink RL 24 yX6_share, Cond.instanceMethod yX6_share, Cond.selects RX6 yX6_share yX6_share, Cond.code yX6_share cX6_share 4 (some .int), Cond.classLink RX6 204 "java/lang/ArithmeticException", Cond.initialized "java/lang/ArithmeticException", Cond.methodLink RL 105 yX7_share, Cond.instanceMethod yX7_share, Cond.selects RX7 yX7_share yX7_share, Cond.code yX7_share cX7_share 3 (some .int), Cond.methodLink RL 106 yX6_about]
def wsL_law0_r28 : List Cond := [Cond.instanceMethod yX6_about, Cond.selects RX6 yX6_about yX6_about, Cond.code yX6_about cX6_about 2 (some .int), Cond.methodLink RX6 209 yX6_countThere, Cond.instanceMethod yX6_countThere, Cond.selects RX6 yX6_countThere yX6_countThere, Cond.code yX6_countThere cX6_countThere 3 (some .int), Cond.methodLink RX6 212 yX2_items, Cond.instanceMethod yX2_items, Cond.selects RX2 yX2_items yX2_items, Cond.code yX2_items cX2_items 1 (some .int), Cond.methodLink RX6 215 yX2_matches, Cond.instanceMethod yX2_matches, Cond.selects RX2 yX2_matches yX2_matches, Cond.code yX2_matches cX2_matches 1 (some .int), Cond.methodLink RL 109 yX7_about, Cond.instanceMethod yX7_about, Cond.selects RX7 yX7_about yX7_about, Cond.code yX7_about cX7_about 4 (some .int)]
def wsL_law0 : List Cond := (wsL_law0_r1 ++ (wsL_law0_r2 ++ (wsL_law0_r3 ++ (wsL_law0_r4 ++ (wsL_law0_r5 ++ (wsL_law0_r6 ++ (wsL_law0_r7 ++ (wsL_law0_r8 ++ (wsL_law0_r9 ++ (wsL_law0_r10 ++ (wsL_law0_r11 ++ (wsL_law0_r12 ++ (wsL_law0_r13 ++ (wsL_law0_r14 ++ (wsL_law0_r15 ++ (wsL_law0_r16 ++ (wsL_law0_r17 ++ (wsL_law0_r18 ++ (wsL_law0_r19 ++ (wsL_law0_r20 ++ (wsL_law0_r21 ++ (wsL_law0_r22 ++ (wsL_law0_r23 ++ (wsL_law0_r24 ++ (wsL_law0_r25 ++ (wsL_law0_r26 ++ (wsL_law0_r27 ++ wsL_law0_r28))))))))))))))))))))))))))) ++ wsX60 ++ wsX70 ++ wsX40 ++ wsX00 ++ wsX20 ++ wsX30 ++ wsX50 ++ wsX10 ++ wsJx000600 ++ wsJx5d7770 ++ ([] : List Cond)
def wsL_law : List Cond := wsL_law0 ++ (vx_atN 8).filter goodWord ++ (vx_atM "java/lang/ArrayIndexOutOfBoundsException" ["java/lang/IndexOutOfBoundsException", "java/lang/RuntimeException", "java/lang/Exception"]).filter goodWord ++ (vx_atS RX6 208 "java/lang/ArithmeticException" ["java/lang/RuntimeException", "java/lang/Exception"]).filter goodWord ++ (vx_atM "java/lang/ArithmeticException" ["java/lang/RuntimeException", "java/lang/Exception"]).filter goodWord
abbrev vwCl : List vw_C := [(RJ0, TJ0, 2), (RJx00060, TJx00060, 6), (RJx5d777, TJx5d777, 8), (RX0, TX0, 4), (RX1, TX1, 4), (RX2, TX2, 3), (RX3, TX3, 7), (RX4, TX4, 2), (RX5, TX5, 8), (RX6, TX6, 11), (RX7, TX7, 25)]
end
section
theorem wsL_law_x0 : ∀ w ∈ (vx_atN 8).filter goodWord, w ∈ lw_tbl := by decide +kernel
theorem wsL_law_x1 : ∀ w ∈ (vx_atM "java/lang/ArrayIndexOutOfBoundsException" ["java/lang/IndexOutOfBoundsException", "java/lang/RuntimeException", "java/lang/Exception"]).filter goodWord, w ∈ lw_tbl := by decide +kernel
theorem wsL_law_x2 : ∀ w ∈ (vx_atS RX6 208 "java/lang/ArithmeticException" ["java/lang/RuntimeException", "java/lang/Exception"]).filter goodWord, w ∈ lw_tbl := by decide +kernel
theorem wsL_law_x3 : ∀ w ∈ (vx_atM "java/lang/ArithmeticException" ["java/lang/RuntimeException", "java/lang/Exception"]).filter goodWord, w ∈ lw_tbl := by decide +kernel
theorem inlX0 : ∀ w ∈ wsX00, w ∈ wsL_law := fun _ h => List.mem_append_left _ (List.mem_append_left _ (List.mem_append_left _ (List.mem_append_left _ (List.mem_append_left _ (List.mem_append_left _ (List.mem_append_left _ (List.mem_append_left _ (List.mem_append_left _ (List.mem_append_left _ (List.mem_append_left _ (List.mem_append_right _ h)))))))))))
theorem inlX1 : ∀ w ∈ wsX10, w ∈ wsL_law := fun _ h => List.mem_append_left _ (List.mem_append_left _ (List.mem_append_left _ (List.mem_append_left _ (List.mem_append_left _ (List.mem_append_left _ (List.mem_append_left _ (List.mem_append_right _ h)))))))
theorem inlX2 : ∀ w ∈ wsX20, w ∈ wsL_law := fun _ h => List.mem_append_left _ (List.mem_append_left _ (List.mem_append_left _ (List.mem_append_left _ (List.mem_append_left _ (List.mem_append_left _ (List.mem_append_left _ (List.mem_append_left _ (List.mem_append_left _ (List.mem_append_left _ (List.mem_append_right _ h))))))))))
theorem inlX3 : ∀ w ∈ wsX30, w ∈ wsL_law := fun _ h => List.mem_append_left _ (List.mem_append_left _ (List.mem_append_left _ (List.mem_append_left _ (List.mem_append_left _ (List.mem_append_left _ (List.mem_append_left _ (List.mem_append_left _ (List.mem_append_left _ (List.mem_append_right _ h)))))))))
theorem inlX4 : ∀ w ∈ wsX40, w ∈ wsL_law := fun _ h => List.mem_append_left _ (List.mem_append_left _ (List.mem_append_left _ (List.mem_append_left _ (List.mem_append_left _ (List.mem_append_left _ (List.mem_append_left _ (List.mem_append_left _ (List.mem_append_left _ (List.mem_append_left _ (List.mem_append_left _ (List.mem_append_left _ (List.mem_append_right _ h))))))))))))
theorem inlX5 : ∀ w ∈ wsX50, w ∈ wsL_law := fun _ h => List.mem_append_left _ (List.mem_append_left _ (List.mem_append_left _ (List.mem_append_left _ (List.mem_append_left _ (List.mem_append_left _ (List.mem_append_left _ (List.mem_append_left _ (List.mem_append_right _ h))))))))
theorem inlX6 : ∀ w ∈ wsX60, w ∈ wsL_law := fun _ h => List.mem_append_left _ (List.mem_append_left _ (List.mem_append_left _ (List.mem_append_left _ (List.mem_append_left _ (List.mem_append_left _ (List.mem_append_left _ (List.mem_append_left _ (List.mem_append_left _ (List.mem_append_left _ (List.mem_append_left _ (List.mem_append_left _ (List.mem_append_left _ (List.mem_append_left _ (List.mem_append_right _ h))))))))))))))
theorem inlX7 : ∀ w ∈ wsX70, w ∈ wsL_law := fun _ h => List.mem_append_left _ (List.mem_append_left _ (List.mem_append_left _ (List.mem_append_left _ (List.mem_append_left _ (List.mem_append_left _ (List.mem_append_left _ (List.mem_append_left _ (List.mem_append_left _ (List.mem_append_left _ (List.mem_append_left _ (List.mem_append_left _ (List.mem_append_left _ (List.mem_append_right _ h)))))))))))))
theorem inlJx00060 : ∀ w ∈ wsJx000600, w ∈ wsL_law := fun _ h => List.mem_append_left _ (List.mem_append_left _ (List.mem_append_left _ (List.mem_append_left _ (List.mem_append_left _ (List.mem_append_left _ (List.mem_append_right _ h))))))
theorem inJ9 : ∀ w ∈ wsJ90, w ∈ lw_tbl := by decide +kernel
theorem inlJx5d777 : ∀ w ∈ wsJx5d7770, w ∈ wsL_law := fun _ h => List.mem_append_left _ (List.mem_append_left _ (List.mem_append_left _ (List.mem_append_left _ (List.mem_append_left _ (List.mem_append_right _ h)))))
theorem inJ0 : ∀ w ∈ wsJ00, w ∈ lw_tbl := by decide +kernel
theorem inJ7 : ∀ w ∈ wsJ70, w ∈ lw_tbl := by decide +kernel
set_option maxRecDepth 20000 in
theorem ggX0_init_X4_init : GoodIn wsX0_init wsX4_init := goodIn_r _ [10, 11, 2, 3, 12, 13, 14, 15, 16, 17, 18, 19] (by decide +kernel) (by decide +kernel)
set_option maxRecDepth 20000 in
theorem gX0_init_X4_init : GoodIn wsX0_init (wsX4_init) := ggX0_init_X4_init
set_option maxRecDepth 20000 in
theorem ggX0_sum_X4_sum : GoodIn wsX0_sum wsX4_sum := goodIn_ca (goodIn_ca (goodIn_r _ [7, 8, 9, 10, 11, 6, 12, 13, 14, 15, 16, 17, 18, 19, 20, 21, 26, 27] (by decide +kernel) (by decide +kernel)) (goodIn_sub (fun _ h => List.mem_cons_of_mem _ (List.mem_append_left _ (List.mem_append_right _ h))) (by decide +kernel))) (goodIn_sub (fun _ h => List.mem_cons_of_mem _ (List.mem_append_right _ h)) (by decide +kernel))
set_option maxRecDepth 20000 in
theorem gX0_sum_X4_sum : GoodIn wsX0_sum (wsV RX0 30 RX4 yX4_sum wsX4_sum) := goodIn_app (goodIn_of _ (by decide +kernel)) ggX0_sum_X4_sum
set_option maxRecDepth 20000 in
theorem ggX0_begin_X4_clear : GoodIn wsX0_begin wsX4_clear := goodIn_r _ [9, 10, 15, 16] (by decide +kernel) (by decide +kernel)
set_option maxRecDepth 20000 in
theorem gX0_begin_X4_clear : GoodIn wsX0_begin (wsV RX0 34 RX4 yX4_clear wsX4_clear) := goodIn_app (goodIn_of _ (by decide +kernel)) ggX0_begin_X4_clear
set_option maxRecDepth 20000 in
theorem ggX0_addPiece_X4_hasRoom : GoodIn wsX0_addPiece wsX4_hasRoom := goodIn_ca (goodIn_r _ [8, 9, 10, 31, 32] (by decide +kernel) (by decide +kernel)) (goodIn_sub (fun _ h => List.mem_cons_of_mem _ (List.mem_append_left _ (List.mem_append_right _ h))) (by decide +kernel))
set_option maxRecDepth 20000 in
theorem gX0_addPiece_X4_hasRoom : GoodIn wsX0_addPiece (wsV RX0 37 RX4 yX4_hasRoom wsX4_hasRoom) := goodIn_app (goodIn_of _ (by decide +kernel)) ggX0_addPiece_X4_hasRoom
set_option maxRecDepth 20000 in
theorem ggX0_addPiece_X4_addFrom : GoodIn wsX0_addPiece wsX4_addFrom := goodIn_ca (goodIn_ca (goodIn_r _ [14, 15, 16, 17, 7, 18, 9, 19, 20, 21, 22, 10, 23, 24, 25, 26, 31, 32] (by decide +kernel) (by decide +kernel)) (goodIn_sub (fun _ h => List.mem_cons_of_mem _ (List.mem_append_left _ (List.mem_append_right _ h))) (by decide +kernel))) (goodIn_sub (fun _ h => List.mem_cons_of_mem _ (List.mem_append_right _ h)) (by decide +kernel))
set_option maxRecDepth 20000 in
theorem gX0_addPiece_X4_addFrom : GoodIn wsX0_addPiece (wsV RX0 41 RX4 yX4_addFrom wsX4_addFrom) := goodIn_app (goodIn_of _ (by decide +kernel)) ggX0_addPiece_X4_addFrom
set_option maxRecDepth 20000 in
theorem ggX0_copyWithout_X4_become : GoodIn wsX0_copyWithout wsX4_become := goodIn_ca (goodIn_ca (goodIn_r _ [7, 8, 9, 10, 11, 6, 12, 13, 14, 15, 16, 17, 18, 19, 20, 21, 22, 23, 24, 25, 26, 27, 28, 29, 38, 39] (by decide +kernel) (by decide +kernel)) (goodIn_sub (fun _ h => List.mem_cons_of_mem _ (List.mem_append_left _ (List.mem_append_right _ h))) (by decide +kernel))) (goodIn_sub (fun _ h => List.mem_cons_of_mem _ (List.mem_append_right _ h)) (by decide +kernel))
set_option maxRecDepth 20000 in
theorem gX0_copyWithout_X4_become : GoodIn wsX0_copyWithout (wsV RX0 45 RX4 yX4_become wsX4_become) := goodIn_app (goodIn_of _ (by decide +kernel)) ggX0_copyWithout_X4_become
set_option maxRecDepth 20000 in
theorem ggX0_copyWithout_X4_cutOut : GoodIn wsX0_copyWithout wsX4_cutOut := goodIn_ca (goodIn_ca (goodIn_r _ [33, 8, 21, 26, 27, 28, 6, 29, 38, 39] (by decide +kernel) (by decide +kernel)) (goodIn_sub (fun _ h => List.mem_cons_of_mem _ (List.mem_append_right _ h)) (by decide +kernel))) (goodIn_sub (fun _ h => List.mem_cons_of_mem _ (List.mem_append_left _ (List.mem_append_right _ h))) (by decide +kernel))
set_option maxRecDepth 20000 in
theorem gX0_copyWithout_X4_cutOut : GoodIn wsX0_copyWithout (wsV RX0 49 RX4 yX4_cutOut wsX4_cutOut) := goodIn_app (goodIn_of _ (by decide +kernel)) ggX0_copyWithout_X4_cutOut
set_option maxRecDepth 20000 in
theorem ggX0_removePiece_X4_cutOut : GoodIn wsX0_removePiece wsX4_cutOut := goodIn_ca (goodIn_ca (goodIn_r _ [8, 9, 10, 11, 12, 13, 7, 14, 19, 20] (by decide +kernel) (by decide +kernel)) (goodIn_sub (fun _ h => List.mem_cons_of_mem _ (List.mem_append_right _ h)) (by decide +kernel))) (goodIn_sub (fun _ h => List.mem_cons_of_mem _ (List.mem_append_left _ (List.mem_append_right _ h))) (by decide +kernel))
set_option maxRecDepth 20000 in
theorem gX0_removePiece_X4_cutOut : GoodIn wsX0_removePiece (wsV RX0 49 RX4 yX4_cutOut wsX4_cutOut) := goodIn_app (goodIn_of _ (by decide +kernel)) ggX0_removePiece_X4_cutOut
set_option maxRecDepth 20000 in
theorem ggX1_init_X4_init : GoodIn wsX1_init wsX4_init := goodIn_r _ [10, 11, 2, 3, 12, 13, 14, 15, 16, 17, 18, 19] (by decide +kernel) (by decide +kernel)
set_option maxRecDepth 20000 in
theorem gX1_init_X4_init : GoodIn wsX1_init (wsX4_init) := ggX1_init_X4_init
set_option maxRecDepth 20000 in
theorem ggX1_decode_X4_length : GoodIn wsX1_decode wsX4_length := goodIn_r _ [9, 10, 79, 80] (by decide +kernel) (by decide +kernel)
set_option maxRecDepth 20000 in
theorem gX1_decode_X4_length : GoodIn wsX1_decode (wsV RX1 20 RX4 yX4_length wsX4_length) := goodIn_app (goodIn_of _ (by decide +kernel)) ggX1_decode_X4_length
set_option maxRecDepth 20000 in
theorem ggX1_decode_X1_wrongInHeader : GoodIn wsX1_decode wsX1_wrongInHeader := goodIn_ca (goodIn_ca (goodIn_r _ [15, 5, 6, 7, 8, 9, 10, 16, 17, 18, 19, 20, 21, 22, 23, 24, 25, 26, 27, 28, 29, 30, 31, 32, 33, 34, 35, 36, 37, 38, 39, 40, 79, 80, 81, 82, 83, 84] (by decide +kernel) (by decide +kernel)) (goodIn_sub (fun _ h => List.mem_cons_of_mem _ (List.mem_append_left _ (List.mem_append_right _ h))) (by decide +kernel))) (goodIn_sub (fun _ h => List.mem_cons_of_mem _ (List.mem_append_right _ h)) (by decide +kernel))
set_option maxRecDepth 20000 in
theorem gX1_decode_X1_wrongInHeader : GoodIn wsX1_decode (wsV RX1 24 RX1 yX1_wrongInHeader wsX1_wrongInHeader) := goodIn_app (goodIn_of _ (by decide +kernel)) ggX1_decode_X1_wrongInHeader
set_option maxRecDepth 20000 in
theorem ggX1_decode_X0_words : GoodIn wsX1_decode wsX0_words := goodIn_r _ [44, 35, 81, 82, 83, 84] (by decide +kernel) (by decide +kernel)
set_option maxRecDepth 20000 in
theorem gX1_decode_X0_words : GoodIn wsX1_decode (wsV RX1 28 RX0 yX0_words wsX0_words) := goodIn_app (goodIn_of _ (by decide +kernel)) ggX1_decode_X0_words
set_option maxRecDepth 20000 in
theorem ggX1_decode_X4_become : GoodIn wsX1_decode wsX4_become := goodIn_ca (goodIn_ca (goodIn_r _ [48, 10, 49, 50, 51, 8, 52, 53, 54, 55, 56, 20, 21, 22, 23, 24, 25, 26, 27, 28, 57, 58, 59, 60, 79, 80] (by decide +kernel) (by decide +kernel)) (goodIn_sub (fun _ h => List.mem_cons_of_mem _ (List.mem_append_left _ (List.mem_append_right _ h))) (by decide +kernel))) (goodIn_sub (fun _ h => List.mem_cons_of_mem _ (List.mem_append_right _ h)) (by decide +kernel))
set_option maxRecDepth 20000 in
theorem gX1_decode_X4_become : GoodIn wsX1_decode (wsV RX1 34 RX4 yX4_become wsX4_become) := goodIn_app (goodIn_of _ (by decide +kernel)) ggX1_decode_X4_become
set_option maxRecDepth 20000 in
theorem ggX1_decode_X4_at : GoodIn wsX1_decode wsX4_at := goodIn_ca (goodIn_ca (goodIn_r _ [19, 20, 21, 22, 8, 23, 24, 25, 26, 27, 28, 10, 79, 80] (by decide +kernel) (by decide +kernel)) (goodIn_sub (fun _ h => List.mem_cons_of_mem _ (List.mem_append_left _ (List.mem_append_right _ h))) (by decide +kernel))) (goodIn_sub (fun _ h => List.mem_cons_of_mem _ (List.mem_append_right _ h)) (by decide +kernel))
set_option maxRecDepth 20000 in
theorem gX1_decode_X4_at : GoodIn wsX1_decode (wsV RX1 42 RX4 yX4_at wsX4_at) := goodIn_app (goodIn_of _ (by decide +kernel)) ggX1_decode_X4_at
set_option maxRecDepth 20000 in
theorem ggX1_decode_X1_readItem : GoodIn wsX1_decode wsX1_readItem := goodIn_ca (goodIn_ca (goodIn_r _ [64, 4, 3, 5, 6, 7, 8, 9, 10, 16, 17, 18, 19, 20, 21, 22, 23, 24, 25, 26, 27, 28, 65, 66, 67, 14, 68, 1, 69, 54, 55, 56, 57, 58, 59, 60, 70, 71, 72, 73, 74, 75, 76, 77, 78, 79, 80] (by decide +kernel) (by decide +kernel)) (goodIn_sub (fun _ h => List.mem_cons_of_mem _ (List.mem_append_left _ (List.mem_append_right _ h))) (by decide +kernel))) (goodIn_sub (fun _ h => List.mem_cons_of_mem _ (List.mem_append_right _ h)) (by decide +kernel))
set_option maxRecDepth 20000 in
theorem gX1_decode_X1_readItem : GoodIn wsX1_decode (wsV RX1 52 RX1 yX1_readItem wsX1_readItem) := goodIn_app (goodIn_of _ (by decide +kernel)) ggX1_decode_X1_readItem
set_option maxRecDepth 20000 in
theorem ggX1_handOver_X4_clear : GoodIn wsX1_handOver wsX4_clear := goodIn_r _ [7, 8, 34, 35] (by decide +kernel) (by decide +kernel)
set_option maxRecDepth 20000 in
theorem gX1_handOver_X4_clear : GoodIn wsX1_handOver (wsV RX1 56 RX4 yX4_clear wsX4_clear) := goodIn_app (goodIn_of _ (by decide +kernel)) ggX1_handOver_X4_clear
set_option maxRecDepth 20000 in
theorem ggX1_handOver_X4_length : GoodIn wsX1_handOver wsX4_length := goodIn_r _ [12, 8, 34, 35] (by decide +kernel) (by decide +kernel)
set_option maxRecDepth 20000 in
theorem gX1_handOver_X4_length : GoodIn wsX1_handOver (wsV RX1 20 RX4 yX4_length wsX4_length) := goodIn_app (goodIn_of _ (by decide +kernel)) ggX1_handOver_X4_length
set_option maxRecDepth 20000 in
theorem ggX1_handOver_X4_addFrom : GoodIn wsX1_handOver wsX4_addFrom := goodIn_ca (goodIn_ca (goodIn_r _ [16, 17, 18, 19, 6, 20, 21, 22, 23, 24, 25, 8, 26, 27, 28, 29, 34, 35] (by decide +kernel) (by decide +kernel)) (goodIn_sub (fun _ h => List.mem_cons_of_mem _ (List.mem_append_left _ (List.mem_append_right _ h))) (by decide +kernel))) (goodIn_sub (fun _ h => List.mem_cons_of_mem _ (List.mem_append_right _ h)) (by decide +kernel))
set_option maxRecDepth 20000 in
theorem gX1_handOver_X4_addFrom : GoodIn wsX1_handOver (wsV RX1 59 RX4 yX4_addFrom wsX4_addFrom) := goodIn_app (goodIn_of _ (by decide +kernel)) ggX1_handOver_X4_addFrom
set_option maxRecDepth 20000 in
theorem ggX1_wrongInHeader_X4_length : GoodIn wsX1_wrongInHeader wsX4_length := goodIn_r _ [5, 6, 32, 33] (by decide +kernel) (by decide +kernel)
set_option maxRecDepth 20000 in
theorem gX1_wrongInHeader_X4_length : GoodIn wsX1_wrongInHeader (wsV RX1 20 RX4 yX4_length wsX4_length) := goodIn_app (goodIn_of _ (by decide +kernel)) ggX1_wrongInHeader_X4_length
set_option maxRecDepth 20000 in
theorem ggX1_wrongInHeader_X4_at : GoodIn wsX1_wrongInHeader wsX4_at := goodIn_ca (goodIn_ca (goodIn_r _ [10, 11, 12, 13, 4, 14, 15, 16, 17, 18, 19, 6, 32, 33] (by decide +kernel) (by decide +kernel)) (goodIn_sub (fun _ h => List.mem_cons_of_mem _ (List.mem_append_left _ (List.mem_append_right _ h))) (by decide +kernel))) (goodIn_sub (fun _ h => List.mem_cons_of_mem _ (List.mem_append_right _ h)) (by decide +kernel))
set_option maxRecDepth 20000 in
theorem gX1_wrongInHeader_X4_at : GoodIn wsX1_wrongInHeader (wsV RX1 42 RX4 yX4_at wsX4_at) := goodIn_app (goodIn_of _ (by decide +kernel)) ggX1_wrongInHeader_X4_at
set_option maxRecDepth 20000 in
theorem ggX1_wrongInHeader_X0_sum : GoodIn wsX1_wrongInHeader wsX0_sum := goodIn_ca (goodIn_ca (goodIn_r _ [24, 25, 26, 27, 28, 29, 4, 30, 6, 31, 8, 9, 10, 11, 12, 13, 14, 15, 16, 17, 18, 19, 34, 35, 36, 37, 32, 33] (by decide +kernel) (by decide +kernel)) (goodIn_sub (fun _ h => List.mem_cons_of_mem _ (List.mem_append_left _ (List.mem_append_right _ h))) (by decide +kernel))) (goodIn_sub (fun _ h => List.mem_cons_of_mem _ (List.mem_append_right _ h)) (by decide +kernel))
set_option maxRecDepth 20000 in
theorem gX1_wrongInHeader_X0_sum : GoodIn wsX1_wrongInHeader (wsV RX1 63 RX0 yX0_sum wsX0_sum) := goodIn_app (goodIn_of _ (by decide +kernel)) ggX1_wrongInHeader_X0_sum
set_option maxRecDepth 20000 in
theorem ggX1_readItem_X4_length : GoodIn wsX1_readItem wsX4_length := goodIn_r _ [7, 8, 45, 46] (by decide +kernel) (by decide +kernel)
set_option maxRecDepth 20000 in
theorem gX1_readItem_X4_length : GoodIn wsX1_readItem (wsV RX1 20 RX4 yX4_length wsX4_length) := goodIn_app (goodIn_of _ (by decide +kernel)) ggX1_readItem_X4_length
set_option maxRecDepth 20000 in
theorem ggX1_readItem_X4_at : GoodIn wsX1_readItem wsX4_at := goodIn_ca (goodIn_ca (goodIn_r _ [12, 13, 14, 15, 6, 16, 17, 18, 19, 20, 21, 8, 45, 46] (by decide +kernel) (by decide +kernel)) (goodIn_sub (fun _ h => List.mem_cons_of_mem _ (List.mem_append_left _ (List.mem_append_right _ h))) (by decide +kernel))) (goodIn_sub (fun _ h => List.mem_cons_of_mem _ (List.mem_append_right _ h)) (by decide +kernel))
set_option maxRecDepth 20000 in
theorem gX1_readItem_X4_at : GoodIn wsX1_readItem (wsV RX1 42 RX4 yX4_at wsX4_at) := goodIn_app (goodIn_of _ (by decide +kernel)) ggX1_readItem_X4_at
set_option maxRecDepth 20000 in
theorem ggX1_readItem_X1_readPlain : GoodIn wsX1_readItem wsX1_readPlain := goodIn_ca (goodIn_ca (goodIn_r _ [26, 1, 27, 3, 4, 5, 6, 7, 8, 28, 29, 30, 31, 13, 14, 15, 16, 17, 18, 19, 20, 21, 32, 33, 34, 35, 41, 42, 43, 44, 45, 46] (by decide +kernel) (by decide +kernel)) (goodIn_sub (fun _ h => List.mem_cons_of_mem _ (List.mem_append_left _ (List.mem_append_right _ h))) (by decide +kernel))) (goodIn_sub (fun _ h => List.mem_cons_of_mem _ (List.mem_append_right _ h)) (by decide +kernel))
set_option maxRecDepth 20000 in
theorem gX1_readItem_X1_readPlain : GoodIn wsX1_readItem (wsV RX1 66 RX1 yX1_readPlain wsX1_readPlain) := goodIn_app (goodIn_of _ (by decide +kernel)) ggX1_readItem_X1_readPlain
set_option maxRecDepth 20000 in
theorem ggX1_readItem_X1_readMatch : GoodIn wsX1_readItem wsX1_readMatch := goodIn_ca (goodIn_ca (goodIn_r _ [39, 1, 27, 3, 4, 5, 6, 7, 8, 9, 10, 11, 12, 13, 14, 15, 16, 17, 18, 19, 20, 21, 40, 33, 34, 35, 41, 42, 43, 44, 45, 46] (by decide +kernel) (by decide +kernel)) (goodIn_sub (fun _ h => List.mem_cons_of_mem _ (List.mem_append_left _ (List.mem_append_right _ h))) (by decide +kernel))) (goodIn_sub (fun _ h => List.mem_cons_of_mem _ (List.mem_append_right _ h)) (by decide +kernel))
set_option maxRecDepth 20000 in
theorem gX1_readItem_X1_readMatch : GoodIn wsX1_readItem (wsV RX1 70 RX1 yX1_readMatch wsX1_readMatch) := goodIn_app (goodIn_of _ (by decide +kernel)) ggX1_readItem_X1_readMatch
set_option maxRecDepth 20000 in
theorem ggX1_readPlain_X4_length : GoodIn wsX1_readPlain wsX4_length := goodIn_r _ [7, 8, 30, 31] (by decide +kernel) (by decide +kernel)
set_option maxRecDepth 20000 in
theorem gX1_readPlain_X4_length : GoodIn wsX1_readPlain (wsV RX1 20 RX4 yX4_length wsX4_length) := goodIn_app (goodIn_of _ (by decide +kernel)) ggX1_readPlain_X4_length
set_option maxRecDepth 20000 in
theorem ggX1_readPlain_X4_addFrom : GoodIn wsX1_readPlain wsX4_addFrom := goodIn_ca (goodIn_ca (goodIn_r _ [12, 13, 14, 15, 6, 16, 17, 18, 19, 20, 21, 8, 22, 23, 24, 25, 30, 31] (by decide +kernel) (by decide +kernel)) (goodIn_sub (fun _ h => List.mem_cons_of_mem _ (List.mem_append_left _ (List.mem_append_right _ h))) (by decide +kernel))) (goodIn_sub (fun _ h => List.mem_cons_of_mem _ (List.mem_append_right _ h)) (by decide +kernel))
set_option maxRecDepth 20000 in
theorem gX1_readPlain_X4_addFrom : GoodIn wsX1_readPlain (wsV RX1 59 RX4 yX4_addFrom wsX4_addFrom) := goodIn_app (goodIn_of _ (by decide +kernel)) ggX1_readPlain_X4_addFrom
set_option maxRecDepth 20000 in
theorem ggX1_readMatch_X4_length : GoodIn wsX1_readMatch wsX4_length := goodIn_r _ [7, 8, 30, 31] (by decide +kernel) (by decide +kernel)
set_option maxRecDepth 20000 in
theorem gX1_readMatch_X4_length : GoodIn wsX1_readMatch (wsV RX1 20 RX4 yX4_length wsX4_length) := goodIn_app (goodIn_of _ (by decide +kernel)) ggX1_readMatch_X4_length
set_option maxRecDepth 20000 in
theorem ggX1_readMatch_X4_at : GoodIn wsX1_readMatch wsX4_at := goodIn_ca (goodIn_ca (goodIn_r _ [12, 13, 14, 15, 6, 16, 17, 18, 19, 20, 21, 8, 30, 31] (by decide +kernel) (by decide +kernel)) (goodIn_sub (fun _ h => List.mem_cons_of_mem _ (List.mem_append_left _ (List.mem_append_right _ h))) (by decide +kernel))) (goodIn_sub (fun _ h => List.mem_cons_of_mem _ (List.mem_append_right _ h)) (by decide +kernel))
set_option maxRecDepth 20000 in
theorem gX1_readMatch_X4_at : GoodIn wsX1_readMatch (wsV RX1 42 RX4 yX4_at wsX4_at) := goodIn_app (goodIn_of _ (by decide +kernel)) ggX1_readMatch_X4_at
set_option maxRecDepth 20000 in
theorem ggX1_readMatch_X4_add : GoodIn wsX1_readMatch wsX4_add := goodIn_ca (goodIn_ca (goodIn_r _ [25, 8, 17, 30, 31] (by decide +kernel) (by decide +kernel)) (goodIn_sub (fun _ h => List.mem_cons_of_mem _ (List.mem_append_left _ (List.mem_append_right _ h))) (by decide +kernel))) (goodIn_sub (fun _ h => List.mem_cons_of_mem _ (List.mem_append_right _ h)) (by decide +kernel))
set_option maxRecDepth 20000 in
theorem gX1_readMatch_X4_add : GoodIn wsX1_readMatch (wsV RX1 74 RX4 yX4_add wsX4_add) := goodIn_app (goodIn_of _ (by decide +kernel)) ggX1_readMatch_X4_add
set_option maxRecDepth 20000 in
theorem ggX2_init_X4_init : GoodIn wsX2_init wsX4_init := goodIn_r _ [10, 11, 2, 3, 12, 13, 14, 15, 16, 17, 18, 19] (by decide +kernel) (by decide +kernel)
set_option maxRecDepth 20000 in
theorem gX2_init_X4_init : GoodIn wsX2_init (wsX4_init) := ggX2_init_X4_init
set_option maxRecDepth 20000 in
theorem ggX2_begin_X4_clear : GoodIn wsX2_begin wsX4_clear := goodIn_r _ [8, 9, 45, 46] (by decide +kernel) (by decide +kernel)
set_option maxRecDepth 20000 in
theorem gX2_begin_X4_clear : GoodIn wsX2_begin (wsV RX2 27 RX4 yX4_clear wsX4_clear) := goodIn_app (goodIn_of _ (by decide +kernel)) ggX2_begin_X4_clear
set_option maxRecDepth 20000 in
theorem ggX2_begin_X0_id : GoodIn wsX2_begin wsX0_id := goodIn_r _ [14, 15, 47, 48, 49, 50] (by decide +kernel) (by decide +kernel)
set_option maxRecDepth 20000 in
theorem gX2_begin_X0_id : GoodIn wsX2_begin (wsV RX2 30 RX0 yX0_id wsX0_id) := goodIn_app (goodIn_of _ (by decide +kernel)) ggX2_begin_X0_id
set_option maxRecDepth 20000 in
theorem ggX2_begin_X4_add : GoodIn wsX2_begin wsX4_add := goodIn_ca (goodIn_ca (goodIn_r _ [19, 9, 20, 45, 46] (by decide +kernel) (by decide +kernel)) (goodIn_sub (fun _ h => List.mem_cons_of_mem _ (List.mem_append_left _ (List.mem_append_right _ h))) (by decide +kernel))) (goodIn_sub (fun _ h => List.mem_cons_of_mem _ (List.mem_append_right _ h)) (by decide +kernel))
set_option maxRecDepth 20000 in
theorem gX2_begin_X4_add : GoodIn wsX2_begin (wsV RX2 36 RX4 yX4_add wsX4_add) := goodIn_app (goodIn_of _ (by decide +kernel)) ggX2_begin_X4_add
set_option maxRecDepth 20000 in
theorem ggX2_begin_X0_sum : GoodIn wsX2_begin wsX0_sum := goodIn_ca (goodIn_ca (goodIn_r _ [24, 15, 25, 26, 27, 28, 7, 29, 9, 30, 31, 32, 33, 34, 35, 36, 37, 20, 38, 39, 40, 41, 47, 48, 49, 50, 45, 46] (by decide +kernel) (by decide +kernel)) (goodIn_sub (fun _ h => List.mem_cons_of_mem _ (List.mem_append_left _ (List.mem_append_right _ h))) (by decide +kernel))) (goodIn_sub (fun _ h => List.mem_cons_of_mem _ (List.mem_append_right _ h)) (by decide +kernel))
set_option maxRecDepth 20000 in
theorem gX2_begin_X0_sum : GoodIn wsX2_begin (wsV RX2 39 RX0 yX0_sum wsX0_sum) := goodIn_app (goodIn_of _ (by decide +kernel)) ggX2_begin_X0_sum
set_option maxRecDepth 20000 in
theorem ggX2_addMatch_X4_add : GoodIn wsX2_addMatch wsX4_add := goodIn_ca (goodIn_ca (goodIn_r _ [8, 9, 10, 14, 15] (by decide +kernel) (by decide +kernel)) (goodIn_sub (fun _ h => List.mem_cons_of_mem _ (List.mem_append_left _ (List.mem_append_right _ h))) (by decide +kernel))) (goodIn_sub (fun _ h => List.mem_cons_of_mem _ (List.mem_append_right _ h)) (by decide +kernel))
set_option maxRecDepth 20000 in
theorem gX2_addMatch_X4_add : GoodIn wsX2_addMatch (wsV RX2 36 RX4 yX4_add wsX4_add) := goodIn_app (goodIn_of _ (by decide +kernel)) ggX2_addMatch_X4_add
set_option maxRecDepth 20000 in
theorem ggX2_addPlain_X4_add : GoodIn wsX2_addPlain wsX4_add := goodIn_ca (goodIn_ca (goodIn_r _ [7, 8, 9, 13, 14] (by decide +kernel) (by decide +kernel)) (goodIn_sub (fun _ h => List.mem_cons_of_mem _ (List.mem_append_left _ (List.mem_append_right _ h))) (by decide +kernel))) (goodIn_sub (fun _ h => List.mem_cons_of_mem _ (List.mem_append_right _ h)) (by decide +kernel))
set_option maxRecDepth 20000 in
theorem gX2_addPlain_X4_add : GoodIn wsX2_addPlain (wsV RX2 36 RX4 yX4_add wsX4_add) := goodIn_app (goodIn_of _ (by decide +kernel)) ggX2_addPlain_X4_add
set_option maxRecDepth 20000 in
theorem ggX3_measure_X4_copyTo : GoodIn wsX3_measure wsX4_copyTo := goodIn_ca (goodIn_ca (goodIn_r _ [14, 15, 16, 4, 5, 6, 17, 18, 19, 20, 57, 58] (by decide +kernel) (by decide +kernel)) (goodIn_sub (fun _ h => List.mem_cons_of_mem _ (List.mem_append_left _ (List.mem_append_right _ h))) (by decide +kernel))) (goodIn_sub (fun _ h => List.mem_cons_of_mem _ (List.mem_append_right _ h)) (by decide +kernel))
set_option maxRecDepth 20000 in
theorem gX3_measure_X4_copyTo : GoodIn wsX3_measure (wsV RX3 28 RX4 yX4_copyTo wsX4_copyTo) := goodIn_app (goodIn_of _ (by decide +kernel)) ggX3_measure_X4_copyTo
set_option maxRecDepth 20000 in
theorem ggX3_measure_X3_linkSameBytes : GoodIn wsX3_measure wsX3_linkSameBytes := goodIn_ca (goodIn_ca (goodIn_r _ [25, 26, 2, 7, 1, 27, 28, 29, 30, 31, 50, 51, 52, 53, 54, 55, 56] (by decide +kernel) (by decide +kernel)) (goodIn_sub (fun _ h => List.mem_cons_of_mem _ (List.mem_append_right _ h)) (by decide +kernel))) (goodIn_sub (fun _ h => List.mem_cons_of_mem _ (List.mem_append_left _ (List.mem_append_right _ h))) (by decide +kernel))
set_option maxRecDepth 20000 in
theorem gX3_measure_X3_linkSameBytes : GoodIn wsX3_measure (wsV RX3 47 RX3 yX3_linkSameBytes wsX3_linkSameBytes) := goodIn_app (goodIn_of _ (by decide +kernel)) ggX3_measure_X3_linkSameBytes
set_option maxRecDepth 20000 in
theorem ggX3_measure_X3_tryMatches : GoodIn wsX3_measure wsX3_tryMatches := goodIn_ca (goodIn_ca (goodIn_r _ [35, 8, 36, 37, 38, 39, 24, 40, 7, 3, 4, 5, 6, 27, 2, 1, 41, 18, 19, 42, 43, 44, 45, 50, 51, 52, 53, 54, 55, 56] (by decide +kernel) (by decide +kernel)) (goodIn_sub (fun _ h => List.mem_cons_of_mem _ (List.mem_append_left _ (List.mem_append_right _ h))) (by decide +kernel))) (goodIn_sub (fun _ h => List.mem_cons_of_mem _ (List.mem_append_right _ h)) (by decide +kernel))
set_option maxRecDepth 20000 in
theorem gX3_measure_X3_tryMatches : GoodIn wsX3_measure (wsV RX3 53 RX3 yX3_tryMatches wsX3_tryMatches) := goodIn_app (goodIn_of _ (by decide +kernel)) ggX3_measure_X3_tryMatches
set_option maxRecDepth 20000 in
theorem ggX3_measure_X3_tryPlain : GoodIn wsX3_measure wsX3_tryPlain := goodIn_ca (goodIn_ca (goodIn_r _ [49, 7, 3, 4, 5, 6, 8, 36, 50, 51, 52, 53, 54, 55, 56] (by decide +kernel) (by decide +kernel)) (goodIn_sub (fun _ h => List.mem_cons_of_mem _ (List.mem_append_right _ h)) (by decide +kernel))) (goodIn_sub (fun _ h => List.mem_cons_of_mem _ (List.mem_append_left _ (List.mem_append_right _ h))) (by decide +kernel))
end
section
set_option maxRecDepth 20000 in
theorem gX3_measure_X3_tryPlain : GoodIn wsX3_measure (wsV RX3 57 RX3 yX3_tryPlain wsX3_tryPlain) := goodIn_app (goodIn_of _ (by decide +kernel)) ggX3_measure_X3_tryPlain
set_option maxRecDepth 20000 in
theorem ggX3_write_X3_leastDistance : GoodIn wsX3_write wsX3_leastDistance := goodIn_ca (goodIn_ca (goodIn_r _ [13, 14, 4, 15, 16, 17, 12, 18, 38, 39, 40, 41, 42, 43, 44] (by decide +kernel) (by decide +kernel)) (goodIn_sub (fun _ h => List.mem_cons_of_mem _ (List.mem_append_left _ (List.mem_append_right _ h))) (by decide +kernel))) (goodIn_sub (fun _ h => List.mem_cons_of_mem _ (List.mem_append_right _ h)) (by decide +kernel))
set_option maxRecDepth 20000 in
theorem gX3_write_X3_leastDistance : GoodIn wsX3_write (wsV RX3 60 RX3 yX3_leastDistance wsX3_leastDistance) := goodIn_app (goodIn_of _ (by decide +kernel)) ggX3_write_X3_leastDistance
set_option maxRecDepth 20000 in
theorem ggX3_write_X2_addMatch : GoodIn wsX3_write wsX2_addMatch := goodIn_ca (goodIn_ca (goodIn_r _ [23, 24, 25, 26, 27, 28, 29, 30, 31, 32, 33, 45, 46, 47, 48, 49] (by decide +kernel) (by decide +kernel)) (goodIn_sub (fun _ h => List.mem_cons_of_mem _ (List.mem_append_right _ h)) (by decide +kernel))) (goodIn_sub (fun _ h => List.mem_cons_of_mem _ (List.mem_append_left _ (List.mem_append_right _ h))) (by decide +kernel))
set_option maxRecDepth 20000 in
theorem gX3_write_X2_addMatch : GoodIn wsX3_write (wsV RX3 63 RX2 yX2_addMatch wsX2_addMatch) := goodIn_app (goodIn_of _ (by decide +kernel)) ggX3_write_X2_addMatch
set_option maxRecDepth 20000 in
theorem ggX3_write_X2_addPlain : GoodIn wsX3_write wsX2_addPlain := goodIn_ca (goodIn_ca (goodIn_r _ [37, 24, 25, 27, 28, 29, 30, 31, 32, 33, 45, 46, 47, 48, 49] (by decide +kernel) (by decide +kernel)) (goodIn_sub (fun _ h => List.mem_cons_of_mem _ (List.mem_append_right _ h)) (by decide +kernel))) (goodIn_sub (fun _ h => List.mem_cons_of_mem _ (List.mem_append_left _ (List.mem_append_right _ h))) (by decide +kernel))
set_option maxRecDepth 20000 in
theorem gX3_write_X2_addPlain : GoodIn wsX3_write (wsV RX3 69 RX2 yX2_addPlain wsX2_addPlain) := goodIn_app (goodIn_of _ (by decide +kernel)) ggX3_write_X2_addPlain
set_option maxRecDepth 20000 in
theorem ggX3_linkSameBytes_J7_fill_53178 : GoodIn wsX3_linkSameBytes wsJ7_fill_53178 := goodIn_r _ [9] (by decide +kernel) (by decide +kernel)
set_option maxRecDepth 20000 in
theorem gX3_linkSameBytes_J7_fill_53178 : GoodIn wsX3_linkSameBytes (va_wsS RX3 77 yJ7_fill_53178 wsJ7_fill_53178) := goodIn_app (goodIn_of _ (by decide +kernel)) ggX3_linkSameBytes_J7_fill_53178
set_option maxRecDepth 20000 in
theorem ggX3_tryMatches_X3_longestMatch : GoodIn wsX3_tryMatches wsX3_longestMatch := goodIn_ca (goodIn_ca (goodIn_r _ [7, 8, 9, 10, 11, 12, 13, 14, 15, 16, 17, 18, 19, 20, 21, 6, 22, 23, 24, 25, 26, 27, 28, 29] (by decide +kernel) (by decide +kernel)) (goodIn_sub (fun _ h => List.mem_cons_of_mem _ (List.mem_append_right _ h)) (by decide +kernel))) (goodIn_sub (fun _ h => List.mem_cons_of_mem _ (List.mem_append_left _ (List.mem_append_right _ h))) (by decide +kernel))
set_option maxRecDepth 20000 in
theorem gX3_tryMatches_X3_longestMatch : GoodIn wsX3_tryMatches (wsV RX3 83 RX3 yX3_longestMatch wsX3_longestMatch) := goodIn_app (goodIn_of _ (by decide +kernel)) ggX3_tryMatches_X3_longestMatch
set_option maxRecDepth 20000 in
theorem ggX3_longestMatch_X3_sameBytes : GoodIn wsX3_longestMatch wsX3_sameBytes := goodIn_ca (goodIn_ca (goodIn_r _ [16, 8, 17, 18, 19, 20, 21, 22, 23] (by decide +kernel) (by decide +kernel)) (goodIn_sub (fun _ h => List.mem_cons_of_mem _ (List.mem_append_left _ (List.mem_append_right _ h))) (by decide +kernel))) (goodIn_sub (fun _ h => List.mem_cons_of_mem _ (List.mem_append_right _ h)) (by decide +kernel))
set_option maxRecDepth 20000 in
theorem gX3_longestMatch_X3_sameBytes : GoodIn wsX3_longestMatch (wsV RX3 86 RX3 yX3_sameBytes wsX3_sameBytes) := goodIn_app (goodIn_of _ (by decide +kernel)) ggX3_longestMatch_X3_sameBytes
set_option maxRecDepth 20000 in
theorem ggX3_leastDistance_X3_sameBytes : GoodIn wsX3_leastDistance wsX3_sameBytes := goodIn_ca (goodIn_ca (goodIn_r _ [7, 2, 8, 9, 10, 11, 12, 13, 14] (by decide +kernel) (by decide +kernel)) (goodIn_sub (fun _ h => List.mem_cons_of_mem _ (List.mem_append_left _ (List.mem_append_right _ h))) (by decide +kernel))) (goodIn_sub (fun _ h => List.mem_cons_of_mem _ (List.mem_append_right _ h)) (by decide +kernel))
set_option maxRecDepth 20000 in
theorem gX3_leastDistance_X3_sameBytes : GoodIn wsX3_leastDistance (wsV RX3 86 RX3 yX3_sameBytes wsX3_sameBytes) := goodIn_app (goodIn_of _ (by decide +kernel)) ggX3_leastDistance_X3_sameBytes
set_option maxRecDepth 20000 in
theorem ggX4_signedAt_X4_has : GoodIn wsX4_signedAt wsX4_has := goodIn_r _ [6, 7, 8, 9] (by decide +kernel) (by decide +kernel)
set_option maxRecDepth 20000 in
theorem gX4_signedAt_X4_has : GoodIn wsX4_signedAt (wsV RX4 23 RX4 yX4_has wsX4_has) := goodIn_app (goodIn_of _ (by decide +kernel)) ggX4_signedAt_X4_has
set_option maxRecDepth 20000 in
theorem ggX4_at_X4_signedAt : GoodIn wsX4_at wsX4_signedAt := goodIn_ca (goodIn_ca (goodIn_r _ [5, 6, 7, 8, 9, 4, 10, 11, 12, 13] (by decide +kernel) (by decide +kernel)) (goodIn_sub (fun _ h => List.mem_cons_of_mem _ (List.mem_append_left _ (List.mem_append_right _ h))) (by decide +kernel))) (goodIn_sub (fun _ h => List.mem_cons_of_mem _ (List.mem_append_right _ h)) (by decide +kernel))
set_option maxRecDepth 20000 in
theorem gX4_at_X4_signedAt : GoodIn wsX4_at (wsV RX4 27 RX4 yX4_signedAt wsX4_signedAt) := goodIn_app (goodIn_of _ (by decide +kernel)) ggX4_at_X4_signedAt
set_option maxRecDepth 20000 in
theorem ggX4_addFrom_X4_signedAt : GoodIn wsX4_addFrom wsX4_signedAt := goodIn_ca (goodIn_ca (goodIn_r _ [5, 6, 7, 8, 9, 4, 10, 11, 16, 17] (by decide +kernel) (by decide +kernel)) (goodIn_sub (fun _ h => List.mem_cons_of_mem _ (List.mem_append_left _ (List.mem_append_right _ h))) (by decide +kernel))) (goodIn_sub (fun _ h => List.mem_cons_of_mem _ (List.mem_append_right _ h)) (by decide +kernel))
set_option maxRecDepth 20000 in
theorem gX4_addFrom_X4_signedAt : GoodIn wsX4_addFrom (wsV RX4 27 RX4 yX4_signedAt wsX4_signedAt) := goodIn_app (goodIn_of _ (by decide +kernel)) ggX4_addFrom_X4_signedAt
set_option maxRecDepth 20000 in
theorem ggX4_addFrom_X4_add : GoodIn wsX4_addFrom wsX4_add := goodIn_ca (goodIn_ca (goodIn_r _ [15, 11, 6, 16, 17] (by decide +kernel) (by decide +kernel)) (goodIn_sub (fun _ h => List.mem_cons_of_mem _ (List.mem_append_left _ (List.mem_append_right _ h))) (by decide +kernel))) (goodIn_sub (fun _ h => List.mem_cons_of_mem _ (List.mem_append_right _ h)) (by decide +kernel))
set_option maxRecDepth 20000 in
theorem gX4_addFrom_X4_add : GoodIn wsX4_addFrom (wsV RX4 31 RX4 yX4_add wsX4_add) := goodIn_app (goodIn_of _ (by decide +kernel)) ggX4_addFrom_X4_add
set_option maxRecDepth 20000 in
theorem ggX4_become_X4_clear : GoodIn wsX4_become wsX4_clear := goodIn_r _ [6, 1, 24, 25] (by decide +kernel) (by decide +kernel)
set_option maxRecDepth 20000 in
theorem gX4_become_X4_clear : GoodIn wsX4_become (wsV RX4 35 RX4 yX4_clear wsX4_clear) := goodIn_app (goodIn_of _ (by decide +kernel)) ggX4_become_X4_clear
set_option maxRecDepth 20000 in
theorem ggX4_become_X4_addFrom : GoodIn wsX4_become wsX4_addFrom := goodIn_ca (goodIn_ca (goodIn_r _ [10, 11, 12, 13, 5, 14, 15, 16, 17, 18, 19, 1, 20, 21, 22, 23, 24, 25] (by decide +kernel) (by decide +kernel)) (goodIn_sub (fun _ h => List.mem_cons_of_mem _ (List.mem_append_left _ (List.mem_append_right _ h))) (by decide +kernel))) (goodIn_sub (fun _ h => List.mem_cons_of_mem _ (List.mem_append_right _ h)) (by decide +kernel))
set_option maxRecDepth 20000 in
theorem gX4_become_X4_addFrom : GoodIn wsX4_become (wsV RX4 38 RX4 yX4_addFrom wsX4_addFrom) := goodIn_app (goodIn_of _ (by decide +kernel)) ggX4_become_X4_addFrom
set_option maxRecDepth 20000 in
theorem ggX4_cutOut_X4_add : GoodIn wsX4_cutOut wsX4_add := goodIn_ca (goodIn_ca (goodIn_r _ [7, 1, 2, 8, 9] (by decide +kernel) (by decide +kernel)) (goodIn_sub (fun _ h => List.mem_cons_of_mem _ (List.mem_append_right _ h)) (by decide +kernel))) (goodIn_sub (fun _ h => List.mem_cons_of_mem _ (List.mem_append_left _ (List.mem_append_right _ h))) (by decide +kernel))
set_option maxRecDepth 20000 in
theorem gX4_cutOut_X4_add : GoodIn wsX4_cutOut (wsV RX4 31 RX4 yX4_add wsX4_add) := goodIn_app (goodIn_of _ (by decide +kernel)) ggX4_cutOut_X4_add
set_option maxRecDepth 20000 in
theorem ggX4_sum_X4_at : GoodIn wsX4_sum wsX4_at := goodIn_ca (goodIn_ca (goodIn_r _ [6, 7, 8, 9, 5, 10, 11, 12, 13, 14, 15, 1, 16, 17] (by decide +kernel) (by decide +kernel)) (goodIn_sub (fun _ h => List.mem_cons_of_mem _ (List.mem_append_left _ (List.mem_append_right _ h))) (by decide +kernel))) (goodIn_sub (fun _ h => List.mem_cons_of_mem _ (List.mem_append_right _ h)) (by decide +kernel))
set_option maxRecDepth 20000 in
theorem gX4_sum_X4_at : GoodIn wsX4_sum (wsV RX4 45 RX4 yX4_at wsX4_at) := goodIn_app (goodIn_of _ (by decide +kernel)) ggX4_sum_X4_at
set_option maxRecDepth 20000 in
theorem ggX5_init_X4_init : GoodIn wsX5_init wsX4_init := goodIn_r _ [17, 18, 2, 3, 19, 20, 21, 22, 23, 24, 25, 26] (by decide +kernel) (by decide +kernel)
set_option maxRecDepth 20000 in
theorem gX5_init_X4_init : GoodIn wsX5_init (wsX4_init) := ggX5_init_X4_init
set_option maxRecDepth 20000 in
theorem ggX5_load_X4_clear : GoodIn wsX5_load wsX4_clear := goodIn_r _ [9, 10, 63, 64] (by decide +kernel) (by decide +kernel)
set_option maxRecDepth 20000 in
theorem gX5_load_X4_clear : GoodIn wsX5_load (wsV RX5 44 RX4 yX4_clear wsX4_clear) := goodIn_app (goodIn_of _ (by decide +kernel)) ggX5_load_X4_clear
set_option maxRecDepth 20000 in
theorem ggX5_load_X5_coverFrom : GoodIn wsX5_load wsX5_coverFrom := goodIn_ca (goodIn_ca (goodIn_r _ [15, 16, 55, 56, 57, 58, 59, 60, 61, 62] (by decide +kernel) (by decide +kernel)) (goodIn_sub (fun _ h => List.mem_cons_of_mem _ (List.mem_append_right _ h)) (by decide +kernel))) (goodIn_sub (fun _ h => List.mem_cons_of_mem _ (List.mem_append_left _ (List.mem_append_right _ h))) (by decide +kernel))
set_option maxRecDepth 20000 in
theorem gX5_load_X5_coverFrom : GoodIn wsX5_load (wsV RX5 47 RX5 yX5_coverFrom wsX5_coverFrom) := goodIn_app (goodIn_of _ (by decide +kernel)) ggX5_load_X5_coverFrom
set_option maxRecDepth 20000 in
theorem ggX5_load_J7_fill_53178 : GoodIn wsX5_load wsJ7_fill_53178 := goodIn_r _ [20] (by decide +kernel) (by decide +kernel)
set_option maxRecDepth 20000 in
theorem gX5_load_J7_fill_53178 : GoodIn wsX5_load (va_wsS RX5 51 yJ7_fill_53178 wsJ7_fill_53178) := goodIn_app (goodIn_of _ (by decide +kernel)) ggX5_load_J7_fill_53178
set_option maxRecDepth 20000 in
theorem ggX5_load_X4_addFrom : GoodIn wsX5_load wsX4_addFrom := goodIn_ca (goodIn_ca (goodIn_r _ [24, 25, 26, 27, 8, 28, 29, 30, 31, 32, 33, 10, 34, 35, 36, 37, 63, 64] (by decide +kernel) (by decide +kernel)) (goodIn_sub (fun _ h => List.mem_cons_of_mem _ (List.mem_append_left _ (List.mem_append_right _ h))) (by decide +kernel))) (goodIn_sub (fun _ h => List.mem_cons_of_mem _ (List.mem_append_right _ h)) (by decide +kernel))
set_option maxRecDepth 20000 in
theorem gX5_load_X4_addFrom : GoodIn wsX5_load (wsV RX5 57 RX4 yX4_addFrom wsX4_addFrom) := goodIn_app (goodIn_of _ (by decide +kernel)) ggX5_load_X4_addFrom
set_option maxRecDepth 20000 in
theorem ggX5_load_X4_length : GoodIn wsX5_load wsX4_length := goodIn_r _ [41, 10, 63, 64] (by decide +kernel) (by decide +kernel)
set_option maxRecDepth 20000 in
theorem gX5_load_X4_length : GoodIn wsX5_load (wsV RX5 61 RX4 yX4_length wsX4_length) := goodIn_app (goodIn_of _ (by decide +kernel)) ggX5_load_X4_length
set_option maxRecDepth 20000 in
theorem ggX5_load_X5_markKinds : GoodIn wsX5_load wsX5_markKinds := goodIn_ca (goodIn_ca (goodIn_r _ [45, 4, 46, 47, 48, 14, 49, 50, 51, 52, 53, 1, 3, 54, 26, 27, 8, 28, 29, 30, 31, 32, 33, 10, 55, 56, 57, 58, 59, 60, 61, 62, 63, 64] (by decide +kernel) (by decide +kernel)) (goodIn_sub (fun _ h => List.mem_cons_of_mem _ (List.mem_append_left _ (List.mem_append_right _ h))) (by decide +kernel))) (goodIn_sub (fun _ h => List.mem_cons_of_mem _ (List.mem_append_right _ h)) (by decide +kernel))
set_option maxRecDepth 20000 in
theorem gX5_load_X5_markKinds : GoodIn wsX5_load (wsV RX5 65 RX5 yX5_markKinds wsX5_markKinds) := goodIn_app (goodIn_of _ (by decide +kernel)) ggX5_load_X5_markKinds
set_option maxRecDepth 20000 in
theorem ggX5_takeRows_X5_countRows : GoodIn wsX5_takeRows wsX5_countRows := goodIn_ca (goodIn_ca (goodIn_r _ [10, 3, 11, 4, 2, 12, 13, 14, 15, 16, 17, 18, 9, 19, 20, 33, 34, 35, 36, 37, 38, 39, 40] (by decide +kernel) (by decide +kernel)) (goodIn_sub (fun _ h => List.mem_cons_of_mem _ (List.mem_append_left _ (List.mem_append_right _ h))) (by decide +kernel))) (goodIn_sub (fun _ h => List.mem_cons_of_mem _ (List.mem_append_right _ h)) (by decide +kernel))
set_option maxRecDepth 20000 in
theorem gX5_takeRows_X5_countRows : GoodIn wsX5_takeRows (wsV RX5 69 RX5 yX5_countRows wsX5_countRows) := goodIn_app (goodIn_of _ (by decide +kernel)) ggX5_takeRows_X5_countRows
set_option maxRecDepth 20000 in
theorem ggX5_takeRows_X5_placeOfMost : GoodIn wsX5_takeRows wsX5_placeOfMost := goodIn_ca (goodIn_ca (goodIn_r _ [24, 4, 3, 16, 17, 18, 9, 19, 2, 20, 33, 34, 35, 36, 37, 38, 39, 40] (by decide +kernel) (by decide +kernel)) (goodIn_sub (fun _ h => List.mem_cons_of_mem _ (List.mem_append_right _ h)) (by decide +kernel))) (goodIn_sub (fun _ h => List.mem_cons_of_mem _ (List.mem_append_left _ (List.mem_append_right _ h))) (by decide +kernel))
set_option maxRecDepth 20000 in
theorem gX5_takeRows_X5_placeOfMost : GoodIn wsX5_takeRows (wsV RX5 72 RX5 yX5_placeOfMost wsX5_placeOfMost) := goodIn_app (goodIn_of _ (by decide +kernel)) ggX5_takeRows_X5_placeOfMost
set_option maxRecDepth 20000 in
theorem ggX5_takeRows_X5_cover : GoodIn wsX5_takeRows wsX5_cover := goodIn_ca (goodIn_ca (goodIn_r _ [28, 4, 2, 16, 17, 18, 9, 19, 20, 29, 30, 31, 32, 33, 34, 35, 36, 37, 38, 39, 40] (by decide +kernel) (by decide +kernel)) (goodIn_sub (fun _ h => List.mem_cons_of_mem _ (List.mem_append_right _ h)) (by decide +kernel))) (goodIn_sub (fun _ h => List.mem_cons_of_mem _ (List.mem_append_left _ (List.mem_append_right _ h))) (by decide +kernel))
set_option maxRecDepth 20000 in
theorem gX5_takeRows_X5_cover : GoodIn wsX5_takeRows (wsV RX5 75 RX5 yX5_cover wsX5_cover) := goodIn_app (goodIn_of _ (by decide +kernel)) ggX5_takeRows_X5_cover
set_option maxRecDepth 20000 in
theorem ggX5_handOver_X0_addPiece : GoodIn wsX5_handOver wsX0_addPiece := goodIn_ca (goodIn_ca (goodIn_r _ [8, 9, 10, 11, 12, 13, 14, 15, 16, 17, 18, 19, 20, 21, 22, 23, 24, 25, 26, 27, 28, 29, 30, 31, 32, 33, 34, 43, 44, 45, 46, 47, 48] (by decide +kernel) (by decide +kernel)) (goodIn_sub (fun _ h => List.mem_cons_of_mem _ (List.mem_append_right _ h)) (by decide +kernel))) (goodIn_sub (fun _ h => List.mem_cons_of_mem _ (List.mem_append_left _ (List.mem_append_right _ h))) (by decide +kernel))
set_option maxRecDepth 20000 in
theorem gX5_handOver_X0_addPiece : GoodIn wsX5_handOver (wsV RX5 78 RX0 yX0_addPiece wsX0_addPiece) := goodIn_app (goodIn_of _ (by decide +kernel)) ggX5_handOver_X0_addPiece
set_option maxRecDepth 20000 in
theorem ggX5_markKinds_X5_firstSameRow : GoodIn wsX5_markKinds wsX5_firstSameRow := goodIn_ca (goodIn_ca (goodIn_r _ [6, 1, 7, 8, 9, 5, 10, 11, 12, 13, 14, 15, 16, 17, 18, 19, 20, 21, 22, 23, 24, 25, 26, 27, 28, 29, 30, 31, 32, 33] (by decide +kernel) (by decide +kernel)) (goodIn_sub (fun _ h => List.mem_cons_of_mem _ (List.mem_append_right _ h)) (by decide +kernel))) (goodIn_sub (fun _ h => List.mem_cons_of_mem _ (List.mem_append_left _ (List.mem_append_right _ h))) (by decide +kernel))
set_option maxRecDepth 20000 in
theorem gX5_markKinds_X5_firstSameRow : GoodIn wsX5_markKinds (wsV RX5 84 RX5 yX5_firstSameRow wsX5_firstSameRow) := goodIn_app (goodIn_of _ (by decide +kernel)) ggX5_markKinds_X5_firstSameRow
set_option maxRecDepth 20000 in
theorem ggX5_firstSameRow_X5_isSameRow : GoodIn wsX5_firstSameRow wsX5_isSameRow := goodIn_ca (goodIn_ca (goodIn_r _ [6, 7, 8, 9, 10, 11, 12, 13, 14, 15, 16, 17, 18, 19, 20, 21, 22, 23, 24, 25, 26, 27, 28, 29] (by decide +kernel) (by decide +kernel)) (goodIn_sub (fun _ h => List.mem_cons_of_mem _ (List.mem_append_right _ h)) (by decide +kernel))) (goodIn_sub (fun _ h => List.mem_cons_of_mem _ (List.mem_append_left _ (List.mem_append_right _ h))) (by decide +kernel))
set_option maxRecDepth 20000 in
theorem gX5_firstSameRow_X5_isSameRow : GoodIn wsX5_firstSameRow (wsV RX5 88 RX5 yX5_isSameRow wsX5_isSameRow) := goodIn_app (goodIn_of _ (by decide +kernel)) ggX5_firstSameRow_X5_isSameRow
set_option maxRecDepth 20000 in
theorem ggX5_isSameRow_X4_signedAt : GoodIn wsX5_isSameRow wsX4_signedAt := goodIn_ca (goodIn_ca (goodIn_r _ [7, 8, 9, 10, 11, 6, 12, 13, 22, 23] (by decide +kernel) (by decide +kernel)) (goodIn_sub (fun _ h => List.mem_cons_of_mem _ (List.mem_append_left _ (List.mem_append_right _ h))) (by decide +kernel))) (goodIn_sub (fun _ h => List.mem_cons_of_mem _ (List.mem_append_right _ h)) (by decide +kernel))
set_option maxRecDepth 20000 in
theorem gX5_isSameRow_X4_signedAt : GoodIn wsX5_isSameRow (wsV RX5 92 RX4 yX4_signedAt wsX4_signedAt) := goodIn_app (goodIn_of _ (by decide +kernel)) ggX5_isSameRow_X4_signedAt
set_option maxRecDepth 20000 in
theorem ggX5_countRows_J7_fill_53178 : GoodIn wsX5_countRows wsJ7_fill_53178 := goodIn_r _ [8] (by decide +kernel) (by decide +kernel)
set_option maxRecDepth 20000 in
theorem gX5_countRows_J7_fill_53178 : GoodIn wsX5_countRows (va_wsS RX5 51 yJ7_fill_53178 wsJ7_fill_53178) := goodIn_app (goodIn_of _ (by decide +kernel)) ggX5_countRows_J7_fill_53178
set_option maxRecDepth 20000 in
theorem ggX5_countRows_X5_isFreeRow : GoodIn wsX5_countRows wsX5_isFreeRow := goodIn_ca (goodIn_ca (goodIn_r _ [13, 3, 4, 14, 15, 16, 17, 18, 19, 20, 21, 22] (by decide +kernel) (by decide +kernel)) (goodIn_sub (fun _ h => List.mem_cons_of_mem _ (List.mem_append_right _ h)) (by decide +kernel))) (goodIn_sub (fun _ h => List.mem_cons_of_mem _ (List.mem_append_left _ (List.mem_append_right _ h))) (by decide +kernel))
set_option maxRecDepth 20000 in
theorem gX5_countRows_X5_isFreeRow : GoodIn wsX5_countRows (wsV RX5 96 RX5 yX5_isFreeRow wsX5_isFreeRow) := goodIn_app (goodIn_of _ (by decide +kernel)) ggX5_countRows_X5_isFreeRow
set_option maxRecDepth 20000 in
theorem ggX5_placeOfMost_X5_isFreeRow : GoodIn wsX5_placeOfMost wsX5_isFreeRow := goodIn_ca (goodIn_ca (goodIn_r _ [7, 1, 8, 9, 10, 11, 12, 13, 14, 15, 16, 17] (by decide +kernel) (by decide +kernel)) (goodIn_sub (fun _ h => List.mem_cons_of_mem _ (List.mem_append_left _ (List.mem_append_right _ h))) (by decide +kernel))) (goodIn_sub (fun _ h => List.mem_cons_of_mem _ (List.mem_append_right _ h)) (by decide +kernel))
set_option maxRecDepth 20000 in
theorem gX5_placeOfMost_X5_isFreeRow : GoodIn wsX5_placeOfMost (wsV RX5 96 RX5 yX5_isFreeRow wsX5_isFreeRow) := goodIn_app (goodIn_of _ (by decide +kernel)) ggX5_placeOfMost_X5_isFreeRow
set_option maxRecDepth 20000 in
theorem ggX5_cover_X5_isFreeRow : GoodIn wsX5_cover wsX5_isFreeRow := goodIn_ca (goodIn_ca (goodIn_r _ [7, 1, 2, 8, 13, 14, 15, 16, 17, 18, 19, 20] (by decide +kernel) (by decide +kernel)) (goodIn_sub (fun _ h => List.mem_cons_of_mem _ (List.mem_append_left _ (List.mem_append_right _ h))) (by decide +kernel))) (goodIn_sub (fun _ h => List.mem_cons_of_mem _ (List.mem_append_right _ h)) (by decide +kernel))
set_option maxRecDepth 20000 in
theorem gX5_cover_X5_isFreeRow : GoodIn wsX5_cover (wsV RX5 96 RX5 yX5_isFreeRow wsX5_isFreeRow) := goodIn_app (goodIn_of _ (by decide +kernel)) ggX5_cover_X5_isFreeRow
set_option maxRecDepth 20000 in
theorem ggX5_cover_X5_coverFrom : GoodIn wsX5_cover wsX5_coverFrom := goodIn_ca (goodIn_ca (goodIn_r _ [12, 8, 13, 14, 15, 16, 17, 18, 19, 20] (by decide +kernel) (by decide +kernel)) (goodIn_sub (fun _ h => List.mem_cons_of_mem _ (List.mem_append_left _ (List.mem_append_right _ h))) (by decide +kernel))) (goodIn_sub (fun _ h => List.mem_cons_of_mem _ (List.mem_append_right _ h)) (by decide +kernel))
set_option maxRecDepth 20000 in
theorem gX5_cover_X5_coverFrom : GoodIn wsX5_cover (wsV RX5 47 RX5 yX5_coverFrom wsX5_coverFrom) := goodIn_app (goodIn_of _ (by decide +kernel)) ggX5_cover_X5_coverFrom
set_option maxRecDepth 20000 in
theorem ggX6_init_X4_init : GoodIn wsX6_init wsX4_init := goodIn_r _ [34, 35, 2, 3, 36, 37, 38, 39, 40, 41, 86, 87] (by decide +kernel) (by decide +kernel)
set_option maxRecDepth 20000 in
theorem gX6_init_X4_init : GoodIn wsX6_init (wsX4_init) := ggX6_init_X4_init
set_option maxRecDepth 20000 in
theorem ggX6_init_X0_init : GoodIn wsX6_init wsX0_init := goodIn_r _ [44, 45, 2, 3, 46, 5, 6, 47, 48, 33, 34, 35, 36, 37, 38, 39, 40, 41, 86, 87, 99, 100, 101, 102] (by decide +kernel) (by decide +kernel)
set_option maxRecDepth 20000 in
theorem gX6_init_X0_init : GoodIn wsX6_init (wsX0_init) := ggX6_init_X0_init
set_option maxRecDepth 20000 in
theorem ggX6_init_X2_init : GoodIn wsX6_init wsX2_init := goodIn_r _ [51, 52, 2, 3, 53, 5, 6, 54, 55, 33, 34, 35, 36, 37, 38, 39, 40, 41, 86, 87, 103, 104, 105] (by decide +kernel) (by decide +kernel)
set_option maxRecDepth 20000 in
theorem gX6_init_X2_init : GoodIn wsX6_init (wsX2_init) := ggX6_init_X2_init
set_option maxRecDepth 20000 in
theorem ggX6_init_X3_init : GoodIn wsX6_init wsX3_init := goodIn_r _ [58, 59, 2, 3, 40, 60, 61, 62, 63, 64, 65, 106, 107, 108, 109, 110, 111, 112] (by decide +kernel) (by decide +kernel)
set_option maxRecDepth 20000 in
theorem gX6_init_X3_init : GoodIn wsX6_init (wsX3_init) := ggX6_init_X3_init
set_option maxRecDepth 20000 in
theorem ggX6_init_X5_init : GoodIn wsX6_init wsX5_init := goodIn_r _ [68, 69, 2, 3, 70, 5, 6, 71, 72, 73, 61, 74, 75, 76, 77, 78, 33, 34, 35, 36, 37, 38, 39, 40, 41, 86, 87, 113, 114, 115, 116, 117, 118, 119, 120] (by decide +kernel) (by decide +kernel)
set_option maxRecDepth 20000 in
theorem gX6_init_X5_init : GoodIn wsX6_init (wsX5_init) := ggX6_init_X5_init
set_option maxRecDepth 20000 in
theorem ggX6_init_X1_init : GoodIn wsX6_init wsX1_init := goodIn_r _ [81, 82, 2, 3, 83, 5, 6, 84, 85, 33, 34, 35, 36, 37, 38, 39, 40, 41, 86, 87, 121, 122, 123, 124] (by decide +kernel) (by decide +kernel)
set_option maxRecDepth 20000 in
theorem gX6_init_X1_init : GoodIn wsX6_init (wsX1_init) := ggX6_init_X1_init
set_option maxRecDepth 20000 in
theorem ggX6_feed_X4_hasRoom : GoodIn wsX6_feed wsX4_hasRoom := goodIn_ca (goodIn_r _ [6, 7, 8, 28, 29] (by decide +kernel) (by decide +kernel)) (goodIn_sub (fun _ h => List.mem_cons_of_mem _ (List.mem_append_left _ (List.mem_append_right _ h))) (by decide +kernel))
set_option maxRecDepth 20000 in
theorem gX6_feed_X4_hasRoom : GoodIn wsX6_feed (wsV RX6 67 RX4 yX4_hasRoom wsX4_hasRoom) := goodIn_app (goodIn_of _ (by decide +kernel)) ggX6_feed_X4_hasRoom
set_option maxRecDepth 20000 in
theorem ggX6_feed_X4_add : GoodIn wsX6_feed wsX4_add := goodIn_ca (goodIn_ca (goodIn_r _ [12, 8, 7, 28, 29] (by decide +kernel) (by decide +kernel)) (goodIn_sub (fun _ h => List.mem_cons_of_mem _ (List.mem_append_left _ (List.mem_append_right _ h))) (by decide +kernel))) (goodIn_sub (fun _ h => List.mem_cons_of_mem _ (List.mem_append_right _ h)) (by decide +kernel))
set_option maxRecDepth 20000 in
theorem gX6_feed_X4_add : GoodIn wsX6_feed (wsV RX6 71 RX4 yX4_add wsX4_add) := goodIn_app (goodIn_of _ (by decide +kernel)) ggX6_feed_X4_add
set_option maxRecDepth 20000 in
theorem ggX6_feed_X4_length : GoodIn wsX6_feed wsX4_length := goodIn_r _ [16, 8, 28, 29] (by decide +kernel) (by decide +kernel)
set_option maxRecDepth 20000 in
theorem gX6_feed_X4_length : GoodIn wsX6_feed (wsV RX6 74 RX4 yX4_length wsX4_length) := goodIn_app (goodIn_of _ (by decide +kernel)) ggX6_feed_X4_length
set_option maxRecDepth 20000 in
theorem ggX6_sample_X4_length : GoodIn wsX6_sample wsX4_length := goodIn_r _ [8, 9, 47, 48] (by decide +kernel) (by decide +kernel)
set_option maxRecDepth 20000 in
theorem gX6_sample_X4_length : GoodIn wsX6_sample (wsV RX6 74 RX4 yX4_length wsX4_length) := goodIn_app (goodIn_of _ (by decide +kernel)) ggX6_sample_X4_length
set_option maxRecDepth 20000 in
theorem ggX6_sample_X4_become : GoodIn wsX6_sample wsX4_become := goodIn_ca (goodIn_ca (goodIn_r _ [13, 9, 14, 15, 16, 7, 17, 18, 19, 20, 21, 22, 23, 24, 25, 26, 27, 28, 29, 30, 31, 32, 33, 34, 47, 48] (by decide +kernel) (by decide +kernel)) (goodIn_sub (fun _ h => List.mem_cons_of_mem _ (List.mem_append_left _ (List.mem_append_right _ h))) (by decide +kernel))) (goodIn_sub (fun _ h => List.mem_cons_of_mem _ (List.mem_append_right _ h)) (by decide +kernel))
set_option maxRecDepth 20000 in
theorem gX6_sample_X4_become : GoodIn wsX6_sample (wsV RX6 82 RX4 yX4_become wsX4_become) := goodIn_app (goodIn_of _ (by decide +kernel)) ggX6_sample_X4_become
set_option maxRecDepth 20000 in
theorem ggX6_sample_X4_clear : GoodIn wsX6_sample wsX4_clear := goodIn_r _ [17, 9, 47, 48] (by decide +kernel) (by decide +kernel)
set_option maxRecDepth 20000 in
theorem gX6_sample_X4_clear : GoodIn wsX6_sample (wsV RX6 86 RX4 yX4_clear wsX4_clear) := goodIn_app (goodIn_of _ (by decide +kernel)) ggX6_sample_X4_clear
set_option maxRecDepth 20000 in
theorem ggX6_train_X6_isNumber : GoodIn wsX6_train wsX6_isNumber := goodIn_r _ [8] (by decide +kernel) (by decide +kernel)
set_option maxRecDepth 20000 in
theorem gX6_train_X6_isNumber : GoodIn wsX6_train (va_wsS RX6 89 yX6_isNumber wsX6_isNumber) := goodIn_app (goodIn_of _ (by decide +kernel)) ggX6_train_X6_isNumber
set_option maxRecDepth 20000 in
theorem ggX6_train_X6_isId : GoodIn wsX6_train wsX6_isId := goodIn_r _ [11] (by decide +kernel) (by decide +kernel)
set_option maxRecDepth 20000 in
theorem gX6_train_X6_isId : GoodIn wsX6_train (va_wsS RX6 92 yX6_isId wsX6_isId) := goodIn_app (goodIn_of _ (by decide +kernel)) ggX6_train_X6_isId
set_option maxRecDepth 20000 in
theorem ggX6_train_X5_load : GoodIn wsX6_train wsX5_load := goodIn_ca (goodIn_ca (goodIn_r _ [16, 17, 18, 19, 20, 21, 22, 23, 24, 25, 26, 27, 28, 29, 15, 30, 31, 32, 33, 34, 35, 36, 37, 38, 39, 40, 41, 42, 43, 44, 45, 46, 47, 48, 49, 50, 51, 52, 53, 54, 55, 56, 57, 58, 59, 60, 61, 62, 63, 64, 65, 66, 67, 68, 69, 131, 132, 133, 134, 135, 136, 137, 138, 139, 140] (by decide +kernel) (by decide +kernel)) (goodIn_sub (fun _ h => List.mem_cons_of_mem _ (List.mem_append_left _ (List.mem_append_right _ h))) (by decide +kernel))) (goodIn_sub (fun _ h => List.mem_cons_of_mem _ (List.mem_append_right _ h)) (by decide +kernel))
end
section
set_option maxRecDepth 20000 in
theorem gX6_train_X5_load : GoodIn wsX6_train (wsV RX6 95 RX5 yX5_load wsX5_load) := goodIn_app (goodIn_of _ (by decide +kernel)) ggX6_train_X5_load
set_option maxRecDepth 20000 in
theorem ggX6_train_X5_takeRows : GoodIn wsX6_train wsX5_takeRows := goodIn_ca (goodIn_ca (goodIn_r _ [73, 18, 17, 74, 20, 75, 76, 77, 78, 15, 79, 80, 32, 33, 34, 35, 81, 82, 83, 84, 31, 85, 86, 87, 88, 89, 90, 91, 92, 27, 28, 29, 30, 131, 132, 133, 134, 135, 136, 137, 138] (by decide +kernel) (by decide +kernel)) (goodIn_sub (fun _ h => List.mem_cons_of_mem _ (List.mem_append_left _ (List.mem_append_right _ h))) (by decide +kernel))) (goodIn_sub (fun _ h => List.mem_cons_of_mem _ (List.mem_append_right _ h)) (by decide +kernel))
set_option maxRecDepth 20000 in
theorem gX6_train_X5_takeRows : GoodIn wsX6_train (wsV RX6 99 RX5 yX5_takeRows wsX5_takeRows) := goodIn_app (goodIn_of _ (by decide +kernel)) ggX6_train_X5_takeRows
set_option maxRecDepth 20000 in
theorem ggX6_train_X0_begin : GoodIn wsX6_train wsX0_begin := goodIn_ca (goodIn_r _ [97, 98, 99, 100, 101, 102, 22, 23, 24, 25, 26, 141, 142, 143, 144, 139, 140] (by decide +kernel) (by decide +kernel)) (goodIn_sub (fun _ h => List.mem_cons_of_mem _ (List.mem_append_left _ (List.mem_append_right _ h))) (by decide +kernel))
set_option maxRecDepth 20000 in
theorem gX6_train_X0_begin : GoodIn wsX6_train (wsV RX6 102 RX0 yX0_begin wsX0_begin) := goodIn_app (goodIn_of _ (by decide +kernel)) ggX6_train_X0_begin
set_option maxRecDepth 20000 in
theorem ggX6_train_X5_handOver : GoodIn wsX6_train wsX5_handOver := goodIn_ca (goodIn_ca (goodIn_r _ [106, 18, 19, 75, 107, 108, 109, 96, 110, 99, 101, 100, 111, 112, 113, 24, 114, 44, 26, 115, 37, 38, 39, 40, 41, 42, 43, 45, 46, 47, 48, 49, 50, 51, 52, 131, 132, 133, 134, 135, 136, 137, 138, 141, 142, 143, 144, 139, 140] (by decide +kernel) (by decide +kernel)) (goodIn_sub (fun _ h => List.mem_cons_of_mem _ (List.mem_append_right _ h)) (by decide +kernel))) (goodIn_sub (fun _ h => List.mem_cons_of_mem _ (List.mem_append_left _ (List.mem_append_right _ h))) (by decide +kernel))
set_option maxRecDepth 20000 in
theorem gX6_train_X5_handOver : GoodIn wsX6_train (wsV RX6 106 RX5 yX5_handOver wsX5_handOver) := goodIn_app (goodIn_of _ (by decide +kernel)) ggX6_train_X5_handOver
set_option maxRecDepth 20000 in
theorem ggX6_train_X0_pieces : GoodIn wsX6_train wsX0_pieces := goodIn_r _ [119, 100, 141, 142, 143, 144] (by decide +kernel) (by decide +kernel)
set_option maxRecDepth 20000 in
theorem gX6_train_X0_pieces : GoodIn wsX6_train (wsV RX6 110 RX0 yX0_pieces wsX0_pieces) := goodIn_app (goodIn_of _ (by decide +kernel)) ggX6_train_X0_pieces
set_option maxRecDepth 20000 in
theorem ggX6_give_X6_isNumber : GoodIn wsX6_give wsX6_isNumber := goodIn_r _ [6] (by decide +kernel) (by decide +kernel)
set_option maxRecDepth 20000 in
theorem gX6_give_X6_isNumber : GoodIn wsX6_give (va_wsS RX6 89 yX6_isNumber wsX6_isNumber) := goodIn_app (goodIn_of _ (by decide +kernel)) ggX6_give_X6_isNumber
set_option maxRecDepth 20000 in
theorem ggX6_give_X6_isId : GoodIn wsX6_give wsX6_isId := goodIn_r _ [9] (by decide +kernel) (by decide +kernel)
set_option maxRecDepth 20000 in
theorem gX6_give_X6_isId : GoodIn wsX6_give (va_wsS RX6 92 yX6_isId wsX6_isId) := goodIn_app (goodIn_of _ (by decide +kernel)) ggX6_give_X6_isId
set_option maxRecDepth 20000 in
theorem ggX6_give_X4_length : GoodIn wsX6_give wsX4_length := goodIn_r _ [14, 15, 70, 71] (by decide +kernel) (by decide +kernel)
set_option maxRecDepth 20000 in
theorem gX6_give_X4_length : GoodIn wsX6_give (wsV RX6 74 RX4 yX4_length wsX4_length) := goodIn_app (goodIn_of _ (by decide +kernel)) ggX6_give_X4_length
set_option maxRecDepth 20000 in
theorem ggX6_give_X0_begin : GoodIn wsX6_give wsX0_begin := goodIn_ca (goodIn_r _ [20, 21, 22, 23, 24, 25, 26, 27, 13, 28, 15, 72, 73, 74, 75, 70, 71] (by decide +kernel) (by decide +kernel)) (goodIn_sub (fun _ h => List.mem_cons_of_mem _ (List.mem_append_left _ (List.mem_append_right _ h))) (by decide +kernel))
set_option maxRecDepth 20000 in
theorem gX6_give_X0_begin : GoodIn wsX6_give (wsV RX6 102 RX0 yX0_begin wsX0_begin) := goodIn_app (goodIn_of _ (by decide +kernel)) ggX6_give_X0_begin
set_option maxRecDepth 20000 in
theorem ggX6_give_X0_addPiece : GoodIn wsX6_give wsX0_addPiece := goodIn_ca (goodIn_ca (goodIn_r _ [32, 22, 24, 23, 33, 34, 35, 13, 36, 37, 15, 38, 39, 40, 41, 42, 43, 44, 45, 46, 47, 48, 49, 50, 51, 52, 53, 72, 73, 74, 75, 70, 71] (by decide +kernel) (by decide +kernel)) (goodIn_sub (fun _ h => List.mem_cons_of_mem _ (List.mem_append_left _ (List.mem_append_right _ h))) (by decide +kernel))) (goodIn_sub (fun _ h => List.mem_cons_of_mem _ (List.mem_append_right _ h)) (by decide +kernel))
set_option maxRecDepth 20000 in
theorem gX6_give_X0_addPiece : GoodIn wsX6_give (wsV RX6 113 RX0 yX0_addPiece wsX0_addPiece) := goodIn_app (goodIn_of _ (by decide +kernel)) ggX6_give_X0_addPiece
set_option maxRecDepth 20000 in
theorem ggX6_give_X4_clear : GoodIn wsX6_give wsX4_clear := goodIn_r _ [28, 15, 70, 71] (by decide +kernel) (by decide +kernel)
set_option maxRecDepth 20000 in
theorem gX6_give_X4_clear : GoodIn wsX6_give (wsV RX6 86 RX4 yX4_clear wsX4_clear) := goodIn_app (goodIn_of _ (by decide +kernel)) ggX6_give_X4_clear
set_option maxRecDepth 20000 in
theorem ggX6_give_X0_words : GoodIn wsX6_give wsX0_words := goodIn_r _ [58, 24, 72, 73, 74, 75] (by decide +kernel) (by decide +kernel)
set_option maxRecDepth 20000 in
theorem gX6_give_X0_words : GoodIn wsX6_give (wsV RX6 117 RX0 yX0_words wsX0_words) := goodIn_app (goodIn_of _ (by decide +kernel)) ggX6_give_X0_words
set_option maxRecDepth 20000 in
theorem ggX6_trim_X6_thereAt : GoodIn wsX6_trim wsX6_thereAt := goodIn_ca (goodIn_r _ [6, 7, 8, 9, 5, 10, 11, 12, 13, 14, 15, 16, 128, 129, 130, 131, 132, 133, 134, 135, 136, 137, 138, 139, 140, 141, 142] (by decide +kernel) (by decide +kernel)) (goodIn_sub (fun _ h => List.mem_cons_of_mem _ (List.mem_append_left _ (List.mem_append_right _ h))) (by decide +kernel))
set_option maxRecDepth 20000 in
theorem gX6_trim_X6_thereAt : GoodIn wsX6_trim (wsV RX6 121 RX6 yX6_thereAt wsX6_thereAt) := goodIn_app (goodIn_of _ (by decide +kernel)) ggX6_trim_X6_thereAt
set_option maxRecDepth 20000 in
theorem ggX6_trim_X6_leaveOutIdlePieces : GoodIn wsX6_trim wsX6_leaveOutIdlePieces := goodIn_ca (goodIn_ca (goodIn_r _ [20, 21, 22, 23, 24, 14, 25, 26, 27, 28, 29, 30, 31, 32, 33, 34, 5, 35, 1, 36, 37, 38, 39, 40, 41, 42, 43, 44, 45, 46, 47, 48, 49, 50, 51, 52, 53, 54, 55, 56, 57, 58, 59, 60, 61, 62, 63, 64, 65, 66, 67, 68, 69, 70, 71, 72, 73, 74, 75, 76, 77, 78, 79, 80, 81, 82, 83, 84, 85, 86, 87, 88, 89, 90, 91, 92, 93, 94, 95, 96, 97, 98, 99, 100, 101, 102, 103, 104, 105, 106, 107, 108, 109, 110, 111, 112, 113, 114, 115, 116, 117, 118, 119, 120, 121, 122, 123, 124, 125, 126, 127, 128, 129, 130, 131, 132, 133, 134, 135, 136, 137, 138, 139, 140, 141, 142, 143, 144, 145, 146, 147, 148, 149, 150, 151] (by decide +kernel) (by decide +kernel)) (goodIn_sub (fun _ h => List.mem_cons_of_mem _ (List.mem_append_left _ (List.mem_append_right _ h))) (by decide +kernel))) (goodIn_sub (fun _ h => List.mem_cons_of_mem _ (List.mem_append_right _ h)) (by decide +kernel))
set_option maxRecDepth 20000 in
theorem gX6_trim_X6_leaveOutIdlePieces : GoodIn wsX6_trim (wsV RX6 125 RX6 yX6_leaveOutIdlePieces wsX6_leaveOutIdlePieces) := goodIn_app (goodIn_of _ (by decide +kernel)) ggX6_trim_X6_leaveOutIdlePieces
set_option maxRecDepth 20000 in
theorem ggX6_drop_X6_thereAt : GoodIn wsX6_drop wsX6_thereAt := goodIn_ca (goodIn_r _ [5, 6, 7, 8, 4, 9, 10, 11, 12, 13, 14, 15, 33, 34, 35, 36, 37, 38, 39, 40, 41, 42, 43, 44, 45, 46, 47] (by decide +kernel) (by decide +kernel)) (goodIn_sub (fun _ h => List.mem_cons_of_mem _ (List.mem_append_right _ h)) (by decide +kernel))
set_option maxRecDepth 20000 in
theorem gX6_drop_X6_thereAt : GoodIn wsX6_drop (wsV RX6 121 RX6 yX6_thereAt wsX6_thereAt) := goodIn_app (goodIn_of _ (by decide +kernel)) ggX6_drop_X6_thereAt
set_option maxRecDepth 20000 in
theorem ggX6_drop_X0_pieces : GoodIn wsX6_drop wsX0_pieces := goodIn_r _ [19, 20, 44, 45, 46, 47] (by decide +kernel) (by decide +kernel)
set_option maxRecDepth 20000 in
theorem gX6_drop_X0_pieces : GoodIn wsX6_drop (wsV RX6 110 RX0 yX0_pieces wsX0_pieces) := goodIn_app (goodIn_of _ (by decide +kernel)) ggX6_drop_X0_pieces
set_option maxRecDepth 20000 in
theorem ggX6_drop_X0_begin : GoodIn wsX6_drop wsX0_begin := goodIn_ca (goodIn_r _ [24, 15, 25, 20, 26, 27, 28, 29, 30, 31, 32, 44, 45, 46, 47, 48, 49] (by decide +kernel) (by decide +kernel)) (goodIn_sub (fun _ h => List.mem_cons_of_mem _ (List.mem_append_right _ h)) (by decide +kernel))
set_option maxRecDepth 20000 in
theorem gX6_drop_X0_begin : GoodIn wsX6_drop (wsV RX6 102 RX0 yX0_begin wsX0_begin) := goodIn_app (goodIn_of _ (by decide +kernel)) ggX6_drop_X0_begin
set_option maxRecDepth 20000 in
theorem ggX6_told_X6_thereAt : GoodIn wsX6_told wsX6_thereAt := goodIn_ca (goodIn_r _ [5, 6, 7, 8, 4, 9, 10, 11, 12, 13, 14, 15, 62, 63, 64, 65, 66, 67, 68, 69, 70, 71, 72, 73, 74, 75, 76] (by decide +kernel) (by decide +kernel)) (goodIn_sub (fun _ h => List.mem_cons_of_mem _ (List.mem_append_left _ (List.mem_append_right _ h))) (by decide +kernel))
set_option maxRecDepth 20000 in
theorem gX6_told_X6_thereAt : GoodIn wsX6_told (wsV RX6 121 RX6 yX6_thereAt wsX6_thereAt) := goodIn_app (goodIn_of _ (by decide +kernel)) ggX6_told_X6_thereAt
set_option maxRecDepth 20000 in
theorem ggX6_told_X0_id : GoodIn wsX6_told wsX0_id := goodIn_r _ [19, 15, 73, 74, 75, 76] (by decide +kernel) (by decide +kernel)
set_option maxRecDepth 20000 in
theorem gX6_told_X0_id : GoodIn wsX6_told (wsV RX6 129 RX0 yX0_id wsX0_id) := goodIn_app (goodIn_of _ (by decide +kernel)) ggX6_told_X0_id
set_option maxRecDepth 20000 in
theorem ggX6_told_X0_pieces : GoodIn wsX6_told wsX0_pieces := goodIn_r _ [23, 24, 73, 74, 75, 76] (by decide +kernel) (by decide +kernel)
set_option maxRecDepth 20000 in
theorem gX6_told_X0_pieces : GoodIn wsX6_told (wsV RX6 110 RX0 yX0_pieces wsX0_pieces) := goodIn_app (goodIn_of _ (by decide +kernel)) ggX6_told_X0_pieces
set_option maxRecDepth 20000 in
theorem ggX6_told_X0_words : GoodIn wsX6_told wsX0_words := goodIn_r _ [28, 29, 73, 74, 75, 76] (by decide +kernel) (by decide +kernel)
set_option maxRecDepth 20000 in
theorem gX6_told_X0_words : GoodIn wsX6_told (wsV RX6 117 RX0 yX0_words wsX0_words) := goodIn_app (goodIn_of _ (by decide +kernel)) ggX6_told_X0_words
set_option maxRecDepth 20000 in
theorem ggX6_told_X4_length : GoodIn wsX6_told wsX4_length := goodIn_r _ [34, 35, 77, 78] (by decide +kernel) (by decide +kernel)
set_option maxRecDepth 20000 in
theorem gX6_told_X4_length : GoodIn wsX6_told (wsV RX6 74 RX4 yX4_length wsX4_length) := goodIn_app (goodIn_of _ (by decide +kernel)) ggX6_told_X4_length
set_option maxRecDepth 20000 in
theorem ggX6_told_X0_sum : GoodIn wsX6_told wsX0_sum := goodIn_ca (goodIn_ca (goodIn_r _ [39, 15, 29, 40, 41, 42, 33, 43, 35, 44, 45, 46, 47, 48, 49, 50, 51, 52, 53, 54, 55, 56, 73, 74, 75, 76, 77, 78] (by decide +kernel) (by decide +kernel)) (goodIn_sub (fun _ h => List.mem_cons_of_mem _ (List.mem_append_left _ (List.mem_append_right _ h))) (by decide +kernel))) (goodIn_sub (fun _ h => List.mem_cons_of_mem _ (List.mem_append_right _ h)) (by decide +kernel))
set_option maxRecDepth 20000 in
theorem gX6_told_X0_sum : GoodIn wsX6_told (wsV RX6 132 RX0 yX0_sum wsX0_sum) := goodIn_app (goodIn_of _ (by decide +kernel)) ggX6_told_X0_sum
set_option maxRecDepth 20000 in
theorem ggX6_told_X0_pieceLength : GoodIn wsX6_told wsX0_pieceLength := goodIn_r _ [60, 61, 73, 74, 75, 76] (by decide +kernel) (by decide +kernel)
set_option maxRecDepth 20000 in
theorem gX6_told_X0_pieceLength : GoodIn wsX6_told (wsV RX6 135 RX0 yX0_pieceLength wsX0_pieceLength) := goodIn_app (goodIn_of _ (by decide +kernel)) ggX6_told_X0_pieceLength
set_option maxRecDepth 20000 in
theorem ggX6_content_X6_isNumber : GoodIn wsX6_content wsX6_isNumber := goodIn_r _ [10] (by decide +kernel) (by decide +kernel)
set_option maxRecDepth 20000 in
theorem gX6_content_X6_isNumber : GoodIn wsX6_content (va_wsS RX6 89 yX6_isNumber wsX6_isNumber) := goodIn_app (goodIn_of _ (by decide +kernel)) ggX6_content_X6_isNumber
set_option maxRecDepth 20000 in
theorem ggX6_content_X6_thereAt : GoodIn wsX6_content wsX6_thereAt := goodIn_ca (goodIn_r _ [14, 15, 7, 8, 9, 10, 16, 17, 18, 19, 20, 21, 53, 54, 55, 56, 57, 58, 59, 60, 61, 62, 63, 64, 65, 66, 67] (by decide +kernel) (by decide +kernel)) (goodIn_sub (fun _ h => List.mem_cons_of_mem _ (List.mem_append_left _ (List.mem_append_right _ h))) (by decide +kernel))
set_option maxRecDepth 20000 in
theorem gX6_content_X6_thereAt : GoodIn wsX6_content (wsV RX6 121 RX6 yX6_thereAt wsX6_thereAt) := goodIn_app (goodIn_of _ (by decide +kernel)) ggX6_content_X6_thereAt
set_option maxRecDepth 20000 in
theorem ggX6_content_X0_words : GoodIn wsX6_content wsX0_words := goodIn_r _ [25, 26, 64, 65, 66, 67] (by decide +kernel) (by decide +kernel)
set_option maxRecDepth 20000 in
theorem gX6_content_X0_words : GoodIn wsX6_content (wsV RX6 117 RX0 yX0_words wsX0_words) := goodIn_app (goodIn_of _ (by decide +kernel)) ggX6_content_X0_words
set_option maxRecDepth 20000 in
theorem ggX6_content_X4_has : GoodIn wsX6_content wsX4_has := goodIn_r _ [31, 32, 68, 69] (by decide +kernel) (by decide +kernel)
set_option maxRecDepth 20000 in
theorem gX6_content_X4_has : GoodIn wsX6_content (wsV RX6 150 RX4 yX4_has wsX4_has) := goodIn_app (goodIn_of _ (by decide +kernel)) ggX6_content_X4_has
set_option maxRecDepth 20000 in
theorem ggX6_content_X4_signedAt : GoodIn wsX6_content wsX4_signedAt := goodIn_ca (goodIn_ca (goodIn_r _ [36, 37, 38, 28, 29, 30, 31, 32, 68, 69] (by decide +kernel) (by decide +kernel)) (goodIn_sub (fun _ h => List.mem_cons_of_mem _ (List.mem_append_left _ (List.mem_append_right _ h))) (by decide +kernel))) (goodIn_sub (fun _ h => List.mem_cons_of_mem _ (List.mem_append_right _ h)) (by decide +kernel))
set_option maxRecDepth 20000 in
theorem gX6_content_X4_signedAt : GoodIn wsX6_content (wsV RX6 155 RX4 yX4_signedAt wsX4_signedAt) := goodIn_app (goodIn_of _ (by decide +kernel)) ggX6_content_X4_signedAt
set_option maxRecDepth 20000 in
theorem ggX6_pack_X6_noneOrThereAt : GoodIn wsX6_pack wsX6_noneOrThereAt := goodIn_ca (goodIn_r _ [8, 9, 10, 11, 12, 7, 13, 14, 15, 16, 17, 18, 19, 20, 21, 22, 23, 150, 151, 152, 153, 154, 155, 156, 157, 158, 159, 160, 161, 162, 163, 164] (by decide +kernel) (by decide +kernel)) (goodIn_sub (fun _ h => List.mem_cons_of_mem _ (List.mem_append_left _ (List.mem_append_right _ h))) (by decide +kernel))
set_option maxRecDepth 20000 in
theorem gX6_pack_X6_noneOrThereAt : GoodIn wsX6_pack (wsV RX6 159 RX6 yX6_noneOrThereAt wsX6_noneOrThereAt) := goodIn_app (goodIn_of _ (by decide +kernel)) ggX6_pack_X6_noneOrThereAt
set_option maxRecDepth 20000 in
theorem ggX6_pack_X0_words : GoodIn wsX6_pack wsX0_words := goodIn_r _ [27, 28, 161, 162, 163, 164] (by decide +kernel) (by decide +kernel)
set_option maxRecDepth 20000 in
theorem gX6_pack_X0_words : GoodIn wsX6_pack (wsV RX6 117 RX0 yX0_words wsX0_words) := goodIn_app (goodIn_of _ (by decide +kernel)) ggX6_pack_X0_words
set_option maxRecDepth 20000 in
theorem ggX6_pack_X3_measure : GoodIn wsX6_pack wsX3_measure := goodIn_ca (goodIn_ca (goodIn_r _ [33, 34, 35, 36, 37, 38, 39, 40, 41, 42, 43, 44, 45, 46, 47, 48, 49, 50, 51, 52, 53, 54, 55, 56, 32, 57, 58, 59, 60, 61, 62, 63, 64, 65, 66, 67, 68, 69, 70, 71, 72, 73, 74, 75, 76, 77, 78, 79, 80, 81, 165, 166, 167, 168, 169, 170, 171, 172, 173] (by decide +kernel) (by decide +kernel)) (goodIn_sub (fun _ h => List.mem_cons_of_mem _ (List.mem_append_left _ (List.mem_append_right _ h))) (by decide +kernel))) (goodIn_sub (fun _ h => List.mem_cons_of_mem _ (List.mem_append_right _ h)) (by decide +kernel))
set_option maxRecDepth 20000 in
theorem gX6_pack_X3_measure : GoodIn wsX6_pack (wsV RX6 162 RX3 yX3_measure wsX3_measure) := goodIn_app (goodIn_of _ (by decide +kernel)) ggX6_pack_X3_measure
set_option maxRecDepth 20000 in
theorem ggX6_pack_X4_length : GoodIn wsX6_pack wsX4_length := goodIn_r _ [85, 48, 172, 173] (by decide +kernel) (by decide +kernel)
set_option maxRecDepth 20000 in
theorem gX6_pack_X4_length : GoodIn wsX6_pack (wsV RX6 74 RX4 yX4_length wsX4_length) := goodIn_app (goodIn_of _ (by decide +kernel)) ggX6_pack_X4_length
set_option maxRecDepth 20000 in
theorem ggX6_pack_X2_begin : GoodIn wsX6_pack wsX2_begin := goodIn_ca (goodIn_ca (goodIn_r _ [90, 91, 92, 93, 94, 95, 96, 46, 97, 48, 98, 99, 100, 21, 101, 23, 102, 103, 104, 105, 53, 106, 107, 108, 109, 28, 110, 111, 112, 113, 114, 115, 116, 117, 118, 119, 120, 121, 122, 123, 124, 125, 174, 175, 176, 172, 173, 161, 162, 163, 164] (by decide +kernel) (by decide +kernel)) (goodIn_sub (fun _ h => List.mem_cons_of_mem _ (List.mem_append_left _ (List.mem_append_right _ h))) (by decide +kernel))) (goodIn_sub (fun _ h => List.mem_cons_of_mem _ (List.mem_append_right _ h)) (by decide +kernel))
set_option maxRecDepth 20000 in
theorem gX6_pack_X2_begin : GoodIn wsX6_pack (wsV RX6 166 RX2 yX2_begin wsX2_begin) := goodIn_app (goodIn_of _ (by decide +kernel)) ggX6_pack_X2_begin
set_option maxRecDepth 20000 in
theorem ggX6_pack_X3_write : GoodIn wsX6_pack wsX3_write := goodIn_ca (goodIn_ca (goodIn_r _ [129, 40, 68, 35, 34, 130, 131, 38, 132, 133, 134, 135, 32, 136, 59, 74, 75, 76, 77, 137, 138, 139, 89, 140, 93, 91, 92, 102, 103, 104, 46, 105, 48, 53, 141, 142, 143, 144, 165, 166, 167, 168, 169, 170, 171, 174, 175, 176, 172, 173] (by decide +kernel) (by decide +kernel)) (goodIn_sub (fun _ h => List.mem_cons_of_mem _ (List.mem_append_right _ h)) (by decide +kernel))) (goodIn_sub (fun _ h => List.mem_cons_of_mem _ (List.mem_append_left _ (List.mem_append_right _ h))) (by decide +kernel))
set_option maxRecDepth 20000 in
theorem gX6_pack_X3_write : GoodIn wsX6_pack (wsV RX6 169 RX3 yX3_write wsX3_write) := goodIn_app (goodIn_of _ (by decide +kernel)) ggX6_pack_X3_write
set_option maxRecDepth 20000 in
theorem ggX6_pack_X4_clear : GoodIn wsX6_pack wsX4_clear := goodIn_r _ [97, 48, 172, 173] (by decide +kernel) (by decide +kernel)
set_option maxRecDepth 20000 in
theorem gX6_pack_X4_clear : GoodIn wsX6_pack (wsV RX6 86 RX4 yX4_clear wsX4_clear) := goodIn_app (goodIn_of _ (by decide +kernel)) ggX6_pack_X4_clear
set_option maxRecDepth 20000 in
theorem ggX6_pack_X2_bytes : GoodIn wsX6_pack wsX2_bytes := goodIn_r _ [149, 93, 174, 175, 176] (by decide +kernel) (by decide +kernel)
set_option maxRecDepth 20000 in
theorem gX6_pack_X2_bytes : GoodIn wsX6_pack (wsV RX6 173 RX2 yX2_bytes wsX2_bytes) := goodIn_app (goodIn_of _ (by decide +kernel)) ggX6_pack_X2_bytes
set_option maxRecDepth 20000 in
theorem ggX6_out_X2_bytes : GoodIn wsX6_out wsX2_bytes := goodIn_r _ [9, 10, 44, 45, 46] (by decide +kernel) (by decide +kernel)
set_option maxRecDepth 20000 in
theorem gX6_out_X2_bytes : GoodIn wsX6_out (wsV RX6 173 RX2 yX2_bytes wsX2_bytes) := goodIn_app (goodIn_of _ (by decide +kernel)) ggX6_out_X2_bytes
set_option maxRecDepth 20000 in
theorem ggX6_out_X4_has : GoodIn wsX6_out wsX4_has := goodIn_r _ [15, 16, 47, 48] (by decide +kernel) (by decide +kernel)
set_option maxRecDepth 20000 in
theorem gX6_out_X4_has : GoodIn wsX6_out (wsV RX6 150 RX4 yX4_has wsX4_has) := goodIn_app (goodIn_of _ (by decide +kernel)) ggX6_out_X4_has
set_option maxRecDepth 20000 in
theorem ggX6_out_X4_at : GoodIn wsX6_out wsX4_at := goodIn_ca (goodIn_ca (goodIn_r _ [20, 21, 22, 23, 14, 24, 25, 26, 12, 13, 15, 16, 47, 48] (by decide +kernel) (by decide +kernel)) (goodIn_sub (fun _ h => List.mem_cons_of_mem _ (List.mem_append_left _ (List.mem_append_right _ h))) (by decide +kernel))) (goodIn_sub (fun _ h => List.mem_cons_of_mem _ (List.mem_append_right _ h)) (by decide +kernel))
set_option maxRecDepth 20000 in
theorem gX6_out_X4_at : GoodIn wsX6_out (wsV RX6 178 RX4 yX4_at wsX4_at) := goodIn_app (goodIn_of _ (by decide +kernel)) ggX6_out_X4_at
set_option maxRecDepth 20000 in
theorem ggX6_open_X4_at : GoodIn wsX6_open wsX4_at := goodIn_ca (goodIn_ca (goodIn_r _ [8, 9, 10, 11, 7, 12, 13, 14, 15, 16, 17, 18, 112, 113] (by decide +kernel) (by decide +kernel)) (goodIn_sub (fun _ h => List.mem_cons_of_mem _ (List.mem_append_left _ (List.mem_append_right _ h))) (by decide +kernel))) (goodIn_sub (fun _ h => List.mem_cons_of_mem _ (List.mem_append_right _ h)) (by decide +kernel))
set_option maxRecDepth 20000 in
theorem gX6_open_X4_at : GoodIn wsX6_open (wsV RX6 178 RX4 yX4_at wsX4_at) := goodIn_app (goodIn_of _ (by decide +kernel)) ggX6_open_X4_at
set_option maxRecDepth 20000 in
theorem ggX6_open_X6_firstWithId : GoodIn wsX6_open wsX6_firstWithId := goodIn_ca (goodIn_r _ [23, 24, 25, 26, 27, 28, 29, 30, 31, 101, 102, 103, 104, 105, 106, 107, 108, 109, 110, 111, 114, 115, 116, 117] (by decide +kernel) (by decide +kernel)) (goodIn_sub (fun _ h => List.mem_cons_of_mem _ (List.mem_append_left _ (List.mem_append_right _ h))) (by decide +kernel))
set_option maxRecDepth 20000 in
theorem gX6_open_X6_firstWithId : GoodIn wsX6_open (wsV RX6 182 RX6 yX6_firstWithId wsX6_firstWithId) := goodIn_app (goodIn_of _ (by decide +kernel)) ggX6_open_X6_firstWithId
set_option maxRecDepth 20000 in
theorem ggX6_open_X1_decode : GoodIn wsX6_open wsX1_decode := goodIn_ca (goodIn_ca (goodIn_r _ [36, 37, 38, 39, 40, 41, 42, 43, 7, 44, 18, 45, 46, 47, 35, 48, 49, 5, 6, 8, 9, 10, 11, 12, 13, 14, 15, 16, 17, 50, 51, 52, 29, 53, 31, 54, 55, 56, 57, 58, 59, 60, 61, 62, 63, 64, 65, 66, 67, 68, 69, 70, 71, 72, 73, 74, 75, 76, 77, 78, 79, 80, 81, 82, 83, 84, 85, 86, 87, 88, 89, 90, 91, 92, 93, 118, 119, 120, 121, 112, 113, 114, 115, 116, 117] (by decide +kernel) (by decide +kernel)) (goodIn_sub (fun _ h => List.mem_cons_of_mem _ (List.mem_append_left _ (List.mem_append_right _ h))) (by decide +kernel))) (goodIn_sub (fun _ h => List.mem_cons_of_mem _ (List.mem_append_right _ h)) (by decide +kernel))
set_option maxRecDepth 20000 in
theorem gX6_open_X1_decode : GoodIn wsX6_open (wsV RX6 185 RX1 yX1_decode wsX1_decode) := goodIn_app (goodIn_of _ (by decide +kernel)) ggX6_open_X1_decode
set_option maxRecDepth 20000 in
theorem ggX6_open_X4_clear : GoodIn wsX6_open wsX4_clear := goodIn_r _ [71, 18, 112, 113] (by decide +kernel) (by decide +kernel)
set_option maxRecDepth 20000 in
theorem gX6_open_X4_clear : GoodIn wsX6_open (wsV RX6 86 RX4 yX4_clear wsX4_clear) := goodIn_app (goodIn_of _ (by decide +kernel)) ggX6_open_X4_clear
set_option maxRecDepth 20000 in
theorem ggX6_open_X1_handOver : GoodIn wsX6_open wsX1_handOver := goodIn_ca (goodIn_ca (goodIn_r _ [98, 37, 38, 99, 69, 70, 7, 71, 18, 41, 42, 43, 44, 88, 73, 74, 75, 9, 10, 11, 12, 13, 14, 15, 16, 17, 76, 77, 78, 79, 118, 119, 120, 121, 112, 113] (by decide +kernel) (by decide +kernel)) (goodIn_sub (fun _ h => List.mem_cons_of_mem _ (List.mem_append_left _ (List.mem_append_right _ h))) (by decide +kernel))) (goodIn_sub (fun _ h => List.mem_cons_of_mem _ (List.mem_append_right _ h)) (by decide +kernel))
set_option maxRecDepth 20000 in
theorem gX6_open_X1_handOver : GoodIn wsX6_open (wsV RX6 189 RX1 yX1_handOver wsX1_handOver) := goodIn_app (goodIn_of _ (by decide +kernel)) ggX6_open_X1_handOver
set_option maxRecDepth 20000 in
theorem ggX6_open_X4_length : GoodIn wsX6_open wsX4_length := goodIn_r _ [44, 18, 112, 113] (by decide +kernel) (by decide +kernel)
set_option maxRecDepth 20000 in
theorem gX6_open_X4_length : GoodIn wsX6_open (wsV RX6 74 RX4 yX4_length wsX4_length) := goodIn_app (goodIn_of _ (by decide +kernel)) ggX6_open_X4_length
set_option maxRecDepth 20000 in
theorem ggX6_text_X4_has : GoodIn wsX6_text wsX4_has := goodIn_r _ [9, 10, 38, 39] (by decide +kernel) (by decide +kernel)
set_option maxRecDepth 20000 in
theorem gX6_text_X4_has : GoodIn wsX6_text (wsV RX6 150 RX4 yX4_has wsX4_has) := goodIn_app (goodIn_of _ (by decide +kernel)) ggX6_text_X4_has
set_option maxRecDepth 20000 in
theorem ggX6_text_X4_at : GoodIn wsX6_text wsX4_at := goodIn_ca (goodIn_ca (goodIn_r _ [14, 15, 16, 17, 8, 18, 19, 20, 6, 7, 9, 10, 38, 39] (by decide +kernel) (by decide +kernel)) (goodIn_sub (fun _ h => List.mem_cons_of_mem _ (List.mem_append_left _ (List.mem_append_right _ h))) (by decide +kernel))) (goodIn_sub (fun _ h => List.mem_cons_of_mem _ (List.mem_append_right _ h)) (by decide +kernel))
set_option maxRecDepth 20000 in
theorem gX6_text_X4_at : GoodIn wsX6_text (wsV RX6 178 RX4 yX4_at wsX4_at) := goodIn_app (goodIn_of _ (by decide +kernel)) ggX6_text_X4_at
set_option maxRecDepth 20000 in
theorem ggX6_size_X6_noneOrThereAt : GoodIn wsX6_size wsX6_noneOrThereAt := goodIn_ca (goodIn_r _ [7, 8, 9, 10, 11, 6, 12, 13, 14, 15, 16, 17, 18, 19, 20, 21, 22, 86, 87, 88, 89, 90, 91, 92, 93, 94, 95, 96, 97, 98, 99, 100] (by decide +kernel) (by decide +kernel)) (goodIn_sub (fun _ h => List.mem_cons_of_mem _ (List.mem_append_left _ (List.mem_append_right _ h))) (by decide +kernel))
set_option maxRecDepth 20000 in
theorem gX6_size_X6_noneOrThereAt : GoodIn wsX6_size (wsV RX6 159 RX6 yX6_noneOrThereAt wsX6_noneOrThereAt) := goodIn_app (goodIn_of _ (by decide +kernel)) ggX6_size_X6_noneOrThereAt
set_option maxRecDepth 20000 in
theorem ggX6_size_X6_isSample : GoodIn wsX6_size wsX6_isSample := goodIn_r _ [26, 27, 86, 87, 88, 89, 90, 91, 92, 93, 94, 95, 96] (by decide +kernel) (by decide +kernel)
set_option maxRecDepth 20000 in
theorem gX6_size_X6_isSample : GoodIn wsX6_size (wsV RX6 193 RX6 yX6_isSample wsX6_isSample) := goodIn_app (goodIn_of _ (by decide +kernel)) ggX6_size_X6_isSample
set_option maxRecDepth 20000 in
theorem ggX6_size_X0_words : GoodIn wsX6_size wsX0_words := goodIn_r _ [31, 32, 97, 98, 99, 100] (by decide +kernel) (by decide +kernel)
set_option maxRecDepth 20000 in
theorem gX6_size_X0_words : GoodIn wsX6_size (wsV RX6 117 RX0 yX0_words wsX0_words) := goodIn_app (goodIn_of _ (by decide +kernel)) ggX6_size_X0_words
set_option maxRecDepth 20000 in
theorem ggX6_size_X3_measure : GoodIn wsX6_size wsX3_measure := goodIn_ca (goodIn_ca (goodIn_r _ [37, 38, 39, 40, 41, 42, 43, 44, 45, 46, 47, 48, 49, 50, 51, 52, 53, 54, 55, 56, 57, 58, 59, 60, 36, 61, 62, 63, 64, 65, 66, 67, 68, 69, 70, 71, 72, 73, 74, 75, 76, 77, 78, 79, 80, 81, 82, 83, 84, 85, 101, 102, 103, 104, 105, 106, 107, 108, 109] (by decide +kernel) (by decide +kernel)) (goodIn_sub (fun _ h => List.mem_cons_of_mem _ (List.mem_append_left _ (List.mem_append_right _ h))) (by decide +kernel))) (goodIn_sub (fun _ h => List.mem_cons_of_mem _ (List.mem_append_right _ h)) (by decide +kernel))
end
section
set_option maxRecDepth 20000 in
theorem gX6_size_X3_measure : GoodIn wsX6_size (wsV RX6 162 RX3 yX3_measure wsX3_measure) := goodIn_app (goodIn_of _ (by decide +kernel)) ggX6_size_X3_measure
set_option maxRecDepth 20000 in
theorem ggX6_best_X6_isSample : GoodIn wsX6_best wsX6_isSample := goodIn_r _ [9, 10, 75, 76, 77, 78, 79, 80, 81, 82, 83, 84, 85] (by decide +kernel) (by decide +kernel)
set_option maxRecDepth 20000 in
theorem gX6_best_X6_isSample : GoodIn wsX6_best (wsV RX6 193 RX6 yX6_isSample wsX6_isSample) := goodIn_app (goodIn_of _ (by decide +kernel)) ggX6_best_X6_isSample
set_option maxRecDepth 20000 in
theorem ggX6_best_X0_words : GoodIn wsX6_best wsX0_words := goodIn_r _ [15, 16, 86, 87, 88, 89] (by decide +kernel) (by decide +kernel)
set_option maxRecDepth 20000 in
theorem gX6_best_X0_words : GoodIn wsX6_best (wsV RX6 117 RX0 yX0_words wsX0_words) := goodIn_app (goodIn_of _ (by decide +kernel)) ggX6_best_X0_words
set_option maxRecDepth 20000 in
theorem ggX6_best_X3_measure : GoodIn wsX6_best wsX3_measure := goodIn_ca (goodIn_ca (goodIn_r _ [21, 22, 23, 24, 25, 26, 27, 28, 29, 30, 31, 32, 33, 34, 35, 36, 37, 38, 39, 40, 41, 42, 43, 44, 20, 45, 46, 47, 48, 49, 50, 51, 52, 53, 54, 55, 56, 57, 58, 59, 60, 61, 62, 63, 64, 65, 66, 67, 68, 69, 90, 91, 92, 93, 94, 95, 96, 97, 98] (by decide +kernel) (by decide +kernel)) (goodIn_sub (fun _ h => List.mem_cons_of_mem _ (List.mem_append_left _ (List.mem_append_right _ h))) (by decide +kernel))) (goodIn_sub (fun _ h => List.mem_cons_of_mem _ (List.mem_append_right _ h)) (by decide +kernel))
set_option maxRecDepth 20000 in
theorem gX6_best_X3_measure : GoodIn wsX6_best (wsV RX6 162 RX3 yX3_measure wsX3_measure) := goodIn_app (goodIn_of _ (by decide +kernel)) ggX6_best_X3_measure
set_option maxRecDepth 20000 in
theorem ggX6_best_X0_isThere : GoodIn wsX6_best wsX0_isThere := goodIn_r _ [73, 74, 86, 87, 88, 89] (by decide +kernel) (by decide +kernel)
set_option maxRecDepth 20000 in
theorem gX6_best_X0_isThere : GoodIn wsX6_best (wsV RX6 196 RX0 yX0_isThere wsX0_isThere) := goodIn_app (goodIn_of _ (by decide +kernel)) ggX6_best_X0_isThere
set_option maxRecDepth 20000 in
theorem ggX6_share_X6_thereAt : GoodIn wsX6_share wsX6_thereAt := goodIn_ca (goodIn_r _ [8, 9, 10, 11, 7, 12, 13, 14, 15, 16, 17, 18, 84, 85, 86, 87, 88, 89, 90, 91, 92, 93, 94, 95, 96, 97, 98] (by decide +kernel) (by decide +kernel)) (goodIn_sub (fun _ h => List.mem_cons_of_mem _ (List.mem_append_left _ (List.mem_append_left _ (List.mem_append_left _ (List.mem_append_right _ h))))) (by decide +kernel))
set_option maxRecDepth 20000 in
theorem gX6_share_X6_thereAt : GoodIn wsX6_share (wsV RX6 121 RX6 yX6_thereAt wsX6_thereAt) := goodIn_app (goodIn_of _ (by decide +kernel)) ggX6_share_X6_thereAt
set_option maxRecDepth 20000 in
theorem ggX6_share_X0_words : GoodIn wsX6_share wsX0_words := goodIn_r _ [22, 23, 95, 96, 97, 98] (by decide +kernel) (by decide +kernel)
set_option maxRecDepth 20000 in
theorem gX6_share_X0_words : GoodIn wsX6_share (wsV RX6 117 RX0 yX0_words wsX0_words) := goodIn_app (goodIn_of _ (by decide +kernel)) ggX6_share_X0_words
set_option maxRecDepth 20000 in
theorem ggX6_share_X6_bytesOfSamples : GoodIn wsX6_share wsX6_bytesOfSamples := goodIn_ca (goodIn_ca (goodIn_r _ [27, 28, 29, 30, 31, 32, 33, 34, 35, 36, 37, 38, 39, 40, 41, 42, 43, 44, 45, 46, 47, 48, 49, 50, 51, 52, 53, 54, 55, 56, 57, 58, 59, 60, 61, 62, 63, 64, 65, 66, 67, 68, 69, 70, 71, 72, 73, 74, 75, 76, 77, 78, 79, 80, 81, 82, 83, 84, 85, 86, 87, 88, 89, 90, 91, 92, 93, 94, 99, 100, 101, 102, 103, 104, 105, 106, 107] (by decide +kernel) (by decide +kernel)) (goodIn_sub (fun _ h => List.mem_cons_of_mem _ (List.mem_append_left _ (List.mem_append_left _ (List.mem_append_left _ (List.mem_append_right _ h))))) (by decide +kernel))) (goodIn_sub (fun _ h => List.mem_cons_of_mem _ (List.mem_append_right _ h)) (by decide +kernel))
set_option maxRecDepth 20000 in
theorem gX6_share_X6_bytesOfSamples : GoodIn wsX6_share (wsV RX6 200 RX6 yX6_bytesOfSamples wsX6_bytesOfSamples) := goodIn_app (goodIn_of _ (by decide +kernel)) ggX6_share_X6_bytesOfSamples
set_option maxRecDepth 20000 in
theorem ggX6_about_X4_length : GoodIn wsX6_about wsX4_length := goodIn_r _ [9, 10, 50, 51] (by decide +kernel) (by decide +kernel)
set_option maxRecDepth 20000 in
theorem gX6_about_X4_length : GoodIn wsX6_about (wsV RX6 74 RX4 yX4_length wsX4_length) := goodIn_app (goodIn_of _ (by decide +kernel)) ggX6_about_X4_length
set_option maxRecDepth 20000 in
theorem ggX6_about_X6_countThere : GoodIn wsX6_about wsX6_countThere := goodIn_ca (goodIn_r _ [15, 16, 17, 18, 19, 20, 21, 22, 39, 40, 41, 42, 43, 44, 45, 46, 47, 48, 49, 52, 53, 54, 55] (by decide +kernel) (by decide +kernel)) (goodIn_sub (fun _ h => List.mem_cons_of_mem _ (List.mem_append_right _ h)) (by decide +kernel))
set_option maxRecDepth 20000 in
theorem gX6_about_X6_countThere : GoodIn wsX6_about (wsV RX6 209 RX6 yX6_countThere wsX6_countThere) := goodIn_app (goodIn_of _ (by decide +kernel)) ggX6_about_X6_countThere
set_option maxRecDepth 20000 in
theorem ggX6_about_X2_bytes : GoodIn wsX6_about wsX2_bytes := goodIn_r _ [27, 28, 56, 57, 58] (by decide +kernel) (by decide +kernel)
set_option maxRecDepth 20000 in
theorem gX6_about_X2_bytes : GoodIn wsX6_about (wsV RX6 173 RX2 yX2_bytes wsX2_bytes) := goodIn_app (goodIn_of _ (by decide +kernel)) ggX6_about_X2_bytes
set_option maxRecDepth 20000 in
theorem ggX6_about_X2_items : GoodIn wsX6_about wsX2_items := goodIn_r _ [32, 33, 56, 57, 58] (by decide +kernel) (by decide +kernel)
set_option maxRecDepth 20000 in
theorem gX6_about_X2_items : GoodIn wsX6_about (wsV RX6 212 RX2 yX2_items wsX2_items) := goodIn_app (goodIn_of _ (by decide +kernel)) ggX6_about_X2_items
set_option maxRecDepth 20000 in
theorem ggX6_about_X2_matches : GoodIn wsX6_about wsX2_matches := goodIn_r _ [37, 38, 56, 57, 58] (by decide +kernel) (by decide +kernel)
set_option maxRecDepth 20000 in
theorem gX6_about_X2_matches : GoodIn wsX6_about (wsV RX6 215 RX2 yX2_matches wsX2_matches) := goodIn_app (goodIn_of _ (by decide +kernel)) ggX6_about_X2_matches
set_option maxRecDepth 20000 in
theorem ggX6_thereAt_X6_isNumber : GoodIn wsX6_thereAt wsX6_isNumber := goodIn_r _ [5] (by decide +kernel) (by decide +kernel)
set_option maxRecDepth 20000 in
theorem gX6_thereAt_X6_isNumber : GoodIn wsX6_thereAt (va_wsS RX6 89 yX6_isNumber wsX6_isNumber) := goodIn_app (goodIn_of _ (by decide +kernel)) ggX6_thereAt_X6_isNumber
set_option maxRecDepth 20000 in
theorem ggX6_thereAt_X0_isThere : GoodIn wsX6_thereAt wsX0_isThere := goodIn_r _ [10, 11, 23, 24, 25, 26] (by decide +kernel) (by decide +kernel)
set_option maxRecDepth 20000 in
theorem gX6_thereAt_X0_isThere : GoodIn wsX6_thereAt (wsV RX6 196 RX0 yX0_isThere wsX0_isThere) := goodIn_app (goodIn_of _ (by decide +kernel)) ggX6_thereAt_X0_isThere
set_option maxRecDepth 20000 in
theorem ggX6_noneOrThereAt_X6_thereAt : GoodIn wsX6_noneOrThereAt wsX6_thereAt := goodIn_ca (goodIn_r _ [6, 7, 8, 9, 5, 10, 11, 12, 13, 14, 15, 16, 17, 18, 19, 20, 21, 22, 23, 24, 25, 26, 27, 28, 29, 30, 31] (by decide +kernel) (by decide +kernel)) (goodIn_sub (fun _ h => List.mem_cons_of_mem _ (List.mem_append_right _ h)) (by decide +kernel))
set_option maxRecDepth 20000 in
theorem gX6_noneOrThereAt_X6_thereAt : GoodIn wsX6_noneOrThereAt (wsV RX6 121 RX6 yX6_thereAt wsX6_thereAt) := goodIn_app (goodIn_of _ (by decide +kernel)) ggX6_noneOrThereAt_X6_thereAt
set_option maxRecDepth 20000 in
theorem ggX6_firstWithId_X0_id : GoodIn wsX6_firstWithId wsX0_id := goodIn_r _ [7, 8, 20, 21, 22, 23] (by decide +kernel) (by decide +kernel)
set_option maxRecDepth 20000 in
theorem gX6_firstWithId_X0_id : GoodIn wsX6_firstWithId (wsV RX6 129 RX0 yX0_id wsX0_id) := goodIn_app (goodIn_of _ (by decide +kernel)) ggX6_firstWithId_X0_id
set_option maxRecDepth 20000 in
theorem ggX6_countThere_X0_isThere : GoodIn wsX6_countThere wsX0_isThere := goodIn_r _ [6, 7, 19, 20, 21, 22] (by decide +kernel) (by decide +kernel)
set_option maxRecDepth 20000 in
theorem gX6_countThere_X0_isThere : GoodIn wsX6_countThere (wsV RX6 196 RX0 yX0_isThere wsX0_isThere) := goodIn_app (goodIn_of _ (by decide +kernel)) ggX6_countThere_X0_isThere
set_option maxRecDepth 20000 in
theorem ggX6_bytesOfSamples_X3_measure : GoodIn wsX6_bytesOfSamples wsX3_measure := goodIn_ca (goodIn_ca (goodIn_r _ [8, 9, 10, 11, 12, 13, 14, 15, 16, 17, 18, 19, 20, 21, 22, 23, 24, 25, 26, 27, 28, 29, 30, 31, 7, 32, 33, 34, 35, 36, 37, 38, 39, 40, 41, 42, 43, 44, 45, 46, 47, 48, 49, 50, 51, 52, 53, 54, 55, 56, 68, 69, 70, 71, 72, 73, 74, 75, 76] (by decide +kernel) (by decide +kernel)) (goodIn_sub (fun _ h => List.mem_cons_of_mem _ (List.mem_append_left _ (List.mem_append_right _ h))) (by decide +kernel))) (goodIn_sub (fun _ h => List.mem_cons_of_mem _ (List.mem_append_right _ h)) (by decide +kernel))
set_option maxRecDepth 20000 in
theorem gX6_bytesOfSamples_X3_measure : GoodIn wsX6_bytesOfSamples (wsV RX6 162 RX3 yX3_measure wsX3_measure) := goodIn_app (goodIn_of _ (by decide +kernel)) ggX6_bytesOfSamples_X3_measure
set_option maxRecDepth 20000 in
theorem ggX6_leaveOutIdlePieces_X0_pieces : GoodIn wsX6_leaveOutIdlePieces wsX0_pieces := goodIn_r _ [6, 7, 122, 123, 124, 125] (by decide +kernel) (by decide +kernel)
set_option maxRecDepth 20000 in
theorem gX6_leaveOutIdlePieces_X0_pieces : GoodIn wsX6_leaveOutIdlePieces (wsV RX6 110 RX0 yX0_pieces wsX0_pieces) := goodIn_app (goodIn_of _ (by decide +kernel)) ggX6_leaveOutIdlePieces_X0_pieces
set_option maxRecDepth 20000 in
theorem ggX6_leaveOutIdlePieces_X0_words : GoodIn wsX6_leaveOutIdlePieces wsX0_words := goodIn_r _ [11, 12, 122, 123, 124, 125] (by decide +kernel) (by decide +kernel)
set_option maxRecDepth 20000 in
theorem gX6_leaveOutIdlePieces_X0_words : GoodIn wsX6_leaveOutIdlePieces (wsV RX6 117 RX0 yX0_words wsX0_words) := goodIn_app (goodIn_of _ (by decide +kernel)) ggX6_leaveOutIdlePieces_X0_words
set_option maxRecDepth 20000 in
theorem ggX6_leaveOutIdlePieces_X6_bytesOfSamples : GoodIn wsX6_leaveOutIdlePieces wsX6_bytesOfSamples := goodIn_ca (goodIn_ca (goodIn_r _ [17, 18, 19, 20, 21, 22, 23, 24, 25, 26, 27, 28, 29, 30, 31, 32, 33, 34, 35, 36, 37, 38, 39, 40, 41, 42, 43, 44, 45, 46, 47, 48, 49, 50, 51, 52, 53, 54, 55, 56, 57, 58, 59, 60, 61, 62, 63, 64, 65, 66, 67, 68, 69, 70, 71, 72, 73, 111, 112, 113, 114, 115, 116, 117, 118, 119, 120, 121, 126, 127, 128, 129, 130, 131, 132, 133, 134] (by decide +kernel) (by decide +kernel)) (goodIn_sub (fun _ h => List.mem_cons_of_mem _ (List.mem_append_left _ (List.mem_append_right _ h))) (by decide +kernel))) (goodIn_sub (fun _ h => List.mem_cons_of_mem _ (List.mem_append_right _ h)) (by decide +kernel))
set_option maxRecDepth 20000 in
theorem gX6_leaveOutIdlePieces_X6_bytesOfSamples : GoodIn wsX6_leaveOutIdlePieces (wsV RX6 200 RX6 yX6_bytesOfSamples wsX6_bytesOfSamples) := goodIn_app (goodIn_of _ (by decide +kernel)) ggX6_leaveOutIdlePieces_X6_bytesOfSamples
set_option maxRecDepth 20000 in
theorem ggX6_leaveOutIdlePieces_X0_copyWithout : GoodIn wsX6_leaveOutIdlePieces wsX0_copyWithout := goodIn_ca (goodIn_ca (goodIn_r _ [77, 12, 78, 79, 80, 81, 38, 82, 40, 83, 84, 85, 86, 87, 88, 89, 90, 91, 92, 93, 94, 45, 95, 96, 97, 98, 99, 100, 101, 102, 103, 104, 105, 106, 122, 123, 124, 125, 133, 134] (by decide +kernel) (by decide +kernel)) (goodIn_sub (fun _ h => List.mem_cons_of_mem _ (List.mem_append_left _ (List.mem_append_right _ h))) (by decide +kernel))) (goodIn_sub (fun _ h => List.mem_cons_of_mem _ (List.mem_append_right _ h)) (by decide +kernel))
set_option maxRecDepth 20000 in
theorem gX6_leaveOutIdlePieces_X0_copyWithout : GoodIn wsX6_leaveOutIdlePieces (wsV RX6 218 RX0 yX0_copyWithout wsX0_copyWithout) := goodIn_app (goodIn_of _ (by decide +kernel)) ggX6_leaveOutIdlePieces_X0_copyWithout
set_option maxRecDepth 20000 in
theorem ggX6_leaveOutIdlePieces_X0_removePiece : GoodIn wsX6_leaveOutIdlePieces wsX0_removePiece := goodIn_ca (goodIn_ca (goodIn_r _ [110, 7, 12, 78, 103, 104, 105, 38, 106, 40, 45, 99, 100, 101, 102, 122, 123, 124, 125, 133, 134] (by decide +kernel) (by decide +kernel)) (goodIn_sub (fun _ h => List.mem_cons_of_mem _ (List.mem_append_left _ (List.mem_append_right _ h))) (by decide +kernel))) (goodIn_sub (fun _ h => List.mem_cons_of_mem _ (List.mem_append_right _ h)) (by decide +kernel))
set_option maxRecDepth 20000 in
theorem gX6_leaveOutIdlePieces_X0_removePiece : GoodIn wsX6_leaveOutIdlePieces (wsV RX6 222 RX0 yX0_removePiece wsX0_removePiece) := goodIn_app (goodIn_of _ (by decide +kernel)) ggX6_leaveOutIdlePieces_X0_removePiece
set_option maxRecDepth 20000 in
theorem ggX7_feed_X7_in : GoodIn wsX7_feed wsX7_in := goodIn_r _ [8] (by decide +kernel) (by decide +kernel)
set_option maxRecDepth 20000 in
theorem gX7_feed_X7_in : GoodIn wsX7_feed (va_wsS RX7 65 yX7_in wsX7_in) := goodIn_app (goodIn_of _ (by decide +kernel)) ggX7_feed_X7_in
set_option maxRecDepth 20000 in
theorem ggX7_sample_X7_in : GoodIn wsX7_sample wsX7_in := goodIn_r _ [11] (by decide +kernel) (by decide +kernel)
set_option maxRecDepth 20000 in
theorem gX7_sample_X7_in : GoodIn wsX7_sample (va_wsS RX7 65 yX7_in wsX7_in) := goodIn_app (goodIn_of _ (by decide +kernel)) ggX7_sample_X7_in
set_option maxRecDepth 20000 in
theorem ggX7_counted_X7_areAlike : GoodIn wsX7_counted wsX7_areAlike := goodIn_ca (goodIn_ca (goodIn_r _ [8, 9, 14, 15, 16, 17, 18, 19, 20, 21, 22, 23, 24, 25, 26, 27, 28, 29, 30, 31, 32, 33, 34, 35, 36, 37, 38] (by decide +kernel) (by decide +kernel)) (goodIn_sub (fun _ h => List.mem_cons_of_mem _ (List.mem_append_left _ (List.mem_append_right _ h))) (by decide +kernel))) (goodIn_sub (fun _ h => List.mem_cons_of_mem _ (List.mem_append_right _ h)) (by decide +kernel))
set_option maxRecDepth 20000 in
theorem gX7_counted_X7_areAlike : GoodIn wsX7_counted (wsV RX7 74 RX7 yX7_areAlike wsX7_areAlike) := goodIn_app (goodIn_of _ (by decide +kernel)) ggX7_counted_X7_areAlike
set_option maxRecDepth 20000 in
theorem ggX7_counted_X7_isOpen : GoodIn wsX7_counted wsX7_isOpen := goodIn_ca (goodIn_ca (goodIn_r _ [13, 2, 3, 14, 15, 16, 17, 18, 19, 20, 21, 22, 23, 24, 25, 26, 27, 28, 29, 30, 31, 32, 33, 34, 35, 36, 37, 38] (by decide +kernel) (by decide +kernel)) (goodIn_sub (fun _ h => List.mem_cons_of_mem _ (List.mem_append_left _ (List.mem_append_right _ h))) (by decide +kernel))) (goodIn_sub (fun _ h => List.mem_cons_of_mem _ (List.mem_append_right _ h)) (by decide +kernel))
set_option maxRecDepth 20000 in
theorem gX7_counted_X7_isOpen : GoodIn wsX7_counted (wsV RX7 78 RX7 yX7_isOpen wsX7_isOpen) := goodIn_app (goodIn_of _ (by decide +kernel)) ggX7_counted_X7_isOpen
set_option maxRecDepth 20000 in
theorem ggX7_train_X7_in : GoodIn wsX7_train wsX7_in := goodIn_r _ [21] (by decide +kernel) (by decide +kernel)
set_option maxRecDepth 20000 in
theorem gX7_train_X7_in : GoodIn wsX7_train (va_wsS RX7 65 yX7_in wsX7_in) := goodIn_app (goodIn_of _ (by decide +kernel)) ggX7_train_X7_in
set_option maxRecDepth 20000 in
theorem ggX7_train_X7_isOpen : GoodIn wsX7_train wsX7_isOpen := goodIn_ca (goodIn_ca (goodIn_r _ [25, 10, 8, 34, 35, 36, 37, 38, 39, 40, 41, 42, 43, 44, 45, 46, 47, 48, 49, 50, 51, 52, 53, 54, 55, 56, 57, 58] (by decide +kernel) (by decide +kernel)) (goodIn_sub (fun _ h => List.mem_cons_of_mem _ (List.mem_append_left _ (List.mem_append_right _ h))) (by decide +kernel))) (goodIn_sub (fun _ h => List.mem_cons_of_mem _ (List.mem_append_right _ h)) (by decide +kernel))
set_option maxRecDepth 20000 in
theorem gX7_train_X7_isOpen : GoodIn wsX7_train (wsV RX7 78 RX7 yX7_isOpen wsX7_isOpen) := goodIn_app (goodIn_of _ (by decide +kernel)) ggX7_train_X7_isOpen
set_option maxRecDepth 20000 in
theorem ggX7_train_X7_counted : GoodIn wsX7_train wsX7_counted := goodIn_ca (goodIn_ca (goodIn_r _ [29, 7, 10, 8, 30, 31, 32, 20, 33, 12, 22, 23, 24, 25, 34, 35, 36, 37, 38, 39, 40, 41, 42, 43, 44, 45, 46, 47, 48, 49, 50, 51, 52, 53, 54, 55, 56, 57, 58] (by decide +kernel) (by decide +kernel)) (goodIn_sub (fun _ h => List.mem_cons_of_mem _ (List.mem_append_left _ (List.mem_append_right _ h))) (by decide +kernel))) (goodIn_sub (fun _ h => List.mem_cons_of_mem _ (List.mem_append_right _ h)) (by decide +kernel))
set_option maxRecDepth 20000 in
theorem gX7_train_X7_counted : GoodIn wsX7_train (wsV RX7 92 RX7 yX7_counted wsX7_counted) := goodIn_app (goodIn_of _ (by decide +kernel)) ggX7_train_X7_counted
set_option maxRecDepth 20000 in
theorem ggX7_give_X7_in : GoodIn wsX7_give wsX7_in := goodIn_r _ [14] (by decide +kernel) (by decide +kernel)
set_option maxRecDepth 20000 in
theorem gX7_give_X7_in : GoodIn wsX7_give (va_wsS RX7 65 yX7_in wsX7_in) := goodIn_app (goodIn_of _ (by decide +kernel)) ggX7_give_X7_in
set_option maxRecDepth 20000 in
theorem ggX7_isThere_X7_in : GoodIn wsX7_isThere wsX7_in := goodIn_r _ [6] (by decide +kernel) (by decide +kernel)
set_option maxRecDepth 20000 in
theorem gX7_isThere_X7_in : GoodIn wsX7_isThere (va_wsS RX7 65 yX7_in wsX7_in) := goodIn_app (goodIn_of _ (by decide +kernel)) ggX7_isThere_X7_in
set_option maxRecDepth 20000 in
theorem ggX7_layAhead_X7_pieceAt : GoodIn wsX7_layAhead wsX7_pieceAt := goodIn_ca (goodIn_ca (goodIn_r _ [10, 2, 11, 12, 13, 14, 15, 16, 17, 18, 19, 20, 21, 22, 23, 24, 25, 26, 27, 28, 29, 30, 31, 32, 33, 34, 35] (by decide +kernel) (by decide +kernel)) (goodIn_sub (fun _ h => List.mem_cons_of_mem _ (List.mem_append_right _ h)) (by decide +kernel))) (goodIn_sub (fun _ h => List.mem_cons_of_mem _ (List.mem_append_left _ (List.mem_append_right _ h))) (by decide +kernel))
set_option maxRecDepth 20000 in
theorem gX7_layAhead_X7_pieceAt : GoodIn wsX7_layAhead (wsV RX7 99 RX7 yX7_pieceAt wsX7_pieceAt) := goodIn_app (goodIn_of _ (by decide +kernel)) ggX7_layAhead_X7_pieceAt
set_option maxRecDepth 20000 in
theorem ggX7_packedLong_X7_findMatches : GoodIn wsX7_packedLong wsX7_findMatches := goodIn_ca (goodIn_ca (goodIn_r _ [8, 3, 9, 2, 10, 11, 12, 13, 14, 15, 16, 17, 18, 19, 20, 21, 22, 23, 24, 25, 26, 27, 28, 29, 30, 31, 32, 33, 34, 35] (by decide +kernel) (by decide +kernel)) (goodIn_sub (fun _ h => List.mem_cons_of_mem _ (List.mem_append_left _ (List.mem_append_right _ h))) (by decide +kernel))) (goodIn_sub (fun _ h => List.mem_cons_of_mem _ (List.mem_append_right _ h)) (by decide +kernel))
set_option maxRecDepth 20000 in
theorem gX7_packedLong_X7_findMatches : GoodIn wsX7_packedLong (wsV RX7 106 RX7 yX7_findMatches wsX7_findMatches) := goodIn_app (goodIn_of _ (by decide +kernel)) ggX7_packedLong_X7_findMatches
set_option maxRecDepth 20000 in
theorem ggX7_sizeOf_X7_layAhead : GoodIn wsX7_sizeOf wsX7_layAhead := goodIn_ca (goodIn_ca (goodIn_r _ [5, 6, 7, 8, 9, 10, 11, 12, 13, 4, 14, 32, 33, 34, 35, 36, 37, 38, 39, 40, 41, 42, 43, 44, 45, 46, 47, 48, 49, 50, 51, 52, 53, 54, 55, 56] (by decide +kernel) (by decide +kernel)) (goodIn_sub (fun _ h => List.mem_cons_of_mem _ (List.mem_append_left _ (List.mem_append_right _ h))) (by decide +kernel))) (goodIn_sub (fun _ h => List.mem_cons_of_mem _ (List.mem_append_right _ h)) (by decide +kernel))
set_option maxRecDepth 20000 in
theorem gX7_sizeOf_X7_layAhead : GoodIn wsX7_sizeOf (wsV RX7 110 RX7 yX7_layAhead wsX7_layAhead) := goodIn_app (goodIn_of _ (by decide +kernel)) ggX7_sizeOf_X7_layAhead
set_option maxRecDepth 20000 in
theorem ggX7_sizeOf_X7_laySample : GoodIn wsX7_sizeOf wsX7_laySample := goodIn_ca (goodIn_ca (goodIn_r _ [18, 19, 20, 9, 6, 21, 32, 33, 34, 35, 36, 37, 38, 39, 40, 41, 42, 43, 44, 45, 46, 47, 48, 49, 50, 51, 52, 53, 54, 55, 56] (by decide +kernel) (by decide +kernel)) (goodIn_sub (fun _ h => List.mem_cons_of_mem _ (List.mem_append_right _ h)) (by decide +kernel))) (goodIn_sub (fun _ h => List.mem_cons_of_mem _ (List.mem_append_left _ (List.mem_append_right _ h))) (by decide +kernel))
set_option maxRecDepth 20000 in
theorem gX7_sizeOf_X7_laySample : GoodIn wsX7_sizeOf (wsV RX7 114 RX7 yX7_laySample wsX7_laySample) := goodIn_app (goodIn_of _ (by decide +kernel)) ggX7_sizeOf_X7_laySample
set_option maxRecDepth 20000 in
theorem ggX7_sizeOf_X7_packedLong : GoodIn wsX7_sizeOf wsX7_packedLong := goodIn_ca (goodIn_ca (goodIn_r _ [25, 26, 20, 27, 28, 29, 30, 4, 31, 6, 9, 32, 33, 34, 35, 36, 37, 38, 39, 40, 41, 42, 43, 44, 45, 46, 47, 48, 49, 50, 51, 52, 53, 54, 55, 56] (by decide +kernel) (by decide +kernel)) (goodIn_sub (fun _ h => List.mem_cons_of_mem _ (List.mem_append_right _ h)) (by decide +kernel))) (goodIn_sub (fun _ h => List.mem_cons_of_mem _ (List.mem_append_left _ (List.mem_append_right _ h))) (by decide +kernel))
set_option maxRecDepth 20000 in
theorem gX7_sizeOf_X7_packedLong : GoodIn wsX7_sizeOf (wsV RX7 117 RX7 yX7_packedLong wsX7_packedLong) := goodIn_app (goodIn_of _ (by decide +kernel)) ggX7_sizeOf_X7_packedLong
set_option maxRecDepth 20000 in
theorem ggX7_sizeOfAll_X7_sizeOf : GoodIn wsX7_sizeOfAll wsX7_sizeOf := goodIn_ca (goodIn_ca (goodIn_r _ [6, 7, 8, 9, 5, 10, 11, 12, 13, 14, 15, 16, 17, 18, 19, 20, 21, 22, 23, 24, 25, 26, 27, 28, 29, 30, 31, 32, 33, 34, 35, 36, 37, 38, 39, 40, 41, 42, 43, 44, 45, 46, 47, 48, 49, 50, 51, 52, 53, 54, 55, 56, 57, 58, 59, 60, 61] (by decide +kernel) (by decide +kernel)) (goodIn_sub (fun _ h => List.mem_cons_of_mem _ (List.mem_append_left _ (List.mem_append_right _ h))) (by decide +kernel))) (goodIn_sub (fun _ h => List.mem_cons_of_mem _ (List.mem_append_right _ h)) (by decide +kernel))
set_option maxRecDepth 20000 in
theorem gX7_sizeOfAll_X7_sizeOf : GoodIn wsX7_sizeOfAll (wsV RX7 121 RX7 yX7_sizeOf wsX7_sizeOf) := goodIn_app (goodIn_of _ (by decide +kernel)) ggX7_sizeOfAll_X7_sizeOf
set_option maxRecDepth 20000 in
theorem ggX7_trim_X7_isThere : GoodIn wsX7_trim wsX7_isThere := goodIn_ca (goodIn_ca (goodIn_r _ [8, 9, 10, 11, 12, 7, 13, 56, 57, 58, 59, 60, 61, 62, 63, 64, 65, 66, 67, 68, 69, 70, 71, 72, 73, 74, 75, 76, 77, 78, 79, 80] (by decide +kernel) (by decide +kernel)) (goodIn_sub (fun _ h => List.mem_cons_of_mem _ (List.mem_append_right _ h)) (by decide +kernel))) (goodIn_sub (fun _ h => List.mem_cons_of_mem _ (List.mem_append_left _ (List.mem_append_right _ h))) (by decide +kernel))
set_option maxRecDepth 20000 in
theorem gX7_trim_X7_isThere : GoodIn wsX7_trim (wsV RX7 125 RX7 yX7_isThere wsX7_isThere) := goodIn_app (goodIn_of _ (by decide +kernel)) ggX7_trim_X7_isThere
set_option maxRecDepth 20000 in
theorem ggX7_trim_X7_sizeOfAll : GoodIn wsX7_trim wsX7_sizeOfAll := goodIn_ca (goodIn_ca (goodIn_r _ [17, 2, 18, 19, 20, 7, 21, 22, 23, 24, 25, 26, 27, 28, 29, 30, 31, 32, 33, 34, 35, 36, 37, 38, 39, 40, 41, 42, 43, 44, 45, 46, 47, 48, 49, 50, 51, 56, 57, 58, 59, 60, 61, 62, 63, 64, 65, 66, 67, 68, 69, 70, 71, 72, 73, 74, 75, 76, 77, 78, 79, 80] (by decide +kernel) (by decide +kernel)) (goodIn_sub (fun _ h => List.mem_cons_of_mem _ (List.mem_append_left _ (List.mem_append_right _ h))) (by decide +kernel))) (goodIn_sub (fun _ h => List.mem_cons_of_mem _ (List.mem_append_right _ h)) (by decide +kernel))
set_option maxRecDepth 20000 in
theorem gX7_trim_X7_sizeOfAll : GoodIn wsX7_trim (wsV RX7 129 RX7 yX7_sizeOfAll wsX7_sizeOfAll) := goodIn_app (goodIn_of _ (by decide +kernel)) ggX7_trim_X7_sizeOfAll
set_option maxRecDepth 20000 in
theorem ggX7_trim_X7_goes : GoodIn wsX7_trim wsX7_goes := goodIn_ca (goodIn_ca (goodIn_r _ [55, 27, 28, 30, 3, 31, 32, 33, 7, 34, 56, 57, 58, 59, 60, 61, 62, 63, 64, 65, 66, 67, 68, 69, 70, 71, 72, 73, 74, 75, 76, 77, 78, 79, 80] (by decide +kernel) (by decide +kernel)) (goodIn_sub (fun _ h => List.mem_cons_of_mem _ (List.mem_append_left _ (List.mem_append_right _ h))) (by decide +kernel))) (goodIn_sub (fun _ h => List.mem_cons_of_mem _ (List.mem_append_right _ h)) (by decide +kernel))
set_option maxRecDepth 20000 in
theorem gX7_trim_X7_goes : GoodIn wsX7_trim (wsV RX7 132 RX7 yX7_goes wsX7_goes) := goodIn_app (goodIn_of _ (by decide +kernel)) ggX7_trim_X7_goes
set_option maxRecDepth 20000 in
theorem ggX7_goes_X7_pieceAt : GoodIn wsX7_goes wsX7_pieceAt := goodIn_ca (goodIn_ca (goodIn_r _ [9, 1, 10, 11, 12, 13, 14, 15, 16, 17, 18, 19, 20, 21, 22, 23, 24, 25, 26, 27, 28, 29, 30, 31, 32, 33, 34] (by decide +kernel) (by decide +kernel)) (goodIn_sub (fun _ h => List.mem_cons_of_mem _ (List.mem_append_right _ h)) (by decide +kernel))) (goodIn_sub (fun _ h => List.mem_cons_of_mem _ (List.mem_append_left _ (List.mem_append_right _ h))) (by decide +kernel))
set_option maxRecDepth 20000 in
theorem gX7_goes_X7_pieceAt : GoodIn wsX7_goes (wsV RX7 99 RX7 yX7_pieceAt wsX7_pieceAt) := goodIn_app (goodIn_of _ (by decide +kernel)) ggX7_goes_X7_pieceAt
set_option maxRecDepth 20000 in
theorem ggX7_drop_X7_isThere : GoodIn wsX7_drop wsX7_isThere := goodIn_ca (goodIn_ca (goodIn_r _ [8, 9, 2, 10, 11, 7, 12, 13, 14, 15, 16, 17, 18, 19, 20, 21, 22, 23, 24, 25, 26, 27, 28, 29, 30, 31, 32, 33, 34, 35, 36, 37] (by decide +kernel) (by decide +kernel)) (goodIn_sub (fun _ h => List.mem_cons_of_mem _ (List.mem_append_right _ h)) (by decide +kernel))) (goodIn_sub (fun _ h => List.mem_cons_of_mem _ (List.mem_append_left _ (List.mem_append_right _ h))) (by decide +kernel))
set_option maxRecDepth 20000 in
theorem gX7_drop_X7_isThere : GoodIn wsX7_drop (wsV RX7 125 RX7 yX7_isThere wsX7_isThere) := goodIn_app (goodIn_of _ (by decide +kernel)) ggX7_drop_X7_isThere
set_option maxRecDepth 20000 in
theorem ggX7_told_X7_isThere : GoodIn wsX7_told wsX7_isThere := goodIn_ca (goodIn_ca (goodIn_r _ [11, 12, 2, 13, 14, 10, 15, 21, 22, 23, 24, 25, 26, 27, 28, 29, 30, 31, 32, 33, 34, 35, 36, 37, 38, 39, 40, 41, 42, 43, 44, 45] (by decide +kernel) (by decide +kernel)) (goodIn_sub (fun _ h => List.mem_cons_of_mem _ (List.mem_append_right _ h)) (by decide +kernel))) (goodIn_sub (fun _ h => List.mem_cons_of_mem _ (List.mem_append_left _ (List.mem_append_right _ h))) (by decide +kernel))
set_option maxRecDepth 20000 in
theorem gX7_told_X7_isThere : GoodIn wsX7_told (wsV RX7 125 RX7 yX7_isThere wsX7_isThere) := goodIn_app (goodIn_of _ (by decide +kernel)) ggX7_told_X7_isThere
set_option maxRecDepth 20000 in
theorem ggX7_told_X7_sumOf : GoodIn wsX7_told wsX7_sumOf := goodIn_ca (goodIn_ca (goodIn_r _ [19, 4, 20, 21, 22, 23, 24, 25, 26, 27, 28, 29, 30, 31, 32, 33, 34, 35, 36, 37, 38, 39, 40, 41, 42, 43, 44, 45] (by decide +kernel) (by decide +kernel)) (goodIn_sub (fun _ h => List.mem_cons_of_mem _ (List.mem_append_right _ h)) (by decide +kernel))) (goodIn_sub (fun _ h => List.mem_cons_of_mem _ (List.mem_append_left _ (List.mem_append_right _ h))) (by decide +kernel))
end
section
set_option maxRecDepth 20000 in
theorem gX7_told_X7_sumOf : GoodIn wsX7_told (wsV RX7 135 RX7 yX7_sumOf wsX7_sumOf) := goodIn_app (goodIn_of _ (by decide +kernel)) ggX7_told_X7_sumOf
set_option maxRecDepth 20000 in
theorem ggX7_told_X7_in : GoodIn wsX7_told wsX7_in := goodIn_r _ [15] (by decide +kernel) (by decide +kernel)
set_option maxRecDepth 20000 in
theorem gX7_told_X7_in : GoodIn wsX7_told (va_wsS RX7 65 yX7_in wsX7_in) := goodIn_app (goodIn_of _ (by decide +kernel)) ggX7_told_X7_in
set_option maxRecDepth 20000 in
theorem ggX7_content_X7_in : GoodIn wsX7_content wsX7_in := goodIn_r _ [9] (by decide +kernel) (by decide +kernel)
set_option maxRecDepth 20000 in
theorem gX7_content_X7_in : GoodIn wsX7_content (va_wsS RX7 65 yX7_in wsX7_in) := goodIn_app (goodIn_of _ (by decide +kernel)) ggX7_content_X7_in
set_option maxRecDepth 20000 in
theorem ggX7_putItem_X7_put : GoodIn wsX7_putItem wsX7_put := goodIn_ca (goodIn_ca (goodIn_r _ [11, 12, 13, 14, 15, 16, 17, 18, 19, 20, 21, 22, 23, 24, 25, 26, 27, 28, 29, 30, 31, 32, 33, 34, 35, 36, 37, 38] (by decide +kernel) (by decide +kernel)) (goodIn_sub (fun _ h => List.mem_cons_of_mem _ (List.mem_append_left _ (List.mem_append_right _ h))) (by decide +kernel))) (goodIn_sub (fun _ h => List.mem_cons_of_mem _ (List.mem_append_right _ h)) (by decide +kernel))
set_option maxRecDepth 20000 in
theorem gX7_putItem_X7_put : GoodIn wsX7_putItem (wsV RX7 144 RX7 yX7_put wsX7_put) := goodIn_app (goodIn_of _ (by decide +kernel)) ggX7_putItem_X7_put
set_option maxRecDepth 20000 in
theorem ggX7_pack_X7_isThere : GoodIn wsX7_pack wsX7_isThere := goodIn_ca (goodIn_ca (goodIn_r _ [15, 16, 10, 17, 18, 14, 19, 54, 55, 56, 57, 58, 59, 60, 61, 62, 63, 64, 65, 66, 67, 68, 69, 70, 71, 72, 73, 74, 75, 76, 77, 78] (by decide +kernel) (by decide +kernel)) (goodIn_sub (fun _ h => List.mem_cons_of_mem _ (List.mem_append_right _ h)) (by decide +kernel))) (goodIn_sub (fun _ h => List.mem_cons_of_mem _ (List.mem_append_left _ (List.mem_append_right _ h))) (by decide +kernel))
set_option maxRecDepth 20000 in
theorem gX7_pack_X7_isThere : GoodIn wsX7_pack (wsV RX7 125 RX7 yX7_isThere wsX7_isThere) := goodIn_app (goodIn_of _ (by decide +kernel)) ggX7_pack_X7_isThere
set_option maxRecDepth 20000 in
theorem ggX7_pack_X7_layAhead : GoodIn wsX7_pack wsX7_layAhead := goodIn_ca (goodIn_ca (goodIn_r _ [23, 5, 24, 25, 4, 26, 27, 28, 29, 14, 30, 54, 55, 56, 57, 58, 59, 60, 61, 62, 63, 64, 65, 66, 67, 68, 69, 70, 71, 72, 73, 74, 75, 76, 77, 78] (by decide +kernel) (by decide +kernel)) (goodIn_sub (fun _ h => List.mem_cons_of_mem _ (List.mem_append_left _ (List.mem_append_right _ h))) (by decide +kernel))) (goodIn_sub (fun _ h => List.mem_cons_of_mem _ (List.mem_append_right _ h)) (by decide +kernel))
set_option maxRecDepth 20000 in
theorem gX7_pack_X7_layAhead : GoodIn wsX7_pack (wsV RX7 110 RX7 yX7_layAhead wsX7_layAhead) := goodIn_app (goodIn_of _ (by decide +kernel)) ggX7_pack_X7_layAhead
set_option maxRecDepth 20000 in
theorem ggX7_pack_X7_packedLong : GoodIn wsX7_pack wsX7_packedLong := goodIn_ca (goodIn_ca (goodIn_r _ [34, 35, 3, 36, 37, 38, 39, 14, 40, 5, 4, 54, 55, 56, 57, 58, 59, 60, 61, 62, 63, 64, 65, 66, 67, 68, 69, 70, 71, 72, 73, 74, 75, 76, 77, 78] (by decide +kernel) (by decide +kernel)) (goodIn_sub (fun _ h => List.mem_cons_of_mem _ (List.mem_append_right _ h)) (by decide +kernel))) (goodIn_sub (fun _ h => List.mem_cons_of_mem _ (List.mem_append_left _ (List.mem_append_right _ h))) (by decide +kernel))
set_option maxRecDepth 20000 in
theorem gX7_pack_X7_packedLong : GoodIn wsX7_pack (wsV RX7 117 RX7 yX7_packedLong wsX7_packedLong) := goodIn_app (goodIn_of _ (by decide +kernel)) ggX7_pack_X7_packedLong
set_option maxRecDepth 20000 in
theorem ggX7_pack_X7_sumOf : GoodIn wsX7_pack wsX7_sumOf := goodIn_ca (goodIn_ca (goodIn_r _ [44, 25, 26, 54, 55, 56, 57, 58, 59, 60, 61, 62, 63, 64, 65, 66, 67, 68, 69, 70, 71, 72, 73, 74, 75, 76, 77, 78] (by decide +kernel) (by decide +kernel)) (goodIn_sub (fun _ h => List.mem_cons_of_mem _ (List.mem_append_right _ h)) (by decide +kernel))) (goodIn_sub (fun _ h => List.mem_cons_of_mem _ (List.mem_append_left _ (List.mem_append_right _ h))) (by decide +kernel))
set_option maxRecDepth 20000 in
theorem gX7_pack_X7_sumOf : GoodIn wsX7_pack (wsV RX7 135 RX7 yX7_sumOf wsX7_sumOf) := goodIn_app (goodIn_of _ (by decide +kernel)) ggX7_pack_X7_sumOf
set_option maxRecDepth 20000 in
theorem ggX7_pack_X7_put : GoodIn wsX7_pack wsX7_put := goodIn_ca (goodIn_ca (goodIn_r _ [48, 49, 7, 54, 55, 56, 57, 58, 59, 60, 61, 62, 63, 64, 65, 66, 67, 68, 69, 70, 71, 72, 73, 74, 75, 76, 77, 78] (by decide +kernel) (by decide +kernel)) (goodIn_sub (fun _ h => List.mem_cons_of_mem _ (List.mem_append_right _ h)) (by decide +kernel))) (goodIn_sub (fun _ h => List.mem_cons_of_mem _ (List.mem_append_left _ (List.mem_append_right _ h))) (by decide +kernel))
set_option maxRecDepth 20000 in
theorem gX7_pack_X7_put : GoodIn wsX7_pack (wsV RX7 144 RX7 yX7_put wsX7_put) := goodIn_app (goodIn_of _ (by decide +kernel)) ggX7_pack_X7_put
set_option maxRecDepth 20000 in
theorem ggX7_pack_X7_putItem : GoodIn wsX7_pack wsX7_putItem := goodIn_ca (goodIn_ca (goodIn_r _ [53, 36, 35, 9, 3, 4, 5, 45, 46, 47, 14, 48, 49, 7, 54, 55, 56, 57, 58, 59, 60, 61, 62, 63, 64, 65, 66, 67, 68, 69, 70, 71, 72, 73, 74, 75, 76, 77, 78] (by decide +kernel) (by decide +kernel)) (goodIn_sub (fun _ h => List.mem_cons_of_mem _ (List.mem_append_right _ h)) (by decide +kernel))) (goodIn_sub (fun _ h => List.mem_cons_of_mem _ (List.mem_append_left _ (List.mem_append_right _ h))) (by decide +kernel))
set_option maxRecDepth 20000 in
theorem gX7_pack_X7_putItem : GoodIn wsX7_pack (wsV RX7 153 RX7 yX7_putItem wsX7_putItem) := goodIn_app (goodIn_of _ (by decide +kernel)) ggX7_pack_X7_putItem
set_option maxRecDepth 20000 in
theorem ggX7_out_X7_in : GoodIn wsX7_out wsX7_in := goodIn_r _ [7] (by decide +kernel) (by decide +kernel)
set_option maxRecDepth 20000 in
theorem gX7_out_X7_in : GoodIn wsX7_out (va_wsS RX7 65 yX7_in wsX7_in) := goodIn_app (goodIn_of _ (by decide +kernel)) ggX7_out_X7_in
set_option maxRecDepth 20000 in
theorem ggX7_wrong_X7_firstWith : GoodIn wsX7_wrong wsX7_firstWith := goodIn_ca (goodIn_ca (goodIn_r _ [10, 11, 27, 28, 29, 30, 31, 32, 33, 34, 35, 36, 37, 38, 39, 40, 41, 42, 43, 44, 45, 46, 47, 48, 49, 50, 51] (by decide +kernel) (by decide +kernel)) (goodIn_sub (fun _ h => List.mem_cons_of_mem _ (List.mem_append_left _ (List.mem_append_right _ h))) (by decide +kernel))) (goodIn_sub (fun _ h => List.mem_cons_of_mem _ (List.mem_append_right _ h)) (by decide +kernel))
set_option maxRecDepth 20000 in
theorem gX7_wrong_X7_firstWith : GoodIn wsX7_wrong (wsV RX7 156 RX7 yX7_firstWith wsX7_firstWith) := goodIn_app (goodIn_of _ (by decide +kernel)) ggX7_wrong_X7_firstWith
set_option maxRecDepth 20000 in
theorem ggX7_wrong_X7_sumOf : GoodIn wsX7_wrong wsX7_sumOf := goodIn_ca (goodIn_ca (goodIn_r _ [15, 16, 17, 27, 28, 29, 30, 31, 32, 33, 34, 35, 36, 37, 38, 39, 40, 41, 42, 43, 44, 45, 46, 47, 48, 49, 50, 51] (by decide +kernel) (by decide +kernel)) (goodIn_sub (fun _ h => List.mem_cons_of_mem _ (List.mem_append_left _ (List.mem_append_right _ h))) (by decide +kernel))) (goodIn_sub (fun _ h => List.mem_cons_of_mem _ (List.mem_append_right _ h)) (by decide +kernel))
set_option maxRecDepth 20000 in
theorem gX7_wrong_X7_sumOf : GoodIn wsX7_wrong (wsV RX7 135 RX7 yX7_sumOf wsX7_sumOf) := goodIn_app (goodIn_of _ (by decide +kernel)) ggX7_wrong_X7_sumOf
set_option maxRecDepth 20000 in
theorem ggX7_wrong_X7_layAhead : GoodIn wsX7_wrong wsX7_layAhead := goodIn_ca (goodIn_ca (goodIn_r _ [21, 5, 22, 16, 4, 17, 23, 24, 25, 9, 26, 27, 28, 29, 30, 31, 32, 33, 34, 35, 36, 37, 38, 39, 40, 41, 42, 43, 44, 45, 46, 47, 48, 49, 50, 51] (by decide +kernel) (by decide +kernel)) (goodIn_sub (fun _ h => List.mem_cons_of_mem _ (List.mem_append_right _ h)) (by decide +kernel))) (goodIn_sub (fun _ h => List.mem_cons_of_mem _ (List.mem_append_left _ (List.mem_append_right _ h))) (by decide +kernel))
set_option maxRecDepth 20000 in
theorem gX7_wrong_X7_layAhead : GoodIn wsX7_wrong (wsV RX7 110 RX7 yX7_layAhead wsX7_layAhead) := goodIn_app (goodIn_of _ (by decide +kernel)) ggX7_wrong_X7_layAhead
set_option maxRecDepth 20000 in
theorem ggX7_open_X7_wrong : GoodIn wsX7_open wsX7_wrong := goodIn_ca (goodIn_ca (goodIn_r _ [12, 2, 13, 3, 6, 7, 14, 15, 16, 11, 17, 18, 19, 20, 21, 22, 23, 24, 25, 26, 27, 28, 29, 30, 31, 32, 33, 34, 35, 36, 37, 38, 39, 40, 41, 42, 43, 44, 45, 46, 47, 48, 49, 50, 51, 52, 53, 54, 55, 56, 57, 58] (by decide +kernel) (by decide +kernel)) (goodIn_sub (fun _ h => List.mem_cons_of_mem _ (List.mem_append_right _ h)) (by decide +kernel))) (goodIn_sub (fun _ h => List.mem_cons_of_mem _ (List.mem_append_left _ (List.mem_append_right _ h))) (by decide +kernel))
set_option maxRecDepth 20000 in
theorem gX7_open_X7_wrong : GoodIn wsX7_open (wsV RX7 159 RX7 yX7_wrong wsX7_wrong) := goodIn_app (goodIn_of _ (by decide +kernel)) ggX7_open_X7_wrong
set_option maxRecDepth 20000 in
theorem ggX7_text_X7_in : GoodIn wsX7_text wsX7_in := goodIn_r _ [7] (by decide +kernel) (by decide +kernel)
set_option maxRecDepth 20000 in
theorem gX7_text_X7_in : GoodIn wsX7_text (va_wsS RX7 65 yX7_in wsX7_in) := goodIn_app (goodIn_of _ (by decide +kernel)) ggX7_text_X7_in
set_option maxRecDepth 20000 in
theorem ggX7_size_X7_in : GoodIn wsX7_size wsX7_in := goodIn_r _ [6] (by decide +kernel) (by decide +kernel)
set_option maxRecDepth 20000 in
theorem gX7_size_X7_in : GoodIn wsX7_size (va_wsS RX7 65 yX7_in wsX7_in) := goodIn_app (goodIn_of _ (by decide +kernel)) ggX7_size_X7_in
set_option maxRecDepth 20000 in
theorem ggX7_size_X7_isThere : GoodIn wsX7_size wsX7_isThere := goodIn_ca (goodIn_ca (goodIn_r _ [10, 11, 12, 3, 4, 5, 6, 47, 48, 49, 50, 51, 52, 53, 54, 55, 56, 57, 58, 59, 60, 61, 62, 63, 64, 65, 66, 67, 68, 69, 70, 71] (by decide +kernel) (by decide +kernel)) (goodIn_sub (fun _ h => List.mem_cons_of_mem _ (List.mem_append_right _ h)) (by decide +kernel))) (goodIn_sub (fun _ h => List.mem_cons_of_mem _ (List.mem_append_left _ (List.mem_append_right _ h))) (by decide +kernel))
set_option maxRecDepth 20000 in
theorem gX7_size_X7_isThere : GoodIn wsX7_size (wsV RX7 125 RX7 yX7_isThere wsX7_isThere) := goodIn_app (goodIn_of _ (by decide +kernel)) ggX7_size_X7_isThere
set_option maxRecDepth 20000 in
theorem ggX7_size_X7_sizeOf : GoodIn wsX7_size wsX7_sizeOf := goodIn_ca (goodIn_ca (goodIn_r _ [16, 17, 18, 19, 5, 20, 21, 22, 23, 24, 25, 26, 27, 28, 29, 30, 31, 32, 33, 34, 35, 36, 37, 38, 39, 40, 41, 42, 43, 44, 45, 46, 47, 48, 49, 50, 51, 52, 53, 54, 55, 56, 57, 58, 59, 60, 61, 62, 63, 64, 65, 66, 67, 68, 69, 70, 71] (by decide +kernel) (by decide +kernel)) (goodIn_sub (fun _ h => List.mem_cons_of_mem _ (List.mem_append_left _ (List.mem_append_right _ h))) (by decide +kernel))) (goodIn_sub (fun _ h => List.mem_cons_of_mem _ (List.mem_append_right _ h)) (by decide +kernel))
set_option maxRecDepth 20000 in
theorem gX7_size_X7_sizeOf : GoodIn wsX7_size (wsV RX7 121 RX7 yX7_sizeOf wsX7_sizeOf) := goodIn_app (goodIn_of _ (by decide +kernel)) ggX7_size_X7_sizeOf
set_option maxRecDepth 20000 in
theorem ggX7_best_X7_in : GoodIn wsX7_best wsX7_in := goodIn_r _ [6] (by decide +kernel) (by decide +kernel)
set_option maxRecDepth 20000 in
theorem gX7_best_X7_in : GoodIn wsX7_best (va_wsS RX7 65 yX7_in wsX7_in) := goodIn_app (goodIn_of _ (by decide +kernel)) ggX7_best_X7_in
set_option maxRecDepth 20000 in
theorem ggX7_best_X7_sizeOf : GoodIn wsX7_best wsX7_sizeOf := goodIn_ca (goodIn_ca (goodIn_r _ [10, 11, 12, 13, 5, 14, 15, 16, 17, 18, 19, 20, 21, 22, 23, 24, 25, 26, 27, 28, 29, 30, 31, 32, 33, 34, 35, 36, 37, 38, 39, 40, 47, 48, 49, 50, 51, 52, 53, 54, 55, 56, 57, 58, 59, 60, 61, 62, 63, 64, 65, 66, 67, 68, 69, 70, 71] (by decide +kernel) (by decide +kernel)) (goodIn_sub (fun _ h => List.mem_cons_of_mem _ (List.mem_append_left _ (List.mem_append_right _ h))) (by decide +kernel))) (goodIn_sub (fun _ h => List.mem_cons_of_mem _ (List.mem_append_right _ h)) (by decide +kernel))
set_option maxRecDepth 20000 in
theorem gX7_best_X7_sizeOf : GoodIn wsX7_best (wsV RX7 121 RX7 yX7_sizeOf wsX7_sizeOf) := goodIn_app (goodIn_of _ (by decide +kernel)) ggX7_best_X7_sizeOf
set_option maxRecDepth 20000 in
theorem ggX7_best_X7_isThere : GoodIn wsX7_best wsX7_isThere := goodIn_ca (goodIn_ca (goodIn_r _ [44, 45, 46, 3, 4, 5, 6, 47, 48, 49, 50, 51, 52, 53, 54, 55, 56, 57, 58, 59, 60, 61, 62, 63, 64, 65, 66, 67, 68, 69, 70, 71] (by decide +kernel) (by decide +kernel)) (goodIn_sub (fun _ h => List.mem_cons_of_mem _ (List.mem_append_right _ h)) (by decide +kernel))) (goodIn_sub (fun _ h => List.mem_cons_of_mem _ (List.mem_append_left _ (List.mem_append_right _ h))) (by decide +kernel))
set_option maxRecDepth 20000 in
theorem gX7_best_X7_isThere : GoodIn wsX7_best (wsV RX7 125 RX7 yX7_isThere wsX7_isThere) := goodIn_app (goodIn_of _ (by decide +kernel)) ggX7_best_X7_isThere
set_option maxRecDepth 20000 in
theorem ggX7_share_X7_isThere : GoodIn wsX7_share wsX7_isThere := goodIn_ca (goodIn_ca (goodIn_r _ [7, 8, 9, 10, 11, 6, 12, 51, 52, 53, 54, 55, 56, 57, 58, 59, 60, 61, 62, 63, 64, 65, 66, 67, 68, 69, 70, 71, 72, 73, 74, 75] (by decide +kernel) (by decide +kernel)) (goodIn_sub (fun _ h => List.mem_cons_of_mem _ (List.mem_append_right _ h)) (by decide +kernel))) (goodIn_sub (fun _ h => List.mem_cons_of_mem _ (List.mem_append_left _ (List.mem_append_left _ (List.mem_append_right _ h)))) (by decide +kernel))
set_option maxRecDepth 20000 in
theorem gX7_share_X7_isThere : GoodIn wsX7_share (wsV RX7 125 RX7 yX7_isThere wsX7_isThere) := goodIn_app (goodIn_of _ (by decide +kernel)) ggX7_share_X7_isThere
set_option maxRecDepth 20000 in
theorem ggX7_share_X7_sizeOfAll : GoodIn wsX7_share wsX7_sizeOfAll := goodIn_ca (goodIn_ca (goodIn_r _ [16, 2, 17, 18, 19, 6, 20, 21, 22, 23, 24, 25, 26, 27, 28, 29, 30, 31, 32, 33, 34, 35, 36, 37, 38, 39, 40, 41, 42, 43, 44, 45, 46, 47, 48, 49, 50, 51, 52, 53, 54, 55, 56, 57, 58, 59, 60, 61, 62, 63, 64, 65, 66, 67, 68, 69, 70, 71, 72, 73, 74, 75] (by decide +kernel) (by decide +kernel)) (goodIn_sub (fun _ h => List.mem_cons_of_mem _ (List.mem_append_left _ (List.mem_append_left _ (List.mem_append_right _ h)))) (by decide +kernel))) (goodIn_sub (fun _ h => List.mem_cons_of_mem _ (List.mem_append_right _ h)) (by decide +kernel))
set_option maxRecDepth 20000 in
theorem gX7_share_X7_sizeOfAll : GoodIn wsX7_share (wsV RX7 129 RX7 yX7_sizeOfAll wsX7_sizeOfAll) := goodIn_app (goodIn_of _ (by decide +kernel)) ggX7_share_X7_sizeOfAll
set_option maxRecDepth 20000 in
theorem ggL_content_X6_content : GoodIn wsL_content wsX6_content := goodIn_ca (goodIn_ca (goodIn_r _ [7, 8, 9, 10, 11, 12, 13, 14, 15, 6, 16, 17, 18, 19, 20, 21, 22, 23, 24, 25, 26, 27, 28, 29, 30, 31, 32, 33, 34, 35, 36, 37, 38, 39, 40, 41, 42, 43, 44, 45, 46, 47, 48, 49, 50, 51, 52, 53, 54, 55, 56, 57, 58, 59, 60, 61, 62, 63, 64, 65, 66, 67, 68, 69, 70, 71, 72, 73, 74, 75] (by decide +kernel) (by decide +kernel)) (goodIn_sub (fun _ h => List.mem_cons_of_mem _ (List.mem_append_left _ (List.mem_append_right _ h))) (by decide +kernel))) (goodIn_sub (fun _ h => List.mem_cons_of_mem _ (List.mem_append_right _ h)) (by decide +kernel))
set_option maxRecDepth 20000 in
theorem gL_content_X6_content : GoodIn wsL_content (wsV RL 7 RX6 yX6_content wsX6_content) := goodIn_app (goodIn_of _ (by decide +kernel)) ggL_content_X6_content
set_option maxRecDepth 20000 in
theorem ggL_out_X6_out : GoodIn wsL_out wsX6_out := goodIn_ca (goodIn_ca (goodIn_r _ [6, 7, 8, 9, 10, 11, 12, 13, 14, 15, 16, 17, 18, 19, 20, 21, 22, 23, 24, 25, 26, 27, 28, 29, 30, 31, 32, 33, 34, 35, 36, 37, 38, 39, 40, 41, 42, 43, 44, 45, 46, 47, 48, 49, 50, 51, 52, 53, 54] (by decide +kernel) (by decide +kernel)) (goodIn_sub (fun _ h => List.mem_cons_of_mem _ (List.mem_append_left _ (List.mem_append_right _ h))) (by decide +kernel))) (goodIn_sub (fun _ h => List.mem_cons_of_mem _ (List.mem_append_right _ h)) (by decide +kernel))
set_option maxRecDepth 20000 in
theorem gL_out_X6_out : GoodIn wsL_out (wsV RL 17 RX6 yX6_out wsX6_out) := goodIn_app (goodIn_of _ (by decide +kernel)) ggL_out_X6_out
set_option maxRecDepth 20000 in
theorem ggL_text_X6_text : GoodIn wsL_text wsX6_text := goodIn_ca (goodIn_ca (goodIn_r _ [6, 7, 8, 9, 10, 11, 12, 13, 14, 15, 16, 17, 18, 19, 20, 21, 22, 23, 24, 25, 26, 27, 28, 29, 30, 31, 32, 33, 34, 35, 36, 37, 38, 39, 40, 41, 42, 43, 44, 45] (by decide +kernel) (by decide +kernel)) (goodIn_sub (fun _ h => List.mem_cons_of_mem _ (List.mem_append_left _ (List.mem_append_right _ h))) (by decide +kernel))) (goodIn_sub (fun _ h => List.mem_cons_of_mem _ (List.mem_append_right _ h)) (by decide +kernel))
set_option maxRecDepth 20000 in
theorem gL_text_X6_text : GoodIn wsL_text (wsV RL 21 RX6 yX6_text wsX6_text) := goodIn_app (goodIn_of _ (by decide +kernel)) ggL_text_X6_text
set_option maxRecDepth 20000 in
theorem ggL_share_X6_share : GoodIn wsL_share wsX6_share := goodIn_ca (goodIn_ca (goodIn_ca (goodIn_ca (goodIn_r _ [6, 7, 8, 9, 10, 11, 12, 5, 13, 14, 15, 16, 17, 18, 19, 20, 21, 22, 23, 24, 25, 26, 27, 28, 29, 30, 31, 32, 33, 34, 35, 36, 37, 38, 39, 40, 41, 42, 43, 44, 45, 46, 47, 48, 49, 50, 51, 52, 53, 54, 55, 56, 57, 58, 59, 60, 61, 62, 63, 64, 65, 66, 67, 68, 69, 70, 71, 72, 73, 74, 75, 76, 77, 78, 79, 80, 81, 82, 83, 84, 85, 86, 87, 88, 89, 90, 91, 92, 93, 94, 95, 96, 97, 98, 99, 100, 101, 102, 103, 104, 105, 106, 107, 108, 109, 110, 111, 112] (by decide +kernel) (by decide +kernel)) (goodIn_sub (fun _ h => List.mem_cons_of_mem _ (List.mem_append_left _ (List.mem_append_left _ (List.mem_append_left _ (List.mem_append_right _ h))))) (by decide +kernel))) (goodIn_sub (fun _ h => List.mem_cons_of_mem _ (List.mem_append_left _ (List.mem_append_right _ h))) (by decide +kernel))) (goodIn_sub (fun _ h => List.mem_cons_of_mem _ (List.mem_append_right _ h)) (by decide +kernel))) (goodIn_sub (fun _ h => List.mem_cons_of_mem _ (List.mem_append_left _ (List.mem_append_left _ (List.mem_append_right _ h)))) (by decide +kernel))
set_option maxRecDepth 20000 in
theorem gL_share_X6_share : GoodIn wsL_share (wsV RL 24 RX6 yX6_share wsX6_share) := goodIn_app (goodIn_of _ (by decide +kernel)) ggL_share_X6_share
set_option maxRecDepth 20000 in
theorem ggL_law_X6_init : GoodIn wsL_law wsX6_init := goodIn_r _ [10, 11, 12, 13, 14, 15, 16, 17, 18, 19, 20, 21, 22, 23, 24, 25, 26, 27, 28, 29, 30, 31, 32, 33, 34, 35, 36, 37, 38, 39, 40, 41, 42, 43, 44, 45, 46, 47, 48, 49, 50, 51, 52, 53, 54, 55, 56, 57, 58, 59, 60, 61, 62, 63, 64, 65, 66, 67, 68, 69, 70, 71, 72, 73, 74, 75, 76, 77, 78, 79, 80, 81, 82, 83, 84, 85, 86, 87, 88, 89, 90, 91, 92, 93, 94, 95, 703, 704, 667, 668, 669, 670, 671, 672, 673, 674, 675, 676, 677, 705, 706, 707, 708, 709, 710, 711, 712, 713, 714, 715, 716, 717, 718, 719, 720, 721, 722, 723, 724, 725, 726, 727, 728, 729, 730] (by decide +kernel) (by decide +kernel)
set_option maxRecDepth 20000 in
theorem gL_law_X6_init : GoodIn wsL_law (wsX6_init) := ggL_law_X6_init
set_option maxRecDepth 20000 in
theorem ggL_law_X7_init : GoodIn wsL_law wsX7_init := goodIn_r _ [98, 99, 12, 13, 71, 100, 101, 102, 103, 104, 105, 106, 107, 82, 108, 109, 110, 111, 112, 113, 114, 115, 678, 679, 680, 681, 682, 683, 684, 685, 686, 687, 688, 689, 690, 691, 692, 693, 694, 695, 696, 697, 698, 699, 700, 701, 702] (by decide +kernel) (by decide +kernel)
set_option maxRecDepth 20000 in
theorem gL_law_X7_init : GoodIn wsL_law (wsX7_init) := ggL_law_X7_init
set_option maxRecDepth 20000 in
theorem ggL_law_X6_feed : GoodIn wsL_law wsX6_feed := goodIn_ca (goodIn_ca (goodIn_r _ [119, 17, 120, 121, 122, 16, 123, 51, 124, 125, 126, 127, 128, 129, 130, 131, 132, 667, 668, 669, 670, 671, 672, 673, 674, 675, 676, 677, 703, 704] (by decide +kernel) (by decide +kernel)) (goodIn_sub (fun _ h => List.mem_append_left _ (List.mem_append_left _ (List.mem_append_left _ (List.mem_append_right _ h)))) (by decide +kernel))) (goodIn_sub (fun _ h => List.mem_append_left _ (List.mem_append_left _ (List.mem_append_right _ h))) (by decide +kernel))
set_option maxRecDepth 20000 in
theorem gL_law_X6_feed : GoodIn wsL_law (wsV RL 35 RX6 yX6_feed wsX6_feed) := goodIn_app (goodIn_of _ (by decide +kernel)) ggL_law_X6_feed
set_option maxRecDepth 20000 in
theorem ggL_law_X7_feed : GoodIn wsL_law wsX7_feed := goodIn_ca (goodIn_ca (goodIn_r _ [136, 137, 138, 115, 100, 139, 140, 5, 141, 678, 679, 680, 681, 682, 683, 684, 685, 686, 687, 688, 689, 690, 691, 692, 693, 694, 695, 696, 697, 698, 699, 700, 701, 702] (by decide +kernel) (by decide +kernel)) (goodIn_sub (fun _ h => List.mem_append_left _ (List.mem_append_left _ (List.mem_append_right _ h))) (by decide +kernel))) (goodIn_sub (fun _ h => List.mem_append_left _ (List.mem_append_left _ (List.mem_append_left _ (List.mem_append_right _ h)))) (by decide +kernel))
set_option maxRecDepth 20000 in
theorem gL_law_X7_feed : GoodIn wsL_law (wsV RL 39 RX7 yX7_feed wsX7_feed) := goodIn_app (goodIn_of _ (by decide +kernel)) ggL_law_X7_feed
set_option maxRecDepth 20000 in
theorem ggL_law_X6_sample : GoodIn wsL_law wsX6_sample := goodIn_ca (goodIn_ca (goodIn_r _ [145, 17, 146, 18, 129, 130, 131, 16, 132, 124, 147, 148, 149, 150, 151, 152, 153, 154, 155, 156, 157, 158, 159, 160, 161, 162, 51, 163, 164, 165, 166, 167, 126, 127, 128, 168, 667, 668, 669, 670, 671, 672, 673, 674, 675, 676, 677, 703, 704] (by decide +kernel) (by decide +kernel)) (goodIn_sub (fun _ h => List.mem_append_left _ (List.mem_append_left _ (List.mem_append_left _ (List.mem_append_right _ h)))) (by decide +kernel))) (goodIn_sub (fun _ h => List.mem_append_left _ (List.mem_append_left _ (List.mem_append_right _ h))) (by decide +kernel))
set_option maxRecDepth 20000 in
theorem gL_law_X6_sample : GoodIn wsL_law (wsV RL 40 RX6 yX6_sample wsX6_sample) := goodIn_app (goodIn_of _ (by decide +kernel)) ggL_law_X6_sample
set_option maxRecDepth 20000 in
theorem ggL_law_X7_sample : GoodIn wsL_law wsX7_sample := goodIn_ca (goodIn_ca (goodIn_r _ [172, 137, 115, 173, 174, 102, 100, 101, 139, 140, 5, 141, 678, 679, 680, 681, 682, 683, 684, 685, 686, 687, 688, 689, 690, 691, 692, 693, 694, 695, 696, 697, 698, 699, 700, 701, 702] (by decide +kernel) (by decide +kernel)) (goodIn_sub (fun _ h => List.mem_append_left _ (List.mem_append_left _ (List.mem_append_right _ h))) (by decide +kernel))) (goodIn_sub (fun _ h => List.mem_append_left _ (List.mem_append_left _ (List.mem_append_left _ (List.mem_append_right _ h)))) (by decide +kernel))
set_option maxRecDepth 20000 in
theorem gL_law_X7_sample : GoodIn wsL_law (wsV RL 44 RX7 yX7_sample wsX7_sample) := goodIn_app (goodIn_of _ (by decide +kernel)) ggL_law_X7_sample
set_option maxRecDepth 20000 in
theorem ggL_law_X6_forget : GoodIn wsL_law wsX6_forget := goodIn_r _ [178, 146, 667, 668, 669, 670, 671, 672, 673, 674, 675, 676, 677] (by decide +kernel) (by decide +kernel)
set_option maxRecDepth 20000 in
theorem gL_law_X6_forget : GoodIn wsL_law (wsV RL 45 RX6 yX6_forget wsX6_forget) := goodIn_app (goodIn_of _ (by decide +kernel)) ggL_law_X6_forget
set_option maxRecDepth 20000 in
theorem ggL_law_X7_forget : GoodIn wsL_law wsX7_forget := goodIn_r _ [182, 137, 174, 678, 679, 680, 681, 682, 683, 684, 685, 686, 687, 688, 689, 690, 691, 692, 693, 694, 695, 696, 697, 698, 699, 700, 701, 702] (by decide +kernel) (by decide +kernel)
set_option maxRecDepth 20000 in
theorem gL_law_X7_forget : GoodIn wsL_law (wsV RL 48 RX7 yX7_forget wsX7_forget) := goodIn_app (goodIn_of _ (by decide +kernel)) ggL_law_X7_forget
set_option maxRecDepth 20000 in
theorem ggL_law_X6_train : GoodIn wsL_law wsX6_train := goodIn_ca (goodIn_ca (goodIn_r _ [186, 146, 37, 18, 20, 187, 188, 2, 189, 190, 191, 192, 193, 194, 195, 36, 196, 197, 198, 81, 84, 199, 152, 153, 16, 154, 124, 200, 201, 202, 203, 83, 204, 205, 206, 207, 208, 156, 157, 158, 159, 160, 161, 162, 51, 163, 164, 165, 166, 167, 126, 127, 128, 209, 130, 131, 132, 210, 211, 212, 213, 214, 215, 216, 217, 218, 219, 220, 221, 222, 223, 224, 225, 226, 85, 87, 227, 228, 229, 230, 86, 231, 232, 233, 234, 235, 236, 237, 238, 239, 240, 241, 242, 243, 244, 245, 22, 246, 247, 248, 249, 57, 250, 251, 252, 253, 254, 255, 256, 257, 258, 259, 121, 122, 123, 260, 261, 262, 263, 264, 667, 668, 669, 670, 671, 672, 673, 674, 675, 676, 677, 719, 720, 721, 722, 723, 724, 725, 726, 703, 704, 705, 706, 707, 708] (by decide +kernel) (by decide +kernel)) (goodIn_sub (fun _ h => List.mem_append_left _ (List.mem_append_left _ (List.mem_append_left _ (List.mem_append_right _ h)))) (by decide +kernel))) (goodIn_sub (fun _ h => List.mem_append_left _ (List.mem_append_left _ (List.mem_append_right _ h))) (by decide +kernel))
set_option maxRecDepth 20000 in
theorem gL_law_X6_train : GoodIn wsL_law (wsV RL 49 RX6 yX6_train wsX6_train) := goodIn_app (goodIn_of _ (by decide +kernel)) ggL_law_X6_train
set_option maxRecDepth 20000 in
theorem ggL_law_X7_train : GoodIn wsL_law wsX7_train := goodIn_ca (goodIn_ca (goodIn_r _ [268, 137, 269, 270, 271, 138, 272, 174, 108, 273, 101, 109, 102, 103, 104, 106, 105, 107, 139, 140, 5, 141, 274, 275, 276, 277, 278, 279, 280, 281, 282, 283, 284, 285, 678, 679, 680, 681, 682, 683, 684, 685, 686, 687, 688, 689, 690, 691, 692, 693, 694, 695, 696, 697, 698, 699, 700, 701, 702] (by decide +kernel) (by decide +kernel)) (goodIn_sub (fun _ h => List.mem_append_left _ (List.mem_append_left _ (List.mem_append_right _ h))) (by decide +kernel))) (goodIn_sub (fun _ h => List.mem_append_left _ (List.mem_append_left _ (List.mem_append_left _ (List.mem_append_right _ h)))) (by decide +kernel))
set_option maxRecDepth 20000 in
theorem gL_law_X7_train : GoodIn wsL_law (wsV RL 53 RX7 yX7_train wsX7_train) := goodIn_app (goodIn_of _ (by decide +kernel)) ggL_law_X7_train
set_option maxRecDepth 20000 in
theorem ggL_law_X6_give : GoodIn wsL_law wsX6_give := goodIn_ca (goodIn_ca (goodIn_r _ [289, 17, 20, 187, 188, 2, 189, 190, 191, 192, 129, 130, 131, 16, 132, 124, 243, 244, 245, 22, 246, 247, 248, 249, 57, 250, 152, 153, 154, 290, 256, 257, 258, 259, 121, 122, 123, 51, 260, 156, 157, 158, 159, 160, 161, 162, 163, 164, 165, 166, 167, 126, 127, 128, 168, 291, 292, 293, 294, 667, 668, 669, 670, 671, 672, 673, 674, 675, 676, 677, 703, 704, 705, 706, 707, 708] (by decide +kernel) (by decide +kernel)) (goodIn_sub (fun _ h => List.mem_append_left _ (List.mem_append_left _ (List.mem_append_left _ (List.mem_append_right _ h)))) (by decide +kernel))) (goodIn_sub (fun _ h => List.mem_append_left _ (List.mem_append_left _ (List.mem_append_right _ h))) (by decide +kernel))
end
section
set_option maxRecDepth 20000 in
theorem gL_law_X6_give : GoodIn wsL_law (wsV RL 54 RX6 yX6_give wsX6_give) := goodIn_app (goodIn_of _ (by decide +kernel)) ggL_law_X6_give
set_option maxRecDepth 20000 in
theorem ggL_law_X7_give : GoodIn wsL_law wsX7_give := goodIn_ca (goodIn_ca (goodIn_r _ [298, 137, 269, 270, 115, 103, 106, 104, 105, 107, 100, 139, 140, 5, 141, 678, 679, 680, 681, 682, 683, 684, 685, 686, 687, 688, 689, 690, 691, 692, 693, 694, 695, 696, 697, 698, 699, 700, 701, 702] (by decide +kernel) (by decide +kernel)) (goodIn_sub (fun _ h => List.mem_append_left _ (List.mem_append_left _ (List.mem_append_right _ h))) (by decide +kernel))) (goodIn_sub (fun _ h => List.mem_append_left _ (List.mem_append_left _ (List.mem_append_left _ (List.mem_append_right _ h)))) (by decide +kernel))
set_option maxRecDepth 20000 in
theorem gL_law_X7_give : GoodIn wsL_law (wsV RL 58 RX7 yX7_give wsX7_give) := goodIn_app (goodIn_of _ (by decide +kernel)) ggL_law_X7_give
set_option maxRecDepth 20000 in
theorem ggL_law_X6_trim : GoodIn wsL_law wsX6_trim := goodIn_ca (goodIn_ca (goodIn_r _ [302, 146, 303, 304, 305, 2, 306, 20, 187, 188, 189, 307, 308, 309, 22, 310, 247, 311, 312, 313, 314, 24, 261, 262, 263, 264, 249, 291, 292, 293, 294, 57, 315, 316, 317, 318, 33, 18, 319, 320, 321, 32, 322, 70, 323, 324, 325, 48, 326, 327, 74, 328, 329, 330, 331, 16, 332, 124, 333, 46, 47, 49, 51, 334, 335, 336, 337, 73, 72, 338, 205, 206, 207, 339, 340, 341, 342, 75, 343, 344, 345, 346, 347, 348, 349, 350, 351, 352, 353, 354, 355, 356, 357, 358, 359, 248, 360, 148, 149, 150, 151, 152, 153, 154, 155, 156, 157, 158, 159, 160, 161, 162, 163, 164, 165, 166, 167, 126, 127, 128, 361, 362, 363, 364, 365, 366, 367, 368, 667, 668, 669, 670, 671, 672, 673, 674, 675, 676, 677, 705, 706, 707, 708, 712, 713, 714, 715, 716, 717, 718, 703, 704] (by decide +kernel) (by decide +kernel)) (goodIn_sub (fun _ h => List.mem_append_left _ (List.mem_append_left _ (List.mem_append_left _ (List.mem_append_right _ h)))) (by decide +kernel))) (goodIn_sub (fun _ h => List.mem_append_left _ (List.mem_append_left _ (List.mem_append_right _ h))) (by decide +kernel))
set_option maxRecDepth 20000 in
theorem gL_law_X6_trim : GoodIn wsL_law (wsV RL 59 RX6 yX6_trim wsX6_trim) := goodIn_app (goodIn_of _ (by decide +kernel)) ggL_law_X6_trim
set_option maxRecDepth 20000 in
theorem ggL_law_X7_trim : GoodIn wsL_law wsX7_trim := goodIn_ca (goodIn_ca (goodIn_r _ [372, 137, 174, 104, 373, 374, 375, 5, 376, 269, 103, 139, 140, 141, 377, 378, 379, 380, 381, 382, 383, 384, 385, 386, 387, 388, 389, 105, 106, 110, 107, 390, 391, 392, 393, 394, 395, 396, 397, 101, 398, 102, 399, 400, 401, 402, 111, 112, 403, 404, 405, 406, 407, 408, 409, 410, 678, 679, 680, 681, 682, 683, 684, 685, 686, 687, 688, 689, 690, 691, 692, 693, 694, 695, 696, 697, 698, 699, 700, 701, 702] (by decide +kernel) (by decide +kernel)) (goodIn_sub (fun _ h => List.mem_append_left _ (List.mem_append_left _ (List.mem_append_left _ (List.mem_append_right _ h)))) (by decide +kernel))) (goodIn_sub (fun _ h => List.mem_append_left _ (List.mem_append_left _ (List.mem_append_right _ h))) (by decide +kernel))
set_option maxRecDepth 20000 in
theorem gL_law_X7_trim : GoodIn wsL_law (wsV RL 62 RX7 yX7_trim wsX7_trim) := goodIn_app (goodIn_of _ (by decide +kernel)) ggL_law_X7_trim
set_option maxRecDepth 20000 in
theorem ggL_law_X6_drop : GoodIn wsL_law wsX6_drop := goodIn_ca (goodIn_r _ [414, 303, 304, 305, 2, 306, 20, 187, 188, 189, 307, 308, 309, 22, 310, 247, 261, 262, 263, 264, 249, 243, 244, 245, 246, 248, 57, 250, 152, 153, 16, 154, 124, 667, 668, 669, 670, 671, 672, 673, 674, 675, 676, 677, 705, 706, 707, 708, 703, 704] (by decide +kernel) (by decide +kernel)) (goodIn_sub (fun _ h => List.mem_append_left _ (List.mem_append_left _ (List.mem_append_left _ (List.mem_append_right _ h)))) (by decide +kernel))
set_option maxRecDepth 20000 in
theorem gL_law_X6_drop : GoodIn wsL_law (wsV RL 63 RX6 yX6_drop wsX6_drop) := goodIn_app (goodIn_of _ (by decide +kernel)) ggL_law_X6_drop
set_option maxRecDepth 20000 in
theorem ggL_law_X7_drop : GoodIn wsL_law wsX7_drop := goodIn_ca (goodIn_ca (goodIn_r _ [418, 137, 103, 104, 373, 374, 375, 5, 376, 269, 139, 140, 141, 678, 679, 680, 681, 682, 683, 684, 685, 686, 687, 688, 689, 690, 691, 692, 693, 694, 695, 696, 697, 698, 699, 700, 701, 702] (by decide +kernel) (by decide +kernel)) (goodIn_sub (fun _ h => List.mem_append_left _ (List.mem_append_left _ (List.mem_append_left _ (List.mem_append_right _ h)))) (by decide +kernel))) (goodIn_sub (fun _ h => List.mem_append_left _ (List.mem_append_left _ (List.mem_append_right _ h))) (by decide +kernel))
set_option maxRecDepth 20000 in
theorem gL_law_X7_drop : GoodIn wsL_law (wsV RL 66 RX7 yX7_drop wsX7_drop) := goodIn_app (goodIn_of _ (by decide +kernel)) ggL_law_X7_drop
set_option maxRecDepth 20000 in
theorem ggL_law_X6_told : GoodIn wsL_law wsX6_told := goodIn_ca (goodIn_ca (goodIn_r _ [422, 303, 304, 305, 2, 306, 20, 187, 188, 189, 307, 308, 309, 22, 310, 247, 423, 424, 425, 426, 261, 262, 263, 264, 249, 291, 292, 293, 294, 57, 129, 130, 131, 16, 132, 124, 427, 428, 429, 430, 431, 432, 433, 434, 435, 436, 437, 438, 159, 160, 161, 162, 51, 163, 164, 165, 166, 439, 440, 441, 442, 248, 667, 668, 669, 670, 671, 672, 673, 674, 675, 676, 677, 705, 706, 707, 708, 703, 704] (by decide +kernel) (by decide +kernel)) (goodIn_sub (fun _ h => List.mem_append_left _ (List.mem_append_left _ (List.mem_append_left _ (List.mem_append_right _ h)))) (by decide +kernel))) (goodIn_sub (fun _ h => List.mem_append_left _ (List.mem_append_left _ (List.mem_append_right _ h))) (by decide +kernel))
set_option maxRecDepth 20000 in
theorem gL_law_X6_told : GoodIn wsL_law (wsV RL 67 RX6 yX6_told wsX6_told) := goodIn_app (goodIn_of _ (by decide +kernel)) ggL_law_X6_told
set_option maxRecDepth 20000 in
theorem ggL_law_X7_told : GoodIn wsL_law wsX7_told := goodIn_ca (goodIn_ca (goodIn_r _ [446, 137, 103, 104, 106, 447, 105, 373, 374, 375, 5, 376, 269, 139, 140, 141, 448, 449, 450, 451, 107, 678, 679, 680, 681, 682, 683, 684, 685, 686, 687, 688, 689, 690, 691, 692, 693, 694, 695, 696, 697, 698, 699, 700, 701, 702] (by decide +kernel) (by decide +kernel)) (goodIn_sub (fun _ h => List.mem_append_left _ (List.mem_append_left _ (List.mem_append_left _ (List.mem_append_right _ h)))) (by decide +kernel))) (goodIn_sub (fun _ h => List.mem_append_left _ (List.mem_append_left _ (List.mem_append_right _ h))) (by decide +kernel))
set_option maxRecDepth 20000 in
theorem gL_law_X7_told : GoodIn wsL_law (wsV RL 70 RX7 yX7_told wsX7_told) := goodIn_app (goodIn_of _ (by decide +kernel)) ggL_law_X7_told
set_option maxRecDepth 20000 in
theorem ggL_law_L_content : GoodIn wsL_law wsL_content := goodIn_ca (goodIn_ca (goodIn_r _ [455, 456, 457, 458, 459, 460, 2, 461, 462, 463, 464, 465, 466, 467, 187, 188, 189, 303, 304, 305, 306, 20, 307, 308, 309, 22, 310, 247, 291, 292, 293, 294, 57, 468, 164, 165, 16, 166, 124, 469, 160, 161, 162, 51, 163, 731, 732, 733, 734, 735, 736, 737, 738, 739, 740, 741, 742, 743, 744, 667, 668, 669, 670, 671, 672, 673, 674, 675, 676, 677, 705, 706, 707, 708, 703, 704] (by decide +kernel) (by decide +kernel)) (goodIn_sub (fun _ h => List.mem_append_left _ (List.mem_append_left _ (List.mem_append_left _ (List.mem_append_right _ h)))) (by decide +kernel))) (goodIn_sub (fun _ h => List.mem_append_left _ (List.mem_append_left _ (List.mem_append_right _ h))) (by decide +kernel))
set_option maxRecDepth 20000 in
theorem gL_law_L_content : GoodIn wsL_law (va_wsS RL 71 yL_content wsL_content) := goodIn_app (goodIn_of _ (by decide +kernel)) ggL_law_L_content
set_option maxRecDepth 20000 in
theorem ggL_law_X7_content : GoodIn wsL_law wsX7_content := goodIn_ca (goodIn_ca (goodIn_r _ [473, 269, 103, 106, 137, 107, 139, 140, 5, 141, 678, 679, 680, 681, 682, 683, 684, 685, 686, 687, 688, 689, 690, 691, 692, 693, 694, 695, 696, 697, 698, 699, 700, 701, 702] (by decide +kernel) (by decide +kernel)) (goodIn_sub (fun _ h => List.mem_append_left _ (List.mem_append_left _ (List.mem_append_right _ h))) (by decide +kernel))) (goodIn_sub (fun _ h => List.mem_append_left _ (List.mem_append_left _ (List.mem_append_left _ (List.mem_append_right _ h)))) (by decide +kernel))
set_option maxRecDepth 20000 in
theorem gL_law_X7_content : GoodIn wsL_law (wsV RL 76 RX7 yX7_content wsX7_content) := goodIn_app (goodIn_of _ (by decide +kernel)) ggL_law_X7_content
set_option maxRecDepth 20000 in
theorem ggL_law_X7_thrown : GoodIn wsL_law wsX7_thrown := goodIn_r _ [477, 137, 678, 679, 680, 681, 682, 683, 684, 685, 686, 687, 688, 689, 690, 691, 692, 693, 694, 695, 696, 697, 698, 699, 700, 701, 702] (by decide +kernel) (by decide +kernel)
set_option maxRecDepth 20000 in
theorem gL_law_X7_thrown : GoodIn wsL_law (wsV RL 77 RX7 yX7_thrown wsX7_thrown) := goodIn_app (goodIn_of _ (by decide +kernel)) ggL_law_X7_thrown
set_option maxRecDepth 20000 in
theorem ggL_law_X6_pack : GoodIn wsL_law wsX6_pack := goodIn_ca (goodIn_ca (goodIn_r _ [481, 33, 17, 29, 482, 483, 484, 2, 485, 23, 303, 304, 305, 306, 20, 187, 188, 189, 307, 308, 309, 22, 310, 247, 291, 292, 293, 294, 57, 319, 320, 321, 32, 322, 70, 323, 324, 325, 48, 326, 327, 74, 328, 329, 330, 331, 16, 332, 124, 333, 46, 47, 49, 51, 334, 335, 336, 337, 73, 72, 338, 205, 206, 207, 339, 340, 341, 342, 75, 343, 344, 345, 346, 347, 348, 349, 350, 351, 352, 353, 354, 355, 129, 130, 131, 132, 486, 487, 488, 28, 489, 490, 491, 64, 492, 152, 153, 154, 493, 424, 425, 426, 494, 126, 127, 128, 495, 428, 429, 430, 431, 432, 433, 434, 435, 436, 437, 438, 159, 160, 161, 162, 163, 164, 165, 166, 496, 497, 498, 499, 500, 501, 502, 503, 504, 505, 506, 507, 508, 509, 510, 511, 512, 513, 514, 168, 515, 516, 517, 518, 667, 668, 669, 670, 671, 672, 673, 674, 675, 676, 677, 705, 706, 707, 708, 712, 713, 714, 715, 716, 717, 718, 703, 704, 709, 710, 711] (by decide +kernel) (by decide +kernel)) (goodIn_sub (fun _ h => List.mem_append_left _ (List.mem_append_left _ (List.mem_append_left _ (List.mem_append_right _ h)))) (by decide +kernel))) (goodIn_sub (fun _ h => List.mem_append_left _ (List.mem_append_left _ (List.mem_append_right _ h))) (by decide +kernel))
set_option maxRecDepth 20000 in
theorem gL_law_X6_pack : GoodIn wsL_law (wsV RL 80 RX6 yX6_pack wsX6_pack) := goodIn_app (goodIn_of _ (by decide +kernel)) ggL_law_X6_pack
set_option maxRecDepth 20000 in
theorem ggL_law_X7_pack : GoodIn wsL_law wsX7_pack := goodIn_ca (goodIn_ca (goodIn_r _ [522, 137, 115, 398, 110, 389, 100, 523, 524, 525, 103, 373, 374, 375, 5, 376, 269, 139, 140, 141, 385, 386, 387, 388, 105, 106, 107, 390, 391, 392, 393, 399, 400, 401, 402, 111, 112, 403, 404, 405, 406, 448, 449, 450, 451, 526, 527, 528, 529, 113, 530, 531, 532, 533, 678, 679, 680, 681, 682, 683, 684, 685, 686, 687, 688, 689, 690, 691, 692, 693, 694, 695, 696, 697, 698, 699, 700, 701, 702] (by decide +kernel) (by decide +kernel)) (goodIn_sub (fun _ h => List.mem_append_left _ (List.mem_append_left _ (List.mem_append_left _ (List.mem_append_right _ h)))) (by decide +kernel))) (goodIn_sub (fun _ h => List.mem_append_left _ (List.mem_append_left _ (List.mem_append_right _ h))) (by decide +kernel))
set_option maxRecDepth 20000 in
theorem gL_law_X7_pack : GoodIn wsL_law (wsV RL 83 RX7 yX7_pack wsX7_pack) := goodIn_app (goodIn_of _ (by decide +kernel)) ggL_law_X7_pack
set_option maxRecDepth 20000 in
theorem ggL_law_L_out : GoodIn wsL_law wsL_out := goodIn_ca (goodIn_ca (goodIn_r _ [536, 457, 537, 538, 539, 2, 540, 29, 462, 463, 464, 515, 516, 517, 28, 518, 64, 468, 164, 165, 16, 166, 124, 541, 436, 437, 438, 159, 160, 161, 162, 51, 163, 667, 668, 669, 670, 671, 672, 673, 674, 675, 676, 677, 731, 732, 733, 734, 735, 736, 709, 710, 711, 703, 704] (by decide +kernel) (by decide +kernel)) (goodIn_sub (fun _ h => List.mem_append_left _ (List.mem_append_left _ (List.mem_append_left _ (List.mem_append_right _ h)))) (by decide +kernel))) (goodIn_sub (fun _ h => List.mem_append_left _ (List.mem_append_left _ (List.mem_append_right _ h))) (by decide +kernel))
set_option maxRecDepth 20000 in
theorem gL_law_L_out : GoodIn wsL_law (va_wsS RL 84 yL_out wsL_out) := goodIn_app (goodIn_of _ (by decide +kernel)) ggL_law_L_out
set_option maxRecDepth 20000 in
theorem ggL_law_X7_out : GoodIn wsL_law wsX7_out := goodIn_ca (goodIn_ca (goodIn_r _ [545, 523, 137, 113, 139, 140, 5, 141, 678, 679, 680, 681, 682, 683, 684, 685, 686, 687, 688, 689, 690, 691, 692, 693, 694, 695, 696, 697, 698, 699, 700, 701, 702] (by decide +kernel) (by decide +kernel)) (goodIn_sub (fun _ h => List.mem_append_left _ (List.mem_append_left _ (List.mem_append_left _ (List.mem_append_right _ h)))) (by decide +kernel))) (goodIn_sub (fun _ h => List.mem_append_left _ (List.mem_append_left _ (List.mem_append_right _ h))) (by decide +kernel))
set_option maxRecDepth 20000 in
theorem gL_law_X7_out : GoodIn wsL_law (wsV RL 87 RX7 yX7_out wsX7_out) := goodIn_app (goodIn_of _ (by decide +kernel)) ggL_law_X7_out
set_option maxRecDepth 20000 in
theorem ggL_law_X6_open : GoodIn wsL_law wsX6_open := goodIn_ca (goodIn_ca (goodIn_r _ [549, 41, 17, 25, 541, 436, 437, 16, 438, 159, 160, 161, 162, 51, 163, 164, 165, 166, 124, 550, 551, 552, 2, 553, 23, 20, 423, 424, 425, 22, 426, 247, 554, 555, 556, 40, 557, 94, 558, 559, 560, 561, 130, 131, 132, 562, 563, 564, 565, 566, 567, 428, 429, 430, 57, 431, 432, 433, 434, 435, 568, 292, 293, 294, 569, 148, 149, 150, 151, 152, 153, 154, 155, 156, 157, 158, 167, 126, 127, 128, 570, 571, 572, 573, 574, 575, 576, 577, 578, 579, 580, 581, 582, 583, 168, 584, 585, 586, 587, 588, 129, 667, 668, 669, 670, 671, 672, 673, 674, 675, 676, 677, 703, 704, 705, 706, 707, 708, 727, 728, 729, 730] (by decide +kernel) (by decide +kernel)) (goodIn_sub (fun _ h => List.mem_append_left _ (List.mem_append_left _ (List.mem_append_left _ (List.mem_append_right _ h)))) (by decide +kernel))) (goodIn_sub (fun _ h => List.mem_append_left _ (List.mem_append_left _ (List.mem_append_right _ h))) (by decide +kernel))
set_option maxRecDepth 20000 in
theorem gL_law_X6_open : GoodIn wsL_law (wsV RL 88 RX6 yX6_open wsX6_open) := goodIn_app (goodIn_of _ (by decide +kernel)) ggL_law_X6_open
set_option maxRecDepth 20000 in
theorem ggL_law_X7_open : GoodIn wsL_law wsX7_open := goodIn_ca (goodIn_ca (goodIn_r _ [592, 137, 115, 398, 593, 114, 110, 389, 594, 595, 596, 5, 597, 100, 598, 599, 600, 601, 103, 448, 449, 450, 451, 106, 107, 385, 386, 387, 388, 105, 390, 391, 392, 393, 678, 679, 680, 681, 682, 683, 684, 685, 686, 687, 688, 689, 690, 691, 692, 693, 694, 695, 696, 697, 698, 699, 700, 701, 702] (by decide +kernel) (by decide +kernel)) (goodIn_sub (fun _ h => List.mem_append_left _ (List.mem_append_left _ (List.mem_append_left _ (List.mem_append_right _ h)))) (by decide +kernel))) (goodIn_sub (fun _ h => List.mem_append_left _ (List.mem_append_left _ (List.mem_append_right _ h))) (by decide +kernel))
set_option maxRecDepth 20000 in
theorem gL_law_X7_open : GoodIn wsL_law (wsV RL 91 RX7 yX7_open wsX7_open) := goodIn_app (goodIn_of _ (by decide +kernel)) ggL_law_X7_open
set_option maxRecDepth 20000 in
theorem ggL_law_L_text : GoodIn wsL_law wsL_text := goodIn_ca (goodIn_ca (goodIn_r _ [604, 457, 605, 606, 607, 2, 608, 25, 462, 463, 464, 468, 164, 165, 16, 166, 124, 541, 436, 437, 438, 159, 160, 161, 162, 51, 163, 667, 668, 669, 670, 671, 672, 673, 674, 675, 676, 677, 731, 732, 733, 734, 735, 736, 703, 704] (by decide +kernel) (by decide +kernel)) (goodIn_sub (fun _ h => List.mem_append_left _ (List.mem_append_left _ (List.mem_append_left _ (List.mem_append_right _ h)))) (by decide +kernel))) (goodIn_sub (fun _ h => List.mem_append_left _ (List.mem_append_left _ (List.mem_append_right _ h))) (by decide +kernel))
set_option maxRecDepth 20000 in
theorem gL_law_L_text : GoodIn wsL_law (va_wsS RL 92 yL_text wsL_text) := goodIn_app (goodIn_of _ (by decide +kernel)) ggL_law_L_text
set_option maxRecDepth 20000 in
theorem ggL_law_X7_text : GoodIn wsL_law wsX7_text := goodIn_ca (goodIn_ca (goodIn_r _ [612, 593, 137, 114, 139, 140, 5, 141, 678, 679, 680, 681, 682, 683, 684, 685, 686, 687, 688, 689, 690, 691, 692, 693, 694, 695, 696, 697, 698, 699, 700, 701, 702] (by decide +kernel) (by decide +kernel)) (goodIn_sub (fun _ h => List.mem_append_left _ (List.mem_append_left _ (List.mem_append_left _ (List.mem_append_right _ h)))) (by decide +kernel))) (goodIn_sub (fun _ h => List.mem_append_left _ (List.mem_append_left _ (List.mem_append_right _ h))) (by decide +kernel))
set_option maxRecDepth 20000 in
theorem gL_law_X7_text : GoodIn wsL_law (wsV RL 94 RX7 yX7_text wsX7_text) := goodIn_app (goodIn_of _ (by decide +kernel)) ggL_law_X7_text
set_option maxRecDepth 20000 in
theorem ggL_law_X6_size : GoodIn wsL_law wsX6_size := goodIn_ca (goodIn_ca (goodIn_r _ [616, 33, 18, 482, 483, 484, 2, 485, 23, 303, 304, 305, 306, 20, 187, 188, 189, 307, 308, 309, 22, 310, 247, 617, 618, 619, 620, 146, 291, 292, 293, 294, 57, 319, 320, 321, 32, 322, 70, 323, 324, 325, 48, 326, 327, 74, 328, 329, 330, 331, 16, 332, 124, 333, 46, 47, 49, 51, 334, 335, 336, 337, 73, 72, 338, 205, 206, 207, 339, 340, 341, 342, 75, 343, 344, 345, 346, 347, 348, 349, 350, 351, 352, 353, 354, 355, 667, 668, 669, 670, 671, 672, 673, 674, 675, 676, 677, 705, 706, 707, 708, 712, 713, 714, 715, 716, 717, 718, 703, 704] (by decide +kernel) (by decide +kernel)) (goodIn_sub (fun _ h => List.mem_append_left _ (List.mem_append_left _ (List.mem_append_left _ (List.mem_append_right _ h)))) (by decide +kernel))) (goodIn_sub (fun _ h => List.mem_append_left _ (List.mem_append_left _ (List.mem_append_right _ h))) (by decide +kernel))
set_option maxRecDepth 20000 in
theorem gL_law_X6_size : GoodIn wsL_law (wsV RL 95 RX6 yX6_size wsX6_size) := goodIn_app (goodIn_of _ (by decide +kernel)) ggL_law_X6_size
set_option maxRecDepth 20000 in
theorem ggL_law_X7_size : GoodIn wsL_law wsX7_size := goodIn_ca (goodIn_ca (goodIn_r _ [624, 137, 174, 139, 140, 5, 141, 373, 374, 375, 376, 269, 103, 381, 382, 383, 384, 385, 386, 387, 388, 389, 105, 106, 110, 107, 390, 391, 392, 393, 394, 395, 396, 397, 101, 398, 102, 399, 400, 401, 402, 111, 112, 403, 404, 405, 406, 678, 679, 680, 681, 682, 683, 684, 685, 686, 687, 688, 689, 690, 691, 692, 693, 694, 695, 696, 697, 698, 699, 700, 701, 702] (by decide +kernel) (by decide +kernel)) (goodIn_sub (fun _ h => List.mem_append_left _ (List.mem_append_left _ (List.mem_append_left _ (List.mem_append_right _ h)))) (by decide +kernel))) (goodIn_sub (fun _ h => List.mem_append_left _ (List.mem_append_left _ (List.mem_append_right _ h))) (by decide +kernel))
set_option maxRecDepth 20000 in
theorem gL_law_X7_size : GoodIn wsL_law (wsV RL 98 RX7 yX7_size wsX7_size) := goodIn_app (goodIn_of _ (by decide +kernel)) ggL_law_X7_size
set_option maxRecDepth 20000 in
theorem ggL_law_X6_best : GoodIn wsL_law wsX6_best := goodIn_ca (goodIn_ca (goodIn_r _ [628, 33, 18, 23, 20, 617, 618, 619, 2, 620, 146, 291, 292, 293, 22, 294, 57, 319, 320, 321, 32, 322, 70, 323, 324, 325, 48, 326, 327, 74, 328, 329, 330, 331, 16, 332, 124, 333, 46, 47, 49, 51, 334, 335, 336, 337, 73, 72, 338, 205, 206, 207, 339, 340, 341, 342, 75, 343, 344, 345, 346, 347, 348, 349, 350, 351, 352, 353, 354, 355, 307, 308, 309, 310, 247, 667, 668, 669, 670, 671, 672, 673, 674, 675, 676, 677, 705, 706, 707, 708, 712, 713, 714, 715, 716, 717, 718, 703, 704] (by decide +kernel) (by decide +kernel)) (goodIn_sub (fun _ h => List.mem_append_left _ (List.mem_append_left _ (List.mem_append_left _ (List.mem_append_right _ h)))) (by decide +kernel))) (goodIn_sub (fun _ h => List.mem_append_left _ (List.mem_append_left _ (List.mem_append_right _ h))) (by decide +kernel))
set_option maxRecDepth 20000 in
theorem gL_law_X6_best : GoodIn wsL_law (wsV RL 99 RX6 yX6_best wsX6_best) := goodIn_app (goodIn_of _ (by decide +kernel)) ggL_law_X6_best
set_option maxRecDepth 20000 in
theorem ggL_law_X7_best : GoodIn wsL_law wsX7_best := goodIn_ca (goodIn_ca (goodIn_r _ [632, 137, 174, 139, 140, 5, 141, 381, 382, 383, 384, 385, 386, 387, 388, 389, 105, 106, 110, 107, 390, 391, 392, 393, 394, 395, 396, 397, 101, 398, 102, 399, 400, 401, 402, 111, 112, 403, 404, 405, 406, 373, 374, 375, 376, 269, 103, 678, 679, 680, 681, 682, 683, 684, 685, 686, 687, 688, 689, 690, 691, 692, 693, 694, 695, 696, 697, 698, 699, 700, 701, 702] (by decide +kernel) (by decide +kernel)) (goodIn_sub (fun _ h => List.mem_append_left _ (List.mem_append_left _ (List.mem_append_left _ (List.mem_append_right _ h)))) (by decide +kernel))) (goodIn_sub (fun _ h => List.mem_append_left _ (List.mem_append_left _ (List.mem_append_right _ h))) (by decide +kernel))
set_option maxRecDepth 20000 in
theorem gL_law_X7_best : GoodIn wsL_law (wsV RL 102 RX7 yX7_best wsX7_best) := goodIn_app (goodIn_of _ (by decide +kernel)) ggL_law_X7_best
set_option maxRecDepth 20000 in
theorem ggL_law_L_share : GoodIn wsL_law wsL_share := goodIn_ca (goodIn_ca (goodIn_ca (goodIn_ca (goodIn_r _ [635, 636, 637, 638, 639, 2, 640, 641, 642, 23, 303, 304, 305, 306, 20, 187, 188, 189, 307, 308, 309, 22, 310, 247, 291, 292, 293, 294, 57, 315, 316, 317, 318, 146, 33, 18, 319, 320, 321, 32, 322, 70, 323, 324, 325, 48, 326, 327, 74, 328, 329, 330, 331, 16, 332, 124, 333, 46, 47, 49, 51, 334, 335, 336, 337, 73, 72, 338, 205, 206, 207, 339, 340, 341, 342, 75, 343, 344, 345, 346, 347, 348, 349, 350, 351, 352, 353, 354, 355, 667, 668, 669, 670, 671, 672, 673, 674, 675, 676, 677, 705, 706, 707, 708, 712, 713, 714, 715, 716, 717, 718, 703, 704] (by decide +kernel) (by decide +kernel)) (goodIn_sub (fun _ h => List.mem_append_left _ (List.mem_append_left _ (List.mem_append_left _ (List.mem_append_right _ h)))) (by decide +kernel))) (goodIn_sub (fun _ h => List.mem_append_left _ (List.mem_append_left _ (List.mem_append_right _ h))) (by decide +kernel))) (goodIn_sub (fun _ h => List.mem_append_left _ (List.mem_append_right _ h)) (by decide +kernel))) (goodIn_sub (fun _ h => List.mem_append_right _ h) (by decide +kernel))
set_option maxRecDepth 20000 in
theorem gL_law_L_share : GoodIn wsL_law (va_wsS RL 103 yL_share wsL_share) := goodIn_app (goodIn_of _ (by decide +kernel)) ggL_law_L_share
set_option maxRecDepth 20000 in
theorem ggL_law_X7_share : GoodIn wsL_law wsX7_share := goodIn_ca (goodIn_ca (goodIn_ca (goodIn_r _ [646, 137, 174, 373, 374, 375, 5, 376, 269, 103, 139, 140, 141, 377, 378, 379, 380, 381, 382, 383, 384, 385, 386, 387, 388, 389, 105, 106, 110, 107, 390, 391, 392, 393, 394, 395, 396, 397, 101, 398, 102, 399, 400, 401, 402, 111, 112, 403, 404, 405, 406, 678, 679, 680, 681, 682, 683, 684, 685, 686, 687, 688, 689, 690, 691, 692, 693, 694, 695, 696, 697, 698, 699, 700, 701, 702] (by decide +kernel) (by decide +kernel)) (goodIn_sub (fun _ h => List.mem_append_left _ (List.mem_append_left _ (List.mem_append_left _ (List.mem_append_right _ h)))) (by decide +kernel))) (goodIn_sub (fun _ h => List.mem_append_right _ h) (by decide +kernel))) (goodIn_sub (fun _ h => List.mem_append_left _ (List.mem_append_left _ (List.mem_append_right _ h))) (by decide +kernel))
set_option maxRecDepth 20000 in
theorem gL_law_X7_share : GoodIn wsL_law (wsV RL 105 RX7 yX7_share wsX7_share) := goodIn_app (goodIn_of _ (by decide +kernel)) ggL_law_X7_share
set_option maxRecDepth 20000 in
theorem ggL_law_X6_about : GoodIn wsL_law wsX6_about := goodIn_ca (goodIn_r _ [650, 17, 146, 29, 25, 129, 130, 131, 16, 132, 124, 651, 652, 653, 2, 654, 20, 307, 308, 309, 22, 310, 247, 515, 516, 517, 28, 518, 64, 655, 656, 657, 658, 490, 659, 660, 661, 662, 491, 667, 668, 669, 670, 671, 672, 673, 674, 675, 676, 677, 703, 704, 705, 706, 707, 708, 709, 710, 711] (by decide +kernel) (by decide +kernel)) (goodIn_sub (fun _ h => List.mem_append_left _ (List.mem_append_left _ (List.mem_append_left _ (List.mem_append_right _ h)))) (by decide +kernel))
set_option maxRecDepth 20000 in
theorem gL_law_X6_about : GoodIn wsL_law (wsV RL 106 RX6 yX6_about wsX6_about) := goodIn_app (goodIn_of _ (by decide +kernel)) ggL_law_X6_about
set_option maxRecDepth 20000 in
theorem ggL_law_X7_about : GoodIn wsL_law wsX7_about := goodIn_ca (goodIn_ca (goodIn_r _ [666, 137, 103, 115, 174, 523, 593, 524, 525, 678, 679, 680, 681, 682, 683, 684, 685, 686, 687, 688, 689, 690, 691, 692, 693, 694, 695, 696, 697, 698, 699, 700, 701, 702] (by decide +kernel) (by decide +kernel)) (goodIn_sub (fun _ h => List.mem_append_left _ (List.mem_append_left _ (List.mem_append_right _ h))) (by decide +kernel))) (goodIn_sub (fun _ h => List.mem_append_left _ (List.mem_append_left _ (List.mem_append_left _ (List.mem_append_right _ h)))) (by decide +kernel))
set_option maxRecDepth 20000 in
theorem gL_law_X7_about : GoodIn wsL_law (wsV RL 109 RX7 yX7_about wsX7_about) := goodIn_app (goodIn_of _ (by decide +kernel)) ggL_law_X7_about
end
section
theorem dJx00060_init_a7421_0 : decode cJx00060_init_a7421 0 = .ok (.aload_n 0, 1) := by decide +kernel
theorem dJx00060_init_a7421_1 : decode cJx00060_init_a7421 1 = .ok (.aload_n 1, 1) := by decide +kernel
theorem dJx00060_init_a7421_2 : decode cJx00060_init_a7421 2 = .ok (.invokespecial 7, 3) := by decide +kernel
theorem dJx00060_init_a7421_5 : decode cJx00060_init_a7421 5 = .ok (.return_, 1) := by decide +kernel
theorem dJ9_abs_0f7a4_0 : decode cJ9_abs_0f7a4 0 = .ok (.iload_n 0, 1) := by decide +kernel
theorem dJ9_abs_0f7a4_1 : decode cJ9_abs_0f7a4 1 = .ok (.ifCond .ge 8, 3) := by decide +kernel
theorem dJ9_abs_0f7a4_4 : decode cJ9_abs_0f7a4 4 = .ok (.iload_n 0, 1) := by decide +kernel
theorem dJ9_abs_0f7a4_5 : decode cJ9_abs_0f7a4 5 = .ok (.ineg, 1) := by decide +kernel
theorem dJ9_abs_0f7a4_6 : decode cJ9_abs_0f7a4 6 = .ok (.goto 4, 3) := by decide +kernel
theorem dJ9_abs_0f7a4_9 : decode cJ9_abs_0f7a4 9 = .ok (.iload_n 0, 1) := by decide +kernel
theorem dJ9_abs_0f7a4_10 : decode cJ9_abs_0f7a4 10 = .ok (.ireturn, 1) := by decide +kernel
theorem dJ9_max_7cf53_0 : decode cJ9_max_7cf53 0 = .ok (.iload_n 0, 1) := by decide +kernel
theorem dJ9_max_7cf53_1 : decode cJ9_max_7cf53 1 = .ok (.iload_n 1, 1) := by decide +kernel
theorem dJ9_max_7cf53_2 : decode cJ9_max_7cf53 2 = .ok (.if_icmp .lt 7, 3) := by decide +kernel
theorem dJ9_max_7cf53_5 : decode cJ9_max_7cf53 5 = .ok (.iload_n 0, 1) := by decide +kernel
theorem dJ9_max_7cf53_6 : decode cJ9_max_7cf53 6 = .ok (.goto 4, 3) := by decide +kernel
theorem dJ9_max_7cf53_9 : decode cJ9_max_7cf53 9 = .ok (.iload_n 1, 1) := by decide +kernel
theorem dJ9_max_7cf53_10 : decode cJ9_max_7cf53 10 = .ok (.ireturn, 1) := by decide +kernel
theorem dJ9_min_7cf53_0 : decode cJ9_min_7cf53 0 = .ok (.iload_n 0, 1) := by decide +kernel
theorem dJ9_min_7cf53_1 : decode cJ9_min_7cf53 1 = .ok (.iload_n 1, 1) := by decide +kernel
theorem dJ9_min_7cf53_2 : decode cJ9_min_7cf53 2 = .ok (.if_icmp .gt 7, 3) := by decide +kernel
theorem dJ9_min_7cf53_5 : decode cJ9_min_7cf53 5 = .ok (.iload_n 0, 1) := by decide +kernel
theorem dJ9_min_7cf53_6 : decode cJ9_min_7cf53 6 = .ok (.goto 4, 3) := by decide +kernel
theorem dJ9_min_7cf53_9 : decode cJ9_min_7cf53 9 = .ok (.iload_n 1, 1) := by decide +kernel
theorem dJ9_min_7cf53_10 : decode cJ9_min_7cf53 10 = .ok (.ireturn, 1) := by decide +kernel
theorem dJx5d777_init_da8c8_0 : decode cJx5d777_init_da8c8 0 = .ok (.aload_n 0, 1) := by decide +kernel
theorem dJx5d777_init_da8c8_1 : decode cJx5d777_init_da8c8 1 = .ok (.invokespecial 1, 3) := by decide +kernel
theorem dJx5d777_init_da8c8_4 : decode cJx5d777_init_da8c8 4 = .ok (.return_, 1) := by decide +kernel
theorem dJx5d777_init_a7421_0 : decode cJx5d777_init_a7421 0 = .ok (.aload_n 0, 1) := by decide +kernel
theorem dJx5d777_init_a7421_1 : decode cJx5d777_init_a7421 1 = .ok (.aload_n 1, 1) := by decide +kernel
theorem dJx5d777_init_a7421_2 : decode cJx5d777_init_a7421 2 = .ok (.invokespecial 7, 3) := by decide +kernel
theorem dJx5d777_init_a7421_5 : decode cJx5d777_init_a7421 5 = .ok (.return_, 1) := by decide +kernel
theorem dJx5d777_fillInStackTrace_cddbd_0 : decode cJx5d777_fillInStackTrace_cddbd 0 = .ok (.aload_n 0, 1) := by decide +kernel
theorem dJx5d777_fillInStackTrace_cddbd_1 : decode cJx5d777_fillInStackTrace_cddbd 1 = .ok (.getfield 10, 3) := by decide +kernel
theorem dJx5d777_fillInStackTrace_cddbd_4 : decode cJx5d777_fillInStackTrace_cddbd 4 = .ok (.ifCond .ne 11, 3) := by decide +kernel
theorem dJx5d777_fillInStackTrace_cddbd_7 : decode cJx5d777_fillInStackTrace_cddbd 7 = .ok (.aload_n 0, 1) := by decide +kernel
theorem dJx5d777_fillInStackTrace_cddbd_8 : decode cJx5d777_fillInStackTrace_cddbd 8 = .ok (.iconst 1, 1) := by decide +kernel
theorem dJx5d777_fillInStackTrace_cddbd_9 : decode cJx5d777_fillInStackTrace_cddbd 9 = .ok (.putfield 10, 3) := by decide +kernel
theorem dJx5d777_fillInStackTrace_cddbd_12 : decode cJx5d777_fillInStackTrace_cddbd 12 = .ok (.goto 24, 3) := by decide +kernel
theorem dJx5d777_fillInStackTrace_cddbd_15 : decode cJx5d777_fillInStackTrace_cddbd 15 = .ok (.aload_n 0, 1) := by decide +kernel
theorem dJx5d777_fillInStackTrace_cddbd_16 : decode cJx5d777_fillInStackTrace_cddbd 16 = .ok (.getfield 10, 3) := by decide +kernel
theorem dJx5d777_fillInStackTrace_cddbd_19 : decode cJx5d777_fillInStackTrace_cddbd 19 = .ok (.iconst 1, 1) := by decide +kernel
theorem dJx5d777_fillInStackTrace_cddbd_20 : decode cJx5d777_fillInStackTrace_cddbd 20 = .ok (.if_icmp .ne 16, 3) := by decide +kernel
theorem dJx5d777_fillInStackTrace_cddbd_23 : decode cJx5d777_fillInStackTrace_cddbd 23 = .ok (.aload_n 0, 1) := by decide +kernel
theorem dJx5d777_fillInStackTrace_cddbd_24 : decode cJx5d777_fillInStackTrace_cddbd 24 = .ok (.aload_n 0, 1) := by decide +kernel
theorem dJx5d777_fillInStackTrace_cddbd_25 : decode cJx5d777_fillInStackTrace_cddbd 25 = .ok (.invokevirtual 16, 3) := by decide +kernel
theorem dJx5d777_fillInStackTrace_cddbd_28 : decode cJx5d777_fillInStackTrace_cddbd 28 = .ok (.putfield 20, 3) := by decide +kernel
theorem dJx5d777_fillInStackTrace_cddbd_31 : decode cJx5d777_fillInStackTrace_cddbd 31 = .ok (.aload_n 0, 1) := by decide +kernel
theorem dJx5d777_fillInStackTrace_cddbd_32 : decode cJx5d777_fillInStackTrace_cddbd 32 = .ok (.iconst 2, 1) := by decide +kernel
theorem dJx5d777_fillInStackTrace_cddbd_33 : decode cJx5d777_fillInStackTrace_cddbd 33 = .ok (.putfield 10, 3) := by decide +kernel
theorem dJx5d777_fillInStackTrace_cddbd_36 : decode cJx5d777_fillInStackTrace_cddbd 36 = .ok (.aload_n 0, 1) := by decide +kernel
theorem dJx5d777_fillInStackTrace_cddbd_37 : decode cJx5d777_fillInStackTrace_cddbd 37 = .ok (.invokespecial 24, 3) := by decide +kernel
theorem dJx5d777_fillInStackTrace_cddbd_40 : decode cJx5d777_fillInStackTrace_cddbd 40 = .ok (.areturn, 1) := by decide +kernel
theorem dJ7_fill_53178_0 : decode cJ7_fill_53178 0 = .ok (.iconst 0, 1) := by decide +kernel
theorem dJ7_fill_53178_1 : decode cJ7_fill_53178 1 = .ok (.istore_n 2, 1) := by decide +kernel
theorem dJ7_fill_53178_2 : decode cJ7_fill_53178 2 = .ok (.aload_n 0, 1) := by decide +kernel
theorem dJ7_fill_53178_3 : decode cJ7_fill_53178 3 = .ok (.arraylength, 1) := by decide +kernel
theorem dJ7_fill_53178_4 : decode cJ7_fill_53178 4 = .ok (.istore_n 3, 1) := by decide +kernel
theorem dJ7_fill_53178_5 : decode cJ7_fill_53178 5 = .ok (.iload_n 2, 1) := by decide +kernel
theorem dJ7_fill_53178_6 : decode cJ7_fill_53178 6 = .ok (.iload_n 3, 1) := by decide +kernel
theorem dJ7_fill_53178_7 : decode cJ7_fill_53178 7 = .ok (.if_icmp .ge 13, 3) := by decide +kernel
theorem dJ7_fill_53178_10 : decode cJ7_fill_53178 10 = .ok (.aload_n 0, 1) := by decide +kernel
theorem dJ7_fill_53178_11 : decode cJ7_fill_53178 11 = .ok (.iload_n 2, 1) := by decide +kernel
theorem dJ7_fill_53178_12 : decode cJ7_fill_53178 12 = .ok (.iload_n 1, 1) := by decide +kernel
theorem dJ7_fill_53178_13 : decode cJ7_fill_53178 13 = .ok (.iastore, 1) := by decide +kernel
theorem dJ7_fill_53178_14 : decode cJ7_fill_53178 14 = .ok (.iinc 2 1, 3) := by decide +kernel
theorem dJ7_fill_53178_17 : decode cJ7_fill_53178 17 = .ok (.goto (-12), 3) := by decide +kernel
theorem dJ7_fill_53178_20 : decode cJ7_fill_53178 20 = .ok (.return_, 1) := by decide +kernel
end
section
theorem dL_content_0 : decode cL_content 0 = .ok (.aload_n 3, 1) := by decide +kernel
theorem dL_content_1 : decode cL_content 1 = .ok (.iconst 0, 1) := by decide +kernel
theorem dL_content_2 : decode cL_content 2 = .ok (.aload_n 0, 1) := by decide +kernel
theorem dL_content_3 : decode cL_content 3 = .ok (.iload_n 1, 1) := by decide +kernel
theorem dL_content_4 : decode cL_content 4 = .ok (.iload_n 2, 1) := by decide +kernel
theorem dL_content_5 : decode cL_content 5 = .ok (.invokevirtual 7, 3) := by decide +kernel
theorem dL_content_8 : decode cL_content 8 = .ok (.i2l, 1) := by decide +kernel
theorem dL_content_9 : decode cL_content 9 = .ok (.lastore, 1) := by decide +kernel
theorem dL_content_10 : decode cL_content 10 = .ok (.goto 11, 3) := by decide +kernel
theorem dL_content_13 : decode cL_content 13 = .ok (.astore 4, 2) := by decide +kernel
theorem dL_content_15 : decode cL_content 15 = .ok (.iconst 1, 1) := by decide +kernel
theorem dL_content_16 : decode cL_content 16 = .ok (.ireturn, 1) := by decide +kernel
theorem dL_content_17 : decode cL_content 17 = .ok (.astore 4, 2) := by decide +kernel
theorem dL_content_19 : decode cL_content 19 = .ok (.iconst 2, 1) := by decide +kernel
theorem dL_content_20 : decode cL_content 20 = .ok (.ireturn, 1) := by decide +kernel
theorem dL_content_21 : decode cL_content 21 = .ok (.iconst 0, 1) := by decide +kernel
theorem dL_content_22 : decode cL_content 22 = .ok (.ireturn, 1) := by decide +kernel
theorem dL_out_0 : decode cL_out 0 = .ok (.aload_n 2, 1) := by decide +kernel
theorem dL_out_1 : decode cL_out 1 = .ok (.iconst 0, 1) := by decide +kernel
theorem dL_out_2 : decode cL_out 2 = .ok (.aload_n 0, 1) := by decide +kernel
theorem dL_out_3 : decode cL_out 3 = .ok (.iload_n 1, 1) := by decide +kernel
theorem dL_out_4 : decode cL_out 4 = .ok (.invokevirtual 17, 3) := by decide +kernel
theorem dL_out_7 : decode cL_out 7 = .ok (.i2l, 1) := by decide +kernel
theorem dL_out_8 : decode cL_out 8 = .ok (.lastore, 1) := by decide +kernel
theorem dL_out_9 : decode cL_out 9 = .ok (.goto 6, 3) := by decide +kernel
theorem dL_out_12 : decode cL_out 12 = .ok (.astore_n 3, 1) := by decide +kernel
theorem dL_out_13 : decode cL_out 13 = .ok (.iconst 1, 1) := by decide +kernel
theorem dL_out_14 : decode cL_out 14 = .ok (.ireturn, 1) := by decide +kernel
theorem dL_out_15 : decode cL_out 15 = .ok (.iconst 0, 1) := by decide +kernel
theorem dL_out_16 : decode cL_out 16 = .ok (.ireturn, 1) := by decide +kernel
theorem dL_text_0 : decode cL_text 0 = .ok (.aload_n 2, 1) := by decide +kernel
theorem dL_text_1 : decode cL_text 1 = .ok (.iconst 0, 1) := by decide +kernel
theorem dL_text_2 : decode cL_text 2 = .ok (.aload_n 0, 1) := by decide +kernel
theorem dL_text_3 : decode cL_text 3 = .ok (.iload_n 1, 1) := by decide +kernel
theorem dL_text_4 : decode cL_text 4 = .ok (.invokevirtual 21, 3) := by decide +kernel
theorem dL_text_7 : decode cL_text 7 = .ok (.i2l, 1) := by decide +kernel
theorem dL_text_8 : decode cL_text 8 = .ok (.lastore, 1) := by decide +kernel
theorem dL_text_9 : decode cL_text 9 = .ok (.goto 6, 3) := by decide +kernel
theorem dL_text_12 : decode cL_text 12 = .ok (.astore_n 3, 1) := by decide +kernel
theorem dL_text_13 : decode cL_text 13 = .ok (.iconst 1, 1) := by decide +kernel
theorem dL_text_14 : decode cL_text 14 = .ok (.ireturn, 1) := by decide +kernel
theorem dL_text_15 : decode cL_text 15 = .ok (.iconst 0, 1) := by decide +kernel
theorem dL_text_16 : decode cL_text 16 = .ok (.ireturn, 1) := by decide +kernel
theorem dL_share_0 : decode cL_share 0 = .ok (.aload_n 2, 1) := by decide +kernel
theorem dL_share_1 : decode cL_share 1 = .ok (.iconst 0, 1) := by decide +kernel
theorem dL_share_2 : decode cL_share 2 = .ok (.aload_n 0, 1) := by decide +kernel
theorem dL_share_3 : decode cL_share 3 = .ok (.iload_n 1, 1) := by decide +kernel
theorem dL_share_4 : decode cL_share 4 = .ok (.invokevirtual 24, 3) := by decide +kernel
theorem dL_share_7 : decode cL_share 7 = .ok (.i2l, 1) := by decide +kernel
theorem dL_share_8 : decode cL_share 8 = .ok (.lastore, 1) := by decide +kernel
theorem dL_share_9 : decode cL_share 9 = .ok (.goto 6, 3) := by decide +kernel
theorem dL_share_12 : decode cL_share 12 = .ok (.astore_n 3, 1) := by decide +kernel
theorem dL_share_13 : decode cL_share 13 = .ok (.iconst 1, 1) := by decide +kernel
theorem dL_share_14 : decode cL_share 14 = .ok (.ireturn, 1) := by decide +kernel
theorem dL_share_15 : decode cL_share 15 = .ok (.iconst 0, 1) := by decide +kernel
theorem dL_share_16 : decode cL_share 16 = .ok (.ireturn, 1) := by decide +kernel
theorem dL_law_0 : decode cL_law 0 = .ok (.new 8, 3) := by decide +kernel
theorem dL_law_3 : decode cL_law 3 = .ok (.dup, 1) := by decide +kernel
theorem dL_law_4 : decode cL_law 4 = .ok (.invokespecial 29, 3) := by decide +kernel
theorem dL_law_7 : decode cL_law 7 = .ok (.astore_n 1, 1) := by decide +kernel
theorem dL_law_8 : decode cL_law 8 = .ok (.new 30, 3) := by decide +kernel
theorem dL_law_11 : decode cL_law 11 = .ok (.dup, 1) := by decide +kernel
theorem dL_law_12 : decode cL_law 12 = .ok (.invokespecial 32, 3) := by decide +kernel
theorem dL_law_15 : decode cL_law 15 = .ok (.astore_n 2, 1) := by decide +kernel
theorem dL_law_16 : decode cL_law 16 = .ok (.iconst 1, 1) := by decide +kernel
theorem dL_law_17 : decode cL_law 17 = .ok (.newarray .long, 2) := by decide +kernel
theorem dL_law_19 : decode cL_law 19 = .ok (.astore_n 3, 1) := by decide +kernel
theorem dL_law_20 : decode cL_law 20 = .ok (.iconst 0, 1) := by decide +kernel
theorem dL_law_21 : decode cL_law 21 = .ok (.istore 4, 2) := by decide +kernel
theorem dL_law_23 : decode cL_law 23 = .ok (.iload 4, 2) := by decide +kernel
theorem dL_law_25 : decode cL_law 25 = .ok (.aload_n 0, 1) := by decide +kernel
theorem dL_law_26 : decode cL_law 26 = .ok (.arraylength, 1) := by decide +kernel
theorem dL_law_27 : decode cL_law 27 = .ok (.iconst 5, 1) := by decide +kernel
theorem dL_law_28 : decode cL_law 28 = .ok (.isub, 1) := by decide +kernel
theorem dL_law_29 : decode cL_law 29 = .ok (.if_icmp .gt 738, 3) := by decide +kernel
theorem dL_law_32 : decode cL_law 32 = .ok (.aload_n 0, 1) := by decide +kernel
theorem dL_law_33 : decode cL_law 33 = .ok (.iload 4, 2) := by decide +kernel
theorem dL_law_35 : decode cL_law 35 = .ok (.iaload, 1) := by decide +kernel
theorem dL_law_36 : decode cL_law 36 = .ok (.bipush 31, 2) := by decide +kernel
theorem dL_law_38 : decode cL_law 38 = .ok (.iand, 1) := by decide +kernel
theorem dL_law_39 : decode cL_law 39 = .ok (.tableswitch 722 0 16 #[81, 150, 163, 176, 237, 274, 299, 324, 361, 429, 454, 510, 523, 579, 616, 641, 697], 81) := by decide +kernel
theorem dL_law_120 : decode cL_law 120 = .ok (.aload_n 1, 1) := by decide +kernel
theorem dL_law_121 : decode cL_law 121 = .ok (.aload_n 0, 1) := by decide +kernel
theorem dL_law_122 : decode cL_law 122 = .ok (.iload 4, 2) := by decide +kernel
theorem dL_law_124 : decode cL_law 124 = .ok (.iconst 1, 1) := by decide +kernel
theorem dL_law_125 : decode cL_law 125 = .ok (.iadd, 1) := by decide +kernel
theorem dL_law_126 : decode cL_law 126 = .ok (.iaload, 1) := by decide +kernel
theorem dL_law_127 : decode cL_law 127 = .ok (.aload_n 0, 1) := by decide +kernel
theorem dL_law_128 : decode cL_law 128 = .ok (.iload 4, 2) := by decide +kernel
theorem dL_law_130 : decode cL_law 130 = .ok (.iconst 2, 1) := by decide +kernel
theorem dL_law_131 : decode cL_law 131 = .ok (.iadd, 1) := by decide +kernel
theorem dL_law_132 : decode cL_law 132 = .ok (.iaload, 1) := by decide +kernel
theorem dL_law_133 : decode cL_law 133 = .ok (.i2l, 1) := by decide +kernel
theorem dL_law_134 : decode cL_law 134 = .ok (.bipush 32, 2) := by decide +kernel
theorem dL_law_136 : decode cL_law 136 = .ok (.lshl, 1) := by decide +kernel
theorem dL_law_137 : decode cL_law 137 = .ok (.aload_n 0, 1) := by decide +kernel
theorem dL_law_138 : decode cL_law 138 = .ok (.iload 4, 2) := by decide +kernel
theorem dL_law_140 : decode cL_law 140 = .ok (.iconst 3, 1) := by decide +kernel
theorem dL_law_141 : decode cL_law 141 = .ok (.iadd, 1) := by decide +kernel
theorem dL_law_142 : decode cL_law 142 = .ok (.iaload, 1) := by decide +kernel
theorem dL_law_143 : decode cL_law 143 = .ok (.i2l, 1) := by decide +kernel
theorem dL_law_144 : decode cL_law 144 = .ok (.ldc2_w 33, 3) := by decide +kernel
theorem dL_law_147 : decode cL_law 147 = .ok (.land, 1) := by decide +kernel
theorem dL_law_148 : decode cL_law 148 = .ok (.lor, 1) := by decide +kernel
theorem dL_law_149 : decode cL_law 149 = .ok (.invokevirtual 35, 3) := by decide +kernel
theorem dL_law_152 : decode cL_law 152 = .ok (.aload_n 2, 1) := by decide +kernel
theorem dL_law_153 : decode cL_law 153 = .ok (.aload_n 0, 1) := by decide +kernel
theorem dL_law_154 : decode cL_law 154 = .ok (.iload 4, 2) := by decide +kernel
theorem dL_law_156 : decode cL_law 156 = .ok (.iconst 1, 1) := by decide +kernel
theorem dL_law_157 : decode cL_law 157 = .ok (.iadd, 1) := by decide +kernel
theorem dL_law_158 : decode cL_law 158 = .ok (.iaload, 1) := by decide +kernel
theorem dL_law_159 : decode cL_law 159 = .ok (.aload_n 0, 1) := by decide +kernel
theorem dL_law_160 : decode cL_law 160 = .ok (.iload 4, 2) := by decide +kernel
theorem dL_law_162 : decode cL_law 162 = .ok (.iconst 2, 1) := by decide +kernel
theorem dL_law_163 : decode cL_law 163 = .ok (.iadd, 1) := by decide +kernel
theorem dL_law_164 : decode cL_law 164 = .ok (.iaload, 1) := by decide +kernel
theorem dL_law_165 : decode cL_law 165 = .ok (.i2l, 1) := by decide +kernel
theorem dL_law_166 : decode cL_law 166 = .ok (.bipush 32, 2) := by decide +kernel
theorem dL_law_168 : decode cL_law 168 = .ok (.lshl, 1) := by decide +kernel
theorem dL_law_169 : decode cL_law 169 = .ok (.aload_n 0, 1) := by decide +kernel
theorem dL_law_170 : decode cL_law 170 = .ok (.iload 4, 2) := by decide +kernel
theorem dL_law_172 : decode cL_law 172 = .ok (.iconst 3, 1) := by decide +kernel
theorem dL_law_173 : decode cL_law 173 = .ok (.iadd, 1) := by decide +kernel
theorem dL_law_174 : decode cL_law 174 = .ok (.iaload, 1) := by decide +kernel
theorem dL_law_175 : decode cL_law 175 = .ok (.i2l, 1) := by decide +kernel
theorem dL_law_176 : decode cL_law 176 = .ok (.ldc2_w 33, 3) := by decide +kernel
theorem dL_law_179 : decode cL_law 179 = .ok (.land, 1) := by decide +kernel
theorem dL_law_180 : decode cL_law 180 = .ok (.lor, 1) := by decide +kernel
theorem dL_law_181 : decode cL_law 181 = .ok (.invokevirtual 39, 3) := by decide +kernel
theorem dL_law_184 : decode cL_law 184 = .ok (.if_icmp .eq 577, 3) := by decide +kernel
theorem dL_law_187 : decode cL_law 187 = .ok (.iconst 0, 1) := by decide +kernel
theorem dL_law_188 : decode cL_law 188 = .ok (.ireturn, 1) := by decide +kernel
theorem dL_law_189 : decode cL_law 189 = .ok (.aload_n 1, 1) := by decide +kernel
theorem dL_law_190 : decode cL_law 190 = .ok (.invokevirtual 40, 3) := by decide +kernel
theorem dL_law_193 : decode cL_law 193 = .ok (.aload_n 2, 1) := by decide +kernel
theorem dL_law_194 : decode cL_law 194 = .ok (.invokevirtual 44, 3) := by decide +kernel
theorem dL_law_197 : decode cL_law 197 = .ok (.if_icmp .eq 564, 3) := by decide +kernel
theorem dL_law_200 : decode cL_law 200 = .ok (.iconst 0, 1) := by decide +kernel
theorem dL_law_201 : decode cL_law 201 = .ok (.ireturn, 1) := by decide +kernel
theorem dL_law_202 : decode cL_law 202 = .ok (.aload_n 1, 1) := by decide +kernel
theorem dL_law_203 : decode cL_law 203 = .ok (.invokevirtual 45, 3) := by decide +kernel
theorem dL_law_206 : decode cL_law 206 = .ok (.aload_n 2, 1) := by decide +kernel
theorem dL_law_207 : decode cL_law 207 = .ok (.invokevirtual 48, 3) := by decide +kernel
theorem dL_law_210 : decode cL_law 210 = .ok (.if_icmp .eq 551, 3) := by decide +kernel
theorem dL_law_213 : decode cL_law 213 = .ok (.iconst 0, 1) := by decide +kernel
theorem dL_law_214 : decode cL_law 214 = .ok (.ireturn, 1) := by decide +kernel
theorem dL_law_215 : decode cL_law 215 = .ok (.aload_n 1, 1) := by decide +kernel
theorem dL_law_216 : decode cL_law 216 = .ok (.aload_n 0, 1) := by decide +kernel
theorem dL_law_217 : decode cL_law 217 = .ok (.iload 4, 2) := by decide +kernel
theorem dL_law_219 : decode cL_law 219 = .ok (.iconst 1, 1) := by decide +kernel
theorem dL_law_220 : decode cL_law 220 = .ok (.iadd, 1) := by decide +kernel
theorem dL_law_221 : decode cL_law 221 = .ok (.iaload, 1) := by decide +kernel
theorem dL_law_222 : decode cL_law 222 = .ok (.aload_n 0, 1) := by decide +kernel
theorem dL_law_223 : decode cL_law 223 = .ok (.iload 4, 2) := by decide +kernel
theorem dL_law_225 : decode cL_law 225 = .ok (.iconst 2, 1) := by decide +kernel
theorem dL_law_226 : decode cL_law 226 = .ok (.iadd, 1) := by decide +kernel
theorem dL_law_227 : decode cL_law 227 = .ok (.iaload, 1) := by decide +kernel
theorem dL_law_228 : decode cL_law 228 = .ok (.aload_n 0, 1) := by decide +kernel
theorem dL_law_229 : decode cL_law 229 = .ok (.iload 4, 2) := by decide +kernel
theorem dL_law_231 : decode cL_law 231 = .ok (.iconst 3, 1) := by decide +kernel
theorem dL_law_232 : decode cL_law 232 = .ok (.iadd, 1) := by decide +kernel
theorem dL_law_233 : decode cL_law 233 = .ok (.iaload, 1) := by decide +kernel
theorem dL_law_234 : decode cL_law 234 = .ok (.aload_n 0, 1) := by decide +kernel
theorem dL_law_235 : decode cL_law 235 = .ok (.iload 4, 2) := by decide +kernel
theorem dL_law_237 : decode cL_law 237 = .ok (.iconst 4, 1) := by decide +kernel
theorem dL_law_238 : decode cL_law 238 = .ok (.iadd, 1) := by decide +kernel
theorem dL_law_239 : decode cL_law 239 = .ok (.iaload, 1) := by decide +kernel
theorem dL_law_240 : decode cL_law 240 = .ok (.invokevirtual 49, 3) := by decide +kernel
theorem dL_law_243 : decode cL_law 243 = .ok (.aload_n 2, 1) := by decide +kernel
theorem dL_law_244 : decode cL_law 244 = .ok (.aload_n 0, 1) := by decide +kernel
theorem dL_law_245 : decode cL_law 245 = .ok (.iload 4, 2) := by decide +kernel
theorem dL_law_247 : decode cL_law 247 = .ok (.iconst 1, 1) := by decide +kernel
theorem dL_law_248 : decode cL_law 248 = .ok (.iadd, 1) := by decide +kernel
theorem dL_law_249 : decode cL_law 249 = .ok (.iaload, 1) := by decide +kernel
theorem dL_law_250 : decode cL_law 250 = .ok (.aload_n 0, 1) := by decide +kernel
theorem dL_law_251 : decode cL_law 251 = .ok (.iload 4, 2) := by decide +kernel
theorem dL_law_253 : decode cL_law 253 = .ok (.iconst 2, 1) := by decide +kernel
theorem dL_law_254 : decode cL_law 254 = .ok (.iadd, 1) := by decide +kernel
theorem dL_law_255 : decode cL_law 255 = .ok (.iaload, 1) := by decide +kernel
theorem dL_law_256 : decode cL_law 256 = .ok (.aload_n 0, 1) := by decide +kernel
theorem dL_law_257 : decode cL_law 257 = .ok (.iload 4, 2) := by decide +kernel
theorem dL_law_259 : decode cL_law 259 = .ok (.iconst 3, 1) := by decide +kernel
theorem dL_law_260 : decode cL_law 260 = .ok (.iadd, 1) := by decide +kernel
theorem dL_law_261 : decode cL_law 261 = .ok (.iaload, 1) := by decide +kernel
theorem dL_law_262 : decode cL_law 262 = .ok (.aload_n 0, 1) := by decide +kernel
theorem dL_law_263 : decode cL_law 263 = .ok (.iload 4, 2) := by decide +kernel
theorem dL_law_265 : decode cL_law 265 = .ok (.iconst 4, 1) := by decide +kernel
theorem dL_law_266 : decode cL_law 266 = .ok (.iadd, 1) := by decide +kernel
theorem dL_law_267 : decode cL_law 267 = .ok (.iaload, 1) := by decide +kernel
theorem dL_law_268 : decode cL_law 268 = .ok (.invokevirtual 53, 3) := by decide +kernel
theorem dL_law_271 : decode cL_law 271 = .ok (.if_icmp .eq 490, 3) := by decide +kernel
theorem dL_law_274 : decode cL_law 274 = .ok (.iconst 0, 1) := by decide +kernel
theorem dL_law_275 : decode cL_law 275 = .ok (.ireturn, 1) := by decide +kernel
theorem dL_law_276 : decode cL_law 276 = .ok (.aload_n 1, 1) := by decide +kernel
theorem dL_law_277 : decode cL_law 277 = .ok (.aload_n 0, 1) := by decide +kernel
theorem dL_law_278 : decode cL_law 278 = .ok (.iload 4, 2) := by decide +kernel
theorem dL_law_280 : decode cL_law 280 = .ok (.iconst 1, 1) := by decide +kernel
theorem dL_law_281 : decode cL_law 281 = .ok (.iadd, 1) := by decide +kernel
theorem dL_law_282 : decode cL_law 282 = .ok (.iaload, 1) := by decide +kernel
theorem dL_law_283 : decode cL_law 283 = .ok (.aload_n 0, 1) := by decide +kernel
theorem dL_law_284 : decode cL_law 284 = .ok (.iload 4, 2) := by decide +kernel
theorem dL_law_286 : decode cL_law 286 = .ok (.iconst 2, 1) := by decide +kernel
theorem dL_law_287 : decode cL_law 287 = .ok (.iadd, 1) := by decide +kernel
theorem dL_law_288 : decode cL_law 288 = .ok (.iaload, 1) := by decide +kernel
theorem dL_law_289 : decode cL_law 289 = .ok (.invokevirtual 54, 3) := by decide +kernel
theorem dL_law_292 : decode cL_law 292 = .ok (.aload_n 2, 1) := by decide +kernel
theorem dL_law_293 : decode cL_law 293 = .ok (.aload_n 0, 1) := by decide +kernel
theorem dL_law_294 : decode cL_law 294 = .ok (.iload 4, 2) := by decide +kernel
theorem dL_law_296 : decode cL_law 296 = .ok (.iconst 1, 1) := by decide +kernel
theorem dL_law_297 : decode cL_law 297 = .ok (.iadd, 1) := by decide +kernel
theorem dL_law_298 : decode cL_law 298 = .ok (.iaload, 1) := by decide +kernel
theorem dL_law_299 : decode cL_law 299 = .ok (.aload_n 0, 1) := by decide +kernel
theorem dL_law_300 : decode cL_law 300 = .ok (.iload 4, 2) := by decide +kernel
theorem dL_law_302 : decode cL_law 302 = .ok (.iconst 2, 1) := by decide +kernel
theorem dL_law_303 : decode cL_law 303 = .ok (.iadd, 1) := by decide +kernel
theorem dL_law_304 : decode cL_law 304 = .ok (.iaload, 1) := by decide +kernel
theorem dL_law_305 : decode cL_law 305 = .ok (.invokevirtual 58, 3) := by decide +kernel
theorem dL_law_308 : decode cL_law 308 = .ok (.if_icmp .eq 453, 3) := by decide +kernel
theorem dL_law_311 : decode cL_law 311 = .ok (.iconst 0, 1) := by decide +kernel
theorem dL_law_312 : decode cL_law 312 = .ok (.ireturn, 1) := by decide +kernel
theorem dL_law_313 : decode cL_law 313 = .ok (.aload_n 1, 1) := by decide +kernel
theorem dL_law_314 : decode cL_law 314 = .ok (.aload_n 0, 1) := by decide +kernel
theorem dL_law_315 : decode cL_law 315 = .ok (.iload 4, 2) := by decide +kernel
theorem dL_law_317 : decode cL_law 317 = .ok (.iconst 1, 1) := by decide +kernel
theorem dL_law_318 : decode cL_law 318 = .ok (.iadd, 1) := by decide +kernel
theorem dL_law_319 : decode cL_law 319 = .ok (.iaload, 1) := by decide +kernel
theorem dL_law_320 : decode cL_law 320 = .ok (.invokevirtual 59, 3) := by decide +kernel
theorem dL_law_323 : decode cL_law 323 = .ok (.aload_n 2, 1) := by decide +kernel
theorem dL_law_324 : decode cL_law 324 = .ok (.aload_n 0, 1) := by decide +kernel
theorem dL_law_325 : decode cL_law 325 = .ok (.iload 4, 2) := by decide +kernel
theorem dL_law_327 : decode cL_law 327 = .ok (.iconst 1, 1) := by decide +kernel
theorem dL_law_328 : decode cL_law 328 = .ok (.iadd, 1) := by decide +kernel
theorem dL_law_329 : decode cL_law 329 = .ok (.iaload, 1) := by decide +kernel
theorem dL_law_330 : decode cL_law 330 = .ok (.invokevirtual 62, 3) := by decide +kernel
theorem dL_law_333 : decode cL_law 333 = .ok (.if_icmp .eq 428, 3) := by decide +kernel
theorem dL_law_336 : decode cL_law 336 = .ok (.iconst 0, 1) := by decide +kernel
theorem dL_law_337 : decode cL_law 337 = .ok (.ireturn, 1) := by decide +kernel
theorem dL_law_338 : decode cL_law 338 = .ok (.aload_n 1, 1) := by decide +kernel
theorem dL_law_339 : decode cL_law 339 = .ok (.aload_n 0, 1) := by decide +kernel
theorem dL_law_340 : decode cL_law 340 = .ok (.iload 4, 2) := by decide +kernel
theorem dL_law_342 : decode cL_law 342 = .ok (.iconst 1, 1) := by decide +kernel
theorem dL_law_343 : decode cL_law 343 = .ok (.iadd, 1) := by decide +kernel
theorem dL_law_344 : decode cL_law 344 = .ok (.iaload, 1) := by decide +kernel
theorem dL_law_345 : decode cL_law 345 = .ok (.invokevirtual 63, 3) := by decide +kernel
theorem dL_law_348 : decode cL_law 348 = .ok (.aload_n 2, 1) := by decide +kernel
theorem dL_law_349 : decode cL_law 349 = .ok (.aload_n 0, 1) := by decide +kernel
theorem dL_law_350 : decode cL_law 350 = .ok (.iload 4, 2) := by decide +kernel
theorem dL_law_352 : decode cL_law 352 = .ok (.iconst 1, 1) := by decide +kernel
theorem dL_law_353 : decode cL_law 353 = .ok (.iadd, 1) := by decide +kernel
theorem dL_law_354 : decode cL_law 354 = .ok (.iaload, 1) := by decide +kernel
theorem dL_law_355 : decode cL_law 355 = .ok (.invokevirtual 66, 3) := by decide +kernel
theorem dL_law_358 : decode cL_law 358 = .ok (.if_icmp .eq 403, 3) := by decide +kernel
theorem dL_law_361 : decode cL_law 361 = .ok (.iconst 0, 1) := by decide +kernel
theorem dL_law_362 : decode cL_law 362 = .ok (.ireturn, 1) := by decide +kernel
theorem dL_law_363 : decode cL_law 363 = .ok (.aload_n 1, 1) := by decide +kernel
theorem dL_law_364 : decode cL_law 364 = .ok (.aload_n 0, 1) := by decide +kernel
theorem dL_law_365 : decode cL_law 365 = .ok (.iload 4, 2) := by decide +kernel
theorem dL_law_367 : decode cL_law 367 = .ok (.iconst 1, 1) := by decide +kernel
theorem dL_law_368 : decode cL_law 368 = .ok (.iadd, 1) := by decide +kernel
theorem dL_law_369 : decode cL_law 369 = .ok (.iaload, 1) := by decide +kernel
theorem dL_law_370 : decode cL_law 370 = .ok (.aload_n 0, 1) := by decide +kernel
theorem dL_law_371 : decode cL_law 371 = .ok (.iload 4, 2) := by decide +kernel
theorem dL_law_373 : decode cL_law 373 = .ok (.iconst 2, 1) := by decide +kernel
theorem dL_law_374 : decode cL_law 374 = .ok (.iadd, 1) := by decide +kernel
theorem dL_law_375 : decode cL_law 375 = .ok (.iaload, 1) := by decide +kernel
theorem dL_law_376 : decode cL_law 376 = .ok (.invokevirtual 67, 3) := by decide +kernel
theorem dL_law_379 : decode cL_law 379 = .ok (.aload_n 2, 1) := by decide +kernel
theorem dL_law_380 : decode cL_law 380 = .ok (.aload_n 0, 1) := by decide +kernel
theorem dL_law_381 : decode cL_law 381 = .ok (.iload 4, 2) := by decide +kernel
theorem dL_law_383 : decode cL_law 383 = .ok (.iconst 1, 1) := by decide +kernel
theorem dL_law_384 : decode cL_law 384 = .ok (.iadd, 1) := by decide +kernel
theorem dL_law_385 : decode cL_law 385 = .ok (.iaload, 1) := by decide +kernel
theorem dL_law_386 : decode cL_law 386 = .ok (.aload_n 0, 1) := by decide +kernel
theorem dL_law_387 : decode cL_law 387 = .ok (.iload 4, 2) := by decide +kernel
theorem dL_law_389 : decode cL_law 389 = .ok (.iconst 2, 1) := by decide +kernel
theorem dL_law_390 : decode cL_law 390 = .ok (.iadd, 1) := by decide +kernel
theorem dL_law_391 : decode cL_law 391 = .ok (.iaload, 1) := by decide +kernel
theorem dL_law_392 : decode cL_law 392 = .ok (.invokevirtual 70, 3) := by decide +kernel
theorem dL_law_395 : decode cL_law 395 = .ok (.if_icmp .eq 366, 3) := by decide +kernel
theorem dL_law_398 : decode cL_law 398 = .ok (.iconst 0, 1) := by decide +kernel
theorem dL_law_399 : decode cL_law 399 = .ok (.ireturn, 1) := by decide +kernel
theorem dL_law_400 : decode cL_law 400 = .ok (.aload_n 1, 1) := by decide +kernel
theorem dL_law_401 : decode cL_law 401 = .ok (.aload_n 0, 1) := by decide +kernel
theorem dL_law_402 : decode cL_law 402 = .ok (.iload 4, 2) := by decide +kernel
theorem dL_law_404 : decode cL_law 404 = .ok (.iconst 1, 1) := by decide +kernel
theorem dL_law_405 : decode cL_law 405 = .ok (.iadd, 1) := by decide +kernel
theorem dL_law_406 : decode cL_law 406 = .ok (.iaload, 1) := by decide +kernel
theorem dL_law_407 : decode cL_law 407 = .ok (.aload_n 0, 1) := by decide +kernel
theorem dL_law_408 : decode cL_law 408 = .ok (.iload 4, 2) := by decide +kernel
theorem dL_law_410 : decode cL_law 410 = .ok (.iconst 2, 1) := by decide +kernel
theorem dL_law_411 : decode cL_law 411 = .ok (.iadd, 1) := by decide +kernel
theorem dL_law_412 : decode cL_law 412 = .ok (.iaload, 1) := by decide +kernel
theorem dL_law_413 : decode cL_law 413 = .ok (.aload_n 3, 1) := by decide +kernel
theorem dL_law_414 : decode cL_law 414 = .ok (.invokestatic 71, 3) := by decide +kernel
theorem dL_law_417 : decode cL_law 417 = .ok (.istore 5, 2) := by decide +kernel
theorem dL_law_419 : decode cL_law 419 = .ok (.aload_n 2, 1) := by decide +kernel
theorem dL_law_420 : decode cL_law 420 = .ok (.aload_n 0, 1) := by decide +kernel
theorem dL_law_421 : decode cL_law 421 = .ok (.iload 4, 2) := by decide +kernel
theorem dL_law_423 : decode cL_law 423 = .ok (.iconst 1, 1) := by decide +kernel
theorem dL_law_424 : decode cL_law 424 = .ok (.iadd, 1) := by decide +kernel
theorem dL_law_425 : decode cL_law 425 = .ok (.iaload, 1) := by decide +kernel
theorem dL_law_426 : decode cL_law 426 = .ok (.aload_n 0, 1) := by decide +kernel
theorem dL_law_427 : decode cL_law 427 = .ok (.iload 4, 2) := by decide +kernel
theorem dL_law_429 : decode cL_law 429 = .ok (.iconst 2, 1) := by decide +kernel
theorem dL_law_430 : decode cL_law 430 = .ok (.iadd, 1) := by decide +kernel
theorem dL_law_431 : decode cL_law 431 = .ok (.iaload, 1) := by decide +kernel
theorem dL_law_432 : decode cL_law 432 = .ok (.invokevirtual 76, 3) := by decide +kernel
theorem dL_law_435 : decode cL_law 435 = .ok (.istore 6, 2) := by decide +kernel
theorem dL_law_437 : decode cL_law 437 = .ok (.aload_n 2, 1) := by decide +kernel
theorem dL_law_438 : decode cL_law 438 = .ok (.invokevirtual 77, 3) := by decide +kernel
theorem dL_law_441 : decode cL_law 441 = .ok (.iload 5, 2) := by decide +kernel
theorem dL_law_443 : decode cL_law 443 = .ok (.if_icmp .eq 5, 3) := by decide +kernel
theorem dL_law_446 : decode cL_law 446 = .ok (.iconst 0, 1) := by decide +kernel
theorem dL_law_447 : decode cL_law 447 = .ok (.ireturn, 1) := by decide +kernel
theorem dL_law_448 : decode cL_law 448 = .ok (.iload 5, 2) := by decide +kernel
theorem dL_law_450 : decode cL_law 450 = .ok (.ifCond .ne 15, 3) := by decide +kernel
theorem dL_law_453 : decode cL_law 453 = .ok (.aload_n 3, 1) := by decide +kernel
theorem dL_law_454 : decode cL_law 454 = .ok (.iconst 0, 1) := by decide +kernel
theorem dL_law_455 : decode cL_law 455 = .ok (.laload, 1) := by decide +kernel
theorem dL_law_456 : decode cL_law 456 = .ok (.iload 6, 2) := by decide +kernel
theorem dL_law_458 : decode cL_law 458 = .ok (.i2l, 1) := by decide +kernel
theorem dL_law_459 : decode cL_law 459 = .ok (.lcmp, 1) := by decide +kernel
theorem dL_law_460 : decode cL_law 460 = .ok (.ifCond .eq 5, 3) := by decide +kernel
theorem dL_law_463 : decode cL_law 463 = .ok (.iconst 0, 1) := by decide +kernel
theorem dL_law_464 : decode cL_law 464 = .ok (.ireturn, 1) := by decide +kernel
theorem dL_law_465 : decode cL_law 465 = .ok (.goto 296, 3) := by decide +kernel
theorem dL_law_468 : decode cL_law 468 = .ok (.aload_n 1, 1) := by decide +kernel
theorem dL_law_469 : decode cL_law 469 = .ok (.aload_n 0, 1) := by decide +kernel
theorem dL_law_470 : decode cL_law 470 = .ok (.iload 4, 2) := by decide +kernel
theorem dL_law_472 : decode cL_law 472 = .ok (.iconst 1, 1) := by decide +kernel
theorem dL_law_473 : decode cL_law 473 = .ok (.iadd, 1) := by decide +kernel
theorem dL_law_474 : decode cL_law 474 = .ok (.iaload, 1) := by decide +kernel
theorem dL_law_475 : decode cL_law 475 = .ok (.invokevirtual 80, 3) := by decide +kernel
theorem dL_law_478 : decode cL_law 478 = .ok (.aload_n 2, 1) := by decide +kernel
theorem dL_law_479 : decode cL_law 479 = .ok (.aload_n 0, 1) := by decide +kernel
theorem dL_law_480 : decode cL_law 480 = .ok (.iload 4, 2) := by decide +kernel
theorem dL_law_482 : decode cL_law 482 = .ok (.iconst 1, 1) := by decide +kernel
theorem dL_law_483 : decode cL_law 483 = .ok (.iadd, 1) := by decide +kernel
theorem dL_law_484 : decode cL_law 484 = .ok (.iaload, 1) := by decide +kernel
theorem dL_law_485 : decode cL_law 485 = .ok (.invokevirtual 83, 3) := by decide +kernel
theorem dL_law_488 : decode cL_law 488 = .ok (.if_icmp .eq 273, 3) := by decide +kernel
theorem dL_law_491 : decode cL_law 491 = .ok (.iconst 0, 1) := by decide +kernel
theorem dL_law_492 : decode cL_law 492 = .ok (.ireturn, 1) := by decide +kernel
theorem dL_law_493 : decode cL_law 493 = .ok (.aload_n 1, 1) := by decide +kernel
theorem dL_law_494 : decode cL_law 494 = .ok (.aload_n 0, 1) := by decide +kernel
theorem dL_law_495 : decode cL_law 495 = .ok (.iload 4, 2) := by decide +kernel
theorem dL_law_497 : decode cL_law 497 = .ok (.iconst 1, 1) := by decide +kernel
theorem dL_law_498 : decode cL_law 498 = .ok (.iadd, 1) := by decide +kernel
theorem dL_law_499 : decode cL_law 499 = .ok (.iaload, 1) := by decide +kernel
theorem dL_law_500 : decode cL_law 500 = .ok (.aload_n 3, 1) := by decide +kernel
theorem dL_law_501 : decode cL_law 501 = .ok (.invokestatic 84, 3) := by decide +kernel
theorem dL_law_504 : decode cL_law 504 = .ok (.istore 5, 2) := by decide +kernel
theorem dL_law_506 : decode cL_law 506 = .ok (.aload_n 2, 1) := by decide +kernel
theorem dL_law_507 : decode cL_law 507 = .ok (.aload_n 0, 1) := by decide +kernel
theorem dL_law_508 : decode cL_law 508 = .ok (.iload 4, 2) := by decide +kernel
theorem dL_law_510 : decode cL_law 510 = .ok (.iconst 1, 1) := by decide +kernel
theorem dL_law_511 : decode cL_law 511 = .ok (.iadd, 1) := by decide +kernel
theorem dL_law_512 : decode cL_law 512 = .ok (.iaload, 1) := by decide +kernel
theorem dL_law_513 : decode cL_law 513 = .ok (.invokevirtual 87, 3) := by decide +kernel
theorem dL_law_516 : decode cL_law 516 = .ok (.istore 6, 2) := by decide +kernel
theorem dL_law_518 : decode cL_law 518 = .ok (.aload_n 2, 1) := by decide +kernel
theorem dL_law_519 : decode cL_law 519 = .ok (.invokevirtual 77, 3) := by decide +kernel
theorem dL_law_522 : decode cL_law 522 = .ok (.iload 5, 2) := by decide +kernel
theorem dL_law_524 : decode cL_law 524 = .ok (.if_icmp .eq 5, 3) := by decide +kernel
theorem dL_law_527 : decode cL_law 527 = .ok (.iconst 0, 1) := by decide +kernel
theorem dL_law_528 : decode cL_law 528 = .ok (.ireturn, 1) := by decide +kernel
theorem dL_law_529 : decode cL_law 529 = .ok (.iload 5, 2) := by decide +kernel
theorem dL_law_531 : decode cL_law 531 = .ok (.ifCond .ne 15, 3) := by decide +kernel
theorem dL_law_534 : decode cL_law 534 = .ok (.aload_n 3, 1) := by decide +kernel
theorem dL_law_535 : decode cL_law 535 = .ok (.iconst 0, 1) := by decide +kernel
theorem dL_law_536 : decode cL_law 536 = .ok (.laload, 1) := by decide +kernel
theorem dL_law_537 : decode cL_law 537 = .ok (.iload 6, 2) := by decide +kernel
theorem dL_law_539 : decode cL_law 539 = .ok (.i2l, 1) := by decide +kernel
theorem dL_law_540 : decode cL_law 540 = .ok (.lcmp, 1) := by decide +kernel
theorem dL_law_541 : decode cL_law 541 = .ok (.ifCond .eq 5, 3) := by decide +kernel
theorem dL_law_544 : decode cL_law 544 = .ok (.iconst 0, 1) := by decide +kernel
theorem dL_law_545 : decode cL_law 545 = .ok (.ireturn, 1) := by decide +kernel
theorem dL_law_546 : decode cL_law 546 = .ok (.goto 215, 3) := by decide +kernel
theorem dL_law_549 : decode cL_law 549 = .ok (.aload_n 1, 1) := by decide +kernel
theorem dL_law_550 : decode cL_law 550 = .ok (.invokevirtual 88, 3) := by decide +kernel
theorem dL_law_553 : decode cL_law 553 = .ok (.aload_n 2, 1) := by decide +kernel
theorem dL_law_554 : decode cL_law 554 = .ok (.invokevirtual 91, 3) := by decide +kernel
theorem dL_law_557 : decode cL_law 557 = .ok (.if_icmp .eq 204, 3) := by decide +kernel
theorem dL_law_560 : decode cL_law 560 = .ok (.iconst 0, 1) := by decide +kernel
theorem dL_law_561 : decode cL_law 561 = .ok (.ireturn, 1) := by decide +kernel
theorem dL_law_562 : decode cL_law 562 = .ok (.aload_n 1, 1) := by decide +kernel
theorem dL_law_563 : decode cL_law 563 = .ok (.aload_n 0, 1) := by decide +kernel
theorem dL_law_564 : decode cL_law 564 = .ok (.iload 4, 2) := by decide +kernel
theorem dL_law_566 : decode cL_law 566 = .ok (.iconst 1, 1) := by decide +kernel
theorem dL_law_567 : decode cL_law 567 = .ok (.iadd, 1) := by decide +kernel
theorem dL_law_568 : decode cL_law 568 = .ok (.iaload, 1) := by decide +kernel
theorem dL_law_569 : decode cL_law 569 = .ok (.aload_n 3, 1) := by decide +kernel
theorem dL_law_570 : decode cL_law 570 = .ok (.invokestatic 92, 3) := by decide +kernel
theorem dL_law_573 : decode cL_law 573 = .ok (.istore 5, 2) := by decide +kernel
theorem dL_law_575 : decode cL_law 575 = .ok (.aload_n 2, 1) := by decide +kernel
theorem dL_law_576 : decode cL_law 576 = .ok (.aload_n 0, 1) := by decide +kernel
theorem dL_law_577 : decode cL_law 577 = .ok (.iload 4, 2) := by decide +kernel
theorem dL_law_579 : decode cL_law 579 = .ok (.iconst 1, 1) := by decide +kernel
theorem dL_law_580 : decode cL_law 580 = .ok (.iadd, 1) := by decide +kernel
theorem dL_law_581 : decode cL_law 581 = .ok (.iaload, 1) := by decide +kernel
end
section
theorem dL_law_582 : decode cL_law 582 = .ok (.invokevirtual 94, 3) := by decide +kernel
theorem dL_law_585 : decode cL_law 585 = .ok (.istore 6, 2) := by decide +kernel
theorem dL_law_587 : decode cL_law 587 = .ok (.aload_n 2, 1) := by decide +kernel
theorem dL_law_588 : decode cL_law 588 = .ok (.invokevirtual 77, 3) := by decide +kernel
theorem dL_law_591 : decode cL_law 591 = .ok (.iload 5, 2) := by decide +kernel
theorem dL_law_593 : decode cL_law 593 = .ok (.if_icmp .eq 5, 3) := by decide +kernel
theorem dL_law_596 : decode cL_law 596 = .ok (.iconst 0, 1) := by decide +kernel
theorem dL_law_597 : decode cL_law 597 = .ok (.ireturn, 1) := by decide +kernel
theorem dL_law_598 : decode cL_law 598 = .ok (.iload 5, 2) := by decide +kernel
theorem dL_law_600 : decode cL_law 600 = .ok (.ifCond .ne 15, 3) := by decide +kernel
theorem dL_law_603 : decode cL_law 603 = .ok (.aload_n 3, 1) := by decide +kernel
theorem dL_law_604 : decode cL_law 604 = .ok (.iconst 0, 1) := by decide +kernel
theorem dL_law_605 : decode cL_law 605 = .ok (.laload, 1) := by decide +kernel
theorem dL_law_606 : decode cL_law 606 = .ok (.iload 6, 2) := by decide +kernel
theorem dL_law_608 : decode cL_law 608 = .ok (.i2l, 1) := by decide +kernel
theorem dL_law_609 : decode cL_law 609 = .ok (.lcmp, 1) := by decide +kernel
theorem dL_law_610 : decode cL_law 610 = .ok (.ifCond .eq 5, 3) := by decide +kernel
theorem dL_law_613 : decode cL_law 613 = .ok (.iconst 0, 1) := by decide +kernel
theorem dL_law_614 : decode cL_law 614 = .ok (.ireturn, 1) := by decide +kernel
theorem dL_law_615 : decode cL_law 615 = .ok (.goto 146, 3) := by decide +kernel
theorem dL_law_618 : decode cL_law 618 = .ok (.aload_n 1, 1) := by decide +kernel
theorem dL_law_619 : decode cL_law 619 = .ok (.aload_n 0, 1) := by decide +kernel
theorem dL_law_620 : decode cL_law 620 = .ok (.iload 4, 2) := by decide +kernel
theorem dL_law_622 : decode cL_law 622 = .ok (.iconst 1, 1) := by decide +kernel
theorem dL_law_623 : decode cL_law 623 = .ok (.iadd, 1) := by decide +kernel
theorem dL_law_624 : decode cL_law 624 = .ok (.iaload, 1) := by decide +kernel
theorem dL_law_625 : decode cL_law 625 = .ok (.aload_n 0, 1) := by decide +kernel
theorem dL_law_626 : decode cL_law 626 = .ok (.iload 4, 2) := by decide +kernel
theorem dL_law_628 : decode cL_law 628 = .ok (.iconst 2, 1) := by decide +kernel
theorem dL_law_629 : decode cL_law 629 = .ok (.iadd, 1) := by decide +kernel
theorem dL_law_630 : decode cL_law 630 = .ok (.iaload, 1) := by decide +kernel
theorem dL_law_631 : decode cL_law 631 = .ok (.invokevirtual 95, 3) := by decide +kernel
theorem dL_law_634 : decode cL_law 634 = .ok (.aload_n 2, 1) := by decide +kernel
theorem dL_law_635 : decode cL_law 635 = .ok (.aload_n 0, 1) := by decide +kernel
theorem dL_law_636 : decode cL_law 636 = .ok (.iload 4, 2) := by decide +kernel
theorem dL_law_638 : decode cL_law 638 = .ok (.iconst 1, 1) := by decide +kernel
theorem dL_law_639 : decode cL_law 639 = .ok (.iadd, 1) := by decide +kernel
theorem dL_law_640 : decode cL_law 640 = .ok (.iaload, 1) := by decide +kernel
theorem dL_law_641 : decode cL_law 641 = .ok (.aload_n 0, 1) := by decide +kernel
theorem dL_law_642 : decode cL_law 642 = .ok (.iload 4, 2) := by decide +kernel
theorem dL_law_644 : decode cL_law 644 = .ok (.iconst 2, 1) := by decide +kernel
theorem dL_law_645 : decode cL_law 645 = .ok (.iadd, 1) := by decide +kernel
theorem dL_law_646 : decode cL_law 646 = .ok (.iaload, 1) := by decide +kernel
theorem dL_law_647 : decode cL_law 647 = .ok (.invokevirtual 98, 3) := by decide +kernel
theorem dL_law_650 : decode cL_law 650 = .ok (.if_icmp .eq 111, 3) := by decide +kernel
theorem dL_law_653 : decode cL_law 653 = .ok (.iconst 0, 1) := by decide +kernel
theorem dL_law_654 : decode cL_law 654 = .ok (.ireturn, 1) := by decide +kernel
theorem dL_law_655 : decode cL_law 655 = .ok (.aload_n 1, 1) := by decide +kernel
theorem dL_law_656 : decode cL_law 656 = .ok (.aload_n 0, 1) := by decide +kernel
theorem dL_law_657 : decode cL_law 657 = .ok (.iload 4, 2) := by decide +kernel
theorem dL_law_659 : decode cL_law 659 = .ok (.iconst 1, 1) := by decide +kernel
theorem dL_law_660 : decode cL_law 660 = .ok (.iadd, 1) := by decide +kernel
theorem dL_law_661 : decode cL_law 661 = .ok (.iaload, 1) := by decide +kernel
theorem dL_law_662 : decode cL_law 662 = .ok (.invokevirtual 99, 3) := by decide +kernel
theorem dL_law_665 : decode cL_law 665 = .ok (.aload_n 2, 1) := by decide +kernel
theorem dL_law_666 : decode cL_law 666 = .ok (.aload_n 0, 1) := by decide +kernel
theorem dL_law_667 : decode cL_law 667 = .ok (.iload 4, 2) := by decide +kernel
theorem dL_law_669 : decode cL_law 669 = .ok (.iconst 1, 1) := by decide +kernel
theorem dL_law_670 : decode cL_law 670 = .ok (.iadd, 1) := by decide +kernel
theorem dL_law_671 : decode cL_law 671 = .ok (.iaload, 1) := by decide +kernel
theorem dL_law_672 : decode cL_law 672 = .ok (.invokevirtual 102, 3) := by decide +kernel
theorem dL_law_675 : decode cL_law 675 = .ok (.if_icmp .eq 86, 3) := by decide +kernel
theorem dL_law_678 : decode cL_law 678 = .ok (.iconst 0, 1) := by decide +kernel
theorem dL_law_679 : decode cL_law 679 = .ok (.ireturn, 1) := by decide +kernel
theorem dL_law_680 : decode cL_law 680 = .ok (.aload_n 1, 1) := by decide +kernel
theorem dL_law_681 : decode cL_law 681 = .ok (.aload_n 0, 1) := by decide +kernel
theorem dL_law_682 : decode cL_law 682 = .ok (.iload 4, 2) := by decide +kernel
theorem dL_law_684 : decode cL_law 684 = .ok (.iconst 1, 1) := by decide +kernel
theorem dL_law_685 : decode cL_law 685 = .ok (.iadd, 1) := by decide +kernel
theorem dL_law_686 : decode cL_law 686 = .ok (.iaload, 1) := by decide +kernel
theorem dL_law_687 : decode cL_law 687 = .ok (.aload_n 3, 1) := by decide +kernel
theorem dL_law_688 : decode cL_law 688 = .ok (.invokestatic 103, 3) := by decide +kernel
theorem dL_law_691 : decode cL_law 691 = .ok (.istore 5, 2) := by decide +kernel
theorem dL_law_693 : decode cL_law 693 = .ok (.aload_n 2, 1) := by decide +kernel
theorem dL_law_694 : decode cL_law 694 = .ok (.aload_n 0, 1) := by decide +kernel
theorem dL_law_695 : decode cL_law 695 = .ok (.iload 4, 2) := by decide +kernel
theorem dL_law_697 : decode cL_law 697 = .ok (.iconst 1, 1) := by decide +kernel
theorem dL_law_698 : decode cL_law 698 = .ok (.iadd, 1) := by decide +kernel
theorem dL_law_699 : decode cL_law 699 = .ok (.iaload, 1) := by decide +kernel
theorem dL_law_700 : decode cL_law 700 = .ok (.invokevirtual 105, 3) := by decide +kernel
theorem dL_law_703 : decode cL_law 703 = .ok (.istore 6, 2) := by decide +kernel
theorem dL_law_705 : decode cL_law 705 = .ok (.aload_n 2, 1) := by decide +kernel
theorem dL_law_706 : decode cL_law 706 = .ok (.invokevirtual 77, 3) := by decide +kernel
theorem dL_law_709 : decode cL_law 709 = .ok (.iload 5, 2) := by decide +kernel
theorem dL_law_711 : decode cL_law 711 = .ok (.if_icmp .eq 5, 3) := by decide +kernel
theorem dL_law_714 : decode cL_law 714 = .ok (.iconst 0, 1) := by decide +kernel
theorem dL_law_715 : decode cL_law 715 = .ok (.ireturn, 1) := by decide +kernel
theorem dL_law_716 : decode cL_law 716 = .ok (.iload 5, 2) := by decide +kernel
theorem dL_law_718 : decode cL_law 718 = .ok (.ifCond .ne 15, 3) := by decide +kernel
theorem dL_law_721 : decode cL_law 721 = .ok (.aload_n 3, 1) := by decide +kernel
theorem dL_law_722 : decode cL_law 722 = .ok (.iconst 0, 1) := by decide +kernel
theorem dL_law_723 : decode cL_law 723 = .ok (.laload, 1) := by decide +kernel
theorem dL_law_724 : decode cL_law 724 = .ok (.iload 6, 2) := by decide +kernel
theorem dL_law_726 : decode cL_law 726 = .ok (.i2l, 1) := by decide +kernel
theorem dL_law_727 : decode cL_law 727 = .ok (.lcmp, 1) := by decide +kernel
theorem dL_law_728 : decode cL_law 728 = .ok (.ifCond .eq 5, 3) := by decide +kernel
theorem dL_law_731 : decode cL_law 731 = .ok (.iconst 0, 1) := by decide +kernel
theorem dL_law_732 : decode cL_law 732 = .ok (.ireturn, 1) := by decide +kernel
theorem dL_law_733 : decode cL_law 733 = .ok (.goto 28, 3) := by decide +kernel
theorem dL_law_736 : decode cL_law 736 = .ok (.aload_n 1, 1) := by decide +kernel
theorem dL_law_737 : decode cL_law 737 = .ok (.aload_n 0, 1) := by decide +kernel
theorem dL_law_738 : decode cL_law 738 = .ok (.iload 4, 2) := by decide +kernel
theorem dL_law_740 : decode cL_law 740 = .ok (.iconst 1, 1) := by decide +kernel
theorem dL_law_741 : decode cL_law 741 = .ok (.iadd, 1) := by decide +kernel
theorem dL_law_742 : decode cL_law 742 = .ok (.iaload, 1) := by decide +kernel
theorem dL_law_743 : decode cL_law 743 = .ok (.invokevirtual 106, 3) := by decide +kernel
theorem dL_law_746 : decode cL_law 746 = .ok (.aload_n 2, 1) := by decide +kernel
theorem dL_law_747 : decode cL_law 747 = .ok (.aload_n 0, 1) := by decide +kernel
theorem dL_law_748 : decode cL_law 748 = .ok (.iload 4, 2) := by decide +kernel
theorem dL_law_750 : decode cL_law 750 = .ok (.iconst 1, 1) := by decide +kernel
theorem dL_law_751 : decode cL_law 751 = .ok (.iadd, 1) := by decide +kernel
theorem dL_law_752 : decode cL_law 752 = .ok (.iaload, 1) := by decide +kernel
theorem dL_law_753 : decode cL_law 753 = .ok (.invokevirtual 109, 3) := by decide +kernel
theorem dL_law_756 : decode cL_law 756 = .ok (.if_icmp .eq 5, 3) := by decide +kernel
theorem dL_law_759 : decode cL_law 759 = .ok (.iconst 0, 1) := by decide +kernel
theorem dL_law_760 : decode cL_law 760 = .ok (.ireturn, 1) := by decide +kernel
theorem dL_law_761 : decode cL_law 761 = .ok (.iinc 4 5, 3) := by decide +kernel
theorem dL_law_764 : decode cL_law 764 = .ok (.goto (-741), 3) := by decide +kernel
theorem dL_law_767 : decode cL_law 767 = .ok (.iconst 1, 1) := by decide +kernel
theorem dL_law_768 : decode cL_law 768 = .ok (.ireturn, 1) := by decide +kernel
end
section
theorem dX0_init_0 : decode cX0_init 0 = .ok (.aload_n 0, 1) := by decide +kernel
theorem dX0_init_1 : decode cX0_init 1 = .ok (.invokespecial 3, 3) := by decide +kernel
theorem dX0_init_4 : decode cX0_init 4 = .ok (.aload_n 0, 1) := by decide +kernel
theorem dX0_init_5 : decode cX0_init 5 = .ok (.new 9, 3) := by decide +kernel
theorem dX0_init_8 : decode cX0_init 8 = .ok (.dup, 1) := by decide +kernel
theorem dX0_init_9 : decode cX0_init 9 = .ok (.bipush 80, 2) := by decide +kernel
theorem dX0_init_11 : decode cX0_init 11 = .ok (.invokespecial 11, 3) := by decide +kernel
theorem dX0_init_14 : decode cX0_init 14 = .ok (.putfield 14, 3) := by decide +kernel
theorem dX0_init_17 : decode cX0_init 17 = .ok (.return_, 1) := by decide +kernel
theorem dX0_words_0 : decode cX0_words 0 = .ok (.aload_n 0, 1) := by decide +kernel
theorem dX0_words_1 : decode cX0_words 1 = .ok (.getfield 14, 3) := by decide +kernel
theorem dX0_words_4 : decode cX0_words 4 = .ok (.areturn, 1) := by decide +kernel
theorem dX0_id_0 : decode cX0_id 0 = .ok (.aload_n 0, 1) := by decide +kernel
theorem dX0_id_1 : decode cX0_id 1 = .ok (.getfield 20, 3) := by decide +kernel
theorem dX0_id_4 : decode cX0_id 4 = .ok (.ireturn, 1) := by decide +kernel
theorem dX0_isThere_0 : decode cX0_isThere 0 = .ok (.aload_n 0, 1) := by decide +kernel
theorem dX0_isThere_1 : decode cX0_isThere 1 = .ok (.getfield 20, 3) := by decide +kernel
theorem dX0_isThere_4 : decode cX0_isThere 4 = .ok (.ifCond .eq 7, 3) := by decide +kernel
theorem dX0_isThere_7 : decode cX0_isThere 7 = .ok (.iconst 1, 1) := by decide +kernel
theorem dX0_isThere_8 : decode cX0_isThere 8 = .ok (.goto 4, 3) := by decide +kernel
theorem dX0_isThere_11 : decode cX0_isThere 11 = .ok (.iconst 0, 1) := by decide +kernel
theorem dX0_isThere_12 : decode cX0_isThere 12 = .ok (.ireturn, 1) := by decide +kernel
theorem dX0_pieces_0 : decode cX0_pieces 0 = .ok (.aload_n 0, 1) := by decide +kernel
theorem dX0_pieces_1 : decode cX0_pieces 1 = .ok (.getfield 24, 3) := by decide +kernel
theorem dX0_pieces_4 : decode cX0_pieces 4 = .ok (.ireturn, 1) := by decide +kernel
theorem dX0_pieceLength_0 : decode cX0_pieceLength 0 = .ok (.aload_n 0, 1) := by decide +kernel
theorem dX0_pieceLength_1 : decode cX0_pieceLength 1 = .ok (.getfield 27, 3) := by decide +kernel
theorem dX0_pieceLength_4 : decode cX0_pieceLength 4 = .ok (.ireturn, 1) := by decide +kernel
theorem dX0_sum_0 : decode cX0_sum 0 = .ok (.aload_n 0, 1) := by decide +kernel
theorem dX0_sum_1 : decode cX0_sum 1 = .ok (.getfield 20, 3) := by decide +kernel
theorem dX0_sum_4 : decode cX0_sum 4 = .ok (.ifCond .ne 7, 3) := by decide +kernel
theorem dX0_sum_7 : decode cX0_sum 7 = .ok (.iconst 0, 1) := by decide +kernel
theorem dX0_sum_8 : decode cX0_sum 8 = .ok (.goto 10, 3) := by decide +kernel
theorem dX0_sum_11 : decode cX0_sum 11 = .ok (.aload_n 0, 1) := by decide +kernel
theorem dX0_sum_12 : decode cX0_sum 12 = .ok (.getfield 14, 3) := by decide +kernel
theorem dX0_sum_15 : decode cX0_sum 15 = .ok (.invokevirtual 30, 3) := by decide +kernel
theorem dX0_sum_18 : decode cX0_sum 18 = .ok (.ireturn, 1) := by decide +kernel
theorem dX0_begin_0 : decode cX0_begin 0 = .ok (.aload_n 0, 1) := by decide +kernel
theorem dX0_begin_1 : decode cX0_begin 1 = .ok (.iload_n 1, 1) := by decide +kernel
theorem dX0_begin_2 : decode cX0_begin 2 = .ok (.putfield 20, 3) := by decide +kernel
theorem dX0_begin_5 : decode cX0_begin 5 = .ok (.aload_n 0, 1) := by decide +kernel
theorem dX0_begin_6 : decode cX0_begin 6 = .ok (.iload_n 2, 1) := by decide +kernel
theorem dX0_begin_7 : decode cX0_begin 7 = .ok (.putfield 27, 3) := by decide +kernel
theorem dX0_begin_10 : decode cX0_begin 10 = .ok (.aload_n 0, 1) := by decide +kernel
theorem dX0_begin_11 : decode cX0_begin 11 = .ok (.iconst 0, 1) := by decide +kernel
theorem dX0_begin_12 : decode cX0_begin 12 = .ok (.putfield 24, 3) := by decide +kernel
theorem dX0_begin_15 : decode cX0_begin 15 = .ok (.aload_n 0, 1) := by decide +kernel
theorem dX0_begin_16 : decode cX0_begin 16 = .ok (.getfield 14, 3) := by decide +kernel
theorem dX0_begin_19 : decode cX0_begin 19 = .ok (.invokevirtual 34, 3) := by decide +kernel
theorem dX0_begin_22 : decode cX0_begin 22 = .ok (.return_, 1) := by decide +kernel
theorem dX0_addPiece_0 : decode cX0_addPiece 0 = .ok (.aload_n 0, 1) := by decide +kernel
theorem dX0_addPiece_1 : decode cX0_addPiece 1 = .ok (.getfield 27, 3) := by decide +kernel
theorem dX0_addPiece_4 : decode cX0_addPiece 4 = .ok (.ifCond .le 40, 3) := by decide +kernel
theorem dX0_addPiece_7 : decode cX0_addPiece 7 = .ok (.aload_n 0, 1) := by decide +kernel
theorem dX0_addPiece_8 : decode cX0_addPiece 8 = .ok (.getfield 14, 3) := by decide +kernel
theorem dX0_addPiece_11 : decode cX0_addPiece 11 = .ok (.aload_n 0, 1) := by decide +kernel
theorem dX0_addPiece_12 : decode cX0_addPiece 12 = .ok (.getfield 27, 3) := by decide +kernel
theorem dX0_addPiece_15 : decode cX0_addPiece 15 = .ok (.invokevirtual 37, 3) := by decide +kernel
theorem dX0_addPiece_18 : decode cX0_addPiece 18 = .ok (.ifCond .eq 26, 3) := by decide +kernel
theorem dX0_addPiece_21 : decode cX0_addPiece 21 = .ok (.aload_n 0, 1) := by decide +kernel
theorem dX0_addPiece_22 : decode cX0_addPiece 22 = .ok (.getfield 14, 3) := by decide +kernel
theorem dX0_addPiece_25 : decode cX0_addPiece 25 = .ok (.aload_n 1, 1) := by decide +kernel
theorem dX0_addPiece_26 : decode cX0_addPiece 26 = .ok (.iload_n 2, 1) := by decide +kernel
theorem dX0_addPiece_27 : decode cX0_addPiece 27 = .ok (.aload_n 0, 1) := by decide +kernel
theorem dX0_addPiece_28 : decode cX0_addPiece 28 = .ok (.getfield 27, 3) := by decide +kernel
theorem dX0_addPiece_31 : decode cX0_addPiece 31 = .ok (.invokevirtual 41, 3) := by decide +kernel
theorem dX0_addPiece_34 : decode cX0_addPiece 34 = .ok (.aload_n 0, 1) := by decide +kernel
theorem dX0_addPiece_35 : decode cX0_addPiece 35 = .ok (.dup, 1) := by decide +kernel
theorem dX0_addPiece_36 : decode cX0_addPiece 36 = .ok (.getfield 24, 3) := by decide +kernel
theorem dX0_addPiece_39 : decode cX0_addPiece 39 = .ok (.iconst 1, 1) := by decide +kernel
theorem dX0_addPiece_40 : decode cX0_addPiece 40 = .ok (.iadd, 1) := by decide +kernel
theorem dX0_addPiece_41 : decode cX0_addPiece 41 = .ok (.putfield 24, 3) := by decide +kernel
theorem dX0_addPiece_44 : decode cX0_addPiece 44 = .ok (.return_, 1) := by decide +kernel
theorem dX0_copyWithout_0 : decode cX0_copyWithout 0 = .ok (.aload_n 2, 1) := by decide +kernel
theorem dX0_copyWithout_1 : decode cX0_copyWithout 1 = .ok (.aload_n 0, 1) := by decide +kernel
theorem dX0_copyWithout_2 : decode cX0_copyWithout 2 = .ok (.getfield 14, 3) := by decide +kernel
theorem dX0_copyWithout_5 : decode cX0_copyWithout 5 = .ok (.invokevirtual 45, 3) := by decide +kernel
theorem dX0_copyWithout_8 : decode cX0_copyWithout 8 = .ok (.aload_n 2, 1) := by decide +kernel
theorem dX0_copyWithout_9 : decode cX0_copyWithout 9 = .ok (.iload_n 1, 1) := by decide +kernel
theorem dX0_copyWithout_10 : decode cX0_copyWithout 10 = .ok (.aload_n 0, 1) := by decide +kernel
theorem dX0_copyWithout_11 : decode cX0_copyWithout 11 = .ok (.getfield 27, 3) := by decide +kernel
theorem dX0_copyWithout_14 : decode cX0_copyWithout 14 = .ok (.imul, 1) := by decide +kernel
theorem dX0_copyWithout_15 : decode cX0_copyWithout 15 = .ok (.aload_n 0, 1) := by decide +kernel
theorem dX0_copyWithout_16 : decode cX0_copyWithout 16 = .ok (.getfield 27, 3) := by decide +kernel
theorem dX0_copyWithout_19 : decode cX0_copyWithout 19 = .ok (.invokevirtual 49, 3) := by decide +kernel
theorem dX0_copyWithout_22 : decode cX0_copyWithout 22 = .ok (.return_, 1) := by decide +kernel
theorem dX0_removePiece_0 : decode cX0_removePiece 0 = .ok (.iload_n 1, 1) := by decide +kernel
theorem dX0_removePiece_1 : decode cX0_removePiece 1 = .ok (.ifCond .lt 38, 3) := by decide +kernel
theorem dX0_removePiece_4 : decode cX0_removePiece 4 = .ok (.iload_n 1, 1) := by decide +kernel
theorem dX0_removePiece_5 : decode cX0_removePiece 5 = .ok (.aload_n 0, 1) := by decide +kernel
theorem dX0_removePiece_6 : decode cX0_removePiece 6 = .ok (.getfield 24, 3) := by decide +kernel
theorem dX0_removePiece_9 : decode cX0_removePiece 9 = .ok (.if_icmp .ge 30, 3) := by decide +kernel
theorem dX0_removePiece_12 : decode cX0_removePiece 12 = .ok (.aload_n 0, 1) := by decide +kernel
theorem dX0_removePiece_13 : decode cX0_removePiece 13 = .ok (.getfield 14, 3) := by decide +kernel
theorem dX0_removePiece_16 : decode cX0_removePiece 16 = .ok (.iload_n 1, 1) := by decide +kernel
theorem dX0_removePiece_17 : decode cX0_removePiece 17 = .ok (.aload_n 0, 1) := by decide +kernel
theorem dX0_removePiece_18 : decode cX0_removePiece 18 = .ok (.getfield 27, 3) := by decide +kernel
theorem dX0_removePiece_21 : decode cX0_removePiece 21 = .ok (.imul, 1) := by decide +kernel
theorem dX0_removePiece_22 : decode cX0_removePiece 22 = .ok (.aload_n 0, 1) := by decide +kernel
theorem dX0_removePiece_23 : decode cX0_removePiece 23 = .ok (.getfield 27, 3) := by decide +kernel
theorem dX0_removePiece_26 : decode cX0_removePiece 26 = .ok (.invokevirtual 49, 3) := by decide +kernel
theorem dX0_removePiece_29 : decode cX0_removePiece 29 = .ok (.aload_n 0, 1) := by decide +kernel
theorem dX0_removePiece_30 : decode cX0_removePiece 30 = .ok (.dup, 1) := by decide +kernel
theorem dX0_removePiece_31 : decode cX0_removePiece 31 = .ok (.getfield 24, 3) := by decide +kernel
theorem dX0_removePiece_34 : decode cX0_removePiece 34 = .ok (.iconst 1, 1) := by decide +kernel
theorem dX0_removePiece_35 : decode cX0_removePiece 35 = .ok (.isub, 1) := by decide +kernel
theorem dX0_removePiece_36 : decode cX0_removePiece 36 = .ok (.putfield 24, 3) := by decide +kernel
theorem dX0_removePiece_39 : decode cX0_removePiece 39 = .ok (.return_, 1) := by decide +kernel
end
section
theorem dX1_init_0 : decode cX1_init 0 = .ok (.aload_n 0, 1) := by decide +kernel
theorem dX1_init_1 : decode cX1_init 1 = .ok (.invokespecial 3, 3) := by decide +kernel
theorem dX1_init_4 : decode cX1_init 4 = .ok (.aload_n 0, 1) := by decide +kernel
theorem dX1_init_5 : decode cX1_init 5 = .ok (.new 9, 3) := by decide +kernel
theorem dX1_init_8 : decode cX1_init 8 = .ok (.dup, 1) := by decide +kernel
theorem dX1_init_9 : decode cX1_init 9 = .ok (.sipush 280, 3) := by decide +kernel
theorem dX1_init_12 : decode cX1_init 12 = .ok (.invokespecial 11, 3) := by decide +kernel
theorem dX1_init_15 : decode cX1_init 15 = .ok (.putfield 14, 3) := by decide +kernel
theorem dX1_init_18 : decode cX1_init 18 = .ok (.return_, 1) := by decide +kernel
theorem dX1_decode_0 : decode cX1_decode 0 = .ok (.aload_n 1, 1) := by decide +kernel
theorem dX1_decode_1 : decode cX1_decode 1 = .ok (.invokevirtual 20, 3) := by decide +kernel
theorem dX1_decode_4 : decode cX1_decode 4 = .ok (.ifCond .eq 7, 3) := by decide +kernel
theorem dX1_decode_7 : decode cX1_decode 7 = .ok (.aload_n 2, 1) := by decide +kernel
theorem dX1_decode_8 : decode cX1_decode 8 = .ok (.ifnonnull 5, 3) := by decide +kernel
theorem dX1_decode_11 : decode cX1_decode 11 = .ok (.iconst 0, 1) := by decide +kernel
theorem dX1_decode_12 : decode cX1_decode 12 = .ok (.ireturn, 1) := by decide +kernel
theorem dX1_decode_13 : decode cX1_decode 13 = .ok (.aload_n 0, 1) := by decide +kernel
theorem dX1_decode_14 : decode cX1_decode 14 = .ok (.aload_n 1, 1) := by decide +kernel
theorem dX1_decode_15 : decode cX1_decode 15 = .ok (.aload_n 2, 1) := by decide +kernel
theorem dX1_decode_16 : decode cX1_decode 16 = .ok (.invokevirtual 24, 3) := by decide +kernel
theorem dX1_decode_19 : decode cX1_decode 19 = .ok (.istore_n 3, 1) := by decide +kernel
theorem dX1_decode_20 : decode cX1_decode 20 = .ok (.iload_n 3, 1) := by decide +kernel
theorem dX1_decode_21 : decode cX1_decode 21 = .ok (.iconst (-1), 1) := by decide +kernel
theorem dX1_decode_22 : decode cX1_decode 22 = .ok (.if_icmp .eq 5, 3) := by decide +kernel
theorem dX1_decode_25 : decode cX1_decode 25 = .ok (.iload_n 3, 1) := by decide +kernel
theorem dX1_decode_26 : decode cX1_decode 26 = .ok (.ireturn, 1) := by decide +kernel
theorem dX1_decode_27 : decode cX1_decode 27 = .ok (.aload_n 0, 1) := by decide +kernel
theorem dX1_decode_28 : decode cX1_decode 28 = .ok (.getfield 14, 3) := by decide +kernel
theorem dX1_decode_31 : decode cX1_decode 31 = .ok (.aload_n 2, 1) := by decide +kernel
theorem dX1_decode_32 : decode cX1_decode 32 = .ok (.invokevirtual 28, 3) := by decide +kernel
theorem dX1_decode_35 : decode cX1_decode 35 = .ok (.invokevirtual 34, 3) := by decide +kernel
theorem dX1_decode_38 : decode cX1_decode 38 = .ok (.aload_n 0, 1) := by decide +kernel
theorem dX1_decode_39 : decode cX1_decode 39 = .ok (.aload_n 0, 1) := by decide +kernel
theorem dX1_decode_40 : decode cX1_decode 40 = .ok (.getfield 14, 3) := by decide +kernel
theorem dX1_decode_43 : decode cX1_decode 43 = .ok (.invokevirtual 20, 3) := by decide +kernel
theorem dX1_decode_46 : decode cX1_decode 46 = .ok (.putfield 38, 3) := by decide +kernel
theorem dX1_decode_49 : decode cX1_decode 49 = .ok (.aload_n 0, 1) := by decide +kernel
theorem dX1_decode_50 : decode cX1_decode 50 = .ok (.aload_n 1, 1) := by decide +kernel
theorem dX1_decode_51 : decode cX1_decode 51 = .ok (.iconst 3, 1) := by decide +kernel
theorem dX1_decode_52 : decode cX1_decode 52 = .ok (.invokevirtual 42, 3) := by decide +kernel
theorem dX1_decode_55 : decode cX1_decode 55 = .ok (.putfield 46, 3) := by decide +kernel
theorem dX1_decode_58 : decode cX1_decode 58 = .ok (.aload_n 0, 1) := by decide +kernel
theorem dX1_decode_59 : decode cX1_decode 59 = .ok (.iconst 4, 1) := by decide +kernel
theorem dX1_decode_60 : decode cX1_decode 60 = .ok (.putfield 49, 3) := by decide +kernel
theorem dX1_decode_63 : decode cX1_decode 63 = .ok (.iconst 0, 1) := by decide +kernel
theorem dX1_decode_64 : decode cX1_decode 64 = .ok (.istore 4, 2) := by decide +kernel
theorem dX1_decode_66 : decode cX1_decode 66 = .ok (.iload 4, 2) := by decide +kernel
theorem dX1_decode_68 : decode cX1_decode 68 = .ok (.sipush 200, 3) := by decide +kernel
theorem dX1_decode_71 : decode cX1_decode 71 = .ok (.if_icmp .ge 27, 3) := by decide +kernel
theorem dX1_decode_74 : decode cX1_decode 74 = .ok (.aload_n 0, 1) := by decide +kernel
theorem dX1_decode_75 : decode cX1_decode 75 = .ok (.getfield 46, 3) := by decide +kernel
theorem dX1_decode_78 : decode cX1_decode 78 = .ok (.ifCond .le 20, 3) := by decide +kernel
theorem dX1_decode_81 : decode cX1_decode 81 = .ok (.iload_n 3, 1) := by decide +kernel
theorem dX1_decode_82 : decode cX1_decode 82 = .ok (.iconst (-1), 1) := by decide +kernel
theorem dX1_decode_83 : decode cX1_decode 83 = .ok (.if_icmp .ne 15, 3) := by decide +kernel
theorem dX1_decode_86 : decode cX1_decode 86 = .ok (.aload_n 0, 1) := by decide +kernel
theorem dX1_decode_87 : decode cX1_decode 87 = .ok (.aload_n 1, 1) := by decide +kernel
theorem dX1_decode_88 : decode cX1_decode 88 = .ok (.invokevirtual 52, 3) := by decide +kernel
theorem dX1_decode_91 : decode cX1_decode 91 = .ok (.istore_n 3, 1) := by decide +kernel
theorem dX1_decode_92 : decode cX1_decode 92 = .ok (.iinc 4 1, 3) := by decide +kernel
theorem dX1_decode_95 : decode cX1_decode 95 = .ok (.goto (-29), 3) := by decide +kernel
theorem dX1_decode_98 : decode cX1_decode 98 = .ok (.iload_n 3, 1) := by decide +kernel
theorem dX1_decode_99 : decode cX1_decode 99 = .ok (.iconst (-1), 1) := by decide +kernel
theorem dX1_decode_100 : decode cX1_decode 100 = .ok (.if_icmp .ne 21, 3) := by decide +kernel
theorem dX1_decode_103 : decode cX1_decode 103 = .ok (.aload_n 0, 1) := by decide +kernel
theorem dX1_decode_104 : decode cX1_decode 104 = .ok (.getfield 49, 3) := by decide +kernel
theorem dX1_decode_107 : decode cX1_decode 107 = .ok (.aload_n 1, 1) := by decide +kernel
theorem dX1_decode_108 : decode cX1_decode 108 = .ok (.invokevirtual 20, 3) := by decide +kernel
theorem dX1_decode_111 : decode cX1_decode 111 = .ok (.if_icmp .ge 10, 3) := by decide +kernel
theorem dX1_decode_114 : decode cX1_decode 114 = .ok (.aload_n 0, 1) := by decide +kernel
theorem dX1_decode_115 : decode cX1_decode 115 = .ok (.getfield 49, 3) := by decide +kernel
theorem dX1_decode_118 : decode cX1_decode 118 = .ok (.goto 4, 3) := by decide +kernel
theorem dX1_decode_121 : decode cX1_decode 121 = .ok (.iload_n 3, 1) := by decide +kernel
theorem dX1_decode_122 : decode cX1_decode 122 = .ok (.ireturn, 1) := by decide +kernel
theorem dX1_handOver_0 : decode cX1_handOver 0 = .ok (.aload_n 1, 1) := by decide +kernel
theorem dX1_handOver_1 : decode cX1_handOver 1 = .ok (.invokevirtual 56, 3) := by decide +kernel
theorem dX1_handOver_4 : decode cX1_handOver 4 = .ok (.aload_n 1, 1) := by decide +kernel
theorem dX1_handOver_5 : decode cX1_handOver 5 = .ok (.aload_n 0, 1) := by decide +kernel
theorem dX1_handOver_6 : decode cX1_handOver 6 = .ok (.getfield 14, 3) := by decide +kernel
theorem dX1_handOver_9 : decode cX1_handOver 9 = .ok (.aload_n 0, 1) := by decide +kernel
theorem dX1_handOver_10 : decode cX1_handOver 10 = .ok (.getfield 38, 3) := by decide +kernel
theorem dX1_handOver_13 : decode cX1_handOver 13 = .ok (.aload_n 0, 1) := by decide +kernel
theorem dX1_handOver_14 : decode cX1_handOver 14 = .ok (.getfield 14, 3) := by decide +kernel
theorem dX1_handOver_17 : decode cX1_handOver 17 = .ok (.invokevirtual 20, 3) := by decide +kernel
theorem dX1_handOver_20 : decode cX1_handOver 20 = .ok (.aload_n 0, 1) := by decide +kernel
theorem dX1_handOver_21 : decode cX1_handOver 21 = .ok (.getfield 38, 3) := by decide +kernel
theorem dX1_handOver_24 : decode cX1_handOver 24 = .ok (.isub, 1) := by decide +kernel
theorem dX1_handOver_25 : decode cX1_handOver 25 = .ok (.invokevirtual 59, 3) := by decide +kernel
theorem dX1_handOver_28 : decode cX1_handOver 28 = .ok (.return_, 1) := by decide +kernel
theorem dX1_wrongInHeader_0 : decode cX1_wrongInHeader 0 = .ok (.aload_n 1, 1) := by decide +kernel
theorem dX1_wrongInHeader_1 : decode cX1_wrongInHeader 1 = .ok (.invokevirtual 20, 3) := by decide +kernel
theorem dX1_wrongInHeader_4 : decode cX1_wrongInHeader 4 = .ok (.iconst 3, 1) := by decide +kernel
theorem dX1_wrongInHeader_5 : decode cX1_wrongInHeader 5 = .ok (.if_icmp .ge 8, 3) := by decide +kernel
theorem dX1_wrongInHeader_8 : decode cX1_wrongInHeader 8 = .ok (.aload_n 1, 1) := by decide +kernel
theorem dX1_wrongInHeader_9 : decode cX1_wrongInHeader 9 = .ok (.invokevirtual 20, 3) := by decide +kernel
theorem dX1_wrongInHeader_12 : decode cX1_wrongInHeader 12 = .ok (.ireturn, 1) := by decide +kernel
theorem dX1_wrongInHeader_13 : decode cX1_wrongInHeader 13 = .ok (.sipush 256, 3) := by decide +kernel
theorem dX1_wrongInHeader_16 : decode cX1_wrongInHeader 16 = .ok (.aload_n 1, 1) := by decide +kernel
theorem dX1_wrongInHeader_17 : decode cX1_wrongInHeader 17 = .ok (.iconst 1, 1) := by decide +kernel
theorem dX1_wrongInHeader_18 : decode cX1_wrongInHeader 18 = .ok (.invokevirtual 42, 3) := by decide +kernel
theorem dX1_wrongInHeader_21 : decode cX1_wrongInHeader 21 = .ok (.imul, 1) := by decide +kernel
theorem dX1_wrongInHeader_22 : decode cX1_wrongInHeader 22 = .ok (.aload_n 1, 1) := by decide +kernel
theorem dX1_wrongInHeader_23 : decode cX1_wrongInHeader 23 = .ok (.iconst 2, 1) := by decide +kernel
theorem dX1_wrongInHeader_24 : decode cX1_wrongInHeader 24 = .ok (.invokevirtual 42, 3) := by decide +kernel
theorem dX1_wrongInHeader_27 : decode cX1_wrongInHeader 27 = .ok (.iadd, 1) := by decide +kernel
theorem dX1_wrongInHeader_28 : decode cX1_wrongInHeader 28 = .ok (.aload_n 2, 1) := by decide +kernel
theorem dX1_wrongInHeader_29 : decode cX1_wrongInHeader 29 = .ok (.invokevirtual 63, 3) := by decide +kernel
theorem dX1_wrongInHeader_32 : decode cX1_wrongInHeader 32 = .ok (.if_icmp .eq 5, 3) := by decide +kernel
theorem dX1_wrongInHeader_35 : decode cX1_wrongInHeader 35 = .ok (.iconst 1, 1) := by decide +kernel
theorem dX1_wrongInHeader_36 : decode cX1_wrongInHeader 36 = .ok (.ireturn, 1) := by decide +kernel
theorem dX1_wrongInHeader_37 : decode cX1_wrongInHeader 37 = .ok (.aload_n 1, 1) := by decide +kernel
theorem dX1_wrongInHeader_38 : decode cX1_wrongInHeader 38 = .ok (.invokevirtual 20, 3) := by decide +kernel
theorem dX1_wrongInHeader_41 : decode cX1_wrongInHeader 41 = .ok (.iconst 4, 1) := by decide +kernel
theorem dX1_wrongInHeader_42 : decode cX1_wrongInHeader 42 = .ok (.if_icmp .lt 14, 3) := by decide +kernel
theorem dX1_wrongInHeader_45 : decode cX1_wrongInHeader 45 = .ok (.aload_n 1, 1) := by decide +kernel
theorem dX1_wrongInHeader_46 : decode cX1_wrongInHeader 46 = .ok (.iconst 3, 1) := by decide +kernel
theorem dX1_wrongInHeader_47 : decode cX1_wrongInHeader 47 = .ok (.invokevirtual 42, 3) := by decide +kernel
theorem dX1_wrongInHeader_50 : decode cX1_wrongInHeader 50 = .ok (.sipush 200, 3) := by decide +kernel
theorem dX1_wrongInHeader_53 : decode cX1_wrongInHeader 53 = .ok (.if_icmp .le 7, 3) := by decide +kernel
theorem dX1_wrongInHeader_56 : decode cX1_wrongInHeader 56 = .ok (.iconst 3, 1) := by decide +kernel
theorem dX1_wrongInHeader_57 : decode cX1_wrongInHeader 57 = .ok (.goto 4, 3) := by decide +kernel
theorem dX1_wrongInHeader_60 : decode cX1_wrongInHeader 60 = .ok (.iconst (-1), 1) := by decide +kernel
theorem dX1_wrongInHeader_61 : decode cX1_wrongInHeader 61 = .ok (.ireturn, 1) := by decide +kernel
theorem dX1_readItem_0 : decode cX1_readItem 0 = .ok (.aload_n 0, 1) := by decide +kernel
theorem dX1_readItem_1 : decode cX1_readItem 1 = .ok (.getfield 49, 3) := by decide +kernel
theorem dX1_readItem_4 : decode cX1_readItem 4 = .ok (.aload_n 1, 1) := by decide +kernel
theorem dX1_readItem_5 : decode cX1_readItem 5 = .ok (.invokevirtual 20, 3) := by decide +kernel
theorem dX1_readItem_8 : decode cX1_readItem 8 = .ok (.if_icmp .lt 8, 3) := by decide +kernel
theorem dX1_readItem_11 : decode cX1_readItem 11 = .ok (.aload_n 1, 1) := by decide +kernel
theorem dX1_readItem_12 : decode cX1_readItem 12 = .ok (.invokevirtual 20, 3) := by decide +kernel
theorem dX1_readItem_15 : decode cX1_readItem 15 = .ok (.ireturn, 1) := by decide +kernel
theorem dX1_readItem_16 : decode cX1_readItem 16 = .ok (.aload_n 1, 1) := by decide +kernel
theorem dX1_readItem_17 : decode cX1_readItem 17 = .ok (.aload_n 0, 1) := by decide +kernel
theorem dX1_readItem_18 : decode cX1_readItem 18 = .ok (.getfield 49, 3) := by decide +kernel
theorem dX1_readItem_21 : decode cX1_readItem 21 = .ok (.invokevirtual 42, 3) := by decide +kernel
theorem dX1_readItem_24 : decode cX1_readItem 24 = .ok (.istore_n 2, 1) := by decide +kernel
theorem dX1_readItem_25 : decode cX1_readItem 25 = .ok (.iload_n 2, 1) := by decide +kernel
theorem dX1_readItem_26 : decode cX1_readItem 26 = .ok (.bipush 32, 2) := by decide +kernel
theorem dX1_readItem_28 : decode cX1_readItem 28 = .ok (.if_icmp .ge 9, 3) := by decide +kernel
theorem dX1_readItem_31 : decode cX1_readItem 31 = .ok (.iload_n 2, 1) := by decide +kernel
theorem dX1_readItem_32 : decode cX1_readItem 32 = .ok (.iconst 1, 1) := by decide +kernel
theorem dX1_readItem_33 : decode cX1_readItem 33 = .ok (.iadd, 1) := by decide +kernel
theorem dX1_readItem_34 : decode cX1_readItem 34 = .ok (.goto 9, 3) := by decide +kernel
theorem dX1_readItem_37 : decode cX1_readItem 37 = .ok (.iload_n 2, 1) := by decide +kernel
theorem dX1_readItem_38 : decode cX1_readItem 38 = .ok (.bipush 32, 2) := by decide +kernel
theorem dX1_readItem_40 : decode cX1_readItem 40 = .ok (.idiv, 1) := by decide +kernel
theorem dX1_readItem_41 : decode cX1_readItem 41 = .ok (.iconst 2, 1) := by decide +kernel
theorem dX1_readItem_42 : decode cX1_readItem 42 = .ok (.iadd, 1) := by decide +kernel
theorem dX1_readItem_43 : decode cX1_readItem 43 = .ok (.istore_n 3, 1) := by decide +kernel
theorem dX1_readItem_44 : decode cX1_readItem 44 = .ok (.iload_n 3, 1) := by decide +kernel
theorem dX1_readItem_45 : decode cX1_readItem 45 = .ok (.aload_n 0, 1) := by decide +kernel
theorem dX1_readItem_46 : decode cX1_readItem 46 = .ok (.getfield 46, 3) := by decide +kernel
theorem dX1_readItem_49 : decode cX1_readItem 49 = .ok (.if_icmp .le 8, 3) := by decide +kernel
theorem dX1_readItem_52 : decode cX1_readItem 52 = .ok (.aload_n 0, 1) := by decide +kernel
theorem dX1_readItem_53 : decode cX1_readItem 53 = .ok (.getfield 49, 3) := by decide +kernel
theorem dX1_readItem_56 : decode cX1_readItem 56 = .ok (.ireturn, 1) := by decide +kernel
theorem dX1_readItem_57 : decode cX1_readItem 57 = .ok (.aload_n 0, 1) := by decide +kernel
theorem dX1_readItem_58 : decode cX1_readItem 58 = .ok (.dup, 1) := by decide +kernel
theorem dX1_readItem_59 : decode cX1_readItem 59 = .ok (.getfield 46, 3) := by decide +kernel
theorem dX1_readItem_62 : decode cX1_readItem 62 = .ok (.iload_n 3, 1) := by decide +kernel
theorem dX1_readItem_63 : decode cX1_readItem 63 = .ok (.isub, 1) := by decide +kernel
theorem dX1_readItem_64 : decode cX1_readItem 64 = .ok (.putfield 46, 3) := by decide +kernel
theorem dX1_readItem_67 : decode cX1_readItem 67 = .ok (.iload_n 2, 1) := by decide +kernel
theorem dX1_readItem_68 : decode cX1_readItem 68 = .ok (.bipush 32, 2) := by decide +kernel
theorem dX1_readItem_70 : decode cX1_readItem 70 = .ok (.if_icmp .ge 12, 3) := by decide +kernel
theorem dX1_readItem_73 : decode cX1_readItem 73 = .ok (.aload_n 0, 1) := by decide +kernel
theorem dX1_readItem_74 : decode cX1_readItem 74 = .ok (.aload_n 1, 1) := by decide +kernel
theorem dX1_readItem_75 : decode cX1_readItem 75 = .ok (.iload_n 3, 1) := by decide +kernel
theorem dX1_readItem_76 : decode cX1_readItem 76 = .ok (.invokevirtual 66, 3) := by decide +kernel
theorem dX1_readItem_79 : decode cX1_readItem 79 = .ok (.goto 10, 3) := by decide +kernel
theorem dX1_readItem_82 : decode cX1_readItem 82 = .ok (.aload_n 0, 1) := by decide +kernel
theorem dX1_readItem_83 : decode cX1_readItem 83 = .ok (.aload_n 1, 1) := by decide +kernel
theorem dX1_readItem_84 : decode cX1_readItem 84 = .ok (.iload_n 2, 1) := by decide +kernel
theorem dX1_readItem_85 : decode cX1_readItem 85 = .ok (.iload_n 3, 1) := by decide +kernel
theorem dX1_readItem_86 : decode cX1_readItem 86 = .ok (.invokevirtual 70, 3) := by decide +kernel
theorem dX1_readItem_89 : decode cX1_readItem 89 = .ok (.ireturn, 1) := by decide +kernel
theorem dX1_readPlain_0 : decode cX1_readPlain 0 = .ok (.aload_n 0, 1) := by decide +kernel
theorem dX1_readPlain_1 : decode cX1_readPlain 1 = .ok (.getfield 49, 3) := by decide +kernel
theorem dX1_readPlain_4 : decode cX1_readPlain 4 = .ok (.iload_n 2, 1) := by decide +kernel
theorem dX1_readPlain_5 : decode cX1_readPlain 5 = .ok (.iadd, 1) := by decide +kernel
theorem dX1_readPlain_6 : decode cX1_readPlain 6 = .ok (.aload_n 1, 1) := by decide +kernel
theorem dX1_readPlain_7 : decode cX1_readPlain 7 = .ok (.invokevirtual 20, 3) := by decide +kernel
theorem dX1_readPlain_10 : decode cX1_readPlain 10 = .ok (.if_icmp .lt 8, 3) := by decide +kernel
theorem dX1_readPlain_13 : decode cX1_readPlain 13 = .ok (.aload_n 1, 1) := by decide +kernel
theorem dX1_readPlain_14 : decode cX1_readPlain 14 = .ok (.invokevirtual 20, 3) := by decide +kernel
theorem dX1_readPlain_17 : decode cX1_readPlain 17 = .ok (.ireturn, 1) := by decide +kernel
theorem dX1_readPlain_18 : decode cX1_readPlain 18 = .ok (.aload_n 0, 1) := by decide +kernel
theorem dX1_readPlain_19 : decode cX1_readPlain 19 = .ok (.getfield 14, 3) := by decide +kernel
theorem dX1_readPlain_22 : decode cX1_readPlain 22 = .ok (.aload_n 1, 1) := by decide +kernel
theorem dX1_readPlain_23 : decode cX1_readPlain 23 = .ok (.aload_n 0, 1) := by decide +kernel
theorem dX1_readPlain_24 : decode cX1_readPlain 24 = .ok (.getfield 49, 3) := by decide +kernel
theorem dX1_readPlain_27 : decode cX1_readPlain 27 = .ok (.iconst 1, 1) := by decide +kernel
theorem dX1_readPlain_28 : decode cX1_readPlain 28 = .ok (.iadd, 1) := by decide +kernel
theorem dX1_readPlain_29 : decode cX1_readPlain 29 = .ok (.iload_n 2, 1) := by decide +kernel
theorem dX1_readPlain_30 : decode cX1_readPlain 30 = .ok (.invokevirtual 59, 3) := by decide +kernel
theorem dX1_readPlain_33 : decode cX1_readPlain 33 = .ok (.aload_n 0, 1) := by decide +kernel
theorem dX1_readPlain_34 : decode cX1_readPlain 34 = .ok (.dup, 1) := by decide +kernel
theorem dX1_readPlain_35 : decode cX1_readPlain 35 = .ok (.getfield 49, 3) := by decide +kernel
theorem dX1_readPlain_38 : decode cX1_readPlain 38 = .ok (.iload_n 2, 1) := by decide +kernel
theorem dX1_readPlain_39 : decode cX1_readPlain 39 = .ok (.iconst 1, 1) := by decide +kernel
theorem dX1_readPlain_40 : decode cX1_readPlain 40 = .ok (.iadd, 1) := by decide +kernel
theorem dX1_readPlain_41 : decode cX1_readPlain 41 = .ok (.iadd, 1) := by decide +kernel
theorem dX1_readPlain_42 : decode cX1_readPlain 42 = .ok (.putfield 49, 3) := by decide +kernel
theorem dX1_readPlain_45 : decode cX1_readPlain 45 = .ok (.iconst (-1), 1) := by decide +kernel
theorem dX1_readPlain_46 : decode cX1_readPlain 46 = .ok (.ireturn, 1) := by decide +kernel
theorem dX1_readMatch_0 : decode cX1_readMatch 0 = .ok (.aload_n 0, 1) := by decide +kernel
theorem dX1_readMatch_1 : decode cX1_readMatch 1 = .ok (.getfield 49, 3) := by decide +kernel
theorem dX1_readMatch_4 : decode cX1_readMatch 4 = .ok (.iconst 1, 1) := by decide +kernel
theorem dX1_readMatch_5 : decode cX1_readMatch 5 = .ok (.iadd, 1) := by decide +kernel
theorem dX1_readMatch_6 : decode cX1_readMatch 6 = .ok (.aload_n 1, 1) := by decide +kernel
theorem dX1_readMatch_7 : decode cX1_readMatch 7 = .ok (.invokevirtual 20, 3) := by decide +kernel
theorem dX1_readMatch_10 : decode cX1_readMatch 10 = .ok (.if_icmp .lt 8, 3) := by decide +kernel
theorem dX1_readMatch_13 : decode cX1_readMatch 13 = .ok (.aload_n 1, 1) := by decide +kernel
theorem dX1_readMatch_14 : decode cX1_readMatch 14 = .ok (.invokevirtual 20, 3) := by decide +kernel
theorem dX1_readMatch_17 : decode cX1_readMatch 17 = .ok (.ireturn, 1) := by decide +kernel
theorem dX1_readMatch_18 : decode cX1_readMatch 18 = .ok (.sipush 256, 3) := by decide +kernel
theorem dX1_readMatch_21 : decode cX1_readMatch 21 = .ok (.iload_n 2, 1) := by decide +kernel
theorem dX1_readMatch_22 : decode cX1_readMatch 22 = .ok (.bipush 32, 2) := by decide +kernel
theorem dX1_readMatch_24 : decode cX1_readMatch 24 = .ok (.irem, 1) := by decide +kernel
theorem dX1_readMatch_25 : decode cX1_readMatch 25 = .ok (.imul, 1) := by decide +kernel
theorem dX1_readMatch_26 : decode cX1_readMatch 26 = .ok (.aload_n 1, 1) := by decide +kernel
theorem dX1_readMatch_27 : decode cX1_readMatch 27 = .ok (.aload_n 0, 1) := by decide +kernel
theorem dX1_readMatch_28 : decode cX1_readMatch 28 = .ok (.getfield 49, 3) := by decide +kernel
theorem dX1_readMatch_31 : decode cX1_readMatch 31 = .ok (.iconst 1, 1) := by decide +kernel
theorem dX1_readMatch_32 : decode cX1_readMatch 32 = .ok (.iadd, 1) := by decide +kernel
theorem dX1_readMatch_33 : decode cX1_readMatch 33 = .ok (.invokevirtual 42, 3) := by decide +kernel
theorem dX1_readMatch_36 : decode cX1_readMatch 36 = .ok (.iadd, 1) := by decide +kernel
theorem dX1_readMatch_37 : decode cX1_readMatch 37 = .ok (.iconst 1, 1) := by decide +kernel
theorem dX1_readMatch_38 : decode cX1_readMatch 38 = .ok (.iadd, 1) := by decide +kernel
theorem dX1_readMatch_39 : decode cX1_readMatch 39 = .ok (.istore 4, 2) := by decide +kernel
theorem dX1_readMatch_41 : decode cX1_readMatch 41 = .ok (.iload 4, 2) := by decide +kernel
theorem dX1_readMatch_43 : decode cX1_readMatch 43 = .ok (.aload_n 0, 1) := by decide +kernel
theorem dX1_readMatch_44 : decode cX1_readMatch 44 = .ok (.getfield 14, 3) := by decide +kernel
theorem dX1_readMatch_47 : decode cX1_readMatch 47 = .ok (.invokevirtual 20, 3) := by decide +kernel
theorem dX1_readMatch_50 : decode cX1_readMatch 50 = .ok (.if_icmp .le 10, 3) := by decide +kernel
theorem dX1_readMatch_53 : decode cX1_readMatch 53 = .ok (.aload_n 0, 1) := by decide +kernel
theorem dX1_readMatch_54 : decode cX1_readMatch 54 = .ok (.getfield 49, 3) := by decide +kernel
theorem dX1_readMatch_57 : decode cX1_readMatch 57 = .ok (.iconst 1, 1) := by decide +kernel
theorem dX1_readMatch_58 : decode cX1_readMatch 58 = .ok (.iadd, 1) := by decide +kernel
theorem dX1_readMatch_59 : decode cX1_readMatch 59 = .ok (.ireturn, 1) := by decide +kernel
theorem dX1_readMatch_60 : decode cX1_readMatch 60 = .ok (.iconst 0, 1) := by decide +kernel
theorem dX1_readMatch_61 : decode cX1_readMatch 61 = .ok (.istore 5, 2) := by decide +kernel
theorem dX1_readMatch_63 : decode cX1_readMatch 63 = .ok (.iload 5, 2) := by decide +kernel
theorem dX1_readMatch_65 : decode cX1_readMatch 65 = .ok (.iload_n 3, 1) := by decide +kernel
theorem dX1_readMatch_66 : decode cX1_readMatch 66 = .ok (.if_icmp .ge 33, 3) := by decide +kernel
theorem dX1_readMatch_69 : decode cX1_readMatch 69 = .ok (.aload_n 0, 1) := by decide +kernel
theorem dX1_readMatch_70 : decode cX1_readMatch 70 = .ok (.getfield 14, 3) := by decide +kernel
theorem dX1_readMatch_73 : decode cX1_readMatch 73 = .ok (.aload_n 0, 1) := by decide +kernel
theorem dX1_readMatch_74 : decode cX1_readMatch 74 = .ok (.getfield 14, 3) := by decide +kernel
theorem dX1_readMatch_77 : decode cX1_readMatch 77 = .ok (.aload_n 0, 1) := by decide +kernel
theorem dX1_readMatch_78 : decode cX1_readMatch 78 = .ok (.getfield 14, 3) := by decide +kernel
theorem dX1_readMatch_81 : decode cX1_readMatch 81 = .ok (.invokevirtual 20, 3) := by decide +kernel
theorem dX1_readMatch_84 : decode cX1_readMatch 84 = .ok (.iload 4, 2) := by decide +kernel
theorem dX1_readMatch_86 : decode cX1_readMatch 86 = .ok (.isub, 1) := by decide +kernel
theorem dX1_readMatch_87 : decode cX1_readMatch 87 = .ok (.invokevirtual 42, 3) := by decide +kernel
theorem dX1_readMatch_90 : decode cX1_readMatch 90 = .ok (.invokevirtual 74, 3) := by decide +kernel
theorem dX1_readMatch_93 : decode cX1_readMatch 93 = .ok (.iinc 5 1, 3) := by decide +kernel
theorem dX1_readMatch_96 : decode cX1_readMatch 96 = .ok (.goto (-33), 3) := by decide +kernel
theorem dX1_readMatch_99 : decode cX1_readMatch 99 = .ok (.aload_n 0, 1) := by decide +kernel
theorem dX1_readMatch_100 : decode cX1_readMatch 100 = .ok (.dup, 1) := by decide +kernel
theorem dX1_readMatch_101 : decode cX1_readMatch 101 = .ok (.getfield 49, 3) := by decide +kernel
theorem dX1_readMatch_104 : decode cX1_readMatch 104 = .ok (.iconst 2, 1) := by decide +kernel
theorem dX1_readMatch_105 : decode cX1_readMatch 105 = .ok (.iadd, 1) := by decide +kernel
theorem dX1_readMatch_106 : decode cX1_readMatch 106 = .ok (.putfield 49, 3) := by decide +kernel
theorem dX1_readMatch_109 : decode cX1_readMatch 109 = .ok (.iconst (-1), 1) := by decide +kernel
theorem dX1_readMatch_110 : decode cX1_readMatch 110 = .ok (.ireturn, 1) := by decide +kernel
end
section
theorem dX2_init_0 : decode cX2_init 0 = .ok (.aload_n 0, 1) := by decide +kernel
theorem dX2_init_1 : decode cX2_init 1 = .ok (.invokespecial 3, 3) := by decide +kernel
theorem dX2_init_4 : decode cX2_init 4 = .ok (.aload_n 0, 1) := by decide +kernel
theorem dX2_init_5 : decode cX2_init 5 = .ok (.new 9, 3) := by decide +kernel
theorem dX2_init_8 : decode cX2_init 8 = .ok (.dup, 1) := by decide +kernel
theorem dX2_init_9 : decode cX2_init 9 = .ok (.sipush 211, 3) := by decide +kernel
theorem dX2_init_12 : decode cX2_init 12 = .ok (.invokespecial 11, 3) := by decide +kernel
theorem dX2_init_15 : decode cX2_init 15 = .ok (.putfield 14, 3) := by decide +kernel
theorem dX2_init_18 : decode cX2_init 18 = .ok (.return_, 1) := by decide +kernel
theorem dX2_bytes_0 : decode cX2_bytes 0 = .ok (.aload_n 0, 1) := by decide +kernel
theorem dX2_bytes_1 : decode cX2_bytes 1 = .ok (.getfield 14, 3) := by decide +kernel
theorem dX2_bytes_4 : decode cX2_bytes 4 = .ok (.areturn, 1) := by decide +kernel
theorem dX2_items_0 : decode cX2_items 0 = .ok (.aload_n 0, 1) := by decide +kernel
theorem dX2_items_1 : decode cX2_items 1 = .ok (.getfield 20, 3) := by decide +kernel
theorem dX2_items_4 : decode cX2_items 4 = .ok (.ireturn, 1) := by decide +kernel
theorem dX2_matches_0 : decode cX2_matches 0 = .ok (.aload_n 0, 1) := by decide +kernel
theorem dX2_matches_1 : decode cX2_matches 1 = .ok (.getfield 24, 3) := by decide +kernel
theorem dX2_matches_4 : decode cX2_matches 4 = .ok (.ireturn, 1) := by decide +kernel
theorem dX2_begin_0 : decode cX2_begin 0 = .ok (.aload_n 0, 1) := by decide +kernel
theorem dX2_begin_1 : decode cX2_begin 1 = .ok (.iconst 0, 1) := by decide +kernel
theorem dX2_begin_2 : decode cX2_begin 2 = .ok (.putfield 20, 3) := by decide +kernel
theorem dX2_begin_5 : decode cX2_begin 5 = .ok (.aload_n 0, 1) := by decide +kernel
theorem dX2_begin_6 : decode cX2_begin 6 = .ok (.iconst 0, 1) := by decide +kernel
theorem dX2_begin_7 : decode cX2_begin 7 = .ok (.putfield 24, 3) := by decide +kernel
theorem dX2_begin_10 : decode cX2_begin 10 = .ok (.aload_n 0, 1) := by decide +kernel
theorem dX2_begin_11 : decode cX2_begin 11 = .ok (.getfield 14, 3) := by decide +kernel
theorem dX2_begin_14 : decode cX2_begin 14 = .ok (.invokevirtual 27, 3) := by decide +kernel
theorem dX2_begin_17 : decode cX2_begin 17 = .ok (.aload_n 0, 1) := by decide +kernel
theorem dX2_begin_18 : decode cX2_begin 18 = .ok (.getfield 14, 3) := by decide +kernel
theorem dX2_begin_21 : decode cX2_begin 21 = .ok (.aload_n 1, 1) := by decide +kernel
theorem dX2_begin_22 : decode cX2_begin 22 = .ok (.invokevirtual 30, 3) := by decide +kernel
theorem dX2_begin_25 : decode cX2_begin 25 = .ok (.invokevirtual 36, 3) := by decide +kernel
theorem dX2_begin_28 : decode cX2_begin 28 = .ok (.aload_n 0, 1) := by decide +kernel
theorem dX2_begin_29 : decode cX2_begin 29 = .ok (.getfield 14, 3) := by decide +kernel
theorem dX2_begin_32 : decode cX2_begin 32 = .ok (.aload_n 1, 1) := by decide +kernel
theorem dX2_begin_33 : decode cX2_begin 33 = .ok (.invokevirtual 39, 3) := by decide +kernel
theorem dX2_begin_36 : decode cX2_begin 36 = .ok (.bipush 8, 2) := by decide +kernel
theorem dX2_begin_38 : decode cX2_begin 38 = .ok (.ishr, 1) := by decide +kernel
theorem dX2_begin_39 : decode cX2_begin 39 = .ok (.invokevirtual 36, 3) := by decide +kernel
theorem dX2_begin_42 : decode cX2_begin 42 = .ok (.aload_n 0, 1) := by decide +kernel
theorem dX2_begin_43 : decode cX2_begin 43 = .ok (.getfield 14, 3) := by decide +kernel
theorem dX2_begin_46 : decode cX2_begin 46 = .ok (.aload_n 1, 1) := by decide +kernel
theorem dX2_begin_47 : decode cX2_begin 47 = .ok (.invokevirtual 39, 3) := by decide +kernel
theorem dX2_begin_50 : decode cX2_begin 50 = .ok (.invokevirtual 36, 3) := by decide +kernel
theorem dX2_begin_53 : decode cX2_begin 53 = .ok (.aload_n 0, 1) := by decide +kernel
theorem dX2_begin_54 : decode cX2_begin 54 = .ok (.getfield 14, 3) := by decide +kernel
theorem dX2_begin_57 : decode cX2_begin 57 = .ok (.iload_n 2, 1) := by decide +kernel
theorem dX2_begin_58 : decode cX2_begin 58 = .ok (.invokevirtual 36, 3) := by decide +kernel
theorem dX2_begin_61 : decode cX2_begin 61 = .ok (.return_, 1) := by decide +kernel
theorem dX2_addMatch_0 : decode cX2_addMatch 0 = .ok (.aload_n 0, 1) := by decide +kernel
theorem dX2_addMatch_1 : decode cX2_addMatch 1 = .ok (.getfield 14, 3) := by decide +kernel
theorem dX2_addMatch_4 : decode cX2_addMatch 4 = .ok (.iload_n 1, 1) := by decide +kernel
theorem dX2_addMatch_5 : decode cX2_addMatch 5 = .ok (.iconst 2, 1) := by decide +kernel
theorem dX2_addMatch_6 : decode cX2_addMatch 6 = .ok (.isub, 1) := by decide +kernel
theorem dX2_addMatch_7 : decode cX2_addMatch 7 = .ok (.bipush 32, 2) := by decide +kernel
theorem dX2_addMatch_9 : decode cX2_addMatch 9 = .ok (.imul, 1) := by decide +kernel
theorem dX2_addMatch_10 : decode cX2_addMatch 10 = .ok (.iload_n 2, 1) := by decide +kernel
theorem dX2_addMatch_11 : decode cX2_addMatch 11 = .ok (.iconst 1, 1) := by decide +kernel
theorem dX2_addMatch_12 : decode cX2_addMatch 12 = .ok (.isub, 1) := by decide +kernel
theorem dX2_addMatch_13 : decode cX2_addMatch 13 = .ok (.sipush 256, 3) := by decide +kernel
theorem dX2_addMatch_16 : decode cX2_addMatch 16 = .ok (.idiv, 1) := by decide +kernel
theorem dX2_addMatch_17 : decode cX2_addMatch 17 = .ok (.iadd, 1) := by decide +kernel
theorem dX2_addMatch_18 : decode cX2_addMatch 18 = .ok (.invokevirtual 36, 3) := by decide +kernel
theorem dX2_addMatch_21 : decode cX2_addMatch 21 = .ok (.aload_n 0, 1) := by decide +kernel
theorem dX2_addMatch_22 : decode cX2_addMatch 22 = .ok (.getfield 14, 3) := by decide +kernel
theorem dX2_addMatch_25 : decode cX2_addMatch 25 = .ok (.iload_n 2, 1) := by decide +kernel
theorem dX2_addMatch_26 : decode cX2_addMatch 26 = .ok (.iconst 1, 1) := by decide +kernel
theorem dX2_addMatch_27 : decode cX2_addMatch 27 = .ok (.isub, 1) := by decide +kernel
theorem dX2_addMatch_28 : decode cX2_addMatch 28 = .ok (.sipush 256, 3) := by decide +kernel
theorem dX2_addMatch_31 : decode cX2_addMatch 31 = .ok (.irem, 1) := by decide +kernel
theorem dX2_addMatch_32 : decode cX2_addMatch 32 = .ok (.invokevirtual 36, 3) := by decide +kernel
theorem dX2_addMatch_35 : decode cX2_addMatch 35 = .ok (.aload_n 0, 1) := by decide +kernel
theorem dX2_addMatch_36 : decode cX2_addMatch 36 = .ok (.dup, 1) := by decide +kernel
theorem dX2_addMatch_37 : decode cX2_addMatch 37 = .ok (.getfield 20, 3) := by decide +kernel
theorem dX2_addMatch_40 : decode cX2_addMatch 40 = .ok (.iconst 1, 1) := by decide +kernel
theorem dX2_addMatch_41 : decode cX2_addMatch 41 = .ok (.iadd, 1) := by decide +kernel
theorem dX2_addMatch_42 : decode cX2_addMatch 42 = .ok (.putfield 20, 3) := by decide +kernel
theorem dX2_addMatch_45 : decode cX2_addMatch 45 = .ok (.aload_n 0, 1) := by decide +kernel
theorem dX2_addMatch_46 : decode cX2_addMatch 46 = .ok (.dup, 1) := by decide +kernel
theorem dX2_addMatch_47 : decode cX2_addMatch 47 = .ok (.getfield 24, 3) := by decide +kernel
theorem dX2_addMatch_50 : decode cX2_addMatch 50 = .ok (.iconst 1, 1) := by decide +kernel
theorem dX2_addMatch_51 : decode cX2_addMatch 51 = .ok (.iadd, 1) := by decide +kernel
theorem dX2_addMatch_52 : decode cX2_addMatch 52 = .ok (.putfield 24, 3) := by decide +kernel
theorem dX2_addMatch_55 : decode cX2_addMatch 55 = .ok (.return_, 1) := by decide +kernel
theorem dX2_addPlain_0 : decode cX2_addPlain 0 = .ok (.aload_n 0, 1) := by decide +kernel
theorem dX2_addPlain_1 : decode cX2_addPlain 1 = .ok (.getfield 14, 3) := by decide +kernel
theorem dX2_addPlain_4 : decode cX2_addPlain 4 = .ok (.iload_n 3, 1) := by decide +kernel
theorem dX2_addPlain_5 : decode cX2_addPlain 5 = .ok (.iconst 1, 1) := by decide +kernel
theorem dX2_addPlain_6 : decode cX2_addPlain 6 = .ok (.isub, 1) := by decide +kernel
theorem dX2_addPlain_7 : decode cX2_addPlain 7 = .ok (.invokevirtual 36, 3) := by decide +kernel
theorem dX2_addPlain_10 : decode cX2_addPlain 10 = .ok (.iload_n 2, 1) := by decide +kernel
theorem dX2_addPlain_11 : decode cX2_addPlain 11 = .ok (.istore 4, 2) := by decide +kernel
theorem dX2_addPlain_13 : decode cX2_addPlain 13 = .ok (.iload 4, 2) := by decide +kernel
theorem dX2_addPlain_15 : decode cX2_addPlain 15 = .ok (.iload_n 2, 1) := by decide +kernel
theorem dX2_addPlain_16 : decode cX2_addPlain 16 = .ok (.iload_n 3, 1) := by decide +kernel
theorem dX2_addPlain_17 : decode cX2_addPlain 17 = .ok (.iadd, 1) := by decide +kernel
theorem dX2_addPlain_18 : decode cX2_addPlain 18 = .ok (.if_icmp .ge 27, 3) := by decide +kernel
theorem dX2_addPlain_21 : decode cX2_addPlain 21 = .ok (.iload 4, 2) := by decide +kernel
theorem dX2_addPlain_23 : decode cX2_addPlain 23 = .ok (.aload_n 1, 1) := by decide +kernel
theorem dX2_addPlain_24 : decode cX2_addPlain 24 = .ok (.arraylength, 1) := by decide +kernel
theorem dX2_addPlain_25 : decode cX2_addPlain 25 = .ok (.if_icmp .ge 20, 3) := by decide +kernel
theorem dX2_addPlain_28 : decode cX2_addPlain 28 = .ok (.aload_n 0, 1) := by decide +kernel
theorem dX2_addPlain_29 : decode cX2_addPlain 29 = .ok (.getfield 14, 3) := by decide +kernel
theorem dX2_addPlain_32 : decode cX2_addPlain 32 = .ok (.aload_n 1, 1) := by decide +kernel
theorem dX2_addPlain_33 : decode cX2_addPlain 33 = .ok (.iload 4, 2) := by decide +kernel
theorem dX2_addPlain_35 : decode cX2_addPlain 35 = .ok (.baload, 1) := by decide +kernel
theorem dX2_addPlain_36 : decode cX2_addPlain 36 = .ok (.invokevirtual 36, 3) := by decide +kernel
theorem dX2_addPlain_39 : decode cX2_addPlain 39 = .ok (.iinc 4 1, 3) := by decide +kernel
theorem dX2_addPlain_42 : decode cX2_addPlain 42 = .ok (.goto (-29), 3) := by decide +kernel
theorem dX2_addPlain_45 : decode cX2_addPlain 45 = .ok (.aload_n 0, 1) := by decide +kernel
theorem dX2_addPlain_46 : decode cX2_addPlain 46 = .ok (.dup, 1) := by decide +kernel
theorem dX2_addPlain_47 : decode cX2_addPlain 47 = .ok (.getfield 20, 3) := by decide +kernel
theorem dX2_addPlain_50 : decode cX2_addPlain 50 = .ok (.iconst 1, 1) := by decide +kernel
theorem dX2_addPlain_51 : decode cX2_addPlain 51 = .ok (.iadd, 1) := by decide +kernel
theorem dX2_addPlain_52 : decode cX2_addPlain 52 = .ok (.putfield 20, 3) := by decide +kernel
theorem dX2_addPlain_55 : decode cX2_addPlain 55 = .ok (.return_, 1) := by decide +kernel
end
section
theorem dX3_init_0 : decode cX3_init 0 = .ok (.aload_n 0, 1) := by decide +kernel
theorem dX3_init_1 : decode cX3_init 1 = .ok (.invokespecial 3, 3) := by decide +kernel
theorem dX3_init_4 : decode cX3_init 4 = .ok (.aload_n 0, 1) := by decide +kernel
theorem dX3_init_5 : decode cX3_init 5 = .ok (.sipush 280, 3) := by decide +kernel
theorem dX3_init_8 : decode cX3_init 8 = .ok (.newarray .byte, 2) := by decide +kernel
theorem dX3_init_10 : decode cX3_init 10 = .ok (.putfield 9, 3) := by decide +kernel
theorem dX3_init_13 : decode cX3_init 13 = .ok (.aload_n 0, 1) := by decide +kernel
theorem dX3_init_14 : decode cX3_init 14 = .ok (.sipush 280, 3) := by decide +kernel
theorem dX3_init_17 : decode cX3_init 17 = .ok (.newarray .int, 2) := by decide +kernel
theorem dX3_init_19 : decode cX3_init 19 = .ok (.putfield 15, 3) := by decide +kernel
theorem dX3_init_22 : decode cX3_init 22 = .ok (.aload_n 0, 1) := by decide +kernel
theorem dX3_init_23 : decode cX3_init 23 = .ok (.sipush 256, 3) := by decide +kernel
theorem dX3_init_26 : decode cX3_init 26 = .ok (.newarray .int, 2) := by decide +kernel
theorem dX3_init_28 : decode cX3_init 28 = .ok (.putfield 19, 3) := by decide +kernel
theorem dX3_init_31 : decode cX3_init 31 = .ok (.aload_n 0, 1) := by decide +kernel
theorem dX3_init_32 : decode cX3_init 32 = .ok (.sipush 201, 3) := by decide +kernel
theorem dX3_init_35 : decode cX3_init 35 = .ok (.newarray .int, 2) := by decide +kernel
theorem dX3_init_37 : decode cX3_init 37 = .ok (.putfield 22, 3) := by decide +kernel
theorem dX3_init_40 : decode cX3_init 40 = .ok (.aload_n 0, 1) := by decide +kernel
theorem dX3_init_41 : decode cX3_init 41 = .ok (.sipush 200, 3) := by decide +kernel
theorem dX3_init_44 : decode cX3_init 44 = .ok (.newarray .int, 2) := by decide +kernel
theorem dX3_init_46 : decode cX3_init 46 = .ok (.putfield 25, 3) := by decide +kernel
theorem dX3_init_49 : decode cX3_init 49 = .ok (.return_, 1) := by decide +kernel
theorem dX3_measure_0 : decode cX3_measure 0 = .ok (.aload_n 0, 1) := by decide +kernel
theorem dX3_measure_1 : decode cX3_measure 1 = .ok (.aload_n 2, 1) := by decide +kernel
theorem dX3_measure_2 : decode cX3_measure 2 = .ok (.aload_n 0, 1) := by decide +kernel
theorem dX3_measure_3 : decode cX3_measure 3 = .ok (.getfield 9, 3) := by decide +kernel
theorem dX3_measure_6 : decode cX3_measure 6 = .ok (.iconst 0, 1) := by decide +kernel
theorem dX3_measure_7 : decode cX3_measure 7 = .ok (.invokevirtual 28, 3) := by decide +kernel
theorem dX3_measure_10 : decode cX3_measure 10 = .ok (.putfield 34, 3) := by decide +kernel
theorem dX3_measure_13 : decode cX3_measure 13 = .ok (.aload_n 0, 1) := by decide +kernel
theorem dX3_measure_14 : decode cX3_measure 14 = .ok (.aload_n 1, 1) := by decide +kernel
theorem dX3_measure_15 : decode cX3_measure 15 = .ok (.aload_n 0, 1) := by decide +kernel
theorem dX3_measure_16 : decode cX3_measure 16 = .ok (.getfield 9, 3) := by decide +kernel
theorem dX3_measure_19 : decode cX3_measure 19 = .ok (.aload_n 0, 1) := by decide +kernel
theorem dX3_measure_20 : decode cX3_measure 20 = .ok (.getfield 34, 3) := by decide +kernel
theorem dX3_measure_23 : decode cX3_measure 23 = .ok (.invokevirtual 28, 3) := by decide +kernel
theorem dX3_measure_26 : decode cX3_measure 26 = .ok (.aload_n 0, 1) := by decide +kernel
theorem dX3_measure_27 : decode cX3_measure 27 = .ok (.getfield 34, 3) := by decide +kernel
theorem dX3_measure_30 : decode cX3_measure 30 = .ok (.isub, 1) := by decide +kernel
theorem dX3_measure_31 : decode cX3_measure 31 = .ok (.sipush 200, 3) := by decide +kernel
theorem dX3_measure_34 : decode cX3_measure 34 = .ok (.invokestatic 38, 3) := by decide +kernel
theorem dX3_measure_37 : decode cX3_measure 37 = .ok (.putfield 44, 3) := by decide +kernel
theorem dX3_measure_40 : decode cX3_measure 40 = .ok (.aload_n 0, 1) := by decide +kernel
theorem dX3_measure_41 : decode cX3_measure 41 = .ok (.invokevirtual 47, 3) := by decide +kernel
theorem dX3_measure_44 : decode cX3_measure 44 = .ok (.aload_n 0, 1) := by decide +kernel
theorem dX3_measure_45 : decode cX3_measure 45 = .ok (.getfield 22, 3) := by decide +kernel
theorem dX3_measure_48 : decode cX3_measure 48 = .ok (.aload_n 0, 1) := by decide +kernel
theorem dX3_measure_49 : decode cX3_measure 49 = .ok (.getfield 44, 3) := by decide +kernel
theorem dX3_measure_52 : decode cX3_measure 52 = .ok (.iconst 0, 1) := by decide +kernel
theorem dX3_measure_53 : decode cX3_measure 53 = .ok (.iastore, 1) := by decide +kernel
theorem dX3_measure_54 : decode cX3_measure 54 = .ok (.aload_n 0, 1) := by decide +kernel
theorem dX3_measure_55 : decode cX3_measure 55 = .ok (.getfield 44, 3) := by decide +kernel
theorem dX3_measure_58 : decode cX3_measure 58 = .ok (.iconst 1, 1) := by decide +kernel
theorem dX3_measure_59 : decode cX3_measure 59 = .ok (.isub, 1) := by decide +kernel
theorem dX3_measure_60 : decode cX3_measure 60 = .ok (.istore_n 3, 1) := by decide +kernel
theorem dX3_measure_61 : decode cX3_measure 61 = .ok (.iload_n 3, 1) := by decide +kernel
theorem dX3_measure_62 : decode cX3_measure 62 = .ok (.ifCond .lt 27, 3) := by decide +kernel
theorem dX3_measure_65 : decode cX3_measure 65 = .ok (.aload_n 0, 1) := by decide +kernel
theorem dX3_measure_66 : decode cX3_measure 66 = .ok (.getfield 22, 3) := by decide +kernel
theorem dX3_measure_69 : decode cX3_measure 69 = .ok (.iload_n 3, 1) := by decide +kernel
theorem dX3_measure_70 : decode cX3_measure 70 = .ok (.ldc 52, 2) := by decide +kernel
theorem dX3_measure_72 : decode cX3_measure 72 = .ok (.iastore, 1) := by decide +kernel
theorem dX3_measure_73 : decode cX3_measure 73 = .ok (.aload_n 0, 1) := by decide +kernel
theorem dX3_measure_74 : decode cX3_measure 74 = .ok (.iload_n 3, 1) := by decide +kernel
theorem dX3_measure_75 : decode cX3_measure 75 = .ok (.invokevirtual 53, 3) := by decide +kernel
theorem dX3_measure_78 : decode cX3_measure 78 = .ok (.aload_n 0, 1) := by decide +kernel
theorem dX3_measure_79 : decode cX3_measure 79 = .ok (.iload_n 3, 1) := by decide +kernel
theorem dX3_measure_80 : decode cX3_measure 80 = .ok (.invokevirtual 57, 3) := by decide +kernel
theorem dX3_measure_83 : decode cX3_measure 83 = .ok (.iinc 3 (-1), 3) := by decide +kernel
theorem dX3_measure_86 : decode cX3_measure 86 = .ok (.goto (-25), 3) := by decide +kernel
theorem dX3_measure_89 : decode cX3_measure 89 = .ok (.iconst 4, 1) := by decide +kernel
theorem dX3_measure_90 : decode cX3_measure 90 = .ok (.aload_n 0, 1) := by decide +kernel
theorem dX3_measure_91 : decode cX3_measure 91 = .ok (.getfield 22, 3) := by decide +kernel
theorem dX3_measure_94 : decode cX3_measure 94 = .ok (.iconst 0, 1) := by decide +kernel
theorem dX3_measure_95 : decode cX3_measure 95 = .ok (.iaload, 1) := by decide +kernel
theorem dX3_measure_96 : decode cX3_measure 96 = .ok (.iadd, 1) := by decide +kernel
theorem dX3_measure_97 : decode cX3_measure 97 = .ok (.ireturn, 1) := by decide +kernel
theorem dX3_write_0 : decode cX3_write 0 = .ok (.iconst 0, 1) := by decide +kernel
theorem dX3_write_1 : decode cX3_write 1 = .ok (.istore_n 2, 1) := by decide +kernel
theorem dX3_write_2 : decode cX3_write 2 = .ok (.iconst 0, 1) := by decide +kernel
theorem dX3_write_3 : decode cX3_write 3 = .ok (.istore_n 3, 1) := by decide +kernel
theorem dX3_write_4 : decode cX3_write 4 = .ok (.iload_n 3, 1) := by decide +kernel
theorem dX3_write_5 : decode cX3_write 5 = .ok (.sipush 200, 3) := by decide +kernel
theorem dX3_write_8 : decode cX3_write 8 = .ok (.if_icmp .ge 76, 3) := by decide +kernel
theorem dX3_write_11 : decode cX3_write 11 = .ok (.iload_n 2, 1) := by decide +kernel
theorem dX3_write_12 : decode cX3_write 12 = .ok (.aload_n 0, 1) := by decide +kernel
theorem dX3_write_13 : decode cX3_write 13 = .ok (.getfield 44, 3) := by decide +kernel
theorem dX3_write_16 : decode cX3_write 16 = .ok (.if_icmp .ge 68, 3) := by decide +kernel
theorem dX3_write_19 : decode cX3_write 19 = .ok (.aload_n 0, 1) := by decide +kernel
theorem dX3_write_20 : decode cX3_write 20 = .ok (.getfield 25, 3) := by decide +kernel
theorem dX3_write_23 : decode cX3_write 23 = .ok (.iload_n 2, 1) := by decide +kernel
theorem dX3_write_24 : decode cX3_write 24 = .ok (.iaload, 1) := by decide +kernel
theorem dX3_write_25 : decode cX3_write 25 = .ok (.istore 4, 2) := by decide +kernel
theorem dX3_write_27 : decode cX3_write 27 = .ok (.iload 4, 2) := by decide +kernel
theorem dX3_write_29 : decode cX3_write 29 = .ok (.ifCond .le 24, 3) := by decide +kernel
theorem dX3_write_32 : decode cX3_write 32 = .ok (.aload_n 1, 1) := by decide +kernel
theorem dX3_write_33 : decode cX3_write 33 = .ok (.iload 4, 2) := by decide +kernel
theorem dX3_write_35 : decode cX3_write 35 = .ok (.aload_n 0, 1) := by decide +kernel
theorem dX3_write_36 : decode cX3_write 36 = .ok (.aload_n 0, 1) := by decide +kernel
theorem dX3_write_37 : decode cX3_write 37 = .ok (.getfield 34, 3) := by decide +kernel
theorem dX3_write_40 : decode cX3_write 40 = .ok (.iload_n 2, 1) := by decide +kernel
theorem dX3_write_41 : decode cX3_write 41 = .ok (.iadd, 1) := by decide +kernel
theorem dX3_write_42 : decode cX3_write 42 = .ok (.iload 4, 2) := by decide +kernel
theorem dX3_write_44 : decode cX3_write 44 = .ok (.invokevirtual 60, 3) := by decide +kernel
theorem dX3_write_47 : decode cX3_write 47 = .ok (.invokevirtual 63, 3) := by decide +kernel
theorem dX3_write_50 : decode cX3_write 50 = .ok (.goto 20, 3) := by decide +kernel
theorem dX3_write_53 : decode cX3_write 53 = .ok (.aload_n 1, 1) := by decide +kernel
theorem dX3_write_54 : decode cX3_write 54 = .ok (.aload_n 0, 1) := by decide +kernel
theorem dX3_write_55 : decode cX3_write 55 = .ok (.getfield 9, 3) := by decide +kernel
theorem dX3_write_58 : decode cX3_write 58 = .ok (.aload_n 0, 1) := by decide +kernel
theorem dX3_write_59 : decode cX3_write 59 = .ok (.getfield 34, 3) := by decide +kernel
theorem dX3_write_62 : decode cX3_write 62 = .ok (.iload_n 2, 1) := by decide +kernel
theorem dX3_write_63 : decode cX3_write 63 = .ok (.iadd, 1) := by decide +kernel
theorem dX3_write_64 : decode cX3_write 64 = .ok (.iload 4, 2) := by decide +kernel
theorem dX3_write_66 : decode cX3_write 66 = .ok (.ineg, 1) := by decide +kernel
theorem dX3_write_67 : decode cX3_write 67 = .ok (.invokevirtual 69, 3) := by decide +kernel
theorem dX3_write_70 : decode cX3_write 70 = .ok (.iload_n 2, 1) := by decide +kernel
theorem dX3_write_71 : decode cX3_write 71 = .ok (.iload 4, 2) := by decide +kernel
theorem dX3_write_73 : decode cX3_write 73 = .ok (.invokestatic 73, 3) := by decide +kernel
theorem dX3_write_76 : decode cX3_write 76 = .ok (.iadd, 1) := by decide +kernel
theorem dX3_write_77 : decode cX3_write 77 = .ok (.istore_n 2, 1) := by decide +kernel
theorem dX3_write_78 : decode cX3_write 78 = .ok (.iinc 3 1, 3) := by decide +kernel
theorem dX3_write_81 : decode cX3_write 81 = .ok (.goto (-77), 3) := by decide +kernel
theorem dX3_write_84 : decode cX3_write 84 = .ok (.return_, 1) := by decide +kernel
theorem dX3_linkSameBytes_0 : decode cX3_linkSameBytes 0 = .ok (.aload_n 0, 1) := by decide +kernel
theorem dX3_linkSameBytes_1 : decode cX3_linkSameBytes 1 = .ok (.getfield 19, 3) := by decide +kernel
theorem dX3_linkSameBytes_4 : decode cX3_linkSameBytes 4 = .ok (.iconst (-1), 1) := by decide +kernel
theorem dX3_linkSameBytes_5 : decode cX3_linkSameBytes 5 = .ok (.invokestatic 77, 3) := by decide +kernel
theorem dX3_linkSameBytes_8 : decode cX3_linkSameBytes 8 = .ok (.iconst 0, 1) := by decide +kernel
theorem dX3_linkSameBytes_9 : decode cX3_linkSameBytes 9 = .ok (.istore_n 1, 1) := by decide +kernel
theorem dX3_linkSameBytes_10 : decode cX3_linkSameBytes 10 = .ok (.iload_n 1, 1) := by decide +kernel
theorem dX3_linkSameBytes_11 : decode cX3_linkSameBytes 11 = .ok (.aload_n 0, 1) := by decide +kernel
theorem dX3_linkSameBytes_12 : decode cX3_linkSameBytes 12 = .ok (.getfield 34, 3) := by decide +kernel
theorem dX3_linkSameBytes_15 : decode cX3_linkSameBytes 15 = .ok (.aload_n 0, 1) := by decide +kernel
theorem dX3_linkSameBytes_16 : decode cX3_linkSameBytes 16 = .ok (.getfield 44, 3) := by decide +kernel
theorem dX3_linkSameBytes_19 : decode cX3_linkSameBytes 19 = .ok (.iadd, 1) := by decide +kernel
theorem dX3_linkSameBytes_20 : decode cX3_linkSameBytes 20 = .ok (.if_icmp .ge 39, 3) := by decide +kernel
theorem dX3_linkSameBytes_23 : decode cX3_linkSameBytes 23 = .ok (.aload_n 0, 1) := by decide +kernel
theorem dX3_linkSameBytes_24 : decode cX3_linkSameBytes 24 = .ok (.getfield 9, 3) := by decide +kernel
theorem dX3_linkSameBytes_27 : decode cX3_linkSameBytes 27 = .ok (.iload_n 1, 1) := by decide +kernel
theorem dX3_linkSameBytes_28 : decode cX3_linkSameBytes 28 = .ok (.baload, 1) := by decide +kernel
theorem dX3_linkSameBytes_29 : decode cX3_linkSameBytes 29 = .ok (.sipush 255, 3) := by decide +kernel
theorem dX3_linkSameBytes_32 : decode cX3_linkSameBytes 32 = .ok (.iand, 1) := by decide +kernel
theorem dX3_linkSameBytes_33 : decode cX3_linkSameBytes 33 = .ok (.istore_n 2, 1) := by decide +kernel
theorem dX3_linkSameBytes_34 : decode cX3_linkSameBytes 34 = .ok (.aload_n 0, 1) := by decide +kernel
theorem dX3_linkSameBytes_35 : decode cX3_linkSameBytes 35 = .ok (.getfield 15, 3) := by decide +kernel
theorem dX3_linkSameBytes_38 : decode cX3_linkSameBytes 38 = .ok (.iload_n 1, 1) := by decide +kernel
theorem dX3_linkSameBytes_39 : decode cX3_linkSameBytes 39 = .ok (.aload_n 0, 1) := by decide +kernel
theorem dX3_linkSameBytes_40 : decode cX3_linkSameBytes 40 = .ok (.getfield 19, 3) := by decide +kernel
theorem dX3_linkSameBytes_43 : decode cX3_linkSameBytes 43 = .ok (.iload_n 2, 1) := by decide +kernel
theorem dX3_linkSameBytes_44 : decode cX3_linkSameBytes 44 = .ok (.iaload, 1) := by decide +kernel
theorem dX3_linkSameBytes_45 : decode cX3_linkSameBytes 45 = .ok (.iastore, 1) := by decide +kernel
theorem dX3_linkSameBytes_46 : decode cX3_linkSameBytes 46 = .ok (.aload_n 0, 1) := by decide +kernel
theorem dX3_linkSameBytes_47 : decode cX3_linkSameBytes 47 = .ok (.getfield 19, 3) := by decide +kernel
theorem dX3_linkSameBytes_50 : decode cX3_linkSameBytes 50 = .ok (.iload_n 2, 1) := by decide +kernel
theorem dX3_linkSameBytes_51 : decode cX3_linkSameBytes 51 = .ok (.iload_n 1, 1) := by decide +kernel
theorem dX3_linkSameBytes_52 : decode cX3_linkSameBytes 52 = .ok (.iastore, 1) := by decide +kernel
theorem dX3_linkSameBytes_53 : decode cX3_linkSameBytes 53 = .ok (.iinc 1 1, 3) := by decide +kernel
theorem dX3_linkSameBytes_56 : decode cX3_linkSameBytes 56 = .ok (.goto (-46), 3) := by decide +kernel
theorem dX3_linkSameBytes_59 : decode cX3_linkSameBytes 59 = .ok (.return_, 1) := by decide +kernel
theorem dX3_tryMatches_0 : decode cX3_tryMatches 0 = .ok (.aload_n 0, 1) := by decide +kernel
theorem dX3_tryMatches_1 : decode cX3_tryMatches 1 = .ok (.iload_n 1, 1) := by decide +kernel
theorem dX3_tryMatches_2 : decode cX3_tryMatches 2 = .ok (.invokevirtual 83, 3) := by decide +kernel
theorem dX3_tryMatches_5 : decode cX3_tryMatches 5 = .ok (.istore_n 2, 1) := by decide +kernel
theorem dX3_tryMatches_6 : decode cX3_tryMatches 6 = .ok (.iload_n 2, 1) := by decide +kernel
theorem dX3_tryMatches_7 : decode cX3_tryMatches 7 = .ok (.iconst 3, 1) := by decide +kernel
theorem dX3_tryMatches_8 : decode cX3_tryMatches 8 = .ok (.if_icmp .lt 51, 3) := by decide +kernel
theorem dX3_tryMatches_11 : decode cX3_tryMatches 11 = .ok (.iconst 2, 1) := by decide +kernel
theorem dX3_tryMatches_12 : decode cX3_tryMatches 12 = .ok (.aload_n 0, 1) := by decide +kernel
theorem dX3_tryMatches_13 : decode cX3_tryMatches 13 = .ok (.getfield 22, 3) := by decide +kernel
theorem dX3_tryMatches_16 : decode cX3_tryMatches 16 = .ok (.iload_n 1, 1) := by decide +kernel
theorem dX3_tryMatches_17 : decode cX3_tryMatches 17 = .ok (.iload_n 2, 1) := by decide +kernel
theorem dX3_tryMatches_18 : decode cX3_tryMatches 18 = .ok (.iadd, 1) := by decide +kernel
theorem dX3_tryMatches_19 : decode cX3_tryMatches 19 = .ok (.iaload, 1) := by decide +kernel
theorem dX3_tryMatches_20 : decode cX3_tryMatches 20 = .ok (.iadd, 1) := by decide +kernel
theorem dX3_tryMatches_21 : decode cX3_tryMatches 21 = .ok (.aload_n 0, 1) := by decide +kernel
theorem dX3_tryMatches_22 : decode cX3_tryMatches 22 = .ok (.getfield 22, 3) := by decide +kernel
theorem dX3_tryMatches_25 : decode cX3_tryMatches 25 = .ok (.iload_n 1, 1) := by decide +kernel
theorem dX3_tryMatches_26 : decode cX3_tryMatches 26 = .ok (.iaload, 1) := by decide +kernel
theorem dX3_tryMatches_27 : decode cX3_tryMatches 27 = .ok (.if_icmp .ge 26, 3) := by decide +kernel
theorem dX3_tryMatches_30 : decode cX3_tryMatches 30 = .ok (.aload_n 0, 1) := by decide +kernel
theorem dX3_tryMatches_31 : decode cX3_tryMatches 31 = .ok (.getfield 22, 3) := by decide +kernel
theorem dX3_tryMatches_34 : decode cX3_tryMatches 34 = .ok (.iload_n 1, 1) := by decide +kernel
theorem dX3_tryMatches_35 : decode cX3_tryMatches 35 = .ok (.iconst 2, 1) := by decide +kernel
theorem dX3_tryMatches_36 : decode cX3_tryMatches 36 = .ok (.aload_n 0, 1) := by decide +kernel
theorem dX3_tryMatches_37 : decode cX3_tryMatches 37 = .ok (.getfield 22, 3) := by decide +kernel
theorem dX3_tryMatches_40 : decode cX3_tryMatches 40 = .ok (.iload_n 1, 1) := by decide +kernel
theorem dX3_tryMatches_41 : decode cX3_tryMatches 41 = .ok (.iload_n 2, 1) := by decide +kernel
theorem dX3_tryMatches_42 : decode cX3_tryMatches 42 = .ok (.iadd, 1) := by decide +kernel
theorem dX3_tryMatches_43 : decode cX3_tryMatches 43 = .ok (.iaload, 1) := by decide +kernel
theorem dX3_tryMatches_44 : decode cX3_tryMatches 44 = .ok (.iadd, 1) := by decide +kernel
theorem dX3_tryMatches_45 : decode cX3_tryMatches 45 = .ok (.iastore, 1) := by decide +kernel
theorem dX3_tryMatches_46 : decode cX3_tryMatches 46 = .ok (.aload_n 0, 1) := by decide +kernel
theorem dX3_tryMatches_47 : decode cX3_tryMatches 47 = .ok (.getfield 25, 3) := by decide +kernel
theorem dX3_tryMatches_50 : decode cX3_tryMatches 50 = .ok (.iload_n 1, 1) := by decide +kernel
theorem dX3_tryMatches_51 : decode cX3_tryMatches 51 = .ok (.iload_n 2, 1) := by decide +kernel
theorem dX3_tryMatches_52 : decode cX3_tryMatches 52 = .ok (.iastore, 1) := by decide +kernel
theorem dX3_tryMatches_53 : decode cX3_tryMatches 53 = .ok (.iinc 2 (-1), 3) := by decide +kernel
theorem dX3_tryMatches_56 : decode cX3_tryMatches 56 = .ok (.goto (-50), 3) := by decide +kernel
theorem dX3_tryMatches_59 : decode cX3_tryMatches 59 = .ok (.return_, 1) := by decide +kernel
theorem dX3_tryPlain_0 : decode cX3_tryPlain 0 = .ok (.bipush 32, 2) := by decide +kernel
theorem dX3_tryPlain_2 : decode cX3_tryPlain 2 = .ok (.aload_n 0, 1) := by decide +kernel
theorem dX3_tryPlain_3 : decode cX3_tryPlain 3 = .ok (.getfield 44, 3) := by decide +kernel
theorem dX3_tryPlain_6 : decode cX3_tryPlain 6 = .ok (.iload_n 1, 1) := by decide +kernel
theorem dX3_tryPlain_7 : decode cX3_tryPlain 7 = .ok (.isub, 1) := by decide +kernel
theorem dX3_tryPlain_8 : decode cX3_tryPlain 8 = .ok (.invokestatic 38, 3) := by decide +kernel
theorem dX3_tryPlain_11 : decode cX3_tryPlain 11 = .ok (.istore_n 2, 1) := by decide +kernel
theorem dX3_tryPlain_12 : decode cX3_tryPlain 12 = .ok (.iload_n 2, 1) := by decide +kernel
theorem dX3_tryPlain_13 : decode cX3_tryPlain 13 = .ok (.iconst 1, 1) := by decide +kernel
theorem dX3_tryPlain_14 : decode cX3_tryPlain 14 = .ok (.if_icmp .lt 56, 3) := by decide +kernel
theorem dX3_tryPlain_17 : decode cX3_tryPlain 17 = .ok (.iconst 1, 1) := by decide +kernel
theorem dX3_tryPlain_18 : decode cX3_tryPlain 18 = .ok (.iload_n 2, 1) := by decide +kernel
theorem dX3_tryPlain_19 : decode cX3_tryPlain 19 = .ok (.iadd, 1) := by decide +kernel
theorem dX3_tryPlain_20 : decode cX3_tryPlain 20 = .ok (.aload_n 0, 1) := by decide +kernel
theorem dX3_tryPlain_21 : decode cX3_tryPlain 21 = .ok (.getfield 22, 3) := by decide +kernel
theorem dX3_tryPlain_24 : decode cX3_tryPlain 24 = .ok (.iload_n 1, 1) := by decide +kernel
theorem dX3_tryPlain_25 : decode cX3_tryPlain 25 = .ok (.iload_n 2, 1) := by decide +kernel
theorem dX3_tryPlain_26 : decode cX3_tryPlain 26 = .ok (.iadd, 1) := by decide +kernel
theorem dX3_tryPlain_27 : decode cX3_tryPlain 27 = .ok (.iaload, 1) := by decide +kernel
theorem dX3_tryPlain_28 : decode cX3_tryPlain 28 = .ok (.iadd, 1) := by decide +kernel
theorem dX3_tryPlain_29 : decode cX3_tryPlain 29 = .ok (.aload_n 0, 1) := by decide +kernel
theorem dX3_tryPlain_30 : decode cX3_tryPlain 30 = .ok (.getfield 22, 3) := by decide +kernel
theorem dX3_tryPlain_33 : decode cX3_tryPlain 33 = .ok (.iload_n 1, 1) := by decide +kernel
theorem dX3_tryPlain_34 : decode cX3_tryPlain 34 = .ok (.iaload, 1) := by decide +kernel
theorem dX3_tryPlain_35 : decode cX3_tryPlain 35 = .ok (.if_icmp .ge 29, 3) := by decide +kernel
theorem dX3_tryPlain_38 : decode cX3_tryPlain 38 = .ok (.aload_n 0, 1) := by decide +kernel
theorem dX3_tryPlain_39 : decode cX3_tryPlain 39 = .ok (.getfield 22, 3) := by decide +kernel
theorem dX3_tryPlain_42 : decode cX3_tryPlain 42 = .ok (.iload_n 1, 1) := by decide +kernel
theorem dX3_tryPlain_43 : decode cX3_tryPlain 43 = .ok (.iconst 1, 1) := by decide +kernel
theorem dX3_tryPlain_44 : decode cX3_tryPlain 44 = .ok (.iload_n 2, 1) := by decide +kernel
theorem dX3_tryPlain_45 : decode cX3_tryPlain 45 = .ok (.iadd, 1) := by decide +kernel
theorem dX3_tryPlain_46 : decode cX3_tryPlain 46 = .ok (.aload_n 0, 1) := by decide +kernel
theorem dX3_tryPlain_47 : decode cX3_tryPlain 47 = .ok (.getfield 22, 3) := by decide +kernel
theorem dX3_tryPlain_50 : decode cX3_tryPlain 50 = .ok (.iload_n 1, 1) := by decide +kernel
theorem dX3_tryPlain_51 : decode cX3_tryPlain 51 = .ok (.iload_n 2, 1) := by decide +kernel
theorem dX3_tryPlain_52 : decode cX3_tryPlain 52 = .ok (.iadd, 1) := by decide +kernel
theorem dX3_tryPlain_53 : decode cX3_tryPlain 53 = .ok (.iaload, 1) := by decide +kernel
theorem dX3_tryPlain_54 : decode cX3_tryPlain 54 = .ok (.iadd, 1) := by decide +kernel
theorem dX3_tryPlain_55 : decode cX3_tryPlain 55 = .ok (.iastore, 1) := by decide +kernel
theorem dX3_tryPlain_56 : decode cX3_tryPlain 56 = .ok (.aload_n 0, 1) := by decide +kernel
theorem dX3_tryPlain_57 : decode cX3_tryPlain 57 = .ok (.getfield 25, 3) := by decide +kernel
theorem dX3_tryPlain_60 : decode cX3_tryPlain 60 = .ok (.iload_n 1, 1) := by decide +kernel
theorem dX3_tryPlain_61 : decode cX3_tryPlain 61 = .ok (.iload_n 2, 1) := by decide +kernel
theorem dX3_tryPlain_62 : decode cX3_tryPlain 62 = .ok (.ineg, 1) := by decide +kernel
theorem dX3_tryPlain_63 : decode cX3_tryPlain 63 = .ok (.iastore, 1) := by decide +kernel
theorem dX3_tryPlain_64 : decode cX3_tryPlain 64 = .ok (.iinc 2 (-1), 3) := by decide +kernel
theorem dX3_tryPlain_67 : decode cX3_tryPlain 67 = .ok (.goto (-55), 3) := by decide +kernel
theorem dX3_tryPlain_70 : decode cX3_tryPlain 70 = .ok (.return_, 1) := by decide +kernel
theorem dX3_longestMatch_0 : decode cX3_longestMatch 0 = .ok (.bipush 9, 2) := by decide +kernel
theorem dX3_longestMatch_2 : decode cX3_longestMatch 2 = .ok (.aload_n 0, 1) := by decide +kernel
theorem dX3_longestMatch_3 : decode cX3_longestMatch 3 = .ok (.getfield 44, 3) := by decide +kernel
theorem dX3_longestMatch_6 : decode cX3_longestMatch 6 = .ok (.iload_n 1, 1) := by decide +kernel
theorem dX3_longestMatch_7 : decode cX3_longestMatch 7 = .ok (.isub, 1) := by decide +kernel
theorem dX3_longestMatch_8 : decode cX3_longestMatch 8 = .ok (.invokestatic 38, 3) := by decide +kernel
theorem dX3_longestMatch_11 : decode cX3_longestMatch 11 = .ok (.istore_n 2, 1) := by decide +kernel
theorem dX3_longestMatch_12 : decode cX3_longestMatch 12 = .ok (.iconst 0, 1) := by decide +kernel
theorem dX3_longestMatch_13 : decode cX3_longestMatch 13 = .ok (.istore_n 3, 1) := by decide +kernel
theorem dX3_longestMatch_14 : decode cX3_longestMatch 14 = .ok (.aload_n 0, 1) := by decide +kernel
theorem dX3_longestMatch_15 : decode cX3_longestMatch 15 = .ok (.getfield 15, 3) := by decide +kernel
theorem dX3_longestMatch_18 : decode cX3_longestMatch 18 = .ok (.aload_n 0, 1) := by decide +kernel
theorem dX3_longestMatch_19 : decode cX3_longestMatch 19 = .ok (.getfield 34, 3) := by decide +kernel
theorem dX3_longestMatch_22 : decode cX3_longestMatch 22 = .ok (.iload_n 1, 1) := by decide +kernel
theorem dX3_longestMatch_23 : decode cX3_longestMatch 23 = .ok (.iadd, 1) := by decide +kernel
theorem dX3_longestMatch_24 : decode cX3_longestMatch 24 = .ok (.iaload, 1) := by decide +kernel
theorem dX3_longestMatch_25 : decode cX3_longestMatch 25 = .ok (.istore 4, 2) := by decide +kernel
theorem dX3_longestMatch_27 : decode cX3_longestMatch 27 = .ok (.iconst 0, 1) := by decide +kernel
theorem dX3_longestMatch_28 : decode cX3_longestMatch 28 = .ok (.istore 5, 2) := by decide +kernel
theorem dX3_longestMatch_30 : decode cX3_longestMatch 30 = .ok (.iload 5, 2) := by decide +kernel
theorem dX3_longestMatch_32 : decode cX3_longestMatch 32 = .ok (.aload_n 0, 1) := by decide +kernel
theorem dX3_longestMatch_33 : decode cX3_longestMatch 33 = .ok (.getfield 9, 3) := by decide +kernel
theorem dX3_longestMatch_36 : decode cX3_longestMatch 36 = .ok (.arraylength, 1) := by decide +kernel
theorem dX3_longestMatch_37 : decode cX3_longestMatch 37 = .ok (.if_icmp .ge 47, 3) := by decide +kernel
theorem dX3_longestMatch_40 : decode cX3_longestMatch 40 = .ok (.iload 4, 2) := by decide +kernel
theorem dX3_longestMatch_42 : decode cX3_longestMatch 42 = .ok (.iconst (-1), 1) := by decide +kernel
theorem dX3_longestMatch_43 : decode cX3_longestMatch 43 = .ok (.if_icmp .eq 41, 3) := by decide +kernel
theorem dX3_longestMatch_46 : decode cX3_longestMatch 46 = .ok (.iload_n 3, 1) := by decide +kernel
theorem dX3_longestMatch_47 : decode cX3_longestMatch 47 = .ok (.iload_n 2, 1) := by decide +kernel
theorem dX3_longestMatch_48 : decode cX3_longestMatch 48 = .ok (.if_icmp .ge 36, 3) := by decide +kernel
theorem dX3_longestMatch_51 : decode cX3_longestMatch 51 = .ok (.iload_n 3, 1) := by decide +kernel
theorem dX3_longestMatch_52 : decode cX3_longestMatch 52 = .ok (.aload_n 0, 1) := by decide +kernel
theorem dX3_longestMatch_53 : decode cX3_longestMatch 53 = .ok (.iload 4, 2) := by decide +kernel
theorem dX3_longestMatch_55 : decode cX3_longestMatch 55 = .ok (.aload_n 0, 1) := by decide +kernel
theorem dX3_longestMatch_56 : decode cX3_longestMatch 56 = .ok (.getfield 34, 3) := by decide +kernel
theorem dX3_longestMatch_59 : decode cX3_longestMatch 59 = .ok (.iload_n 1, 1) := by decide +kernel
theorem dX3_longestMatch_60 : decode cX3_longestMatch 60 = .ok (.iadd, 1) := by decide +kernel
theorem dX3_longestMatch_61 : decode cX3_longestMatch 61 = .ok (.iload_n 2, 1) := by decide +kernel
theorem dX3_longestMatch_62 : decode cX3_longestMatch 62 = .ok (.invokevirtual 86, 3) := by decide +kernel
theorem dX3_longestMatch_65 : decode cX3_longestMatch 65 = .ok (.invokestatic 90, 3) := by decide +kernel
theorem dX3_longestMatch_68 : decode cX3_longestMatch 68 = .ok (.istore_n 3, 1) := by decide +kernel
theorem dX3_longestMatch_69 : decode cX3_longestMatch 69 = .ok (.aload_n 0, 1) := by decide +kernel
theorem dX3_longestMatch_70 : decode cX3_longestMatch 70 = .ok (.getfield 15, 3) := by decide +kernel
theorem dX3_longestMatch_73 : decode cX3_longestMatch 73 = .ok (.iload 4, 2) := by decide +kernel
theorem dX3_longestMatch_75 : decode cX3_longestMatch 75 = .ok (.iaload, 1) := by decide +kernel
theorem dX3_longestMatch_76 : decode cX3_longestMatch 76 = .ok (.istore 4, 2) := by decide +kernel
theorem dX3_longestMatch_78 : decode cX3_longestMatch 78 = .ok (.iinc 5 1, 3) := by decide +kernel
theorem dX3_longestMatch_81 : decode cX3_longestMatch 81 = .ok (.goto (-51), 3) := by decide +kernel
theorem dX3_longestMatch_84 : decode cX3_longestMatch 84 = .ok (.iload_n 3, 1) := by decide +kernel
theorem dX3_longestMatch_85 : decode cX3_longestMatch 85 = .ok (.ireturn, 1) := by decide +kernel
theorem dX3_leastDistance_0 : decode cX3_leastDistance 0 = .ok (.aload_n 0, 1) := by decide +kernel
theorem dX3_leastDistance_1 : decode cX3_leastDistance 1 = .ok (.getfield 15, 3) := by decide +kernel
theorem dX3_leastDistance_4 : decode cX3_leastDistance 4 = .ok (.iload_n 1, 1) := by decide +kernel
theorem dX3_leastDistance_5 : decode cX3_leastDistance 5 = .ok (.iaload, 1) := by decide +kernel
theorem dX3_leastDistance_6 : decode cX3_leastDistance 6 = .ok (.istore_n 3, 1) := by decide +kernel
theorem dX3_leastDistance_7 : decode cX3_leastDistance 7 = .ok (.iconst 0, 1) := by decide +kernel
theorem dX3_leastDistance_8 : decode cX3_leastDistance 8 = .ok (.istore 4, 2) := by decide +kernel
theorem dX3_leastDistance_10 : decode cX3_leastDistance 10 = .ok (.iload 4, 2) := by decide +kernel
theorem dX3_leastDistance_12 : decode cX3_leastDistance 12 = .ok (.aload_n 0, 1) := by decide +kernel
theorem dX3_leastDistance_13 : decode cX3_leastDistance 13 = .ok (.getfield 9, 3) := by decide +kernel
theorem dX3_leastDistance_16 : decode cX3_leastDistance 16 = .ok (.arraylength, 1) := by decide +kernel
theorem dX3_leastDistance_17 : decode cX3_leastDistance 17 = .ok (.if_icmp .ge 36, 3) := by decide +kernel
theorem dX3_leastDistance_20 : decode cX3_leastDistance 20 = .ok (.iload_n 3, 1) := by decide +kernel
theorem dX3_leastDistance_21 : decode cX3_leastDistance 21 = .ok (.iconst (-1), 1) := by decide +kernel
theorem dX3_leastDistance_22 : decode cX3_leastDistance 22 = .ok (.if_icmp .eq 31, 3) := by decide +kernel
theorem dX3_leastDistance_25 : decode cX3_leastDistance 25 = .ok (.aload_n 0, 1) := by decide +kernel
theorem dX3_leastDistance_26 : decode cX3_leastDistance 26 = .ok (.iload_n 3, 1) := by decide +kernel
theorem dX3_leastDistance_27 : decode cX3_leastDistance 27 = .ok (.iload_n 1, 1) := by decide +kernel
theorem dX3_leastDistance_28 : decode cX3_leastDistance 28 = .ok (.iload_n 2, 1) := by decide +kernel
theorem dX3_leastDistance_29 : decode cX3_leastDistance 29 = .ok (.invokevirtual 86, 3) := by decide +kernel
theorem dX3_leastDistance_32 : decode cX3_leastDistance 32 = .ok (.iload_n 2, 1) := by decide +kernel
theorem dX3_leastDistance_33 : decode cX3_leastDistance 33 = .ok (.if_icmp .ne 7, 3) := by decide +kernel
theorem dX3_leastDistance_36 : decode cX3_leastDistance 36 = .ok (.iload_n 1, 1) := by decide +kernel
theorem dX3_leastDistance_37 : decode cX3_leastDistance 37 = .ok (.iload_n 3, 1) := by decide +kernel
theorem dX3_leastDistance_38 : decode cX3_leastDistance 38 = .ok (.isub, 1) := by decide +kernel
theorem dX3_leastDistance_39 : decode cX3_leastDistance 39 = .ok (.ireturn, 1) := by decide +kernel
theorem dX3_leastDistance_40 : decode cX3_leastDistance 40 = .ok (.aload_n 0, 1) := by decide +kernel
theorem dX3_leastDistance_41 : decode cX3_leastDistance 41 = .ok (.getfield 15, 3) := by decide +kernel
theorem dX3_leastDistance_44 : decode cX3_leastDistance 44 = .ok (.iload_n 3, 1) := by decide +kernel
theorem dX3_leastDistance_45 : decode cX3_leastDistance 45 = .ok (.iaload, 1) := by decide +kernel
theorem dX3_leastDistance_46 : decode cX3_leastDistance 46 = .ok (.istore_n 3, 1) := by decide +kernel
theorem dX3_leastDistance_47 : decode cX3_leastDistance 47 = .ok (.iinc 4 1, 3) := by decide +kernel
theorem dX3_leastDistance_50 : decode cX3_leastDistance 50 = .ok (.goto (-40), 3) := by decide +kernel
theorem dX3_leastDistance_53 : decode cX3_leastDistance 53 = .ok (.iconst 0, 1) := by decide +kernel
theorem dX3_leastDistance_54 : decode cX3_leastDistance 54 = .ok (.ireturn, 1) := by decide +kernel
theorem dX3_sameBytes_0 : decode cX3_sameBytes 0 = .ok (.iconst 0, 1) := by decide +kernel
theorem dX3_sameBytes_1 : decode cX3_sameBytes 1 = .ok (.istore 4, 2) := by decide +kernel
theorem dX3_sameBytes_3 : decode cX3_sameBytes 3 = .ok (.iload 4, 2) := by decide +kernel
theorem dX3_sameBytes_5 : decode cX3_sameBytes 5 = .ok (.iload_n 3, 1) := by decide +kernel
theorem dX3_sameBytes_6 : decode cX3_sameBytes 6 = .ok (.if_icmp .ge 30, 3) := by decide +kernel
theorem dX3_sameBytes_9 : decode cX3_sameBytes 9 = .ok (.aload_n 0, 1) := by decide +kernel
theorem dX3_sameBytes_10 : decode cX3_sameBytes 10 = .ok (.getfield 9, 3) := by decide +kernel
theorem dX3_sameBytes_13 : decode cX3_sameBytes 13 = .ok (.iload_n 1, 1) := by decide +kernel
theorem dX3_sameBytes_14 : decode cX3_sameBytes 14 = .ok (.iload 4, 2) := by decide +kernel
theorem dX3_sameBytes_16 : decode cX3_sameBytes 16 = .ok (.iadd, 1) := by decide +kernel
theorem dX3_sameBytes_17 : decode cX3_sameBytes 17 = .ok (.baload, 1) := by decide +kernel
theorem dX3_sameBytes_18 : decode cX3_sameBytes 18 = .ok (.aload_n 0, 1) := by decide +kernel
theorem dX3_sameBytes_19 : decode cX3_sameBytes 19 = .ok (.getfield 9, 3) := by decide +kernel
theorem dX3_sameBytes_22 : decode cX3_sameBytes 22 = .ok (.iload_n 2, 1) := by decide +kernel
theorem dX3_sameBytes_23 : decode cX3_sameBytes 23 = .ok (.iload 4, 2) := by decide +kernel
theorem dX3_sameBytes_25 : decode cX3_sameBytes 25 = .ok (.iadd, 1) := by decide +kernel
theorem dX3_sameBytes_26 : decode cX3_sameBytes 26 = .ok (.baload, 1) := by decide +kernel
theorem dX3_sameBytes_27 : decode cX3_sameBytes 27 = .ok (.if_icmp .ne 9, 3) := by decide +kernel
theorem dX3_sameBytes_30 : decode cX3_sameBytes 30 = .ok (.iinc 4 1, 3) := by decide +kernel
theorem dX3_sameBytes_33 : decode cX3_sameBytes 33 = .ok (.goto (-30), 3) := by decide +kernel
theorem dX3_sameBytes_36 : decode cX3_sameBytes 36 = .ok (.iload 4, 2) := by decide +kernel
theorem dX3_sameBytes_38 : decode cX3_sameBytes 38 = .ok (.ireturn, 1) := by decide +kernel
end
section
theorem dX4_init_0 : decode cX4_init 0 = .ok (.aload_n 0, 1) := by decide +kernel
theorem dX4_init_1 : decode cX4_init 1 = .ok (.invokespecial 1, 3) := by decide +kernel
theorem dX4_init_4 : decode cX4_init 4 = .ok (.aload_n 0, 1) := by decide +kernel
theorem dX4_init_5 : decode cX4_init 5 = .ok (.iload_n 1, 1) := by decide +kernel
theorem dX4_init_6 : decode cX4_init 6 = .ok (.iconst 0, 1) := by decide +kernel
theorem dX4_init_7 : decode cX4_init 7 = .ok (.invokestatic 7, 3) := by decide +kernel
theorem dX4_init_10 : decode cX4_init 10 = .ok (.newarray .byte, 2) := by decide +kernel
theorem dX4_init_12 : decode cX4_init 12 = .ok (.putfield 13, 3) := by decide +kernel
theorem dX4_init_15 : decode cX4_init 15 = .ok (.return_, 1) := by decide +kernel
theorem dX4_length_0 : decode cX4_length 0 = .ok (.aload_n 0, 1) := by decide +kernel
theorem dX4_length_1 : decode cX4_length 1 = .ok (.getfield 19, 3) := by decide +kernel
theorem dX4_length_4 : decode cX4_length 4 = .ok (.ireturn, 1) := by decide +kernel
theorem dX4_has_0 : decode cX4_has 0 = .ok (.iload_n 1, 1) := by decide +kernel
theorem dX4_has_1 : decode cX4_has 1 = .ok (.ifCond .lt 15, 3) := by decide +kernel
theorem dX4_has_4 : decode cX4_has 4 = .ok (.iload_n 1, 1) := by decide +kernel
theorem dX4_has_5 : decode cX4_has 5 = .ok (.aload_n 0, 1) := by decide +kernel
theorem dX4_has_6 : decode cX4_has 6 = .ok (.getfield 19, 3) := by decide +kernel
theorem dX4_has_9 : decode cX4_has 9 = .ok (.if_icmp .ge 7, 3) := by decide +kernel
theorem dX4_has_12 : decode cX4_has 12 = .ok (.iconst 1, 1) := by decide +kernel
theorem dX4_has_13 : decode cX4_has 13 = .ok (.goto 4, 3) := by decide +kernel
theorem dX4_has_16 : decode cX4_has 16 = .ok (.iconst 0, 1) := by decide +kernel
theorem dX4_has_17 : decode cX4_has 17 = .ok (.ireturn, 1) := by decide +kernel
theorem dX4_hasRoom_0 : decode cX4_hasRoom 0 = .ok (.iload_n 1, 1) := by decide +kernel
theorem dX4_hasRoom_1 : decode cX4_hasRoom 1 = .ok (.aload_n 0, 1) := by decide +kernel
theorem dX4_hasRoom_2 : decode cX4_hasRoom 2 = .ok (.getfield 13, 3) := by decide +kernel
theorem dX4_hasRoom_5 : decode cX4_hasRoom 5 = .ok (.arraylength, 1) := by decide +kernel
theorem dX4_hasRoom_6 : decode cX4_hasRoom 6 = .ok (.aload_n 0, 1) := by decide +kernel
theorem dX4_hasRoom_7 : decode cX4_hasRoom 7 = .ok (.getfield 19, 3) := by decide +kernel
theorem dX4_hasRoom_10 : decode cX4_hasRoom 10 = .ok (.isub, 1) := by decide +kernel
theorem dX4_hasRoom_11 : decode cX4_hasRoom 11 = .ok (.if_icmp .gt 7, 3) := by decide +kernel
theorem dX4_hasRoom_14 : decode cX4_hasRoom 14 = .ok (.iconst 1, 1) := by decide +kernel
theorem dX4_hasRoom_15 : decode cX4_hasRoom 15 = .ok (.goto 4, 3) := by decide +kernel
theorem dX4_hasRoom_18 : decode cX4_hasRoom 18 = .ok (.iconst 0, 1) := by decide +kernel
theorem dX4_hasRoom_19 : decode cX4_hasRoom 19 = .ok (.ireturn, 1) := by decide +kernel
theorem dX4_signedAt_0 : decode cX4_signedAt 0 = .ok (.aload_n 0, 1) := by decide +kernel
theorem dX4_signedAt_1 : decode cX4_signedAt 1 = .ok (.iload_n 1, 1) := by decide +kernel
theorem dX4_signedAt_2 : decode cX4_signedAt 2 = .ok (.invokevirtual 23, 3) := by decide +kernel
theorem dX4_signedAt_5 : decode cX4_signedAt 5 = .ok (.ifCond .eq 12, 3) := by decide +kernel
theorem dX4_signedAt_8 : decode cX4_signedAt 8 = .ok (.aload_n 0, 1) := by decide +kernel
theorem dX4_signedAt_9 : decode cX4_signedAt 9 = .ok (.getfield 13, 3) := by decide +kernel
theorem dX4_signedAt_12 : decode cX4_signedAt 12 = .ok (.iload_n 1, 1) := by decide +kernel
theorem dX4_signedAt_13 : decode cX4_signedAt 13 = .ok (.baload, 1) := by decide +kernel
theorem dX4_signedAt_14 : decode cX4_signedAt 14 = .ok (.goto 4, 3) := by decide +kernel
theorem dX4_signedAt_17 : decode cX4_signedAt 17 = .ok (.iconst 0, 1) := by decide +kernel
theorem dX4_signedAt_18 : decode cX4_signedAt 18 = .ok (.ireturn, 1) := by decide +kernel
theorem dX4_at_0 : decode cX4_at 0 = .ok (.aload_n 0, 1) := by decide +kernel
theorem dX4_at_1 : decode cX4_at 1 = .ok (.iload_n 1, 1) := by decide +kernel
theorem dX4_at_2 : decode cX4_at 2 = .ok (.invokevirtual 27, 3) := by decide +kernel
theorem dX4_at_5 : decode cX4_at 5 = .ok (.sipush 255, 3) := by decide +kernel
theorem dX4_at_8 : decode cX4_at 8 = .ok (.iand, 1) := by decide +kernel
theorem dX4_at_9 : decode cX4_at 9 = .ok (.ireturn, 1) := by decide +kernel
theorem dX4_clear_0 : decode cX4_clear 0 = .ok (.aload_n 0, 1) := by decide +kernel
theorem dX4_clear_1 : decode cX4_clear 1 = .ok (.iconst 0, 1) := by decide +kernel
theorem dX4_clear_2 : decode cX4_clear 2 = .ok (.putfield 19, 3) := by decide +kernel
theorem dX4_clear_5 : decode cX4_clear 5 = .ok (.return_, 1) := by decide +kernel
theorem dX4_add_0 : decode cX4_add 0 = .ok (.aload_n 0, 1) := by decide +kernel
theorem dX4_add_1 : decode cX4_add 1 = .ok (.getfield 19, 3) := by decide +kernel
theorem dX4_add_4 : decode cX4_add 4 = .ok (.aload_n 0, 1) := by decide +kernel
theorem dX4_add_5 : decode cX4_add 5 = .ok (.getfield 13, 3) := by decide +kernel
theorem dX4_add_8 : decode cX4_add 8 = .ok (.arraylength, 1) := by decide +kernel
theorem dX4_add_9 : decode cX4_add 9 = .ok (.if_icmp .ge 24, 3) := by decide +kernel
theorem dX4_add_12 : decode cX4_add 12 = .ok (.aload_n 0, 1) := by decide +kernel
theorem dX4_add_13 : decode cX4_add 13 = .ok (.getfield 13, 3) := by decide +kernel
theorem dX4_add_16 : decode cX4_add 16 = .ok (.aload_n 0, 1) := by decide +kernel
theorem dX4_add_17 : decode cX4_add 17 = .ok (.getfield 19, 3) := by decide +kernel
theorem dX4_add_20 : decode cX4_add 20 = .ok (.iload_n 1, 1) := by decide +kernel
theorem dX4_add_21 : decode cX4_add 21 = .ok (.i2b, 1) := by decide +kernel
theorem dX4_add_22 : decode cX4_add 22 = .ok (.bastore, 1) := by decide +kernel
theorem dX4_add_23 : decode cX4_add 23 = .ok (.aload_n 0, 1) := by decide +kernel
theorem dX4_add_24 : decode cX4_add 24 = .ok (.dup, 1) := by decide +kernel
theorem dX4_add_25 : decode cX4_add 25 = .ok (.getfield 19, 3) := by decide +kernel
theorem dX4_add_28 : decode cX4_add 28 = .ok (.iconst 1, 1) := by decide +kernel
theorem dX4_add_29 : decode cX4_add 29 = .ok (.iadd, 1) := by decide +kernel
theorem dX4_add_30 : decode cX4_add 30 = .ok (.putfield 19, 3) := by decide +kernel
theorem dX4_add_33 : decode cX4_add 33 = .ok (.return_, 1) := by decide +kernel
theorem dX4_addFrom_0 : decode cX4_addFrom 0 = .ok (.iconst 0, 1) := by decide +kernel
theorem dX4_addFrom_1 : decode cX4_addFrom 1 = .ok (.istore 4, 2) := by decide +kernel
theorem dX4_addFrom_3 : decode cX4_addFrom 3 = .ok (.iload 4, 2) := by decide +kernel
theorem dX4_addFrom_5 : decode cX4_addFrom 5 = .ok (.iload_n 3, 1) := by decide +kernel
theorem dX4_addFrom_6 : decode cX4_addFrom 6 = .ok (.if_icmp .ge 21, 3) := by decide +kernel
theorem dX4_addFrom_9 : decode cX4_addFrom 9 = .ok (.aload_n 0, 1) := by decide +kernel
theorem dX4_addFrom_10 : decode cX4_addFrom 10 = .ok (.aload_n 1, 1) := by decide +kernel
theorem dX4_addFrom_11 : decode cX4_addFrom 11 = .ok (.iload_n 2, 1) := by decide +kernel
theorem dX4_addFrom_12 : decode cX4_addFrom 12 = .ok (.iload 4, 2) := by decide +kernel
theorem dX4_addFrom_14 : decode cX4_addFrom 14 = .ok (.iadd, 1) := by decide +kernel
theorem dX4_addFrom_15 : decode cX4_addFrom 15 = .ok (.invokevirtual 27, 3) := by decide +kernel
theorem dX4_addFrom_18 : decode cX4_addFrom 18 = .ok (.invokevirtual 31, 3) := by decide +kernel
theorem dX4_addFrom_21 : decode cX4_addFrom 21 = .ok (.iinc 4 1, 3) := by decide +kernel
theorem dX4_addFrom_24 : decode cX4_addFrom 24 = .ok (.goto (-21), 3) := by decide +kernel
theorem dX4_addFrom_27 : decode cX4_addFrom 27 = .ok (.return_, 1) := by decide +kernel
theorem dX4_become_0 : decode cX4_become 0 = .ok (.aload_n 0, 1) := by decide +kernel
theorem dX4_become_1 : decode cX4_become 1 = .ok (.invokevirtual 35, 3) := by decide +kernel
theorem dX4_become_4 : decode cX4_become 4 = .ok (.aload_n 0, 1) := by decide +kernel
theorem dX4_become_5 : decode cX4_become 5 = .ok (.aload_n 1, 1) := by decide +kernel
theorem dX4_become_6 : decode cX4_become 6 = .ok (.iconst 0, 1) := by decide +kernel
theorem dX4_become_7 : decode cX4_become 7 = .ok (.aload_n 1, 1) := by decide +kernel
theorem dX4_become_8 : decode cX4_become 8 = .ok (.getfield 19, 3) := by decide +kernel
theorem dX4_become_11 : decode cX4_become 11 = .ok (.invokevirtual 38, 3) := by decide +kernel
theorem dX4_become_14 : decode cX4_become 14 = .ok (.return_, 1) := by decide +kernel
theorem dX4_cutOut_0 : decode cX4_cutOut 0 = .ok (.iload_n 1, 1) := by decide +kernel
theorem dX4_cutOut_1 : decode cX4_cutOut 1 = .ok (.ifCond .lt 17, 3) := by decide +kernel
theorem dX4_cutOut_4 : decode cX4_cutOut 4 = .ok (.iload_n 2, 1) := by decide +kernel
theorem dX4_cutOut_5 : decode cX4_cutOut 5 = .ok (.ifCond .lt 13, 3) := by decide +kernel
theorem dX4_cutOut_8 : decode cX4_cutOut 8 = .ok (.iload_n 1, 1) := by decide +kernel
theorem dX4_cutOut_9 : decode cX4_cutOut 9 = .ok (.iload_n 2, 1) := by decide +kernel
theorem dX4_cutOut_10 : decode cX4_cutOut 10 = .ok (.iadd, 1) := by decide +kernel
theorem dX4_cutOut_11 : decode cX4_cutOut 11 = .ok (.aload_n 0, 1) := by decide +kernel
theorem dX4_cutOut_12 : decode cX4_cutOut 12 = .ok (.getfield 19, 3) := by decide +kernel
theorem dX4_cutOut_15 : decode cX4_cutOut 15 = .ok (.if_icmp .le 4, 3) := by decide +kernel
theorem dX4_cutOut_18 : decode cX4_cutOut 18 = .ok (.return_, 1) := by decide +kernel
theorem dX4_cutOut_19 : decode cX4_cutOut 19 = .ok (.aload_n 0, 1) := by decide +kernel
theorem dX4_cutOut_20 : decode cX4_cutOut 20 = .ok (.getfield 19, 3) := by decide +kernel
theorem dX4_cutOut_23 : decode cX4_cutOut 23 = .ok (.istore_n 3, 1) := by decide +kernel
theorem dX4_cutOut_24 : decode cX4_cutOut 24 = .ok (.aload_n 0, 1) := by decide +kernel
theorem dX4_cutOut_25 : decode cX4_cutOut 25 = .ok (.iload_n 1, 1) := by decide +kernel
theorem dX4_cutOut_26 : decode cX4_cutOut 26 = .ok (.putfield 19, 3) := by decide +kernel
theorem dX4_cutOut_29 : decode cX4_cutOut 29 = .ok (.iload_n 1, 1) := by decide +kernel
theorem dX4_cutOut_30 : decode cX4_cutOut 30 = .ok (.iload_n 2, 1) := by decide +kernel
theorem dX4_cutOut_31 : decode cX4_cutOut 31 = .ok (.iadd, 1) := by decide +kernel
theorem dX4_cutOut_32 : decode cX4_cutOut 32 = .ok (.istore 4, 2) := by decide +kernel
theorem dX4_cutOut_34 : decode cX4_cutOut 34 = .ok (.iload 4, 2) := by decide +kernel
theorem dX4_cutOut_36 : decode cX4_cutOut 36 = .ok (.iload_n 3, 1) := by decide +kernel
theorem dX4_cutOut_37 : decode cX4_cutOut 37 = .ok (.if_icmp .ge 20, 3) := by decide +kernel
theorem dX4_cutOut_40 : decode cX4_cutOut 40 = .ok (.aload_n 0, 1) := by decide +kernel
theorem dX4_cutOut_41 : decode cX4_cutOut 41 = .ok (.aload_n 0, 1) := by decide +kernel
theorem dX4_cutOut_42 : decode cX4_cutOut 42 = .ok (.getfield 13, 3) := by decide +kernel
theorem dX4_cutOut_45 : decode cX4_cutOut 45 = .ok (.iload 4, 2) := by decide +kernel
theorem dX4_cutOut_47 : decode cX4_cutOut 47 = .ok (.baload, 1) := by decide +kernel
theorem dX4_cutOut_48 : decode cX4_cutOut 48 = .ok (.invokevirtual 31, 3) := by decide +kernel
theorem dX4_cutOut_51 : decode cX4_cutOut 51 = .ok (.iinc 4 1, 3) := by decide +kernel
theorem dX4_cutOut_54 : decode cX4_cutOut 54 = .ok (.goto (-20), 3) := by decide +kernel
theorem dX4_cutOut_57 : decode cX4_cutOut 57 = .ok (.return_, 1) := by decide +kernel
theorem dX4_copyTo_0 : decode cX4_copyTo 0 = .ok (.aload_n 0, 1) := by decide +kernel
theorem dX4_copyTo_1 : decode cX4_copyTo 1 = .ok (.getfield 19, 3) := by decide +kernel
theorem dX4_copyTo_4 : decode cX4_copyTo 4 = .ok (.aload_n 1, 1) := by decide +kernel
theorem dX4_copyTo_5 : decode cX4_copyTo 5 = .ok (.arraylength, 1) := by decide +kernel
theorem dX4_copyTo_6 : decode cX4_copyTo 6 = .ok (.iload_n 2, 1) := by decide +kernel
theorem dX4_copyTo_7 : decode cX4_copyTo 7 = .ok (.isub, 1) := by decide +kernel
theorem dX4_copyTo_8 : decode cX4_copyTo 8 = .ok (.invokestatic 42, 3) := by decide +kernel
theorem dX4_copyTo_11 : decode cX4_copyTo 11 = .ok (.iconst 0, 1) := by decide +kernel
theorem dX4_copyTo_12 : decode cX4_copyTo 12 = .ok (.invokestatic 7, 3) := by decide +kernel
theorem dX4_copyTo_15 : decode cX4_copyTo 15 = .ok (.istore_n 3, 1) := by decide +kernel
theorem dX4_copyTo_16 : decode cX4_copyTo 16 = .ok (.iconst 0, 1) := by decide +kernel
theorem dX4_copyTo_17 : decode cX4_copyTo 17 = .ok (.istore 4, 2) := by decide +kernel
theorem dX4_copyTo_19 : decode cX4_copyTo 19 = .ok (.iload 4, 2) := by decide +kernel
theorem dX4_copyTo_21 : decode cX4_copyTo 21 = .ok (.iload_n 3, 1) := by decide +kernel
theorem dX4_copyTo_22 : decode cX4_copyTo 22 = .ok (.if_icmp .ge 22, 3) := by decide +kernel
theorem dX4_copyTo_25 : decode cX4_copyTo 25 = .ok (.aload_n 1, 1) := by decide +kernel
theorem dX4_copyTo_26 : decode cX4_copyTo 26 = .ok (.iload_n 2, 1) := by decide +kernel
theorem dX4_copyTo_27 : decode cX4_copyTo 27 = .ok (.iload 4, 2) := by decide +kernel
theorem dX4_copyTo_29 : decode cX4_copyTo 29 = .ok (.iadd, 1) := by decide +kernel
theorem dX4_copyTo_30 : decode cX4_copyTo 30 = .ok (.aload_n 0, 1) := by decide +kernel
theorem dX4_copyTo_31 : decode cX4_copyTo 31 = .ok (.getfield 13, 3) := by decide +kernel
theorem dX4_copyTo_34 : decode cX4_copyTo 34 = .ok (.iload 4, 2) := by decide +kernel
theorem dX4_copyTo_36 : decode cX4_copyTo 36 = .ok (.baload, 1) := by decide +kernel
theorem dX4_copyTo_37 : decode cX4_copyTo 37 = .ok (.bastore, 1) := by decide +kernel
theorem dX4_copyTo_38 : decode cX4_copyTo 38 = .ok (.iinc 4 1, 3) := by decide +kernel
theorem dX4_copyTo_41 : decode cX4_copyTo 41 = .ok (.goto (-22), 3) := by decide +kernel
theorem dX4_copyTo_44 : decode cX4_copyTo 44 = .ok (.iload_n 2, 1) := by decide +kernel
theorem dX4_copyTo_45 : decode cX4_copyTo 45 = .ok (.iload_n 3, 1) := by decide +kernel
theorem dX4_copyTo_46 : decode cX4_copyTo 46 = .ok (.iadd, 1) := by decide +kernel
theorem dX4_copyTo_47 : decode cX4_copyTo 47 = .ok (.ireturn, 1) := by decide +kernel
theorem dX4_sum_0 : decode cX4_sum 0 = .ok (.iconst 1, 1) := by decide +kernel
theorem dX4_sum_1 : decode cX4_sum 1 = .ok (.istore_n 1, 1) := by decide +kernel
theorem dX4_sum_2 : decode cX4_sum 2 = .ok (.iconst 0, 1) := by decide +kernel
theorem dX4_sum_3 : decode cX4_sum 3 = .ok (.istore_n 2, 1) := by decide +kernel
theorem dX4_sum_4 : decode cX4_sum 4 = .ok (.iconst 0, 1) := by decide +kernel
theorem dX4_sum_5 : decode cX4_sum 5 = .ok (.istore_n 3, 1) := by decide +kernel
theorem dX4_sum_6 : decode cX4_sum 6 = .ok (.iload_n 3, 1) := by decide +kernel
theorem dX4_sum_7 : decode cX4_sum 7 = .ok (.aload_n 0, 1) := by decide +kernel
theorem dX4_sum_8 : decode cX4_sum 8 = .ok (.getfield 19, 3) := by decide +kernel
theorem dX4_sum_11 : decode cX4_sum 11 = .ok (.if_icmp .ge 29, 3) := by decide +kernel
theorem dX4_sum_14 : decode cX4_sum 14 = .ok (.iload_n 1, 1) := by decide +kernel
theorem dX4_sum_15 : decode cX4_sum 15 = .ok (.aload_n 0, 1) := by decide +kernel
theorem dX4_sum_16 : decode cX4_sum 16 = .ok (.iload_n 3, 1) := by decide +kernel
theorem dX4_sum_17 : decode cX4_sum 17 = .ok (.invokevirtual 45, 3) := by decide +kernel
theorem dX4_sum_20 : decode cX4_sum 20 = .ok (.iadd, 1) := by decide +kernel
theorem dX4_sum_21 : decode cX4_sum 21 = .ok (.sipush 251, 3) := by decide +kernel
theorem dX4_sum_24 : decode cX4_sum 24 = .ok (.irem, 1) := by decide +kernel
theorem dX4_sum_25 : decode cX4_sum 25 = .ok (.istore_n 1, 1) := by decide +kernel
theorem dX4_sum_26 : decode cX4_sum 26 = .ok (.iload_n 2, 1) := by decide +kernel
theorem dX4_sum_27 : decode cX4_sum 27 = .ok (.iload_n 1, 1) := by decide +kernel
theorem dX4_sum_28 : decode cX4_sum 28 = .ok (.iadd, 1) := by decide +kernel
theorem dX4_sum_29 : decode cX4_sum 29 = .ok (.sipush 251, 3) := by decide +kernel
theorem dX4_sum_32 : decode cX4_sum 32 = .ok (.irem, 1) := by decide +kernel
theorem dX4_sum_33 : decode cX4_sum 33 = .ok (.istore_n 2, 1) := by decide +kernel
theorem dX4_sum_34 : decode cX4_sum 34 = .ok (.iinc 3 1, 3) := by decide +kernel
theorem dX4_sum_37 : decode cX4_sum 37 = .ok (.goto (-31), 3) := by decide +kernel
theorem dX4_sum_40 : decode cX4_sum 40 = .ok (.sipush 256, 3) := by decide +kernel
theorem dX4_sum_43 : decode cX4_sum 43 = .ok (.iload_n 2, 1) := by decide +kernel
theorem dX4_sum_44 : decode cX4_sum 44 = .ok (.imul, 1) := by decide +kernel
theorem dX4_sum_45 : decode cX4_sum 45 = .ok (.iload_n 1, 1) := by decide +kernel
theorem dX4_sum_46 : decode cX4_sum 46 = .ok (.iadd, 1) := by decide +kernel
theorem dX4_sum_47 : decode cX4_sum 47 = .ok (.ireturn, 1) := by decide +kernel
end
section
theorem dX5_init_0 : decode cX5_init 0 = .ok (.aload_n 0, 1) := by decide +kernel
theorem dX5_init_1 : decode cX5_init 1 = .ok (.invokespecial 3, 3) := by decide +kernel
theorem dX5_init_4 : decode cX5_init 4 = .ok (.aload_n 0, 1) := by decide +kernel
theorem dX5_init_5 : decode cX5_init 5 = .ok (.new 9, 3) := by decide +kernel
theorem dX5_init_8 : decode cX5_init 8 = .ok (.dup, 1) := by decide +kernel
theorem dX5_init_9 : decode cX5_init 9 = .ok (.sipush 320, 3) := by decide +kernel
theorem dX5_init_12 : decode cX5_init 12 = .ok (.invokespecial 13, 3) := by decide +kernel
theorem dX5_init_15 : decode cX5_init 15 = .ok (.putfield 16, 3) := by decide +kernel
theorem dX5_init_18 : decode cX5_init 18 = .ok (.aload_n 0, 1) := by decide +kernel
theorem dX5_init_19 : decode cX5_init 19 = .ok (.sipush 320, 3) := by decide +kernel
theorem dX5_init_22 : decode cX5_init 22 = .ok (.newarray .boolean, 2) := by decide +kernel
theorem dX5_init_24 : decode cX5_init 24 = .ok (.putfield 20, 3) := by decide +kernel
theorem dX5_init_27 : decode cX5_init 27 = .ok (.aload_n 0, 1) := by decide +kernel
theorem dX5_init_28 : decode cX5_init 28 = .ok (.sipush 320, 3) := by decide +kernel
theorem dX5_init_31 : decode cX5_init 31 = .ok (.newarray .int, 2) := by decide +kernel
theorem dX5_init_33 : decode cX5_init 33 = .ok (.putfield 24, 3) := by decide +kernel
theorem dX5_init_36 : decode cX5_init 36 = .ok (.aload_n 0, 1) := by decide +kernel
theorem dX5_init_37 : decode cX5_init 37 = .ok (.sipush 320, 3) := by decide +kernel
theorem dX5_init_40 : decode cX5_init 40 = .ok (.newarray .int, 2) := by decide +kernel
theorem dX5_init_42 : decode cX5_init 42 = .ok (.putfield 28, 3) := by decide +kernel
theorem dX5_init_45 : decode cX5_init 45 = .ok (.aload_n 0, 1) := by decide +kernel
theorem dX5_init_46 : decode cX5_init 46 = .ok (.sipush 320, 3) := by decide +kernel
theorem dX5_init_49 : decode cX5_init 49 = .ok (.newarray .int, 2) := by decide +kernel
theorem dX5_init_51 : decode cX5_init 51 = .ok (.putfield 31, 3) := by decide +kernel
theorem dX5_init_54 : decode cX5_init 54 = .ok (.aload_n 0, 1) := by decide +kernel
theorem dX5_init_55 : decode cX5_init 55 = .ok (.bipush 26, 2) := by decide +kernel
theorem dX5_init_57 : decode cX5_init 57 = .ok (.newarray .int, 2) := by decide +kernel
theorem dX5_init_59 : decode cX5_init 59 = .ok (.putfield 34, 3) := by decide +kernel
theorem dX5_init_62 : decode cX5_init 62 = .ok (.return_, 1) := by decide +kernel
theorem dX5_load_0 : decode cX5_load 0 = .ok (.aload_n 0, 1) := by decide +kernel
theorem dX5_load_1 : decode cX5_load 1 = .ok (.iload_n 3, 1) := by decide +kernel
theorem dX5_load_2 : decode cX5_load 2 = .ok (.putfield 37, 3) := by decide +kernel
theorem dX5_load_5 : decode cX5_load 5 = .ok (.aload_n 0, 1) := by decide +kernel
theorem dX5_load_6 : decode cX5_load 6 = .ok (.iconst 0, 1) := by decide +kernel
theorem dX5_load_7 : decode cX5_load 7 = .ok (.putfield 41, 3) := by decide +kernel
theorem dX5_load_10 : decode cX5_load 10 = .ok (.aload_n 0, 1) := by decide +kernel
theorem dX5_load_11 : decode cX5_load 11 = .ok (.getfield 16, 3) := by decide +kernel
theorem dX5_load_14 : decode cX5_load 14 = .ok (.invokevirtual 44, 3) := by decide +kernel
theorem dX5_load_17 : decode cX5_load 17 = .ok (.aload_n 0, 1) := by decide +kernel
theorem dX5_load_18 : decode cX5_load 18 = .ok (.iconst 0, 1) := by decide +kernel
theorem dX5_load_19 : decode cX5_load 19 = .ok (.sipush 320, 3) := by decide +kernel
theorem dX5_load_22 : decode cX5_load 22 = .ok (.iconst 0, 1) := by decide +kernel
theorem dX5_load_23 : decode cX5_load 23 = .ok (.invokevirtual 47, 3) := by decide +kernel
theorem dX5_load_26 : decode cX5_load 26 = .ok (.aload_n 0, 1) := by decide +kernel
theorem dX5_load_27 : decode cX5_load 27 = .ok (.getfield 24, 3) := by decide +kernel
theorem dX5_load_30 : decode cX5_load 30 = .ok (.iconst (-1), 1) := by decide +kernel
theorem dX5_load_31 : decode cX5_load 31 = .ok (.invokestatic 51, 3) := by decide +kernel
theorem dX5_load_34 : decode cX5_load 34 = .ok (.iconst 0, 1) := by decide +kernel
theorem dX5_load_35 : decode cX5_load 35 = .ok (.istore 4, 2) := by decide +kernel
theorem dX5_load_37 : decode cX5_load 37 = .ok (.iload 4, 2) := by decide +kernel
theorem dX5_load_39 : decode cX5_load 39 = .ok (.iload_n 2, 1) := by decide +kernel
theorem dX5_load_40 : decode cX5_load 40 = .ok (.if_icmp .ge 51, 3) := by decide +kernel
theorem dX5_load_43 : decode cX5_load 43 = .ok (.iload 4, 2) := by decide +kernel
theorem dX5_load_45 : decode cX5_load 45 = .ok (.aload_n 1, 1) := by decide +kernel
theorem dX5_load_46 : decode cX5_load 46 = .ok (.arraylength, 1) := by decide +kernel
theorem dX5_load_47 : decode cX5_load 47 = .ok (.if_icmp .ge 44, 3) := by decide +kernel
theorem dX5_load_50 : decode cX5_load 50 = .ok (.aload_n 0, 1) := by decide +kernel
theorem dX5_load_51 : decode cX5_load 51 = .ok (.getfield 16, 3) := by decide +kernel
theorem dX5_load_54 : decode cX5_load 54 = .ok (.aload_n 1, 1) := by decide +kernel
theorem dX5_load_55 : decode cX5_load 55 = .ok (.iload 4, 2) := by decide +kernel
theorem dX5_load_57 : decode cX5_load 57 = .ok (.aaload, 1) := by decide +kernel
theorem dX5_load_58 : decode cX5_load 58 = .ok (.iconst 0, 1) := by decide +kernel
theorem dX5_load_59 : decode cX5_load 59 = .ok (.bipush 40, 2) := by decide +kernel
theorem dX5_load_61 : decode cX5_load 61 = .ok (.invokevirtual 57, 3) := by decide +kernel
theorem dX5_load_64 : decode cX5_load 64 = .ok (.aload_n 0, 1) := by decide +kernel
theorem dX5_load_65 : decode cX5_load 65 = .ok (.iload 4, 2) := by decide +kernel
theorem dX5_load_67 : decode cX5_load 67 = .ok (.bipush 40, 2) := by decide +kernel
theorem dX5_load_69 : decode cX5_load 69 = .ok (.imul, 1) := by decide +kernel
theorem dX5_load_70 : decode cX5_load 70 = .ok (.aload_n 1, 1) := by decide +kernel
theorem dX5_load_71 : decode cX5_load 71 = .ok (.iload 4, 2) := by decide +kernel
theorem dX5_load_73 : decode cX5_load 73 = .ok (.aaload, 1) := by decide +kernel
theorem dX5_load_74 : decode cX5_load 74 = .ok (.invokevirtual 61, 3) := by decide +kernel
theorem dX5_load_77 : decode cX5_load 77 = .ok (.aload_n 0, 1) := by decide +kernel
theorem dX5_load_78 : decode cX5_load 78 = .ok (.getfield 37, 3) := by decide +kernel
theorem dX5_load_81 : decode cX5_load 81 = .ok (.isub, 1) := by decide +kernel
theorem dX5_load_82 : decode cX5_load 82 = .ok (.invokevirtual 65, 3) := by decide +kernel
theorem dX5_load_85 : decode cX5_load 85 = .ok (.iinc 4 1, 3) := by decide +kernel
theorem dX5_load_88 : decode cX5_load 88 = .ok (.goto (-51), 3) := by decide +kernel
theorem dX5_load_91 : decode cX5_load 91 = .ok (.return_, 1) := by decide +kernel
theorem dX5_takeRows_0 : decode cX5_takeRows 0 = .ok (.aload_n 0, 1) := by decide +kernel
theorem dX5_takeRows_1 : decode cX5_takeRows 1 = .ok (.getfield 41, 3) := by decide +kernel
theorem dX5_takeRows_4 : decode cX5_takeRows 4 = .ok (.bipush 26, 2) := by decide +kernel
theorem dX5_takeRows_6 : decode cX5_takeRows 6 = .ok (.if_icmp .ge 94, 3) := by decide +kernel
theorem dX5_takeRows_9 : decode cX5_takeRows 9 = .ok (.aload_n 0, 1) := by decide +kernel
theorem dX5_takeRows_10 : decode cX5_takeRows 10 = .ok (.getfield 41, 3) := by decide +kernel
theorem dX5_takeRows_13 : decode cX5_takeRows 13 = .ok (.iconst 1, 1) := by decide +kernel
theorem dX5_takeRows_14 : decode cX5_takeRows 14 = .ok (.iadd, 1) := by decide +kernel
theorem dX5_takeRows_15 : decode cX5_takeRows 15 = .ok (.aload_n 0, 1) := by decide +kernel
theorem dX5_takeRows_16 : decode cX5_takeRows 16 = .ok (.getfield 37, 3) := by decide +kernel
theorem dX5_takeRows_19 : decode cX5_takeRows 19 = .ok (.imul, 1) := by decide +kernel
theorem dX5_takeRows_20 : decode cX5_takeRows 20 = .ok (.iload_n 1, 1) := by decide +kernel
theorem dX5_takeRows_21 : decode cX5_takeRows 21 = .ok (.if_icmp .gt 79, 3) := by decide +kernel
theorem dX5_takeRows_24 : decode cX5_takeRows 24 = .ok (.aload_n 0, 1) := by decide +kernel
theorem dX5_takeRows_25 : decode cX5_takeRows 25 = .ok (.invokevirtual 69, 3) := by decide +kernel
theorem dX5_takeRows_28 : decode cX5_takeRows 28 = .ok (.aload_n 0, 1) := by decide +kernel
theorem dX5_takeRows_29 : decode cX5_takeRows 29 = .ok (.invokevirtual 72, 3) := by decide +kernel
theorem dX5_takeRows_32 : decode cX5_takeRows 32 = .ok (.istore_n 2, 1) := by decide +kernel
theorem dX5_takeRows_33 : decode cX5_takeRows 33 = .ok (.iload_n 2, 1) := by decide +kernel
theorem dX5_takeRows_34 : decode cX5_takeRows 34 = .ok (.iconst (-1), 1) := by decide +kernel
theorem dX5_takeRows_35 : decode cX5_takeRows 35 = .ok (.if_icmp .eq 31, 3) := by decide +kernel
theorem dX5_takeRows_38 : decode cX5_takeRows 38 = .ok (.aload_n 0, 1) := by decide +kernel
theorem dX5_takeRows_39 : decode cX5_takeRows 39 = .ok (.getfield 37, 3) := by decide +kernel
theorem dX5_takeRows_42 : decode cX5_takeRows 42 = .ok (.iconst 2, 1) := by decide +kernel
theorem dX5_takeRows_43 : decode cX5_takeRows 43 = .ok (.isub, 1) := by decide +kernel
theorem dX5_takeRows_44 : decode cX5_takeRows 44 = .ok (.aload_n 0, 1) := by decide +kernel
theorem dX5_takeRows_45 : decode cX5_takeRows 45 = .ok (.getfield 28, 3) := by decide +kernel
theorem dX5_takeRows_48 : decode cX5_takeRows 48 = .ok (.aload_n 0, 1) := by decide +kernel
theorem dX5_takeRows_49 : decode cX5_takeRows 49 = .ok (.getfield 24, 3) := by decide +kernel
theorem dX5_takeRows_52 : decode cX5_takeRows 52 = .ok (.iload_n 2, 1) := by decide +kernel
theorem dX5_takeRows_53 : decode cX5_takeRows 53 = .ok (.iaload, 1) := by decide +kernel
theorem dX5_takeRows_54 : decode cX5_takeRows 54 = .ok (.iaload, 1) := by decide +kernel
theorem dX5_takeRows_55 : decode cX5_takeRows 55 = .ok (.imul, 1) := by decide +kernel
theorem dX5_takeRows_56 : decode cX5_takeRows 56 = .ok (.aload_n 0, 1) := by decide +kernel
theorem dX5_takeRows_57 : decode cX5_takeRows 57 = .ok (.getfield 37, 3) := by decide +kernel
theorem dX5_takeRows_60 : decode cX5_takeRows 60 = .ok (.iconst 1, 1) := by decide +kernel
theorem dX5_takeRows_61 : decode cX5_takeRows 61 = .ok (.iadd, 1) := by decide +kernel
theorem dX5_takeRows_62 : decode cX5_takeRows 62 = .ok (.isub, 1) := by decide +kernel
theorem dX5_takeRows_63 : decode cX5_takeRows 63 = .ok (.ifCond .gt 4, 3) := by decide +kernel
theorem dX5_takeRows_66 : decode cX5_takeRows 66 = .ok (.return_, 1) := by decide +kernel
theorem dX5_takeRows_67 : decode cX5_takeRows 67 = .ok (.aload_n 0, 1) := by decide +kernel
theorem dX5_takeRows_68 : decode cX5_takeRows 68 = .ok (.getfield 34, 3) := by decide +kernel
theorem dX5_takeRows_71 : decode cX5_takeRows 71 = .ok (.aload_n 0, 1) := by decide +kernel
theorem dX5_takeRows_72 : decode cX5_takeRows 72 = .ok (.getfield 41, 3) := by decide +kernel
theorem dX5_takeRows_75 : decode cX5_takeRows 75 = .ok (.iload_n 2, 1) := by decide +kernel
theorem dX5_takeRows_76 : decode cX5_takeRows 76 = .ok (.iastore, 1) := by decide +kernel
theorem dX5_takeRows_77 : decode cX5_takeRows 77 = .ok (.aload_n 0, 1) := by decide +kernel
theorem dX5_takeRows_78 : decode cX5_takeRows 78 = .ok (.dup, 1) := by decide +kernel
theorem dX5_takeRows_79 : decode cX5_takeRows 79 = .ok (.getfield 41, 3) := by decide +kernel
theorem dX5_takeRows_82 : decode cX5_takeRows 82 = .ok (.iconst 1, 1) := by decide +kernel
theorem dX5_takeRows_83 : decode cX5_takeRows 83 = .ok (.iadd, 1) := by decide +kernel
theorem dX5_takeRows_84 : decode cX5_takeRows 84 = .ok (.putfield 41, 3) := by decide +kernel
theorem dX5_takeRows_87 : decode cX5_takeRows 87 = .ok (.aload_n 0, 1) := by decide +kernel
theorem dX5_takeRows_88 : decode cX5_takeRows 88 = .ok (.aload_n 0, 1) := by decide +kernel
theorem dX5_takeRows_89 : decode cX5_takeRows 89 = .ok (.getfield 24, 3) := by decide +kernel
theorem dX5_takeRows_92 : decode cX5_takeRows 92 = .ok (.iload_n 2, 1) := by decide +kernel
theorem dX5_takeRows_93 : decode cX5_takeRows 93 = .ok (.iaload, 1) := by decide +kernel
theorem dX5_takeRows_94 : decode cX5_takeRows 94 = .ok (.invokevirtual 75, 3) := by decide +kernel
theorem dX5_takeRows_97 : decode cX5_takeRows 97 = .ok (.goto (-97), 3) := by decide +kernel
theorem dX5_takeRows_100 : decode cX5_takeRows 100 = .ok (.return_, 1) := by decide +kernel
theorem dX5_handOver_0 : decode cX5_handOver 0 = .ok (.aload_n 0, 1) := by decide +kernel
theorem dX5_handOver_1 : decode cX5_handOver 1 = .ok (.getfield 41, 3) := by decide +kernel
theorem dX5_handOver_4 : decode cX5_handOver 4 = .ok (.iconst 1, 1) := by decide +kernel
theorem dX5_handOver_5 : decode cX5_handOver 5 = .ok (.isub, 1) := by decide +kernel
theorem dX5_handOver_6 : decode cX5_handOver 6 = .ok (.istore_n 2, 1) := by decide +kernel
theorem dX5_handOver_7 : decode cX5_handOver 7 = .ok (.iload_n 2, 1) := by decide +kernel
theorem dX5_handOver_8 : decode cX5_handOver 8 = .ok (.ifCond .lt 23, 3) := by decide +kernel
theorem dX5_handOver_11 : decode cX5_handOver 11 = .ok (.aload_n 1, 1) := by decide +kernel
theorem dX5_handOver_12 : decode cX5_handOver 12 = .ok (.aload_n 0, 1) := by decide +kernel
theorem dX5_handOver_13 : decode cX5_handOver 13 = .ok (.getfield 16, 3) := by decide +kernel
theorem dX5_handOver_16 : decode cX5_handOver 16 = .ok (.aload_n 0, 1) := by decide +kernel
theorem dX5_handOver_17 : decode cX5_handOver 17 = .ok (.getfield 34, 3) := by decide +kernel
theorem dX5_handOver_20 : decode cX5_handOver 20 = .ok (.iload_n 2, 1) := by decide +kernel
theorem dX5_handOver_21 : decode cX5_handOver 21 = .ok (.iaload, 1) := by decide +kernel
theorem dX5_handOver_22 : decode cX5_handOver 22 = .ok (.invokevirtual 78, 3) := by decide +kernel
theorem dX5_handOver_25 : decode cX5_handOver 25 = .ok (.iinc 2 (-1), 3) := by decide +kernel
theorem dX5_handOver_28 : decode cX5_handOver 28 = .ok (.goto (-21), 3) := by decide +kernel
theorem dX5_handOver_31 : decode cX5_handOver 31 = .ok (.return_, 1) := by decide +kernel
theorem dX5_markKinds_0 : decode cX5_markKinds 0 = .ok (.iconst 0, 1) := by decide +kernel
theorem dX5_markKinds_1 : decode cX5_markKinds 1 = .ok (.istore_n 3, 1) := by decide +kernel
theorem dX5_markKinds_2 : decode cX5_markKinds 2 = .ok (.iload_n 3, 1) := by decide +kernel
theorem dX5_markKinds_3 : decode cX5_markKinds 3 = .ok (.iload_n 2, 1) := by decide +kernel
theorem dX5_markKinds_4 : decode cX5_markKinds 4 = .ok (.if_icmp .gt 24, 3) := by decide +kernel
theorem dX5_markKinds_7 : decode cX5_markKinds 7 = .ok (.aload_n 0, 1) := by decide +kernel
theorem dX5_markKinds_8 : decode cX5_markKinds 8 = .ok (.getfield 24, 3) := by decide +kernel
theorem dX5_markKinds_11 : decode cX5_markKinds 11 = .ok (.iload_n 1, 1) := by decide +kernel
theorem dX5_markKinds_12 : decode cX5_markKinds 12 = .ok (.iload_n 3, 1) := by decide +kernel
theorem dX5_markKinds_13 : decode cX5_markKinds 13 = .ok (.iadd, 1) := by decide +kernel
theorem dX5_markKinds_14 : decode cX5_markKinds 14 = .ok (.aload_n 0, 1) := by decide +kernel
theorem dX5_markKinds_15 : decode cX5_markKinds 15 = .ok (.iload_n 1, 1) := by decide +kernel
theorem dX5_markKinds_16 : decode cX5_markKinds 16 = .ok (.iload_n 3, 1) := by decide +kernel
theorem dX5_markKinds_17 : decode cX5_markKinds 17 = .ok (.iadd, 1) := by decide +kernel
theorem dX5_markKinds_18 : decode cX5_markKinds 18 = .ok (.invokevirtual 84, 3) := by decide +kernel
theorem dX5_markKinds_21 : decode cX5_markKinds 21 = .ok (.iastore, 1) := by decide +kernel
theorem dX5_markKinds_22 : decode cX5_markKinds 22 = .ok (.iinc 3 1, 3) := by decide +kernel
theorem dX5_markKinds_25 : decode cX5_markKinds 25 = .ok (.goto (-23), 3) := by decide +kernel
theorem dX5_markKinds_28 : decode cX5_markKinds 28 = .ok (.return_, 1) := by decide +kernel
theorem dX5_firstSameRow_0 : decode cX5_firstSameRow 0 = .ok (.iconst 0, 1) := by decide +kernel
theorem dX5_firstSameRow_1 : decode cX5_firstSameRow 1 = .ok (.istore_n 2, 1) := by decide +kernel
theorem dX5_firstSameRow_2 : decode cX5_firstSameRow 2 = .ok (.iload_n 2, 1) := by decide +kernel
theorem dX5_firstSameRow_3 : decode cX5_firstSameRow 3 = .ok (.iload_n 1, 1) := by decide +kernel
theorem dX5_firstSameRow_4 : decode cX5_firstSameRow 4 = .ok (.if_icmp .ge 30, 3) := by decide +kernel
theorem dX5_firstSameRow_7 : decode cX5_firstSameRow 7 = .ok (.aload_n 0, 1) := by decide +kernel
theorem dX5_firstSameRow_8 : decode cX5_firstSameRow 8 = .ok (.getfield 24, 3) := by decide +kernel
theorem dX5_firstSameRow_11 : decode cX5_firstSameRow 11 = .ok (.iload_n 2, 1) := by decide +kernel
theorem dX5_firstSameRow_12 : decode cX5_firstSameRow 12 = .ok (.iaload, 1) := by decide +kernel
theorem dX5_firstSameRow_13 : decode cX5_firstSameRow 13 = .ok (.iload_n 2, 1) := by decide +kernel
theorem dX5_firstSameRow_14 : decode cX5_firstSameRow 14 = .ok (.if_icmp .ne 14, 3) := by decide +kernel
theorem dX5_firstSameRow_17 : decode cX5_firstSameRow 17 = .ok (.aload_n 0, 1) := by decide +kernel
theorem dX5_firstSameRow_18 : decode cX5_firstSameRow 18 = .ok (.iload_n 2, 1) := by decide +kernel
theorem dX5_firstSameRow_19 : decode cX5_firstSameRow 19 = .ok (.iload_n 1, 1) := by decide +kernel
theorem dX5_firstSameRow_20 : decode cX5_firstSameRow 20 = .ok (.invokevirtual 88, 3) := by decide +kernel
theorem dX5_firstSameRow_23 : decode cX5_firstSameRow 23 = .ok (.ifCond .eq 5, 3) := by decide +kernel
theorem dX5_firstSameRow_26 : decode cX5_firstSameRow 26 = .ok (.iload_n 2, 1) := by decide +kernel
theorem dX5_firstSameRow_27 : decode cX5_firstSameRow 27 = .ok (.ireturn, 1) := by decide +kernel
theorem dX5_firstSameRow_28 : decode cX5_firstSameRow 28 = .ok (.iinc 2 1, 3) := by decide +kernel
theorem dX5_firstSameRow_31 : decode cX5_firstSameRow 31 = .ok (.goto (-29), 3) := by decide +kernel
theorem dX5_firstSameRow_34 : decode cX5_firstSameRow 34 = .ok (.iload_n 1, 1) := by decide +kernel
theorem dX5_firstSameRow_35 : decode cX5_firstSameRow 35 = .ok (.ireturn, 1) := by decide +kernel
theorem dX5_isSameRow_0 : decode cX5_isSameRow 0 = .ok (.iconst 0, 1) := by decide +kernel
theorem dX5_isSameRow_1 : decode cX5_isSameRow 1 = .ok (.istore_n 3, 1) := by decide +kernel
theorem dX5_isSameRow_2 : decode cX5_isSameRow 2 = .ok (.iload_n 3, 1) := by decide +kernel
theorem dX5_isSameRow_3 : decode cX5_isSameRow 3 = .ok (.aload_n 0, 1) := by decide +kernel
theorem dX5_isSameRow_4 : decode cX5_isSameRow 4 = .ok (.getfield 37, 3) := by decide +kernel
theorem dX5_isSameRow_7 : decode cX5_isSameRow 7 = .ok (.if_icmp .ge 34, 3) := by decide +kernel
theorem dX5_isSameRow_10 : decode cX5_isSameRow 10 = .ok (.aload_n 0, 1) := by decide +kernel
theorem dX5_isSameRow_11 : decode cX5_isSameRow 11 = .ok (.getfield 16, 3) := by decide +kernel
theorem dX5_isSameRow_14 : decode cX5_isSameRow 14 = .ok (.iload_n 1, 1) := by decide +kernel
theorem dX5_isSameRow_15 : decode cX5_isSameRow 15 = .ok (.iload_n 3, 1) := by decide +kernel
theorem dX5_isSameRow_16 : decode cX5_isSameRow 16 = .ok (.iadd, 1) := by decide +kernel
theorem dX5_isSameRow_17 : decode cX5_isSameRow 17 = .ok (.invokevirtual 92, 3) := by decide +kernel
theorem dX5_isSameRow_20 : decode cX5_isSameRow 20 = .ok (.aload_n 0, 1) := by decide +kernel
theorem dX5_isSameRow_21 : decode cX5_isSameRow 21 = .ok (.getfield 16, 3) := by decide +kernel
theorem dX5_isSameRow_24 : decode cX5_isSameRow 24 = .ok (.iload_n 2, 1) := by decide +kernel
theorem dX5_isSameRow_25 : decode cX5_isSameRow 25 = .ok (.iload_n 3, 1) := by decide +kernel
theorem dX5_isSameRow_26 : decode cX5_isSameRow 26 = .ok (.iadd, 1) := by decide +kernel
theorem dX5_isSameRow_27 : decode cX5_isSameRow 27 = .ok (.invokevirtual 92, 3) := by decide +kernel
theorem dX5_isSameRow_30 : decode cX5_isSameRow 30 = .ok (.if_icmp .eq 5, 3) := by decide +kernel
theorem dX5_isSameRow_33 : decode cX5_isSameRow 33 = .ok (.iconst 0, 1) := by decide +kernel
theorem dX5_isSameRow_34 : decode cX5_isSameRow 34 = .ok (.ireturn, 1) := by decide +kernel
theorem dX5_isSameRow_35 : decode cX5_isSameRow 35 = .ok (.iinc 3 1, 3) := by decide +kernel
theorem dX5_isSameRow_38 : decode cX5_isSameRow 38 = .ok (.goto (-36), 3) := by decide +kernel
theorem dX5_isSameRow_41 : decode cX5_isSameRow 41 = .ok (.iconst 1, 1) := by decide +kernel
theorem dX5_isSameRow_42 : decode cX5_isSameRow 42 = .ok (.ireturn, 1) := by decide +kernel
theorem dX5_isFreeRow_0 : decode cX5_isFreeRow 0 = .ok (.aload_n 0, 1) := by decide +kernel
theorem dX5_isFreeRow_1 : decode cX5_isFreeRow 1 = .ok (.getfield 24, 3) := by decide +kernel
theorem dX5_isFreeRow_4 : decode cX5_isFreeRow 4 = .ok (.iload_n 1, 1) := by decide +kernel
theorem dX5_isFreeRow_5 : decode cX5_isFreeRow 5 = .ok (.iaload, 1) := by decide +kernel
theorem dX5_isFreeRow_6 : decode cX5_isFreeRow 6 = .ok (.iconst (-1), 1) := by decide +kernel
theorem dX5_isFreeRow_7 : decode cX5_isFreeRow 7 = .ok (.if_icmp .ne 5, 3) := by decide +kernel
theorem dX5_isFreeRow_10 : decode cX5_isFreeRow 10 = .ok (.iconst 0, 1) := by decide +kernel
theorem dX5_isFreeRow_11 : decode cX5_isFreeRow 11 = .ok (.ireturn, 1) := by decide +kernel
theorem dX5_isFreeRow_12 : decode cX5_isFreeRow 12 = .ok (.iload_n 1, 1) := by decide +kernel
theorem dX5_isFreeRow_13 : decode cX5_isFreeRow 13 = .ok (.istore_n 2, 1) := by decide +kernel
theorem dX5_isFreeRow_14 : decode cX5_isFreeRow 14 = .ok (.iload_n 2, 1) := by decide +kernel
theorem dX5_isFreeRow_15 : decode cX5_isFreeRow 15 = .ok (.iload_n 1, 1) := by decide +kernel
theorem dX5_isFreeRow_16 : decode cX5_isFreeRow 16 = .ok (.aload_n 0, 1) := by decide +kernel
theorem dX5_isFreeRow_17 : decode cX5_isFreeRow 17 = .ok (.getfield 37, 3) := by decide +kernel
theorem dX5_isFreeRow_20 : decode cX5_isFreeRow 20 = .ok (.iadd, 1) := by decide +kernel
theorem dX5_isFreeRow_21 : decode cX5_isFreeRow 21 = .ok (.if_icmp .ge 27, 3) := by decide +kernel
theorem dX5_isFreeRow_24 : decode cX5_isFreeRow 24 = .ok (.iload_n 2, 1) := by decide +kernel
theorem dX5_isFreeRow_25 : decode cX5_isFreeRow 25 = .ok (.sipush 320, 3) := by decide +kernel
theorem dX5_isFreeRow_28 : decode cX5_isFreeRow 28 = .ok (.if_icmp .ge 20, 3) := by decide +kernel
theorem dX5_isFreeRow_31 : decode cX5_isFreeRow 31 = .ok (.aload_n 0, 1) := by decide +kernel
theorem dX5_isFreeRow_32 : decode cX5_isFreeRow 32 = .ok (.getfield 20, 3) := by decide +kernel
theorem dX5_isFreeRow_35 : decode cX5_isFreeRow 35 = .ok (.iload_n 2, 1) := by decide +kernel
theorem dX5_isFreeRow_36 : decode cX5_isFreeRow 36 = .ok (.baload, 1) := by decide +kernel
theorem dX5_isFreeRow_37 : decode cX5_isFreeRow 37 = .ok (.ifCond .eq 5, 3) := by decide +kernel
theorem dX5_isFreeRow_40 : decode cX5_isFreeRow 40 = .ok (.iconst 0, 1) := by decide +kernel
theorem dX5_isFreeRow_41 : decode cX5_isFreeRow 41 = .ok (.ireturn, 1) := by decide +kernel
theorem dX5_isFreeRow_42 : decode cX5_isFreeRow 42 = .ok (.iinc 2 1, 3) := by decide +kernel
theorem dX5_isFreeRow_45 : decode cX5_isFreeRow 45 = .ok (.goto (-31), 3) := by decide +kernel
theorem dX5_isFreeRow_48 : decode cX5_isFreeRow 48 = .ok (.iconst 1, 1) := by decide +kernel
theorem dX5_isFreeRow_49 : decode cX5_isFreeRow 49 = .ok (.ireturn, 1) := by decide +kernel
theorem dX5_countRows_0 : decode cX5_countRows 0 = .ok (.aload_n 0, 1) := by decide +kernel
theorem dX5_countRows_1 : decode cX5_countRows 1 = .ok (.getfield 28, 3) := by decide +kernel
theorem dX5_countRows_4 : decode cX5_countRows 4 = .ok (.iconst 0, 1) := by decide +kernel
theorem dX5_countRows_5 : decode cX5_countRows 5 = .ok (.invokestatic 51, 3) := by decide +kernel
theorem dX5_countRows_8 : decode cX5_countRows 8 = .ok (.aload_n 0, 1) := by decide +kernel
theorem dX5_countRows_9 : decode cX5_countRows 9 = .ok (.getfield 31, 3) := by decide +kernel
theorem dX5_countRows_12 : decode cX5_countRows 12 = .ok (.iconst 0, 1) := by decide +kernel
theorem dX5_countRows_13 : decode cX5_countRows 13 = .ok (.invokestatic 51, 3) := by decide +kernel
theorem dX5_countRows_16 : decode cX5_countRows 16 = .ok (.iconst 0, 1) := by decide +kernel
theorem dX5_countRows_17 : decode cX5_countRows 17 = .ok (.istore_n 1, 1) := by decide +kernel
theorem dX5_countRows_18 : decode cX5_countRows 18 = .ok (.iload_n 1, 1) := by decide +kernel
theorem dX5_countRows_19 : decode cX5_countRows 19 = .ok (.sipush 320, 3) := by decide +kernel
theorem dX5_countRows_22 : decode cX5_countRows 22 = .ok (.if_icmp .ge 64, 3) := by decide +kernel
theorem dX5_countRows_25 : decode cX5_countRows 25 = .ok (.aload_n 0, 1) := by decide +kernel
theorem dX5_countRows_26 : decode cX5_countRows 26 = .ok (.iload_n 1, 1) := by decide +kernel
theorem dX5_countRows_27 : decode cX5_countRows 27 = .ok (.invokevirtual 96, 3) := by decide +kernel
theorem dX5_countRows_30 : decode cX5_countRows 30 = .ok (.ifCond .eq 50, 3) := by decide +kernel
theorem dX5_countRows_33 : decode cX5_countRows 33 = .ok (.iload_n 1, 1) := by decide +kernel
theorem dX5_countRows_34 : decode cX5_countRows 34 = .ok (.aload_n 0, 1) := by decide +kernel
theorem dX5_countRows_35 : decode cX5_countRows 35 = .ok (.getfield 31, 3) := by decide +kernel
theorem dX5_countRows_38 : decode cX5_countRows 38 = .ok (.aload_n 0, 1) := by decide +kernel
theorem dX5_countRows_39 : decode cX5_countRows 39 = .ok (.getfield 24, 3) := by decide +kernel
theorem dX5_countRows_42 : decode cX5_countRows 42 = .ok (.iload_n 1, 1) := by decide +kernel
theorem dX5_countRows_43 : decode cX5_countRows 43 = .ok (.iaload, 1) := by decide +kernel
theorem dX5_countRows_44 : decode cX5_countRows 44 = .ok (.iaload, 1) := by decide +kernel
theorem dX5_countRows_45 : decode cX5_countRows 45 = .ok (.if_icmp .lt 35, 3) := by decide +kernel
theorem dX5_countRows_48 : decode cX5_countRows 48 = .ok (.aload_n 0, 1) := by decide +kernel
theorem dX5_countRows_49 : decode cX5_countRows 49 = .ok (.getfield 28, 3) := by decide +kernel
theorem dX5_countRows_52 : decode cX5_countRows 52 = .ok (.aload_n 0, 1) := by decide +kernel
theorem dX5_countRows_53 : decode cX5_countRows 53 = .ok (.getfield 24, 3) := by decide +kernel
theorem dX5_countRows_56 : decode cX5_countRows 56 = .ok (.iload_n 1, 1) := by decide +kernel
theorem dX5_countRows_57 : decode cX5_countRows 57 = .ok (.iaload, 1) := by decide +kernel
theorem dX5_countRows_58 : decode cX5_countRows 58 = .ok (.dup2, 1) := by decide +kernel
theorem dX5_countRows_59 : decode cX5_countRows 59 = .ok (.iaload, 1) := by decide +kernel
theorem dX5_countRows_60 : decode cX5_countRows 60 = .ok (.iconst 1, 1) := by decide +kernel
theorem dX5_countRows_61 : decode cX5_countRows 61 = .ok (.iadd, 1) := by decide +kernel
theorem dX5_countRows_62 : decode cX5_countRows 62 = .ok (.iastore, 1) := by decide +kernel
theorem dX5_countRows_63 : decode cX5_countRows 63 = .ok (.aload_n 0, 1) := by decide +kernel
theorem dX5_countRows_64 : decode cX5_countRows 64 = .ok (.getfield 31, 3) := by decide +kernel
theorem dX5_countRows_67 : decode cX5_countRows 67 = .ok (.aload_n 0, 1) := by decide +kernel
theorem dX5_countRows_68 : decode cX5_countRows 68 = .ok (.getfield 24, 3) := by decide +kernel
theorem dX5_countRows_71 : decode cX5_countRows 71 = .ok (.iload_n 1, 1) := by decide +kernel
theorem dX5_countRows_72 : decode cX5_countRows 72 = .ok (.iaload, 1) := by decide +kernel
theorem dX5_countRows_73 : decode cX5_countRows 73 = .ok (.iload_n 1, 1) := by decide +kernel
theorem dX5_countRows_74 : decode cX5_countRows 74 = .ok (.aload_n 0, 1) := by decide +kernel
theorem dX5_countRows_75 : decode cX5_countRows 75 = .ok (.getfield 37, 3) := by decide +kernel
theorem dX5_countRows_78 : decode cX5_countRows 78 = .ok (.iadd, 1) := by decide +kernel
theorem dX5_countRows_79 : decode cX5_countRows 79 = .ok (.iastore, 1) := by decide +kernel
theorem dX5_countRows_80 : decode cX5_countRows 80 = .ok (.iinc 1 1, 3) := by decide +kernel
theorem dX5_countRows_83 : decode cX5_countRows 83 = .ok (.goto (-65), 3) := by decide +kernel
theorem dX5_countRows_86 : decode cX5_countRows 86 = .ok (.return_, 1) := by decide +kernel
theorem dX5_placeOfMost_0 : decode cX5_placeOfMost 0 = .ok (.iconst (-1), 1) := by decide +kernel
theorem dX5_placeOfMost_1 : decode cX5_placeOfMost 1 = .ok (.istore_n 1, 1) := by decide +kernel
theorem dX5_placeOfMost_2 : decode cX5_placeOfMost 2 = .ok (.iconst 0, 1) := by decide +kernel
theorem dX5_placeOfMost_3 : decode cX5_placeOfMost 3 = .ok (.istore_n 2, 1) := by decide +kernel
theorem dX5_placeOfMost_4 : decode cX5_placeOfMost 4 = .ok (.iconst 0, 1) := by decide +kernel
theorem dX5_placeOfMost_5 : decode cX5_placeOfMost 5 = .ok (.istore_n 3, 1) := by decide +kernel
theorem dX5_placeOfMost_6 : decode cX5_placeOfMost 6 = .ok (.iload_n 3, 1) := by decide +kernel
theorem dX5_placeOfMost_7 : decode cX5_placeOfMost 7 = .ok (.sipush 320, 3) := by decide +kernel
theorem dX5_placeOfMost_10 : decode cX5_placeOfMost 10 = .ok (.if_icmp .ge 56, 3) := by decide +kernel
theorem dX5_placeOfMost_13 : decode cX5_placeOfMost 13 = .ok (.aload_n 0, 1) := by decide +kernel
theorem dX5_placeOfMost_14 : decode cX5_placeOfMost 14 = .ok (.getfield 24, 3) := by decide +kernel
theorem dX5_placeOfMost_17 : decode cX5_placeOfMost 17 = .ok (.iload_n 3, 1) := by decide +kernel
theorem dX5_placeOfMost_18 : decode cX5_placeOfMost 18 = .ok (.iaload, 1) := by decide +kernel
theorem dX5_placeOfMost_19 : decode cX5_placeOfMost 19 = .ok (.iconst (-1), 1) := by decide +kernel
theorem dX5_placeOfMost_20 : decode cX5_placeOfMost 20 = .ok (.if_icmp .eq 40, 3) := by decide +kernel
theorem dX5_placeOfMost_23 : decode cX5_placeOfMost 23 = .ok (.aload_n 0, 1) := by decide +kernel
theorem dX5_placeOfMost_24 : decode cX5_placeOfMost 24 = .ok (.getfield 28, 3) := by decide +kernel
theorem dX5_placeOfMost_27 : decode cX5_placeOfMost 27 = .ok (.aload_n 0, 1) := by decide +kernel
theorem dX5_placeOfMost_28 : decode cX5_placeOfMost 28 = .ok (.getfield 24, 3) := by decide +kernel
theorem dX5_placeOfMost_31 : decode cX5_placeOfMost 31 = .ok (.iload_n 3, 1) := by decide +kernel
theorem dX5_placeOfMost_32 : decode cX5_placeOfMost 32 = .ok (.iaload, 1) := by decide +kernel
theorem dX5_placeOfMost_33 : decode cX5_placeOfMost 33 = .ok (.iaload, 1) := by decide +kernel
theorem dX5_placeOfMost_34 : decode cX5_placeOfMost 34 = .ok (.iload_n 2, 1) := by decide +kernel
theorem dX5_placeOfMost_35 : decode cX5_placeOfMost 35 = .ok (.if_icmp .le 25, 3) := by decide +kernel
theorem dX5_placeOfMost_38 : decode cX5_placeOfMost 38 = .ok (.aload_n 0, 1) := by decide +kernel
theorem dX5_placeOfMost_39 : decode cX5_placeOfMost 39 = .ok (.iload_n 3, 1) := by decide +kernel
theorem dX5_placeOfMost_40 : decode cX5_placeOfMost 40 = .ok (.invokevirtual 96, 3) := by decide +kernel
theorem dX5_placeOfMost_43 : decode cX5_placeOfMost 43 = .ok (.ifCond .eq 17, 3) := by decide +kernel
theorem dX5_placeOfMost_46 : decode cX5_placeOfMost 46 = .ok (.iload_n 3, 1) := by decide +kernel
theorem dX5_placeOfMost_47 : decode cX5_placeOfMost 47 = .ok (.istore_n 1, 1) := by decide +kernel
theorem dX5_placeOfMost_48 : decode cX5_placeOfMost 48 = .ok (.aload_n 0, 1) := by decide +kernel
theorem dX5_placeOfMost_49 : decode cX5_placeOfMost 49 = .ok (.getfield 28, 3) := by decide +kernel
theorem dX5_placeOfMost_52 : decode cX5_placeOfMost 52 = .ok (.aload_n 0, 1) := by decide +kernel
theorem dX5_placeOfMost_53 : decode cX5_placeOfMost 53 = .ok (.getfield 24, 3) := by decide +kernel
theorem dX5_placeOfMost_56 : decode cX5_placeOfMost 56 = .ok (.iload_n 3, 1) := by decide +kernel
theorem dX5_placeOfMost_57 : decode cX5_placeOfMost 57 = .ok (.iaload, 1) := by decide +kernel
theorem dX5_placeOfMost_58 : decode cX5_placeOfMost 58 = .ok (.iaload, 1) := by decide +kernel
theorem dX5_placeOfMost_59 : decode cX5_placeOfMost 59 = .ok (.istore_n 2, 1) := by decide +kernel
theorem dX5_placeOfMost_60 : decode cX5_placeOfMost 60 = .ok (.iinc 3 1, 3) := by decide +kernel
theorem dX5_placeOfMost_63 : decode cX5_placeOfMost 63 = .ok (.goto (-57), 3) := by decide +kernel
theorem dX5_placeOfMost_66 : decode cX5_placeOfMost 66 = .ok (.iload_n 1, 1) := by decide +kernel
theorem dX5_placeOfMost_67 : decode cX5_placeOfMost 67 = .ok (.ireturn, 1) := by decide +kernel
theorem dX5_cover_0 : decode cX5_cover 0 = .ok (.iconst 0, 1) := by decide +kernel
theorem dX5_cover_1 : decode cX5_cover 1 = .ok (.istore_n 2, 1) := by decide +kernel
theorem dX5_cover_2 : decode cX5_cover 2 = .ok (.iload_n 2, 1) := by decide +kernel
theorem dX5_cover_3 : decode cX5_cover 3 = .ok (.sipush 320, 3) := by decide +kernel
theorem dX5_cover_6 : decode cX5_cover 6 = .ok (.if_icmp .ge 39, 3) := by decide +kernel
theorem dX5_cover_9 : decode cX5_cover 9 = .ok (.aload_n 0, 1) := by decide +kernel
theorem dX5_cover_10 : decode cX5_cover 10 = .ok (.getfield 24, 3) := by decide +kernel
theorem dX5_cover_13 : decode cX5_cover 13 = .ok (.iload_n 2, 1) := by decide +kernel
theorem dX5_cover_14 : decode cX5_cover 14 = .ok (.iaload, 1) := by decide +kernel
theorem dX5_cover_15 : decode cX5_cover 15 = .ok (.iload_n 1, 1) := by decide +kernel
theorem dX5_cover_16 : decode cX5_cover 16 = .ok (.if_icmp .ne 23, 3) := by decide +kernel
theorem dX5_cover_19 : decode cX5_cover 19 = .ok (.aload_n 0, 1) := by decide +kernel
theorem dX5_cover_20 : decode cX5_cover 20 = .ok (.iload_n 2, 1) := by decide +kernel
theorem dX5_cover_21 : decode cX5_cover 21 = .ok (.invokevirtual 96, 3) := by decide +kernel
theorem dX5_cover_24 : decode cX5_cover 24 = .ok (.ifCond .eq 15, 3) := by decide +kernel
theorem dX5_cover_27 : decode cX5_cover 27 = .ok (.aload_n 0, 1) := by decide +kernel
theorem dX5_cover_28 : decode cX5_cover 28 = .ok (.iload_n 2, 1) := by decide +kernel
theorem dX5_cover_29 : decode cX5_cover 29 = .ok (.iload_n 2, 1) := by decide +kernel
theorem dX5_cover_30 : decode cX5_cover 30 = .ok (.aload_n 0, 1) := by decide +kernel
theorem dX5_cover_31 : decode cX5_cover 31 = .ok (.getfield 37, 3) := by decide +kernel
theorem dX5_cover_34 : decode cX5_cover 34 = .ok (.iadd, 1) := by decide +kernel
theorem dX5_cover_35 : decode cX5_cover 35 = .ok (.iconst 1, 1) := by decide +kernel
theorem dX5_cover_36 : decode cX5_cover 36 = .ok (.invokevirtual 47, 3) := by decide +kernel
theorem dX5_cover_39 : decode cX5_cover 39 = .ok (.iinc 2 1, 3) := by decide +kernel
theorem dX5_cover_42 : decode cX5_cover 42 = .ok (.goto (-40), 3) := by decide +kernel
theorem dX5_cover_45 : decode cX5_cover 45 = .ok (.return_, 1) := by decide +kernel
theorem dX5_coverFrom_0 : decode cX5_coverFrom 0 = .ok (.iload_n 1, 1) := by decide +kernel
theorem dX5_coverFrom_1 : decode cX5_coverFrom 1 = .ok (.istore 4, 2) := by decide +kernel
theorem dX5_coverFrom_3 : decode cX5_coverFrom 3 = .ok (.iload 4, 2) := by decide +kernel
theorem dX5_coverFrom_5 : decode cX5_coverFrom 5 = .ok (.iload_n 2, 1) := by decide +kernel
theorem dX5_coverFrom_6 : decode cX5_coverFrom 6 = .ok (.if_icmp .ge 25, 3) := by decide +kernel
theorem dX5_coverFrom_9 : decode cX5_coverFrom 9 = .ok (.iload 4, 2) := by decide +kernel
theorem dX5_coverFrom_11 : decode cX5_coverFrom 11 = .ok (.sipush 320, 3) := by decide +kernel
theorem dX5_coverFrom_14 : decode cX5_coverFrom 14 = .ok (.if_icmp .ge 17, 3) := by decide +kernel
theorem dX5_coverFrom_17 : decode cX5_coverFrom 17 = .ok (.aload_n 0, 1) := by decide +kernel
theorem dX5_coverFrom_18 : decode cX5_coverFrom 18 = .ok (.getfield 20, 3) := by decide +kernel
theorem dX5_coverFrom_21 : decode cX5_coverFrom 21 = .ok (.iload 4, 2) := by decide +kernel
theorem dX5_coverFrom_23 : decode cX5_coverFrom 23 = .ok (.iload_n 3, 1) := by decide +kernel
theorem dX5_coverFrom_24 : decode cX5_coverFrom 24 = .ok (.bastore, 1) := by decide +kernel
theorem dX5_coverFrom_25 : decode cX5_coverFrom 25 = .ok (.iinc 4 1, 3) := by decide +kernel
theorem dX5_coverFrom_28 : decode cX5_coverFrom 28 = .ok (.goto (-25), 3) := by decide +kernel
theorem dX5_coverFrom_31 : decode cX5_coverFrom 31 = .ok (.return_, 1) := by decide +kernel
end
section
theorem dX6_init_0 : decode cX6_init 0 = .ok (.aload_n 0, 1) := by decide +kernel
theorem dX6_init_1 : decode cX6_init 1 = .ok (.invokespecial 3, 3) := by decide +kernel
theorem dX6_init_4 : decode cX6_init 4 = .ok (.aload_n 0, 1) := by decide +kernel
theorem dX6_init_5 : decode cX6_init 5 = .ok (.new 9, 3) := by decide +kernel
theorem dX6_init_8 : decode cX6_init 8 = .ok (.dup, 1) := by decide +kernel
theorem dX6_init_9 : decode cX6_init 9 = .ok (.sipush 200, 3) := by decide +kernel
theorem dX6_init_12 : decode cX6_init 12 = .ok (.invokespecial 11, 3) := by decide +kernel
theorem dX6_init_15 : decode cX6_init 15 = .ok (.putfield 14, 3) := by decide +kernel
theorem dX6_init_18 : decode cX6_init 18 = .ok (.aload_n 0, 1) := by decide +kernel
theorem dX6_init_19 : decode cX6_init 19 = .ok (.bipush 8, 2) := by decide +kernel
theorem dX6_init_21 : decode cX6_init 21 = .ok (.anewarray 9, 3) := by decide +kernel
theorem dX6_init_24 : decode cX6_init 24 = .ok (.putfield 18, 3) := by decide +kernel
theorem dX6_init_27 : decode cX6_init 27 = .ok (.aload_n 0, 1) := by decide +kernel
theorem dX6_init_28 : decode cX6_init 28 = .ok (.bipush 6, 2) := by decide +kernel
theorem dX6_init_30 : decode cX6_init 30 = .ok (.anewarray 22, 3) := by decide +kernel
theorem dX6_init_33 : decode cX6_init 33 = .ok (.putfield 24, 3) := by decide +kernel
theorem dX6_init_36 : decode cX6_init 36 = .ok (.aload_n 0, 1) := by decide +kernel
theorem dX6_init_37 : decode cX6_init 37 = .ok (.new 22, 3) := by decide +kernel
theorem dX6_init_40 : decode cX6_init 40 = .ok (.dup, 1) := by decide +kernel
theorem dX6_init_41 : decode cX6_init 41 = .ok (.invokespecial 28, 3) := by decide +kernel
theorem dX6_init_44 : decode cX6_init 44 = .ok (.putfield 29, 3) := by decide +kernel
theorem dX6_init_47 : decode cX6_init 47 = .ok (.aload_n 0, 1) := by decide +kernel
theorem dX6_init_48 : decode cX6_init 48 = .ok (.new 9, 3) := by decide +kernel
theorem dX6_init_51 : decode cX6_init 51 = .ok (.dup, 1) := by decide +kernel
theorem dX6_init_52 : decode cX6_init 52 = .ok (.bipush 80, 2) := by decide +kernel
theorem dX6_init_54 : decode cX6_init 54 = .ok (.invokespecial 11, 3) := by decide +kernel
theorem dX6_init_57 : decode cX6_init 57 = .ok (.putfield 33, 3) := by decide +kernel
theorem dX6_init_60 : decode cX6_init 60 = .ok (.aload_n 0, 1) := by decide +kernel
theorem dX6_init_61 : decode cX6_init 61 = .ok (.new 9, 3) := by decide +kernel
theorem dX6_init_64 : decode cX6_init 64 = .ok (.dup, 1) := by decide +kernel
theorem dX6_init_65 : decode cX6_init 65 = .ok (.sipush 200, 3) := by decide +kernel
theorem dX6_init_68 : decode cX6_init 68 = .ok (.invokespecial 11, 3) := by decide +kernel
theorem dX6_init_71 : decode cX6_init 71 = .ok (.putfield 36, 3) := by decide +kernel
theorem dX6_init_74 : decode cX6_init 74 = .ok (.aload_n 0, 1) := by decide +kernel
theorem dX6_init_75 : decode cX6_init 75 = .ok (.new 39, 3) := by decide +kernel
theorem dX6_init_78 : decode cX6_init 78 = .ok (.dup, 1) := by decide +kernel
theorem dX6_init_79 : decode cX6_init 79 = .ok (.invokespecial 41, 3) := by decide +kernel
theorem dX6_init_82 : decode cX6_init 82 = .ok (.putfield 42, 3) := by decide +kernel
theorem dX6_init_85 : decode cX6_init 85 = .ok (.aload_n 0, 1) := by decide +kernel
theorem dX6_init_86 : decode cX6_init 86 = .ok (.new 46, 3) := by decide +kernel
theorem dX6_init_89 : decode cX6_init 89 = .ok (.dup, 1) := by decide +kernel
theorem dX6_init_90 : decode cX6_init 90 = .ok (.invokespecial 48, 3) := by decide +kernel
theorem dX6_init_93 : decode cX6_init 93 = .ok (.putfield 49, 3) := by decide +kernel
theorem dX6_init_96 : decode cX6_init 96 = .ok (.aload_n 0, 1) := by decide +kernel
theorem dX6_init_97 : decode cX6_init 97 = .ok (.new 53, 3) := by decide +kernel
theorem dX6_init_100 : decode cX6_init 100 = .ok (.dup, 1) := by decide +kernel
theorem dX6_init_101 : decode cX6_init 101 = .ok (.invokespecial 55, 3) := by decide +kernel
theorem dX6_init_104 : decode cX6_init 104 = .ok (.putfield 56, 3) := by decide +kernel
theorem dX6_init_107 : decode cX6_init 107 = .ok (.aload_n 0, 1) := by decide +kernel
theorem dX6_init_108 : decode cX6_init 108 = .ok (.new 60, 3) := by decide +kernel
theorem dX6_init_111 : decode cX6_init 111 = .ok (.dup, 1) := by decide +kernel
theorem dX6_init_112 : decode cX6_init 112 = .ok (.invokespecial 62, 3) := by decide +kernel
theorem dX6_init_115 : decode cX6_init 115 = .ok (.putfield 63, 3) := by decide +kernel
theorem dX6_init_118 : decode cX6_init 118 = .ok (.iconst 0, 1) := by decide +kernel
theorem dX6_init_119 : decode cX6_init 119 = .ok (.istore_n 1, 1) := by decide +kernel
theorem dX6_init_120 : decode cX6_init 120 = .ok (.iload_n 1, 1) := by decide +kernel
theorem dX6_init_121 : decode cX6_init 121 = .ok (.bipush 8, 2) := by decide +kernel
theorem dX6_init_123 : decode cX6_init 123 = .ok (.if_icmp .ge 24, 3) := by decide +kernel
theorem dX6_init_126 : decode cX6_init 126 = .ok (.aload_n 0, 1) := by decide +kernel
theorem dX6_init_127 : decode cX6_init 127 = .ok (.getfield 18, 3) := by decide +kernel
theorem dX6_init_130 : decode cX6_init 130 = .ok (.iload_n 1, 1) := by decide +kernel
theorem dX6_init_131 : decode cX6_init 131 = .ok (.new 9, 3) := by decide +kernel
theorem dX6_init_134 : decode cX6_init 134 = .ok (.dup, 1) := by decide +kernel
theorem dX6_init_135 : decode cX6_init 135 = .ok (.bipush 40, 2) := by decide +kernel
theorem dX6_init_137 : decode cX6_init 137 = .ok (.invokespecial 11, 3) := by decide +kernel
theorem dX6_init_140 : decode cX6_init 140 = .ok (.aastore, 1) := by decide +kernel
theorem dX6_init_141 : decode cX6_init 141 = .ok (.iinc 1 1, 3) := by decide +kernel
theorem dX6_init_144 : decode cX6_init 144 = .ok (.goto (-24), 3) := by decide +kernel
theorem dX6_init_147 : decode cX6_init 147 = .ok (.iconst 0, 1) := by decide +kernel
theorem dX6_init_148 : decode cX6_init 148 = .ok (.istore_n 1, 1) := by decide +kernel
theorem dX6_init_149 : decode cX6_init 149 = .ok (.iload_n 1, 1) := by decide +kernel
theorem dX6_init_150 : decode cX6_init 150 = .ok (.bipush 6, 2) := by decide +kernel
theorem dX6_init_152 : decode cX6_init 152 = .ok (.if_icmp .ge 22, 3) := by decide +kernel
theorem dX6_init_155 : decode cX6_init 155 = .ok (.aload_n 0, 1) := by decide +kernel
theorem dX6_init_156 : decode cX6_init 156 = .ok (.getfield 24, 3) := by decide +kernel
theorem dX6_init_159 : decode cX6_init 159 = .ok (.iload_n 1, 1) := by decide +kernel
theorem dX6_init_160 : decode cX6_init 160 = .ok (.new 22, 3) := by decide +kernel
theorem dX6_init_163 : decode cX6_init 163 = .ok (.dup, 1) := by decide +kernel
theorem dX6_init_164 : decode cX6_init 164 = .ok (.invokespecial 28, 3) := by decide +kernel
theorem dX6_init_167 : decode cX6_init 167 = .ok (.aastore, 1) := by decide +kernel
theorem dX6_init_168 : decode cX6_init 168 = .ok (.iinc 1 1, 3) := by decide +kernel
theorem dX6_init_171 : decode cX6_init 171 = .ok (.goto (-22), 3) := by decide +kernel
theorem dX6_init_174 : decode cX6_init 174 = .ok (.return_, 1) := by decide +kernel
theorem dX6_feed_0 : decode cX6_feed 0 = .ok (.iload_n 1, 1) := by decide +kernel
theorem dX6_feed_1 : decode cX6_feed 1 = .ok (.iconst 1, 1) := by decide +kernel
theorem dX6_feed_2 : decode cX6_feed 2 = .ok (.if_icmp .lt 9, 3) := by decide +kernel
theorem dX6_feed_5 : decode cX6_feed 5 = .ok (.iload_n 1, 1) := by decide +kernel
theorem dX6_feed_6 : decode cX6_feed 6 = .ok (.bipush 8, 2) := by decide +kernel
theorem dX6_feed_8 : decode cX6_feed 8 = .ok (.if_icmp .le 6, 3) := by decide +kernel
theorem dX6_feed_11 : decode cX6_feed 11 = .ok (.bipush (-102), 2) := by decide +kernel
theorem dX6_feed_13 : decode cX6_feed 13 = .ok (.ireturn, 1) := by decide +kernel
theorem dX6_feed_14 : decode cX6_feed 14 = .ok (.aload_n 0, 1) := by decide +kernel
theorem dX6_feed_15 : decode cX6_feed 15 = .ok (.getfield 14, 3) := by decide +kernel
theorem dX6_feed_18 : decode cX6_feed 18 = .ok (.iload_n 1, 1) := by decide +kernel
theorem dX6_feed_19 : decode cX6_feed 19 = .ok (.invokevirtual 67, 3) := by decide +kernel
theorem dX6_feed_22 : decode cX6_feed 22 = .ok (.ifCond .ne 6, 3) := by decide +kernel
theorem dX6_feed_25 : decode cX6_feed 25 = .ok (.bipush (-103), 2) := by decide +kernel
theorem dX6_feed_27 : decode cX6_feed 27 = .ok (.ireturn, 1) := by decide +kernel
theorem dX6_feed_28 : decode cX6_feed 28 = .ok (.iload_n 1, 1) := by decide +kernel
theorem dX6_feed_29 : decode cX6_feed 29 = .ok (.iconst 1, 1) := by decide +kernel
theorem dX6_feed_30 : decode cX6_feed 30 = .ok (.isub, 1) := by decide +kernel
theorem dX6_feed_31 : decode cX6_feed 31 = .ok (.istore 4, 2) := by decide +kernel
theorem dX6_feed_33 : decode cX6_feed 33 = .ok (.iload 4, 2) := by decide +kernel
theorem dX6_feed_35 : decode cX6_feed 35 = .ok (.ifCond .lt 24, 3) := by decide +kernel
theorem dX6_feed_38 : decode cX6_feed 38 = .ok (.aload_n 0, 1) := by decide +kernel
theorem dX6_feed_39 : decode cX6_feed 39 = .ok (.getfield 14, 3) := by decide +kernel
theorem dX6_feed_42 : decode cX6_feed 42 = .ok (.lload_n 2, 1) := by decide +kernel
theorem dX6_feed_43 : decode cX6_feed 43 = .ok (.bipush 8, 2) := by decide +kernel
theorem dX6_feed_45 : decode cX6_feed 45 = .ok (.iload 4, 2) := by decide +kernel
theorem dX6_feed_47 : decode cX6_feed 47 = .ok (.imul, 1) := by decide +kernel
theorem dX6_feed_48 : decode cX6_feed 48 = .ok (.lushr, 1) := by decide +kernel
theorem dX6_feed_49 : decode cX6_feed 49 = .ok (.l2i, 1) := by decide +kernel
theorem dX6_feed_50 : decode cX6_feed 50 = .ok (.invokevirtual 71, 3) := by decide +kernel
theorem dX6_feed_53 : decode cX6_feed 53 = .ok (.iinc 4 (-1), 3) := by decide +kernel
theorem dX6_feed_56 : decode cX6_feed 56 = .ok (.goto (-23), 3) := by decide +kernel
theorem dX6_feed_59 : decode cX6_feed 59 = .ok (.aload_n 0, 1) := by decide +kernel
theorem dX6_feed_60 : decode cX6_feed 60 = .ok (.getfield 14, 3) := by decide +kernel
theorem dX6_feed_63 : decode cX6_feed 63 = .ok (.invokevirtual 74, 3) := by decide +kernel
theorem dX6_feed_66 : decode cX6_feed 66 = .ok (.ireturn, 1) := by decide +kernel
theorem dX6_sample_0 : decode cX6_sample 0 = .ok (.aload_n 0, 1) := by decide +kernel
theorem dX6_sample_1 : decode cX6_sample 1 = .ok (.getfield 14, 3) := by decide +kernel
theorem dX6_sample_4 : decode cX6_sample 4 = .ok (.invokevirtual 74, 3) := by decide +kernel
theorem dX6_sample_7 : decode cX6_sample 7 = .ok (.iconst 1, 1) := by decide +kernel
theorem dX6_sample_8 : decode cX6_sample 8 = .ok (.if_icmp .lt 15, 3) := by decide +kernel
theorem dX6_sample_11 : decode cX6_sample 11 = .ok (.aload_n 0, 1) := by decide +kernel
theorem dX6_sample_12 : decode cX6_sample 12 = .ok (.getfield 14, 3) := by decide +kernel
theorem dX6_sample_15 : decode cX6_sample 15 = .ok (.invokevirtual 74, 3) := by decide +kernel
theorem dX6_sample_18 : decode cX6_sample 18 = .ok (.bipush 40, 2) := by decide +kernel
theorem dX6_sample_20 : decode cX6_sample 20 = .ok (.if_icmp .le 6, 3) := by decide +kernel
theorem dX6_sample_23 : decode cX6_sample 23 = .ok (.bipush (-102), 2) := by decide +kernel
theorem dX6_sample_25 : decode cX6_sample 25 = .ok (.ireturn, 1) := by decide +kernel
theorem dX6_sample_26 : decode cX6_sample 26 = .ok (.aload_n 0, 1) := by decide +kernel
theorem dX6_sample_27 : decode cX6_sample 27 = .ok (.getfield 78, 3) := by decide +kernel
theorem dX6_sample_30 : decode cX6_sample 30 = .ok (.bipush 8, 2) := by decide +kernel
theorem dX6_sample_32 : decode cX6_sample 32 = .ok (.if_icmp .lt 6, 3) := by decide +kernel
theorem dX6_sample_35 : decode cX6_sample 35 = .ok (.bipush (-103), 2) := by decide +kernel
theorem dX6_sample_37 : decode cX6_sample 37 = .ok (.ireturn, 1) := by decide +kernel
theorem dX6_sample_38 : decode cX6_sample 38 = .ok (.aload_n 0, 1) := by decide +kernel
theorem dX6_sample_39 : decode cX6_sample 39 = .ok (.getfield 78, 3) := by decide +kernel
theorem dX6_sample_42 : decode cX6_sample 42 = .ok (.istore_n 1, 1) := by decide +kernel
theorem dX6_sample_43 : decode cX6_sample 43 = .ok (.aload_n 0, 1) := by decide +kernel
theorem dX6_sample_44 : decode cX6_sample 44 = .ok (.getfield 18, 3) := by decide +kernel
theorem dX6_sample_47 : decode cX6_sample 47 = .ok (.iload_n 1, 1) := by decide +kernel
theorem dX6_sample_48 : decode cX6_sample 48 = .ok (.aaload, 1) := by decide +kernel
theorem dX6_sample_49 : decode cX6_sample 49 = .ok (.aload_n 0, 1) := by decide +kernel
theorem dX6_sample_50 : decode cX6_sample 50 = .ok (.getfield 14, 3) := by decide +kernel
theorem dX6_sample_53 : decode cX6_sample 53 = .ok (.invokevirtual 82, 3) := by decide +kernel
theorem dX6_sample_56 : decode cX6_sample 56 = .ok (.aload_n 0, 1) := by decide +kernel
theorem dX6_sample_57 : decode cX6_sample 57 = .ok (.getfield 14, 3) := by decide +kernel
theorem dX6_sample_60 : decode cX6_sample 60 = .ok (.invokevirtual 86, 3) := by decide +kernel
theorem dX6_sample_63 : decode cX6_sample 63 = .ok (.aload_n 0, 1) := by decide +kernel
theorem dX6_sample_64 : decode cX6_sample 64 = .ok (.dup, 1) := by decide +kernel
theorem dX6_sample_65 : decode cX6_sample 65 = .ok (.getfield 78, 3) := by decide +kernel
theorem dX6_sample_68 : decode cX6_sample 68 = .ok (.iconst 1, 1) := by decide +kernel
theorem dX6_sample_69 : decode cX6_sample 69 = .ok (.iadd, 1) := by decide +kernel
theorem dX6_sample_70 : decode cX6_sample 70 = .ok (.putfield 78, 3) := by decide +kernel
theorem dX6_sample_73 : decode cX6_sample 73 = .ok (.iload_n 1, 1) := by decide +kernel
theorem dX6_sample_74 : decode cX6_sample 74 = .ok (.ireturn, 1) := by decide +kernel
theorem dX6_forget_0 : decode cX6_forget 0 = .ok (.aload_n 0, 1) := by decide +kernel
theorem dX6_forget_1 : decode cX6_forget 1 = .ok (.getfield 78, 3) := by decide +kernel
theorem dX6_forget_4 : decode cX6_forget 4 = .ok (.istore_n 1, 1) := by decide +kernel
theorem dX6_forget_5 : decode cX6_forget 5 = .ok (.aload_n 0, 1) := by decide +kernel
theorem dX6_forget_6 : decode cX6_forget 6 = .ok (.iconst 0, 1) := by decide +kernel
theorem dX6_forget_7 : decode cX6_forget 7 = .ok (.putfield 78, 3) := by decide +kernel
theorem dX6_forget_10 : decode cX6_forget 10 = .ok (.iload_n 1, 1) := by decide +kernel
theorem dX6_forget_11 : decode cX6_forget 11 = .ok (.ireturn, 1) := by decide +kernel
theorem dX6_train_0 : decode cX6_train 0 = .ok (.iload_n 1, 1) := by decide +kernel
theorem dX6_train_1 : decode cX6_train 1 = .ok (.invokestatic 89, 3) := by decide +kernel
theorem dX6_train_4 : decode cX6_train 4 = .ok (.ifCond .ne 6, 3) := by decide +kernel
theorem dX6_train_7 : decode cX6_train 7 = .ok (.bipush (-101), 2) := by decide +kernel
theorem dX6_train_9 : decode cX6_train 9 = .ok (.ireturn, 1) := by decide +kernel
theorem dX6_train_10 : decode cX6_train 10 = .ok (.iload_n 2, 1) := by decide +kernel
theorem dX6_train_11 : decode cX6_train 11 = .ok (.invokestatic 92, 3) := by decide +kernel
theorem dX6_train_14 : decode cX6_train 14 = .ok (.ifCond .eq 26, 3) := by decide +kernel
theorem dX6_train_17 : decode cX6_train 17 = .ok (.iload_n 3, 1) := by decide +kernel
theorem dX6_train_18 : decode cX6_train 18 = .ok (.iconst 2, 1) := by decide +kernel
theorem dX6_train_19 : decode cX6_train 19 = .ok (.if_icmp .lt 21, 3) := by decide +kernel
theorem dX6_train_22 : decode cX6_train 22 = .ok (.iload_n 3, 1) := by decide +kernel
theorem dX6_train_23 : decode cX6_train 23 = .ok (.bipush 8, 2) := by decide +kernel
theorem dX6_train_25 : decode cX6_train 25 = .ok (.if_icmp .gt 15, 3) := by decide +kernel
theorem dX6_train_28 : decode cX6_train 28 = .ok (.iload 4, 2) := by decide +kernel
theorem dX6_train_30 : decode cX6_train 30 = .ok (.ifCond .lt 10, 3) := by decide +kernel
theorem dX6_train_33 : decode cX6_train 33 = .ok (.iload 4, 2) := by decide +kernel
theorem dX6_train_35 : decode cX6_train 35 = .ok (.bipush 80, 2) := by decide +kernel
theorem dX6_train_37 : decode cX6_train 37 = .ok (.if_icmp .le 6, 3) := by decide +kernel
theorem dX6_train_40 : decode cX6_train 40 = .ok (.bipush (-102), 2) := by decide +kernel
theorem dX6_train_42 : decode cX6_train 42 = .ok (.ireturn, 1) := by decide +kernel
theorem dX6_train_43 : decode cX6_train 43 = .ok (.aload_n 0, 1) := by decide +kernel
theorem dX6_train_44 : decode cX6_train 44 = .ok (.getfield 78, 3) := by decide +kernel
theorem dX6_train_47 : decode cX6_train 47 = .ok (.ifCond .ne 6, 3) := by decide +kernel
theorem dX6_train_50 : decode cX6_train 50 = .ok (.bipush (-104), 2) := by decide +kernel
theorem dX6_train_52 : decode cX6_train 52 = .ok (.ireturn, 1) := by decide +kernel
theorem dX6_train_53 : decode cX6_train 53 = .ok (.aload_n 0, 1) := by decide +kernel
theorem dX6_train_54 : decode cX6_train 54 = .ok (.getfield 56, 3) := by decide +kernel
theorem dX6_train_57 : decode cX6_train 57 = .ok (.aload_n 0, 1) := by decide +kernel
theorem dX6_train_58 : decode cX6_train 58 = .ok (.getfield 18, 3) := by decide +kernel
theorem dX6_train_61 : decode cX6_train 61 = .ok (.aload_n 0, 1) := by decide +kernel
theorem dX6_train_62 : decode cX6_train 62 = .ok (.getfield 78, 3) := by decide +kernel
theorem dX6_train_65 : decode cX6_train 65 = .ok (.iload_n 3, 1) := by decide +kernel
theorem dX6_train_66 : decode cX6_train 66 = .ok (.invokevirtual 95, 3) := by decide +kernel
theorem dX6_train_69 : decode cX6_train 69 = .ok (.aload_n 0, 1) := by decide +kernel
theorem dX6_train_70 : decode cX6_train 70 = .ok (.getfield 56, 3) := by decide +kernel
theorem dX6_train_73 : decode cX6_train 73 = .ok (.iload 4, 2) := by decide +kernel
theorem dX6_train_75 : decode cX6_train 75 = .ok (.invokevirtual 99, 3) := by decide +kernel
theorem dX6_train_78 : decode cX6_train 78 = .ok (.aload_n 0, 1) := by decide +kernel
theorem dX6_train_79 : decode cX6_train 79 = .ok (.getfield 24, 3) := by decide +kernel
theorem dX6_train_82 : decode cX6_train 82 = .ok (.iload_n 1, 1) := by decide +kernel
theorem dX6_train_83 : decode cX6_train 83 = .ok (.aaload, 1) := by decide +kernel
theorem dX6_train_84 : decode cX6_train 84 = .ok (.astore 5, 2) := by decide +kernel
theorem dX6_train_86 : decode cX6_train 86 = .ok (.aload 5, 2) := by decide +kernel
theorem dX6_train_88 : decode cX6_train 88 = .ok (.iload_n 2, 1) := by decide +kernel
theorem dX6_train_89 : decode cX6_train 89 = .ok (.iload_n 3, 1) := by decide +kernel
theorem dX6_train_90 : decode cX6_train 90 = .ok (.invokevirtual 102, 3) := by decide +kernel
theorem dX6_train_93 : decode cX6_train 93 = .ok (.aload_n 0, 1) := by decide +kernel
theorem dX6_train_94 : decode cX6_train 94 = .ok (.getfield 56, 3) := by decide +kernel
theorem dX6_train_97 : decode cX6_train 97 = .ok (.aload 5, 2) := by decide +kernel
theorem dX6_train_99 : decode cX6_train 99 = .ok (.invokevirtual 106, 3) := by decide +kernel
theorem dX6_train_102 : decode cX6_train 102 = .ok (.aload 5, 2) := by decide +kernel
theorem dX6_train_104 : decode cX6_train 104 = .ok (.invokevirtual 110, 3) := by decide +kernel
theorem dX6_train_107 : decode cX6_train 107 = .ok (.ireturn, 1) := by decide +kernel
theorem dX6_give_0 : decode cX6_give 0 = .ok (.iload_n 1, 1) := by decide +kernel
theorem dX6_give_1 : decode cX6_give 1 = .ok (.invokestatic 89, 3) := by decide +kernel
theorem dX6_give_4 : decode cX6_give 4 = .ok (.ifCond .ne 6, 3) := by decide +kernel
theorem dX6_give_7 : decode cX6_give 7 = .ok (.bipush (-101), 2) := by decide +kernel
theorem dX6_give_9 : decode cX6_give 9 = .ok (.ireturn, 1) := by decide +kernel
theorem dX6_give_10 : decode cX6_give 10 = .ok (.iload_n 2, 1) := by decide +kernel
theorem dX6_give_11 : decode cX6_give 11 = .ok (.invokestatic 92, 3) := by decide +kernel
theorem dX6_give_14 : decode cX6_give 14 = .ok (.ifCond .eq 15, 3) := by decide +kernel
theorem dX6_give_17 : decode cX6_give 17 = .ok (.aload_n 0, 1) := by decide +kernel
theorem dX6_give_18 : decode cX6_give 18 = .ok (.getfield 14, 3) := by decide +kernel
theorem dX6_give_21 : decode cX6_give 21 = .ok (.invokevirtual 74, 3) := by decide +kernel
theorem dX6_give_24 : decode cX6_give 24 = .ok (.bipush 80, 2) := by decide +kernel
theorem dX6_give_26 : decode cX6_give 26 = .ok (.if_icmp .le 6, 3) := by decide +kernel
theorem dX6_give_29 : decode cX6_give 29 = .ok (.bipush (-102), 2) := by decide +kernel
theorem dX6_give_31 : decode cX6_give 31 = .ok (.ireturn, 1) := by decide +kernel
theorem dX6_give_32 : decode cX6_give 32 = .ok (.aload_n 0, 1) := by decide +kernel
theorem dX6_give_33 : decode cX6_give 33 = .ok (.getfield 24, 3) := by decide +kernel
theorem dX6_give_36 : decode cX6_give 36 = .ok (.iload_n 1, 1) := by decide +kernel
theorem dX6_give_37 : decode cX6_give 37 = .ok (.aaload, 1) := by decide +kernel
theorem dX6_give_38 : decode cX6_give 38 = .ok (.astore_n 3, 1) := by decide +kernel
theorem dX6_give_39 : decode cX6_give 39 = .ok (.aload_n 3, 1) := by decide +kernel
theorem dX6_give_40 : decode cX6_give 40 = .ok (.iload_n 2, 1) := by decide +kernel
theorem dX6_give_41 : decode cX6_give 41 = .ok (.aload_n 0, 1) := by decide +kernel
theorem dX6_give_42 : decode cX6_give 42 = .ok (.getfield 14, 3) := by decide +kernel
theorem dX6_give_45 : decode cX6_give 45 = .ok (.invokevirtual 74, 3) := by decide +kernel
theorem dX6_give_48 : decode cX6_give 48 = .ok (.invokevirtual 102, 3) := by decide +kernel
theorem dX6_give_51 : decode cX6_give 51 = .ok (.aload_n 3, 1) := by decide +kernel
theorem dX6_give_52 : decode cX6_give 52 = .ok (.aload_n 0, 1) := by decide +kernel
theorem dX6_give_53 : decode cX6_give 53 = .ok (.getfield 14, 3) := by decide +kernel
theorem dX6_give_56 : decode cX6_give 56 = .ok (.iconst 0, 1) := by decide +kernel
theorem dX6_give_57 : decode cX6_give 57 = .ok (.invokevirtual 113, 3) := by decide +kernel
theorem dX6_give_60 : decode cX6_give 60 = .ok (.aload_n 0, 1) := by decide +kernel
theorem dX6_give_61 : decode cX6_give 61 = .ok (.getfield 14, 3) := by decide +kernel
theorem dX6_give_64 : decode cX6_give 64 = .ok (.invokevirtual 86, 3) := by decide +kernel
theorem dX6_give_67 : decode cX6_give 67 = .ok (.aload_n 3, 1) := by decide +kernel
theorem dX6_give_68 : decode cX6_give 68 = .ok (.invokevirtual 117, 3) := by decide +kernel
theorem dX6_give_71 : decode cX6_give 71 = .ok (.invokevirtual 74, 3) := by decide +kernel
theorem dX6_give_74 : decode cX6_give 74 = .ok (.ireturn, 1) := by decide +kernel
theorem dX6_trim_0 : decode cX6_trim 0 = .ok (.aload_n 0, 1) := by decide +kernel
theorem dX6_trim_1 : decode cX6_trim 1 = .ok (.iload_n 1, 1) := by decide +kernel
theorem dX6_trim_2 : decode cX6_trim 2 = .ok (.invokevirtual 121, 3) := by decide +kernel
theorem dX6_trim_5 : decode cX6_trim 5 = .ok (.astore_n 2, 1) := by decide +kernel
theorem dX6_trim_6 : decode cX6_trim 6 = .ok (.aload_n 2, 1) := by decide +kernel
theorem dX6_trim_7 : decode cX6_trim 7 = .ok (.ifnonnull 6, 3) := by decide +kernel
theorem dX6_trim_10 : decode cX6_trim 10 = .ok (.bipush (-101), 2) := by decide +kernel
theorem dX6_trim_12 : decode cX6_trim 12 = .ok (.ireturn, 1) := by decide +kernel
theorem dX6_trim_13 : decode cX6_trim 13 = .ok (.aload_n 0, 1) := by decide +kernel
theorem dX6_trim_14 : decode cX6_trim 14 = .ok (.getfield 78, 3) := by decide +kernel
theorem dX6_trim_17 : decode cX6_trim 17 = .ok (.ifCond .ne 6, 3) := by decide +kernel
theorem dX6_trim_20 : decode cX6_trim 20 = .ok (.bipush (-104), 2) := by decide +kernel
theorem dX6_trim_22 : decode cX6_trim 22 = .ok (.ireturn, 1) := by decide +kernel
theorem dX6_trim_23 : decode cX6_trim 23 = .ok (.aload_n 0, 1) := by decide +kernel
theorem dX6_trim_24 : decode cX6_trim 24 = .ok (.aload_n 2, 1) := by decide +kernel
theorem dX6_trim_25 : decode cX6_trim 25 = .ok (.invokevirtual 125, 3) := by decide +kernel
theorem dX6_trim_28 : decode cX6_trim 28 = .ok (.ireturn, 1) := by decide +kernel
theorem dX6_drop_0 : decode cX6_drop 0 = .ok (.aload_n 0, 1) := by decide +kernel
theorem dX6_drop_1 : decode cX6_drop 1 = .ok (.iload_n 1, 1) := by decide +kernel
theorem dX6_drop_2 : decode cX6_drop 2 = .ok (.invokevirtual 121, 3) := by decide +kernel
theorem dX6_drop_5 : decode cX6_drop 5 = .ok (.astore_n 2, 1) := by decide +kernel
theorem dX6_drop_6 : decode cX6_drop 6 = .ok (.aload_n 2, 1) := by decide +kernel
theorem dX6_drop_7 : decode cX6_drop 7 = .ok (.ifnonnull 6, 3) := by decide +kernel
theorem dX6_drop_10 : decode cX6_drop 10 = .ok (.bipush (-101), 2) := by decide +kernel
theorem dX6_drop_12 : decode cX6_drop 12 = .ok (.ireturn, 1) := by decide +kernel
theorem dX6_drop_13 : decode cX6_drop 13 = .ok (.aload_n 2, 1) := by decide +kernel
theorem dX6_drop_14 : decode cX6_drop 14 = .ok (.invokevirtual 110, 3) := by decide +kernel
theorem dX6_drop_17 : decode cX6_drop 17 = .ok (.istore_n 3, 1) := by decide +kernel
theorem dX6_drop_18 : decode cX6_drop 18 = .ok (.aload_n 2, 1) := by decide +kernel
theorem dX6_drop_19 : decode cX6_drop 19 = .ok (.iconst 0, 1) := by decide +kernel
theorem dX6_drop_20 : decode cX6_drop 20 = .ok (.iconst 0, 1) := by decide +kernel
theorem dX6_drop_21 : decode cX6_drop 21 = .ok (.invokevirtual 102, 3) := by decide +kernel
theorem dX6_drop_24 : decode cX6_drop 24 = .ok (.iload_n 3, 1) := by decide +kernel
theorem dX6_drop_25 : decode cX6_drop 25 = .ok (.ireturn, 1) := by decide +kernel
theorem dX6_told_0 : decode cX6_told 0 = .ok (.aload_n 0, 1) := by decide +kernel
theorem dX6_told_1 : decode cX6_told 1 = .ok (.iload_n 1, 1) := by decide +kernel
theorem dX6_told_2 : decode cX6_told 2 = .ok (.invokevirtual 121, 3) := by decide +kernel
theorem dX6_told_5 : decode cX6_told 5 = .ok (.astore_n 3, 1) := by decide +kernel
theorem dX6_told_6 : decode cX6_told 6 = .ok (.aload_n 3, 1) := by decide +kernel
theorem dX6_told_7 : decode cX6_told 7 = .ok (.ifnonnull 6, 3) := by decide +kernel
theorem dX6_told_10 : decode cX6_told 10 = .ok (.bipush (-101), 2) := by decide +kernel
theorem dX6_told_12 : decode cX6_told 12 = .ok (.ireturn, 1) := by decide +kernel
theorem dX6_told_13 : decode cX6_told 13 = .ok (.iload_n 2, 1) := by decide +kernel
theorem dX6_told_14 : decode cX6_told 14 = .ok (.tableswitch 53 0 3 #[30, 35, 40, 48], 30) := by decide +kernel
theorem dX6_told_44 : decode cX6_told 44 = .ok (.aload_n 3, 1) := by decide +kernel
theorem dX6_told_45 : decode cX6_told 45 = .ok (.invokevirtual 129, 3) := by decide +kernel
theorem dX6_told_48 : decode cX6_told 48 = .ok (.ireturn, 1) := by decide +kernel
theorem dX6_told_49 : decode cX6_told 49 = .ok (.aload_n 3, 1) := by decide +kernel
theorem dX6_told_50 : decode cX6_told 50 = .ok (.invokevirtual 110, 3) := by decide +kernel
theorem dX6_told_53 : decode cX6_told 53 = .ok (.ireturn, 1) := by decide +kernel
theorem dX6_told_54 : decode cX6_told 54 = .ok (.aload_n 3, 1) := by decide +kernel
theorem dX6_told_55 : decode cX6_told 55 = .ok (.invokevirtual 117, 3) := by decide +kernel
theorem dX6_told_58 : decode cX6_told 58 = .ok (.invokevirtual 74, 3) := by decide +kernel
theorem dX6_told_61 : decode cX6_told 61 = .ok (.ireturn, 1) := by decide +kernel
theorem dX6_told_62 : decode cX6_told 62 = .ok (.aload_n 3, 1) := by decide +kernel
theorem dX6_told_63 : decode cX6_told 63 = .ok (.invokevirtual 132, 3) := by decide +kernel
theorem dX6_told_66 : decode cX6_told 66 = .ok (.ireturn, 1) := by decide +kernel
theorem dX6_told_67 : decode cX6_told 67 = .ok (.iload_n 2, 1) := by decide +kernel
theorem dX6_told_68 : decode cX6_told 68 = .ok (.bipush 10, 2) := by decide +kernel
theorem dX6_told_70 : decode cX6_told 70 = .ok (.if_icmp .lt 21, 3) := by decide +kernel
theorem dX6_told_73 : decode cX6_told 73 = .ok (.iload_n 2, 1) := by decide +kernel
theorem dX6_told_74 : decode cX6_told 74 = .ok (.bipush 10, 2) := by decide +kernel
theorem dX6_told_76 : decode cX6_told 76 = .ok (.isub, 1) := by decide +kernel
theorem dX6_told_77 : decode cX6_told 77 = .ok (.aload_n 3, 1) := by decide +kernel
theorem dX6_told_78 : decode cX6_told 78 = .ok (.invokevirtual 110, 3) := by decide +kernel
theorem dX6_told_81 : decode cX6_told 81 = .ok (.if_icmp .ge 10, 3) := by decide +kernel
theorem dX6_told_84 : decode cX6_told 84 = .ok (.aload_n 3, 1) := by decide +kernel
theorem dX6_told_85 : decode cX6_told 85 = .ok (.invokevirtual 135, 3) := by decide +kernel
theorem dX6_told_88 : decode cX6_told 88 = .ok (.goto 5, 3) := by decide +kernel
theorem dX6_told_91 : decode cX6_told 91 = .ok (.bipush (-102), 2) := by decide +kernel
theorem dX6_told_93 : decode cX6_told 93 = .ok (.ireturn, 1) := by decide +kernel
theorem dX6_content_0 : decode cX6_content 0 = .ok (.iload_n 1, 1) := by decide +kernel
theorem dX6_content_1 : decode cX6_content 1 = .ok (.invokestatic 89, 3) := by decide +kernel
theorem dX6_content_4 : decode cX6_content 4 = .ok (.ifCond .ne 13, 3) := by decide +kernel
theorem dX6_content_7 : decode cX6_content 7 = .ok (.new 138, 3) := by decide +kernel
theorem dX6_content_10 : decode cX6_content 10 = .ok (.dup, 1) := by decide +kernel
theorem dX6_content_11 : decode cX6_content 11 = .ok (.ldc 140, 2) := by decide +kernel
theorem dX6_content_13 : decode cX6_content 13 = .ok (.invokespecial 142, 3) := by decide +kernel
theorem dX6_content_16 : decode cX6_content 16 = .ok (.athrow, 1) := by decide +kernel
theorem dX6_content_17 : decode cX6_content 17 = .ok (.aload_n 0, 1) := by decide +kernel
theorem dX6_content_18 : decode cX6_content 18 = .ok (.iload_n 1, 1) := by decide +kernel
theorem dX6_content_19 : decode cX6_content 19 = .ok (.invokevirtual 121, 3) := by decide +kernel
theorem dX6_content_22 : decode cX6_content 22 = .ok (.astore_n 3, 1) := by decide +kernel
theorem dX6_content_23 : decode cX6_content 23 = .ok (.aload_n 3, 1) := by decide +kernel
theorem dX6_content_24 : decode cX6_content 24 = .ok (.ifnonnull 13, 3) := by decide +kernel
theorem dX6_content_27 : decode cX6_content 27 = .ok (.new 145, 3) := by decide +kernel
theorem dX6_content_30 : decode cX6_content 30 = .ok (.dup, 1) := by decide +kernel
theorem dX6_content_31 : decode cX6_content 31 = .ok (.ldc 147, 2) := by decide +kernel
theorem dX6_content_33 : decode cX6_content 33 = .ok (.invokespecial 149, 3) := by decide +kernel
theorem dX6_content_36 : decode cX6_content 36 = .ok (.athrow, 1) := by decide +kernel
theorem dX6_content_37 : decode cX6_content 37 = .ok (.aload_n 3, 1) := by decide +kernel
theorem dX6_content_38 : decode cX6_content 38 = .ok (.invokevirtual 117, 3) := by decide +kernel
theorem dX6_content_41 : decode cX6_content 41 = .ok (.iload_n 2, 1) := by decide +kernel
theorem dX6_content_42 : decode cX6_content 42 = .ok (.invokevirtual 150, 3) := by decide +kernel
theorem dX6_content_45 : decode cX6_content 45 = .ok (.ifCond .ne 13, 3) := by decide +kernel
theorem dX6_content_48 : decode cX6_content 48 = .ok (.new 138, 3) := by decide +kernel
theorem dX6_content_51 : decode cX6_content 51 = .ok (.dup, 1) := by decide +kernel
theorem dX6_content_52 : decode cX6_content 52 = .ok (.ldc 153, 2) := by decide +kernel
theorem dX6_content_54 : decode cX6_content 54 = .ok (.invokespecial 142, 3) := by decide +kernel
theorem dX6_content_57 : decode cX6_content 57 = .ok (.athrow, 1) := by decide +kernel
theorem dX6_content_58 : decode cX6_content 58 = .ok (.aload_n 3, 1) := by decide +kernel
theorem dX6_content_59 : decode cX6_content 59 = .ok (.invokevirtual 117, 3) := by decide +kernel
theorem dX6_content_62 : decode cX6_content 62 = .ok (.iload_n 2, 1) := by decide +kernel
theorem dX6_content_63 : decode cX6_content 63 = .ok (.invokevirtual 155, 3) := by decide +kernel
theorem dX6_content_66 : decode cX6_content 66 = .ok (.ireturn, 1) := by decide +kernel
theorem dX6_pack_0 : decode cX6_pack 0 = .ok (.aload_n 0, 1) := by decide +kernel
theorem dX6_pack_1 : decode cX6_pack 1 = .ok (.iload_n 1, 1) := by decide +kernel
theorem dX6_pack_2 : decode cX6_pack 2 = .ok (.invokevirtual 159, 3) := by decide +kernel
theorem dX6_pack_5 : decode cX6_pack 5 = .ok (.astore_n 2, 1) := by decide +kernel
theorem dX6_pack_6 : decode cX6_pack 6 = .ok (.aload_n 2, 1) := by decide +kernel
theorem dX6_pack_7 : decode cX6_pack 7 = .ok (.ifnonnull 6, 3) := by decide +kernel
theorem dX6_pack_10 : decode cX6_pack 10 = .ok (.bipush (-101), 2) := by decide +kernel
theorem dX6_pack_12 : decode cX6_pack 12 = .ok (.ireturn, 1) := by decide +kernel
theorem dX6_pack_13 : decode cX6_pack 13 = .ok (.aload_n 0, 1) := by decide +kernel
theorem dX6_pack_14 : decode cX6_pack 14 = .ok (.getfield 49, 3) := by decide +kernel
theorem dX6_pack_17 : decode cX6_pack 17 = .ok (.aload_n 0, 1) := by decide +kernel
theorem dX6_pack_18 : decode cX6_pack 18 = .ok (.getfield 14, 3) := by decide +kernel
theorem dX6_pack_21 : decode cX6_pack 21 = .ok (.aload_n 2, 1) := by decide +kernel
theorem dX6_pack_22 : decode cX6_pack 22 = .ok (.invokevirtual 117, 3) := by decide +kernel
theorem dX6_pack_25 : decode cX6_pack 25 = .ok (.invokevirtual 162, 3) := by decide +kernel
theorem dX6_pack_28 : decode cX6_pack 28 = .ok (.pop, 1) := by decide +kernel
theorem dX6_pack_29 : decode cX6_pack 29 = .ok (.aload_n 0, 1) := by decide +kernel
theorem dX6_pack_30 : decode cX6_pack 30 = .ok (.getfield 42, 3) := by decide +kernel
theorem dX6_pack_33 : decode cX6_pack 33 = .ok (.aload_n 2, 1) := by decide +kernel
theorem dX6_pack_34 : decode cX6_pack 34 = .ok (.aload_n 0, 1) := by decide +kernel
theorem dX6_pack_35 : decode cX6_pack 35 = .ok (.getfield 14, 3) := by decide +kernel
theorem dX6_pack_38 : decode cX6_pack 38 = .ok (.invokevirtual 74, 3) := by decide +kernel
theorem dX6_pack_41 : decode cX6_pack 41 = .ok (.invokevirtual 166, 3) := by decide +kernel
theorem dX6_pack_44 : decode cX6_pack 44 = .ok (.aload_n 0, 1) := by decide +kernel
theorem dX6_pack_45 : decode cX6_pack 45 = .ok (.getfield 49, 3) := by decide +kernel
theorem dX6_pack_48 : decode cX6_pack 48 = .ok (.aload_n 0, 1) := by decide +kernel
theorem dX6_pack_49 : decode cX6_pack 49 = .ok (.getfield 42, 3) := by decide +kernel
theorem dX6_pack_52 : decode cX6_pack 52 = .ok (.invokevirtual 169, 3) := by decide +kernel
theorem dX6_pack_55 : decode cX6_pack 55 = .ok (.aload_n 0, 1) := by decide +kernel
theorem dX6_pack_56 : decode cX6_pack 56 = .ok (.getfield 14, 3) := by decide +kernel
theorem dX6_pack_59 : decode cX6_pack 59 = .ok (.invokevirtual 86, 3) := by decide +kernel
theorem dX6_pack_62 : decode cX6_pack 62 = .ok (.aload_n 0, 1) := by decide +kernel
theorem dX6_pack_63 : decode cX6_pack 63 = .ok (.getfield 42, 3) := by decide +kernel
theorem dX6_pack_66 : decode cX6_pack 66 = .ok (.invokevirtual 173, 3) := by decide +kernel
theorem dX6_pack_69 : decode cX6_pack 69 = .ok (.invokevirtual 74, 3) := by decide +kernel
theorem dX6_pack_72 : decode cX6_pack 72 = .ok (.ireturn, 1) := by decide +kernel
theorem dX6_out_0 : decode cX6_out 0 = .ok (.aload_n 0, 1) := by decide +kernel
end
section
theorem dX6_out_1 : decode cX6_out 1 = .ok (.getfield 42, 3) := by decide +kernel
theorem dX6_out_4 : decode cX6_out 4 = .ok (.invokevirtual 173, 3) := by decide +kernel
theorem dX6_out_7 : decode cX6_out 7 = .ok (.iload_n 1, 1) := by decide +kernel
theorem dX6_out_8 : decode cX6_out 8 = .ok (.invokevirtual 150, 3) := by decide +kernel
theorem dX6_out_11 : decode cX6_out 11 = .ok (.ifCond .ne 13, 3) := by decide +kernel
theorem dX6_out_14 : decode cX6_out 14 = .ok (.new 138, 3) := by decide +kernel
theorem dX6_out_17 : decode cX6_out 17 = .ok (.dup, 1) := by decide +kernel
theorem dX6_out_18 : decode cX6_out 18 = .ok (.ldc 176, 2) := by decide +kernel
theorem dX6_out_20 : decode cX6_out 20 = .ok (.invokespecial 142, 3) := by decide +kernel
theorem dX6_out_23 : decode cX6_out 23 = .ok (.athrow, 1) := by decide +kernel
theorem dX6_out_24 : decode cX6_out 24 = .ok (.aload_n 0, 1) := by decide +kernel
theorem dX6_out_25 : decode cX6_out 25 = .ok (.getfield 42, 3) := by decide +kernel
theorem dX6_out_28 : decode cX6_out 28 = .ok (.invokevirtual 173, 3) := by decide +kernel
theorem dX6_out_31 : decode cX6_out 31 = .ok (.iload_n 1, 1) := by decide +kernel
theorem dX6_out_32 : decode cX6_out 32 = .ok (.invokevirtual 178, 3) := by decide +kernel
theorem dX6_out_35 : decode cX6_out 35 = .ok (.ireturn, 1) := by decide +kernel
theorem dX6_open_0 : decode cX6_open 0 = .ok (.aload_n 0, 1) := by decide +kernel
theorem dX6_open_1 : decode cX6_open 1 = .ok (.getfield 63, 3) := by decide +kernel
theorem dX6_open_4 : decode cX6_open 4 = .ok (.aload_n 0, 1) := by decide +kernel
theorem dX6_open_5 : decode cX6_open 5 = .ok (.getfield 14, 3) := by decide +kernel
theorem dX6_open_8 : decode cX6_open 8 = .ok (.aload_n 0, 1) := by decide +kernel
theorem dX6_open_9 : decode cX6_open 9 = .ok (.aload_n 0, 1) := by decide +kernel
theorem dX6_open_10 : decode cX6_open 10 = .ok (.getfield 14, 3) := by decide +kernel
theorem dX6_open_13 : decode cX6_open 13 = .ok (.iconst 0, 1) := by decide +kernel
theorem dX6_open_14 : decode cX6_open 14 = .ok (.invokevirtual 178, 3) := by decide +kernel
theorem dX6_open_17 : decode cX6_open 17 = .ok (.invokevirtual 182, 3) := by decide +kernel
theorem dX6_open_20 : decode cX6_open 20 = .ok (.invokevirtual 185, 3) := by decide +kernel
theorem dX6_open_23 : decode cX6_open 23 = .ok (.istore_n 1, 1) := by decide +kernel
theorem dX6_open_24 : decode cX6_open 24 = .ok (.aload_n 0, 1) := by decide +kernel
theorem dX6_open_25 : decode cX6_open 25 = .ok (.getfield 14, 3) := by decide +kernel
theorem dX6_open_28 : decode cX6_open 28 = .ok (.invokevirtual 86, 3) := by decide +kernel
theorem dX6_open_31 : decode cX6_open 31 = .ok (.iload_n 1, 1) := by decide +kernel
theorem dX6_open_32 : decode cX6_open 32 = .ok (.iconst (-1), 1) := by decide +kernel
theorem dX6_open_33 : decode cX6_open 33 = .ok (.if_icmp .eq 9, 3) := by decide +kernel
theorem dX6_open_36 : decode cX6_open 36 = .ok (.sipush (-200), 3) := by decide +kernel
theorem dX6_open_39 : decode cX6_open 39 = .ok (.iload_n 1, 1) := by decide +kernel
theorem dX6_open_40 : decode cX6_open 40 = .ok (.isub, 1) := by decide +kernel
theorem dX6_open_41 : decode cX6_open 41 = .ok (.ireturn, 1) := by decide +kernel
theorem dX6_open_42 : decode cX6_open 42 = .ok (.aload_n 0, 1) := by decide +kernel
theorem dX6_open_43 : decode cX6_open 43 = .ok (.getfield 63, 3) := by decide +kernel
theorem dX6_open_46 : decode cX6_open 46 = .ok (.aload_n 0, 1) := by decide +kernel
theorem dX6_open_47 : decode cX6_open 47 = .ok (.getfield 36, 3) := by decide +kernel
theorem dX6_open_50 : decode cX6_open 50 = .ok (.invokevirtual 189, 3) := by decide +kernel
theorem dX6_open_53 : decode cX6_open 53 = .ok (.aload_n 0, 1) := by decide +kernel
theorem dX6_open_54 : decode cX6_open 54 = .ok (.getfield 36, 3) := by decide +kernel
theorem dX6_open_57 : decode cX6_open 57 = .ok (.invokevirtual 74, 3) := by decide +kernel
theorem dX6_open_60 : decode cX6_open 60 = .ok (.ireturn, 1) := by decide +kernel
theorem dX6_text_0 : decode cX6_text 0 = .ok (.aload_n 0, 1) := by decide +kernel
theorem dX6_text_1 : decode cX6_text 1 = .ok (.getfield 36, 3) := by decide +kernel
theorem dX6_text_4 : decode cX6_text 4 = .ok (.iload_n 1, 1) := by decide +kernel
theorem dX6_text_5 : decode cX6_text 5 = .ok (.invokevirtual 150, 3) := by decide +kernel
theorem dX6_text_8 : decode cX6_text 8 = .ok (.ifCond .ne 13, 3) := by decide +kernel
theorem dX6_text_11 : decode cX6_text 11 = .ok (.new 138, 3) := by decide +kernel
theorem dX6_text_14 : decode cX6_text 14 = .ok (.dup, 1) := by decide +kernel
theorem dX6_text_15 : decode cX6_text 15 = .ok (.ldc 191, 2) := by decide +kernel
theorem dX6_text_17 : decode cX6_text 17 = .ok (.invokespecial 142, 3) := by decide +kernel
theorem dX6_text_20 : decode cX6_text 20 = .ok (.athrow, 1) := by decide +kernel
theorem dX6_text_21 : decode cX6_text 21 = .ok (.aload_n 0, 1) := by decide +kernel
theorem dX6_text_22 : decode cX6_text 22 = .ok (.getfield 36, 3) := by decide +kernel
theorem dX6_text_25 : decode cX6_text 25 = .ok (.iload_n 1, 1) := by decide +kernel
theorem dX6_text_26 : decode cX6_text 26 = .ok (.invokevirtual 178, 3) := by decide +kernel
theorem dX6_text_29 : decode cX6_text 29 = .ok (.ireturn, 1) := by decide +kernel
theorem dX6_size_0 : decode cX6_size 0 = .ok (.aload_n 0, 1) := by decide +kernel
theorem dX6_size_1 : decode cX6_size 1 = .ok (.iload_n 2, 1) := by decide +kernel
theorem dX6_size_2 : decode cX6_size 2 = .ok (.invokevirtual 159, 3) := by decide +kernel
theorem dX6_size_5 : decode cX6_size 5 = .ok (.astore_n 3, 1) := by decide +kernel
theorem dX6_size_6 : decode cX6_size 6 = .ok (.aload_n 0, 1) := by decide +kernel
theorem dX6_size_7 : decode cX6_size 7 = .ok (.iload_n 1, 1) := by decide +kernel
theorem dX6_size_8 : decode cX6_size 8 = .ok (.invokevirtual 193, 3) := by decide +kernel
theorem dX6_size_11 : decode cX6_size 11 = .ok (.ifCond .eq 7, 3) := by decide +kernel
theorem dX6_size_14 : decode cX6_size 14 = .ok (.aload_n 3, 1) := by decide +kernel
theorem dX6_size_15 : decode cX6_size 15 = .ok (.ifnonnull 6, 3) := by decide +kernel
theorem dX6_size_18 : decode cX6_size 18 = .ok (.bipush (-101), 2) := by decide +kernel
theorem dX6_size_20 : decode cX6_size 20 = .ok (.ireturn, 1) := by decide +kernel
theorem dX6_size_21 : decode cX6_size 21 = .ok (.aload_n 0, 1) := by decide +kernel
theorem dX6_size_22 : decode cX6_size 22 = .ok (.getfield 49, 3) := by decide +kernel
theorem dX6_size_25 : decode cX6_size 25 = .ok (.aload_n 0, 1) := by decide +kernel
theorem dX6_size_26 : decode cX6_size 26 = .ok (.getfield 18, 3) := by decide +kernel
theorem dX6_size_29 : decode cX6_size 29 = .ok (.iload_n 1, 1) := by decide +kernel
theorem dX6_size_30 : decode cX6_size 30 = .ok (.aaload, 1) := by decide +kernel
theorem dX6_size_31 : decode cX6_size 31 = .ok (.aload_n 3, 1) := by decide +kernel
theorem dX6_size_32 : decode cX6_size 32 = .ok (.invokevirtual 117, 3) := by decide +kernel
theorem dX6_size_35 : decode cX6_size 35 = .ok (.invokevirtual 162, 3) := by decide +kernel
theorem dX6_size_38 : decode cX6_size 38 = .ok (.ireturn, 1) := by decide +kernel
theorem dX6_best_0 : decode cX6_best 0 = .ok (.aload_n 0, 1) := by decide +kernel
theorem dX6_best_1 : decode cX6_best 1 = .ok (.iload_n 1, 1) := by decide +kernel
theorem dX6_best_2 : decode cX6_best 2 = .ok (.invokevirtual 193, 3) := by decide +kernel
theorem dX6_best_5 : decode cX6_best 5 = .ok (.ifCond .ne 6, 3) := by decide +kernel
theorem dX6_best_8 : decode cX6_best 8 = .ok (.bipush (-101), 2) := by decide +kernel
theorem dX6_best_10 : decode cX6_best 10 = .ok (.ireturn, 1) := by decide +kernel
theorem dX6_best_11 : decode cX6_best 11 = .ok (.iconst (-1), 1) := by decide +kernel
theorem dX6_best_12 : decode cX6_best 12 = .ok (.istore_n 2, 1) := by decide +kernel
theorem dX6_best_13 : decode cX6_best 13 = .ok (.aload_n 0, 1) := by decide +kernel
theorem dX6_best_14 : decode cX6_best 14 = .ok (.getfield 49, 3) := by decide +kernel
theorem dX6_best_17 : decode cX6_best 17 = .ok (.aload_n 0, 1) := by decide +kernel
theorem dX6_best_18 : decode cX6_best 18 = .ok (.getfield 18, 3) := by decide +kernel
theorem dX6_best_21 : decode cX6_best 21 = .ok (.iload_n 1, 1) := by decide +kernel
theorem dX6_best_22 : decode cX6_best 22 = .ok (.aaload, 1) := by decide +kernel
theorem dX6_best_23 : decode cX6_best 23 = .ok (.aload_n 0, 1) := by decide +kernel
theorem dX6_best_24 : decode cX6_best 24 = .ok (.getfield 29, 3) := by decide +kernel
theorem dX6_best_27 : decode cX6_best 27 = .ok (.invokevirtual 117, 3) := by decide +kernel
theorem dX6_best_30 : decode cX6_best 30 = .ok (.invokevirtual 162, 3) := by decide +kernel
theorem dX6_best_33 : decode cX6_best 33 = .ok (.istore_n 3, 1) := by decide +kernel
theorem dX6_best_34 : decode cX6_best 34 = .ok (.iconst 0, 1) := by decide +kernel
theorem dX6_best_35 : decode cX6_best 35 = .ok (.istore 4, 2) := by decide +kernel
theorem dX6_best_37 : decode cX6_best 37 = .ok (.iload 4, 2) := by decide +kernel
theorem dX6_best_39 : decode cX6_best 39 = .ok (.bipush 6, 2) := by decide +kernel
theorem dX6_best_41 : decode cX6_best 41 = .ok (.if_icmp .ge 59, 3) := by decide +kernel
theorem dX6_best_44 : decode cX6_best 44 = .ok (.aload_n 0, 1) := by decide +kernel
theorem dX6_best_45 : decode cX6_best 45 = .ok (.getfield 24, 3) := by decide +kernel
theorem dX6_best_48 : decode cX6_best 48 = .ok (.iload 4, 2) := by decide +kernel
theorem dX6_best_50 : decode cX6_best 50 = .ok (.aaload, 1) := by decide +kernel
theorem dX6_best_51 : decode cX6_best 51 = .ok (.invokevirtual 196, 3) := by decide +kernel
theorem dX6_best_54 : decode cX6_best 54 = .ok (.ifCond .eq 40, 3) := by decide +kernel
theorem dX6_best_57 : decode cX6_best 57 = .ok (.aload_n 0, 1) := by decide +kernel
theorem dX6_best_58 : decode cX6_best 58 = .ok (.getfield 49, 3) := by decide +kernel
theorem dX6_best_61 : decode cX6_best 61 = .ok (.aload_n 0, 1) := by decide +kernel
theorem dX6_best_62 : decode cX6_best 62 = .ok (.getfield 18, 3) := by decide +kernel
theorem dX6_best_65 : decode cX6_best 65 = .ok (.iload_n 1, 1) := by decide +kernel
theorem dX6_best_66 : decode cX6_best 66 = .ok (.aaload, 1) := by decide +kernel
theorem dX6_best_67 : decode cX6_best 67 = .ok (.aload_n 0, 1) := by decide +kernel
theorem dX6_best_68 : decode cX6_best 68 = .ok (.getfield 24, 3) := by decide +kernel
theorem dX6_best_71 : decode cX6_best 71 = .ok (.iload 4, 2) := by decide +kernel
theorem dX6_best_73 : decode cX6_best 73 = .ok (.aaload, 1) := by decide +kernel
theorem dX6_best_74 : decode cX6_best 74 = .ok (.invokevirtual 117, 3) := by decide +kernel
theorem dX6_best_77 : decode cX6_best 77 = .ok (.invokevirtual 162, 3) := by decide +kernel
theorem dX6_best_80 : decode cX6_best 80 = .ok (.istore 5, 2) := by decide +kernel
theorem dX6_best_82 : decode cX6_best 82 = .ok (.iload 5, 2) := by decide +kernel
theorem dX6_best_84 : decode cX6_best 84 = .ok (.iload_n 3, 1) := by decide +kernel
theorem dX6_best_85 : decode cX6_best 85 = .ok (.if_icmp .ge 9, 3) := by decide +kernel
theorem dX6_best_88 : decode cX6_best 88 = .ok (.iload 5, 2) := by decide +kernel
theorem dX6_best_90 : decode cX6_best 90 = .ok (.istore_n 3, 1) := by decide +kernel
theorem dX6_best_91 : decode cX6_best 91 = .ok (.iload 4, 2) := by decide +kernel
theorem dX6_best_93 : decode cX6_best 93 = .ok (.istore_n 2, 1) := by decide +kernel
theorem dX6_best_94 : decode cX6_best 94 = .ok (.iinc 4 1, 3) := by decide +kernel
theorem dX6_best_97 : decode cX6_best 97 = .ok (.goto (-60), 3) := by decide +kernel
theorem dX6_best_100 : decode cX6_best 100 = .ok (.iload_n 2, 1) := by decide +kernel
theorem dX6_best_101 : decode cX6_best 101 = .ok (.ireturn, 1) := by decide +kernel
theorem dX6_share_0 : decode cX6_share 0 = .ok (.aload_n 0, 1) := by decide +kernel
theorem dX6_share_1 : decode cX6_share 1 = .ok (.iload_n 1, 1) := by decide +kernel
theorem dX6_share_2 : decode cX6_share 2 = .ok (.invokevirtual 121, 3) := by decide +kernel
theorem dX6_share_5 : decode cX6_share 5 = .ok (.astore_n 2, 1) := by decide +kernel
theorem dX6_share_6 : decode cX6_share 6 = .ok (.aload_n 2, 1) := by decide +kernel
theorem dX6_share_7 : decode cX6_share 7 = .ok (.ifnonnull 6, 3) := by decide +kernel
theorem dX6_share_10 : decode cX6_share 10 = .ok (.bipush (-101), 2) := by decide +kernel
theorem dX6_share_12 : decode cX6_share 12 = .ok (.ireturn, 1) := by decide +kernel
theorem dX6_share_13 : decode cX6_share 13 = .ok (.aload_n 0, 1) := by decide +kernel
theorem dX6_share_14 : decode cX6_share 14 = .ok (.aload_n 0, 1) := by decide +kernel
theorem dX6_share_15 : decode cX6_share 15 = .ok (.getfield 29, 3) := by decide +kernel
theorem dX6_share_18 : decode cX6_share 18 = .ok (.invokevirtual 117, 3) := by decide +kernel
theorem dX6_share_21 : decode cX6_share 21 = .ok (.invokevirtual 200, 3) := by decide +kernel
theorem dX6_share_24 : decode cX6_share 24 = .ok (.istore_n 3, 1) := by decide +kernel
theorem dX6_share_25 : decode cX6_share 25 = .ok (.iload_n 3, 1) := by decide +kernel
theorem dX6_share_26 : decode cX6_share 26 = .ok (.ifCond .ne 13, 3) := by decide +kernel
theorem dX6_share_29 : decode cX6_share 29 = .ok (.new 204, 3) := by decide +kernel
theorem dX6_share_32 : decode cX6_share 32 = .ok (.dup, 1) := by decide +kernel
theorem dX6_share_33 : decode cX6_share 33 = .ok (.ldc 206, 2) := by decide +kernel
theorem dX6_share_35 : decode cX6_share 35 = .ok (.invokespecial 208, 3) := by decide +kernel
theorem dX6_share_38 : decode cX6_share 38 = .ok (.athrow, 1) := by decide +kernel
theorem dX6_share_39 : decode cX6_share 39 = .ok (.iload_n 3, 1) := by decide +kernel
theorem dX6_share_40 : decode cX6_share 40 = .ok (.aload_n 0, 1) := by decide +kernel
theorem dX6_share_41 : decode cX6_share 41 = .ok (.aload_n 2, 1) := by decide +kernel
theorem dX6_share_42 : decode cX6_share 42 = .ok (.invokevirtual 117, 3) := by decide +kernel
theorem dX6_share_45 : decode cX6_share 45 = .ok (.invokevirtual 200, 3) := by decide +kernel
theorem dX6_share_48 : decode cX6_share 48 = .ok (.isub, 1) := by decide +kernel
theorem dX6_share_49 : decode cX6_share 49 = .ok (.sipush 1000, 3) := by decide +kernel
theorem dX6_share_52 : decode cX6_share 52 = .ok (.imul, 1) := by decide +kernel
theorem dX6_share_53 : decode cX6_share 53 = .ok (.iload_n 3, 1) := by decide +kernel
theorem dX6_share_54 : decode cX6_share 54 = .ok (.idiv, 1) := by decide +kernel
theorem dX6_share_55 : decode cX6_share 55 = .ok (.ireturn, 1) := by decide +kernel
theorem dX6_about_0 : decode cX6_about 0 = .ok (.iload_n 1, 1) := by decide +kernel
theorem dX6_about_1 : decode cX6_about 1 = .ok (.tableswitch 96 0 6 #[43, 51, 56, 61, 72, 80, 88], 43) := by decide +kernel
theorem dX6_about_44 : decode cX6_about 44 = .ok (.aload_n 0, 1) := by decide +kernel
theorem dX6_about_45 : decode cX6_about 45 = .ok (.getfield 14, 3) := by decide +kernel
theorem dX6_about_48 : decode cX6_about 48 = .ok (.invokevirtual 74, 3) := by decide +kernel
theorem dX6_about_51 : decode cX6_about 51 = .ok (.ireturn, 1) := by decide +kernel
theorem dX6_about_52 : decode cX6_about 52 = .ok (.aload_n 0, 1) := by decide +kernel
theorem dX6_about_53 : decode cX6_about 53 = .ok (.getfield 78, 3) := by decide +kernel
theorem dX6_about_56 : decode cX6_about 56 = .ok (.ireturn, 1) := by decide +kernel
theorem dX6_about_57 : decode cX6_about 57 = .ok (.aload_n 0, 1) := by decide +kernel
theorem dX6_about_58 : decode cX6_about 58 = .ok (.invokevirtual 209, 3) := by decide +kernel
theorem dX6_about_61 : decode cX6_about 61 = .ok (.ireturn, 1) := by decide +kernel
theorem dX6_about_62 : decode cX6_about 62 = .ok (.aload_n 0, 1) := by decide +kernel
theorem dX6_about_63 : decode cX6_about 63 = .ok (.getfield 42, 3) := by decide +kernel
theorem dX6_about_66 : decode cX6_about 66 = .ok (.invokevirtual 173, 3) := by decide +kernel
theorem dX6_about_69 : decode cX6_about 69 = .ok (.invokevirtual 74, 3) := by decide +kernel
theorem dX6_about_72 : decode cX6_about 72 = .ok (.ireturn, 1) := by decide +kernel
theorem dX6_about_73 : decode cX6_about 73 = .ok (.aload_n 0, 1) := by decide +kernel
theorem dX6_about_74 : decode cX6_about 74 = .ok (.getfield 36, 3) := by decide +kernel
theorem dX6_about_77 : decode cX6_about 77 = .ok (.invokevirtual 74, 3) := by decide +kernel
theorem dX6_about_80 : decode cX6_about 80 = .ok (.ireturn, 1) := by decide +kernel
theorem dX6_about_81 : decode cX6_about 81 = .ok (.aload_n 0, 1) := by decide +kernel
theorem dX6_about_82 : decode cX6_about 82 = .ok (.getfield 42, 3) := by decide +kernel
theorem dX6_about_85 : decode cX6_about 85 = .ok (.invokevirtual 212, 3) := by decide +kernel
theorem dX6_about_88 : decode cX6_about 88 = .ok (.ireturn, 1) := by decide +kernel
theorem dX6_about_89 : decode cX6_about 89 = .ok (.aload_n 0, 1) := by decide +kernel
theorem dX6_about_90 : decode cX6_about 90 = .ok (.getfield 42, 3) := by decide +kernel
theorem dX6_about_93 : decode cX6_about 93 = .ok (.invokevirtual 215, 3) := by decide +kernel
theorem dX6_about_96 : decode cX6_about 96 = .ok (.ireturn, 1) := by decide +kernel
theorem dX6_about_97 : decode cX6_about 97 = .ok (.bipush (-102), 2) := by decide +kernel
theorem dX6_about_99 : decode cX6_about 99 = .ok (.ireturn, 1) := by decide +kernel
theorem dX6_isNumber_0 : decode cX6_isNumber 0 = .ok (.iload_n 0, 1) := by decide +kernel
theorem dX6_isNumber_1 : decode cX6_isNumber 1 = .ok (.ifCond .lt 13, 3) := by decide +kernel
theorem dX6_isNumber_4 : decode cX6_isNumber 4 = .ok (.iload_n 0, 1) := by decide +kernel
theorem dX6_isNumber_5 : decode cX6_isNumber 5 = .ok (.bipush 6, 2) := by decide +kernel
theorem dX6_isNumber_7 : decode cX6_isNumber 7 = .ok (.if_icmp .ge 7, 3) := by decide +kernel
theorem dX6_isNumber_10 : decode cX6_isNumber 10 = .ok (.iconst 1, 1) := by decide +kernel
theorem dX6_isNumber_11 : decode cX6_isNumber 11 = .ok (.goto 4, 3) := by decide +kernel
theorem dX6_isNumber_14 : decode cX6_isNumber 14 = .ok (.iconst 0, 1) := by decide +kernel
theorem dX6_isNumber_15 : decode cX6_isNumber 15 = .ok (.ireturn, 1) := by decide +kernel
theorem dX6_isId_0 : decode cX6_isId 0 = .ok (.iload_n 0, 1) := by decide +kernel
theorem dX6_isId_1 : decode cX6_isId 1 = .ok (.iconst 1, 1) := by decide +kernel
theorem dX6_isId_2 : decode cX6_isId 2 = .ok (.if_icmp .lt 14, 3) := by decide +kernel
theorem dX6_isId_5 : decode cX6_isId 5 = .ok (.iload_n 0, 1) := by decide +kernel
theorem dX6_isId_6 : decode cX6_isId 6 = .ok (.sipush 255, 3) := by decide +kernel
theorem dX6_isId_9 : decode cX6_isId 9 = .ok (.if_icmp .gt 7, 3) := by decide +kernel
theorem dX6_isId_12 : decode cX6_isId 12 = .ok (.iconst 1, 1) := by decide +kernel
theorem dX6_isId_13 : decode cX6_isId 13 = .ok (.goto 4, 3) := by decide +kernel
theorem dX6_isId_16 : decode cX6_isId 16 = .ok (.iconst 0, 1) := by decide +kernel
theorem dX6_isId_17 : decode cX6_isId 17 = .ok (.ireturn, 1) := by decide +kernel
theorem dX6_isSample_0 : decode cX6_isSample 0 = .ok (.iload_n 1, 1) := by decide +kernel
theorem dX6_isSample_1 : decode cX6_isSample 1 = .ok (.ifCond .lt 15, 3) := by decide +kernel
theorem dX6_isSample_4 : decode cX6_isSample 4 = .ok (.iload_n 1, 1) := by decide +kernel
theorem dX6_isSample_5 : decode cX6_isSample 5 = .ok (.aload_n 0, 1) := by decide +kernel
theorem dX6_isSample_6 : decode cX6_isSample 6 = .ok (.getfield 78, 3) := by decide +kernel
theorem dX6_isSample_9 : decode cX6_isSample 9 = .ok (.if_icmp .ge 7, 3) := by decide +kernel
theorem dX6_isSample_12 : decode cX6_isSample 12 = .ok (.iconst 1, 1) := by decide +kernel
theorem dX6_isSample_13 : decode cX6_isSample 13 = .ok (.goto 4, 3) := by decide +kernel
theorem dX6_isSample_16 : decode cX6_isSample 16 = .ok (.iconst 0, 1) := by decide +kernel
theorem dX6_isSample_17 : decode cX6_isSample 17 = .ok (.ireturn, 1) := by decide +kernel
theorem dX6_thereAt_0 : decode cX6_thereAt 0 = .ok (.iload_n 1, 1) := by decide +kernel
theorem dX6_thereAt_1 : decode cX6_thereAt 1 = .ok (.invokestatic 89, 3) := by decide +kernel
theorem dX6_thereAt_4 : decode cX6_thereAt 4 = .ok (.ifCond .eq 24, 3) := by decide +kernel
theorem dX6_thereAt_7 : decode cX6_thereAt 7 = .ok (.aload_n 0, 1) := by decide +kernel
theorem dX6_thereAt_8 : decode cX6_thereAt 8 = .ok (.getfield 24, 3) := by decide +kernel
theorem dX6_thereAt_11 : decode cX6_thereAt 11 = .ok (.iload_n 1, 1) := by decide +kernel
theorem dX6_thereAt_12 : decode cX6_thereAt 12 = .ok (.aaload, 1) := by decide +kernel
theorem dX6_thereAt_13 : decode cX6_thereAt 13 = .ok (.invokevirtual 196, 3) := by decide +kernel
theorem dX6_thereAt_16 : decode cX6_thereAt 16 = .ok (.ifCond .eq 12, 3) := by decide +kernel
theorem dX6_thereAt_19 : decode cX6_thereAt 19 = .ok (.aload_n 0, 1) := by decide +kernel
theorem dX6_thereAt_20 : decode cX6_thereAt 20 = .ok (.getfield 24, 3) := by decide +kernel
theorem dX6_thereAt_23 : decode cX6_thereAt 23 = .ok (.iload_n 1, 1) := by decide +kernel
theorem dX6_thereAt_24 : decode cX6_thereAt 24 = .ok (.aaload, 1) := by decide +kernel
theorem dX6_thereAt_25 : decode cX6_thereAt 25 = .ok (.goto 4, 3) := by decide +kernel
theorem dX6_thereAt_28 : decode cX6_thereAt 28 = .ok (.aconst_null, 1) := by decide +kernel
theorem dX6_thereAt_29 : decode cX6_thereAt 29 = .ok (.areturn, 1) := by decide +kernel
theorem dX6_noneOrThereAt_0 : decode cX6_noneOrThereAt 0 = .ok (.iload_n 1, 1) := by decide +kernel
theorem dX6_noneOrThereAt_1 : decode cX6_noneOrThereAt 1 = .ok (.iconst (-1), 1) := by decide +kernel
theorem dX6_noneOrThereAt_2 : decode cX6_noneOrThereAt 2 = .ok (.if_icmp .ne 10, 3) := by decide +kernel
theorem dX6_noneOrThereAt_5 : decode cX6_noneOrThereAt 5 = .ok (.aload_n 0, 1) := by decide +kernel
theorem dX6_noneOrThereAt_6 : decode cX6_noneOrThereAt 6 = .ok (.getfield 29, 3) := by decide +kernel
theorem dX6_noneOrThereAt_9 : decode cX6_noneOrThereAt 9 = .ok (.goto 8, 3) := by decide +kernel
theorem dX6_noneOrThereAt_12 : decode cX6_noneOrThereAt 12 = .ok (.aload_n 0, 1) := by decide +kernel
theorem dX6_noneOrThereAt_13 : decode cX6_noneOrThereAt 13 = .ok (.iload_n 1, 1) := by decide +kernel
theorem dX6_noneOrThereAt_14 : decode cX6_noneOrThereAt 14 = .ok (.invokevirtual 121, 3) := by decide +kernel
theorem dX6_noneOrThereAt_17 : decode cX6_noneOrThereAt 17 = .ok (.areturn, 1) := by decide +kernel
theorem dX6_firstWithId_0 : decode cX6_firstWithId 0 = .ok (.iload_n 1, 1) := by decide +kernel
theorem dX6_firstWithId_1 : decode cX6_firstWithId 1 = .ok (.ifCond .ne 8, 3) := by decide +kernel
theorem dX6_firstWithId_4 : decode cX6_firstWithId 4 = .ok (.aload_n 0, 1) := by decide +kernel
theorem dX6_firstWithId_5 : decode cX6_firstWithId 5 = .ok (.getfield 29, 3) := by decide +kernel
theorem dX6_firstWithId_8 : decode cX6_firstWithId 8 = .ok (.areturn, 1) := by decide +kernel
theorem dX6_firstWithId_9 : decode cX6_firstWithId 9 = .ok (.iconst 0, 1) := by decide +kernel
theorem dX6_firstWithId_10 : decode cX6_firstWithId 10 = .ok (.istore_n 2, 1) := by decide +kernel
theorem dX6_firstWithId_11 : decode cX6_firstWithId 11 = .ok (.iload_n 2, 1) := by decide +kernel
theorem dX6_firstWithId_12 : decode cX6_firstWithId 12 = .ok (.bipush 6, 2) := by decide +kernel
theorem dX6_firstWithId_14 : decode cX6_firstWithId 14 = .ok (.if_icmp .ge 29, 3) := by decide +kernel
theorem dX6_firstWithId_17 : decode cX6_firstWithId 17 = .ok (.aload_n 0, 1) := by decide +kernel
theorem dX6_firstWithId_18 : decode cX6_firstWithId 18 = .ok (.getfield 24, 3) := by decide +kernel
theorem dX6_firstWithId_21 : decode cX6_firstWithId 21 = .ok (.iload_n 2, 1) := by decide +kernel
theorem dX6_firstWithId_22 : decode cX6_firstWithId 22 = .ok (.aaload, 1) := by decide +kernel
theorem dX6_firstWithId_23 : decode cX6_firstWithId 23 = .ok (.invokevirtual 129, 3) := by decide +kernel
theorem dX6_firstWithId_26 : decode cX6_firstWithId 26 = .ok (.iload_n 1, 1) := by decide +kernel
theorem dX6_firstWithId_27 : decode cX6_firstWithId 27 = .ok (.if_icmp .ne 10, 3) := by decide +kernel
theorem dX6_firstWithId_30 : decode cX6_firstWithId 30 = .ok (.aload_n 0, 1) := by decide +kernel
theorem dX6_firstWithId_31 : decode cX6_firstWithId 31 = .ok (.getfield 24, 3) := by decide +kernel
theorem dX6_firstWithId_34 : decode cX6_firstWithId 34 = .ok (.iload_n 2, 1) := by decide +kernel
theorem dX6_firstWithId_35 : decode cX6_firstWithId 35 = .ok (.aaload, 1) := by decide +kernel
theorem dX6_firstWithId_36 : decode cX6_firstWithId 36 = .ok (.areturn, 1) := by decide +kernel
theorem dX6_firstWithId_37 : decode cX6_firstWithId 37 = .ok (.iinc 2 1, 3) := by decide +kernel
theorem dX6_firstWithId_40 : decode cX6_firstWithId 40 = .ok (.goto (-29), 3) := by decide +kernel
theorem dX6_firstWithId_43 : decode cX6_firstWithId 43 = .ok (.aconst_null, 1) := by decide +kernel
theorem dX6_firstWithId_44 : decode cX6_firstWithId 44 = .ok (.areturn, 1) := by decide +kernel
theorem dX6_countThere_0 : decode cX6_countThere 0 = .ok (.iconst 0, 1) := by decide +kernel
theorem dX6_countThere_1 : decode cX6_countThere 1 = .ok (.istore_n 1, 1) := by decide +kernel
theorem dX6_countThere_2 : decode cX6_countThere 2 = .ok (.iconst 0, 1) := by decide +kernel
theorem dX6_countThere_3 : decode cX6_countThere 3 = .ok (.istore_n 2, 1) := by decide +kernel
theorem dX6_countThere_4 : decode cX6_countThere 4 = .ok (.iload_n 2, 1) := by decide +kernel
theorem dX6_countThere_5 : decode cX6_countThere 5 = .ok (.bipush 6, 2) := by decide +kernel
theorem dX6_countThere_7 : decode cX6_countThere 7 = .ok (.if_icmp .ge 24, 3) := by decide +kernel
theorem dX6_countThere_10 : decode cX6_countThere 10 = .ok (.aload_n 0, 1) := by decide +kernel
theorem dX6_countThere_11 : decode cX6_countThere 11 = .ok (.getfield 24, 3) := by decide +kernel
theorem dX6_countThere_14 : decode cX6_countThere 14 = .ok (.iload_n 2, 1) := by decide +kernel
theorem dX6_countThere_15 : decode cX6_countThere 15 = .ok (.aaload, 1) := by decide +kernel
theorem dX6_countThere_16 : decode cX6_countThere 16 = .ok (.invokevirtual 196, 3) := by decide +kernel
theorem dX6_countThere_19 : decode cX6_countThere 19 = .ok (.ifCond .eq 6, 3) := by decide +kernel
theorem dX6_countThere_22 : decode cX6_countThere 22 = .ok (.iinc 1 1, 3) := by decide +kernel
theorem dX6_countThere_25 : decode cX6_countThere 25 = .ok (.iinc 2 1, 3) := by decide +kernel
theorem dX6_countThere_28 : decode cX6_countThere 28 = .ok (.goto (-24), 3) := by decide +kernel
theorem dX6_countThere_31 : decode cX6_countThere 31 = .ok (.iload_n 1, 1) := by decide +kernel
theorem dX6_countThere_32 : decode cX6_countThere 32 = .ok (.ireturn, 1) := by decide +kernel
theorem dX6_bytesOfSamples_0 : decode cX6_bytesOfSamples 0 = .ok (.iconst 0, 1) := by decide +kernel
theorem dX6_bytesOfSamples_1 : decode cX6_bytesOfSamples 1 = .ok (.istore_n 2, 1) := by decide +kernel
theorem dX6_bytesOfSamples_2 : decode cX6_bytesOfSamples 2 = .ok (.iconst 0, 1) := by decide +kernel
theorem dX6_bytesOfSamples_3 : decode cX6_bytesOfSamples 3 = .ok (.istore_n 3, 1) := by decide +kernel
theorem dX6_bytesOfSamples_4 : decode cX6_bytesOfSamples 4 = .ok (.iload_n 3, 1) := by decide +kernel
theorem dX6_bytesOfSamples_5 : decode cX6_bytesOfSamples 5 = .ok (.aload_n 0, 1) := by decide +kernel
theorem dX6_bytesOfSamples_6 : decode cX6_bytesOfSamples 6 = .ok (.getfield 78, 3) := by decide +kernel
theorem dX6_bytesOfSamples_9 : decode cX6_bytesOfSamples 9 = .ok (.if_icmp .ge 26, 3) := by decide +kernel
theorem dX6_bytesOfSamples_12 : decode cX6_bytesOfSamples 12 = .ok (.iload_n 2, 1) := by decide +kernel
theorem dX6_bytesOfSamples_13 : decode cX6_bytesOfSamples 13 = .ok (.aload_n 0, 1) := by decide +kernel
theorem dX6_bytesOfSamples_14 : decode cX6_bytesOfSamples 14 = .ok (.getfield 49, 3) := by decide +kernel
theorem dX6_bytesOfSamples_17 : decode cX6_bytesOfSamples 17 = .ok (.aload_n 0, 1) := by decide +kernel
theorem dX6_bytesOfSamples_18 : decode cX6_bytesOfSamples 18 = .ok (.getfield 18, 3) := by decide +kernel
theorem dX6_bytesOfSamples_21 : decode cX6_bytesOfSamples 21 = .ok (.iload_n 3, 1) := by decide +kernel
theorem dX6_bytesOfSamples_22 : decode cX6_bytesOfSamples 22 = .ok (.aaload, 1) := by decide +kernel
theorem dX6_bytesOfSamples_23 : decode cX6_bytesOfSamples 23 = .ok (.aload_n 1, 1) := by decide +kernel
theorem dX6_bytesOfSamples_24 : decode cX6_bytesOfSamples 24 = .ok (.invokevirtual 162, 3) := by decide +kernel
theorem dX6_bytesOfSamples_27 : decode cX6_bytesOfSamples 27 = .ok (.iadd, 1) := by decide +kernel
theorem dX6_bytesOfSamples_28 : decode cX6_bytesOfSamples 28 = .ok (.istore_n 2, 1) := by decide +kernel
theorem dX6_bytesOfSamples_29 : decode cX6_bytesOfSamples 29 = .ok (.iinc 3 1, 3) := by decide +kernel
theorem dX6_bytesOfSamples_32 : decode cX6_bytesOfSamples 32 = .ok (.goto (-28), 3) := by decide +kernel
theorem dX6_bytesOfSamples_35 : decode cX6_bytesOfSamples 35 = .ok (.iload_n 2, 1) := by decide +kernel
theorem dX6_bytesOfSamples_36 : decode cX6_bytesOfSamples 36 = .ok (.ireturn, 1) := by decide +kernel
theorem dX6_leaveOutIdlePieces_0 : decode cX6_leaveOutIdlePieces 0 = .ok (.aload_n 1, 1) := by decide +kernel
theorem dX6_leaveOutIdlePieces_1 : decode cX6_leaveOutIdlePieces 1 = .ok (.invokevirtual 110, 3) := by decide +kernel
theorem dX6_leaveOutIdlePieces_4 : decode cX6_leaveOutIdlePieces 4 = .ok (.istore_n 2, 1) := by decide +kernel
theorem dX6_leaveOutIdlePieces_5 : decode cX6_leaveOutIdlePieces 5 = .ok (.aload_n 0, 1) := by decide +kernel
theorem dX6_leaveOutIdlePieces_6 : decode cX6_leaveOutIdlePieces 6 = .ok (.aload_n 1, 1) := by decide +kernel
theorem dX6_leaveOutIdlePieces_7 : decode cX6_leaveOutIdlePieces 7 = .ok (.invokevirtual 117, 3) := by decide +kernel
theorem dX6_leaveOutIdlePieces_10 : decode cX6_leaveOutIdlePieces 10 = .ok (.invokevirtual 200, 3) := by decide +kernel
theorem dX6_leaveOutIdlePieces_13 : decode cX6_leaveOutIdlePieces 13 = .ok (.istore_n 3, 1) := by decide +kernel
theorem dX6_leaveOutIdlePieces_14 : decode cX6_leaveOutIdlePieces 14 = .ok (.iconst 0, 1) := by decide +kernel
theorem dX6_leaveOutIdlePieces_15 : decode cX6_leaveOutIdlePieces 15 = .ok (.istore 4, 2) := by decide +kernel
theorem dX6_leaveOutIdlePieces_17 : decode cX6_leaveOutIdlePieces 17 = .ok (.iconst 0, 1) := by decide +kernel
theorem dX6_leaveOutIdlePieces_18 : decode cX6_leaveOutIdlePieces 18 = .ok (.istore 5, 2) := by decide +kernel
theorem dX6_leaveOutIdlePieces_20 : decode cX6_leaveOutIdlePieces 20 = .ok (.iload 5, 2) := by decide +kernel
theorem dX6_leaveOutIdlePieces_22 : decode cX6_leaveOutIdlePieces 22 = .ok (.iload_n 2, 1) := by decide +kernel
theorem dX6_leaveOutIdlePieces_23 : decode cX6_leaveOutIdlePieces 23 = .ok (.if_icmp .ge 50, 3) := by decide +kernel
theorem dX6_leaveOutIdlePieces_26 : decode cX6_leaveOutIdlePieces 26 = .ok (.aload_n 1, 1) := by decide +kernel
theorem dX6_leaveOutIdlePieces_27 : decode cX6_leaveOutIdlePieces 27 = .ok (.iload 4, 2) := by decide +kernel
theorem dX6_leaveOutIdlePieces_29 : decode cX6_leaveOutIdlePieces 29 = .ok (.aload_n 0, 1) := by decide +kernel
theorem dX6_leaveOutIdlePieces_30 : decode cX6_leaveOutIdlePieces 30 = .ok (.getfield 33, 3) := by decide +kernel
theorem dX6_leaveOutIdlePieces_33 : decode cX6_leaveOutIdlePieces 33 = .ok (.invokevirtual 218, 3) := by decide +kernel
theorem dX6_leaveOutIdlePieces_36 : decode cX6_leaveOutIdlePieces 36 = .ok (.aload_n 0, 1) := by decide +kernel
theorem dX6_leaveOutIdlePieces_37 : decode cX6_leaveOutIdlePieces 37 = .ok (.aload_n 0, 1) := by decide +kernel
theorem dX6_leaveOutIdlePieces_38 : decode cX6_leaveOutIdlePieces 38 = .ok (.getfield 33, 3) := by decide +kernel
theorem dX6_leaveOutIdlePieces_41 : decode cX6_leaveOutIdlePieces 41 = .ok (.invokevirtual 200, 3) := by decide +kernel
theorem dX6_leaveOutIdlePieces_44 : decode cX6_leaveOutIdlePieces 44 = .ok (.istore 6, 2) := by decide +kernel
theorem dX6_leaveOutIdlePieces_46 : decode cX6_leaveOutIdlePieces 46 = .ok (.iload 6, 2) := by decide +kernel
theorem dX6_leaveOutIdlePieces_48 : decode cX6_leaveOutIdlePieces 48 = .ok (.iload_n 3, 1) := by decide +kernel
theorem dX6_leaveOutIdlePieces_49 : decode cX6_leaveOutIdlePieces 49 = .ok (.if_icmp .gt 15, 3) := by decide +kernel
theorem dX6_leaveOutIdlePieces_52 : decode cX6_leaveOutIdlePieces 52 = .ok (.aload_n 1, 1) := by decide +kernel
theorem dX6_leaveOutIdlePieces_53 : decode cX6_leaveOutIdlePieces 53 = .ok (.iload 4, 2) := by decide +kernel
theorem dX6_leaveOutIdlePieces_55 : decode cX6_leaveOutIdlePieces 55 = .ok (.invokevirtual 222, 3) := by decide +kernel
theorem dX6_leaveOutIdlePieces_58 : decode cX6_leaveOutIdlePieces 58 = .ok (.iload 6, 2) := by decide +kernel
theorem dX6_leaveOutIdlePieces_60 : decode cX6_leaveOutIdlePieces 60 = .ok (.istore_n 3, 1) := by decide +kernel
theorem dX6_leaveOutIdlePieces_61 : decode cX6_leaveOutIdlePieces 61 = .ok (.goto 6, 3) := by decide +kernel
theorem dX6_leaveOutIdlePieces_64 : decode cX6_leaveOutIdlePieces 64 = .ok (.iinc 4 1, 3) := by decide +kernel
theorem dX6_leaveOutIdlePieces_67 : decode cX6_leaveOutIdlePieces 67 = .ok (.iinc 5 1, 3) := by decide +kernel
theorem dX6_leaveOutIdlePieces_70 : decode cX6_leaveOutIdlePieces 70 = .ok (.goto (-50), 3) := by decide +kernel
theorem dX6_leaveOutIdlePieces_73 : decode cX6_leaveOutIdlePieces 73 = .ok (.iload_n 2, 1) := by decide +kernel
theorem dX6_leaveOutIdlePieces_74 : decode cX6_leaveOutIdlePieces 74 = .ok (.aload_n 1, 1) := by decide +kernel
theorem dX6_leaveOutIdlePieces_75 : decode cX6_leaveOutIdlePieces 75 = .ok (.invokevirtual 110, 3) := by decide +kernel
theorem dX6_leaveOutIdlePieces_78 : decode cX6_leaveOutIdlePieces 78 = .ok (.isub, 1) := by decide +kernel
theorem dX6_leaveOutIdlePieces_79 : decode cX6_leaveOutIdlePieces 79 = .ok (.ireturn, 1) := by decide +kernel
end
section
theorem dX7_init_0 : decode cX7_init 0 = .ok (.aload_n 0, 1) := by decide +kernel
theorem dX7_init_1 : decode cX7_init 1 = .ok (.invokespecial 1, 3) := by decide +kernel
theorem dX7_init_4 : decode cX7_init 4 = .ok (.aload_n 0, 1) := by decide +kernel
theorem dX7_init_5 : decode cX7_init 5 = .ok (.sipush 200, 3) := by decide +kernel
theorem dX7_init_8 : decode cX7_init 8 = .ok (.newarray .int, 2) := by decide +kernel
theorem dX7_init_10 : decode cX7_init 10 = .ok (.putfield 7, 3) := by decide +kernel
theorem dX7_init_13 : decode cX7_init 13 = .ok (.aload_n 0, 1) := by decide +kernel
theorem dX7_init_14 : decode cX7_init 14 = .ok (.bipush 8, 2) := by decide +kernel
theorem dX7_init_16 : decode cX7_init 16 = .ok (.newarray .int, 2) := by decide +kernel
theorem dX7_init_18 : decode cX7_init 18 = .ok (.putfield 13, 3) := by decide +kernel
theorem dX7_init_21 : decode cX7_init 21 = .ok (.aload_n 0, 1) := by decide +kernel
theorem dX7_init_22 : decode cX7_init 22 = .ok (.sipush 320, 3) := by decide +kernel
theorem dX7_init_25 : decode cX7_init 25 = .ok (.newarray .int, 2) := by decide +kernel
theorem dX7_init_27 : decode cX7_init 27 = .ok (.putfield 16, 3) := by decide +kernel
theorem dX7_init_30 : decode cX7_init 30 = .ok (.aload_n 0, 1) := by decide +kernel
theorem dX7_init_31 : decode cX7_init 31 = .ok (.bipush 6, 2) := by decide +kernel
theorem dX7_init_33 : decode cX7_init 33 = .ok (.newarray .int, 2) := by decide +kernel
theorem dX7_init_35 : decode cX7_init 35 = .ok (.putfield 19, 3) := by decide +kernel
theorem dX7_init_38 : decode cX7_init 38 = .ok (.aload_n 0, 1) := by decide +kernel
theorem dX7_init_39 : decode cX7_init 39 = .ok (.bipush 6, 2) := by decide +kernel
theorem dX7_init_41 : decode cX7_init 41 = .ok (.newarray .int, 2) := by decide +kernel
theorem dX7_init_43 : decode cX7_init 43 = .ok (.putfield 22, 3) := by decide +kernel
theorem dX7_init_46 : decode cX7_init 46 = .ok (.aload_n 0, 1) := by decide +kernel
theorem dX7_init_47 : decode cX7_init 47 = .ok (.sipush 480, 3) := by decide +kernel
theorem dX7_init_50 : decode cX7_init 50 = .ok (.newarray .int, 2) := by decide +kernel
theorem dX7_init_52 : decode cX7_init 52 = .ok (.putfield 25, 3) := by decide +kernel
theorem dX7_init_55 : decode cX7_init 55 = .ok (.aload_n 0, 1) := by decide +kernel
theorem dX7_init_56 : decode cX7_init 56 = .ok (.bipush 6, 2) := by decide +kernel
theorem dX7_init_58 : decode cX7_init 58 = .ok (.newarray .int, 2) := by decide +kernel
theorem dX7_init_60 : decode cX7_init 60 = .ok (.putfield 28, 3) := by decide +kernel
theorem dX7_init_63 : decode cX7_init 63 = .ok (.aload_n 0, 1) := by decide +kernel
theorem dX7_init_64 : decode cX7_init 64 = .ok (.sipush 480, 3) := by decide +kernel
theorem dX7_init_67 : decode cX7_init 67 = .ok (.newarray .int, 2) := by decide +kernel
theorem dX7_init_69 : decode cX7_init 69 = .ok (.putfield 31, 3) := by decide +kernel
theorem dX7_init_72 : decode cX7_init 72 = .ok (.aload_n 0, 1) := by decide +kernel
theorem dX7_init_73 : decode cX7_init 73 = .ok (.sipush 320, 3) := by decide +kernel
theorem dX7_init_76 : decode cX7_init 76 = .ok (.newarray .boolean, 2) := by decide +kernel
theorem dX7_init_78 : decode cX7_init 78 = .ok (.putfield 34, 3) := by decide +kernel
theorem dX7_init_81 : decode cX7_init 81 = .ok (.aload_n 0, 1) := by decide +kernel
theorem dX7_init_82 : decode cX7_init 82 = .ok (.bipush 80, 2) := by decide +kernel
theorem dX7_init_84 : decode cX7_init 84 = .ok (.newarray .int, 2) := by decide +kernel
theorem dX7_init_86 : decode cX7_init 86 = .ok (.putfield 38, 3) := by decide +kernel
theorem dX7_init_89 : decode cX7_init 89 = .ok (.aload_n 0, 1) := by decide +kernel
theorem dX7_init_90 : decode cX7_init 90 = .ok (.sipush 280, 3) := by decide +kernel
theorem dX7_init_93 : decode cX7_init 93 = .ok (.newarray .int, 2) := by decide +kernel
theorem dX7_init_95 : decode cX7_init 95 = .ok (.putfield 41, 3) := by decide +kernel
theorem dX7_init_98 : decode cX7_init 98 = .ok (.aload_n 0, 1) := by decide +kernel
theorem dX7_init_99 : decode cX7_init 99 = .ok (.sipush 201, 3) := by decide +kernel
theorem dX7_init_102 : decode cX7_init 102 = .ok (.newarray .int, 2) := by decide +kernel
theorem dX7_init_104 : decode cX7_init 104 = .ok (.putfield 44, 3) := by decide +kernel
theorem dX7_init_107 : decode cX7_init 107 = .ok (.aload_n 0, 1) := by decide +kernel
theorem dX7_init_108 : decode cX7_init 108 = .ok (.sipush 2010, 3) := by decide +kernel
theorem dX7_init_111 : decode cX7_init 111 = .ok (.newarray .int, 2) := by decide +kernel
theorem dX7_init_113 : decode cX7_init 113 = .ok (.putfield 47, 3) := by decide +kernel
theorem dX7_init_116 : decode cX7_init 116 = .ok (.aload_n 0, 1) := by decide +kernel
theorem dX7_init_117 : decode cX7_init 117 = .ok (.sipush 400, 3) := by decide +kernel
theorem dX7_init_120 : decode cX7_init 120 = .ok (.newarray .int, 2) := by decide +kernel
theorem dX7_init_122 : decode cX7_init 122 = .ok (.putfield 50, 3) := by decide +kernel
theorem dX7_init_125 : decode cX7_init 125 = .ok (.aload_n 0, 1) := by decide +kernel
theorem dX7_init_126 : decode cX7_init 126 = .ok (.sipush 200, 3) := by decide +kernel
theorem dX7_init_129 : decode cX7_init 129 = .ok (.newarray .int, 2) := by decide +kernel
theorem dX7_init_131 : decode cX7_init 131 = .ok (.putfield 53, 3) := by decide +kernel
theorem dX7_init_134 : decode cX7_init 134 = .ok (.aload_n 0, 1) := by decide +kernel
theorem dX7_init_135 : decode cX7_init 135 = .ok (.iconst 0, 1) := by decide +kernel
theorem dX7_init_136 : decode cX7_init 136 = .ok (.putfield 56, 3) := by decide +kernel
theorem dX7_init_139 : decode cX7_init 139 = .ok (.return_, 1) := by decide +kernel
theorem dX7_thrown_0 : decode cX7_thrown 0 = .ok (.aload_n 0, 1) := by decide +kernel
theorem dX7_thrown_1 : decode cX7_thrown 1 = .ok (.getfield 60, 3) := by decide +kernel
theorem dX7_thrown_4 : decode cX7_thrown 4 = .ok (.ireturn, 1) := by decide +kernel
theorem dX7_in_0 : decode cX7_in 0 = .ok (.lload_n 0, 1) := by decide +kernel
theorem dX7_in_1 : decode cX7_in 1 = .ok (.lload_n 2, 1) := by decide +kernel
theorem dX7_in_2 : decode cX7_in 2 = .ok (.lcmp, 1) := by decide +kernel
theorem dX7_in_3 : decode cX7_in 3 = .ok (.ifCond .lt 14, 3) := by decide +kernel
theorem dX7_in_6 : decode cX7_in 6 = .ok (.lload_n 0, 1) := by decide +kernel
theorem dX7_in_7 : decode cX7_in 7 = .ok (.lload 4, 2) := by decide +kernel
theorem dX7_in_9 : decode cX7_in 9 = .ok (.lcmp, 1) := by decide +kernel
theorem dX7_in_10 : decode cX7_in 10 = .ok (.ifCond .gt 7, 3) := by decide +kernel
theorem dX7_in_13 : decode cX7_in 13 = .ok (.iconst 1, 1) := by decide +kernel
theorem dX7_in_14 : decode cX7_in 14 = .ok (.goto 4, 3) := by decide +kernel
theorem dX7_in_17 : decode cX7_in 17 = .ok (.iconst 0, 1) := by decide +kernel
theorem dX7_in_18 : decode cX7_in 18 = .ok (.ireturn, 1) := by decide +kernel
theorem dX7_feed_0 : decode cX7_feed 0 = .ok (.aload_n 0, 1) := by decide +kernel
theorem dX7_feed_1 : decode cX7_feed 1 = .ok (.iconst 0, 1) := by decide +kernel
theorem dX7_feed_2 : decode cX7_feed 2 = .ok (.putfield 60, 3) := by decide +kernel
theorem dX7_feed_5 : decode cX7_feed 5 = .ok (.iload_n 1, 1) := by decide +kernel
theorem dX7_feed_6 : decode cX7_feed 6 = .ok (.i2l, 1) := by decide +kernel
theorem dX7_feed_7 : decode cX7_feed 7 = .ok (.lconst 1, 1) := by decide +kernel
theorem dX7_feed_8 : decode cX7_feed 8 = .ok (.ldc2_w 63, 3) := by decide +kernel
theorem dX7_feed_11 : decode cX7_feed 11 = .ok (.invokestatic 65, 3) := by decide +kernel
theorem dX7_feed_14 : decode cX7_feed 14 = .ok (.ifCond .ne 6, 3) := by decide +kernel
theorem dX7_feed_17 : decode cX7_feed 17 = .ok (.bipush (-102), 2) := by decide +kernel
theorem dX7_feed_19 : decode cX7_feed 19 = .ok (.ireturn, 1) := by decide +kernel
theorem dX7_feed_20 : decode cX7_feed 20 = .ok (.aload_n 0, 1) := by decide +kernel
theorem dX7_feed_21 : decode cX7_feed 21 = .ok (.getfield 56, 3) := by decide +kernel
theorem dX7_feed_24 : decode cX7_feed 24 = .ok (.iload_n 1, 1) := by decide +kernel
theorem dX7_feed_25 : decode cX7_feed 25 = .ok (.iadd, 1) := by decide +kernel
theorem dX7_feed_26 : decode cX7_feed 26 = .ok (.sipush 200, 3) := by decide +kernel
theorem dX7_feed_29 : decode cX7_feed 29 = .ok (.if_icmp .le 6, 3) := by decide +kernel
theorem dX7_feed_32 : decode cX7_feed 32 = .ok (.bipush (-103), 2) := by decide +kernel
theorem dX7_feed_34 : decode cX7_feed 34 = .ok (.ireturn, 1) := by decide +kernel
theorem dX7_feed_35 : decode cX7_feed 35 = .ok (.iload_n 1, 1) := by decide +kernel
theorem dX7_feed_36 : decode cX7_feed 36 = .ok (.iconst 1, 1) := by decide +kernel
theorem dX7_feed_37 : decode cX7_feed 37 = .ok (.isub, 1) := by decide +kernel
theorem dX7_feed_38 : decode cX7_feed 38 = .ok (.istore 4, 2) := by decide +kernel
theorem dX7_feed_40 : decode cX7_feed 40 = .ok (.iload 4, 2) := by decide +kernel
theorem dX7_feed_42 : decode cX7_feed 42 = .ok (.ifCond .lt 40, 3) := by decide +kernel
theorem dX7_feed_45 : decode cX7_feed 45 = .ok (.aload_n 0, 1) := by decide +kernel
theorem dX7_feed_46 : decode cX7_feed 46 = .ok (.getfield 7, 3) := by decide +kernel
theorem dX7_feed_49 : decode cX7_feed 49 = .ok (.aload_n 0, 1) := by decide +kernel
theorem dX7_feed_50 : decode cX7_feed 50 = .ok (.getfield 56, 3) := by decide +kernel
theorem dX7_feed_53 : decode cX7_feed 53 = .ok (.lload_n 2, 1) := by decide +kernel
theorem dX7_feed_54 : decode cX7_feed 54 = .ok (.bipush 8, 2) := by decide +kernel
theorem dX7_feed_56 : decode cX7_feed 56 = .ok (.iload 4, 2) := by decide +kernel
theorem dX7_feed_58 : decode cX7_feed 58 = .ok (.imul, 1) := by decide +kernel
theorem dX7_feed_59 : decode cX7_feed 59 = .ok (.lshr, 1) := by decide +kernel
theorem dX7_feed_60 : decode cX7_feed 60 = .ok (.l2i, 1) := by decide +kernel
theorem dX7_feed_61 : decode cX7_feed 61 = .ok (.sipush 255, 3) := by decide +kernel
theorem dX7_feed_64 : decode cX7_feed 64 = .ok (.iand, 1) := by decide +kernel
theorem dX7_feed_65 : decode cX7_feed 65 = .ok (.iastore, 1) := by decide +kernel
theorem dX7_feed_66 : decode cX7_feed 66 = .ok (.aload_n 0, 1) := by decide +kernel
theorem dX7_feed_67 : decode cX7_feed 67 = .ok (.dup, 1) := by decide +kernel
theorem dX7_feed_68 : decode cX7_feed 68 = .ok (.getfield 56, 3) := by decide +kernel
theorem dX7_feed_71 : decode cX7_feed 71 = .ok (.iconst 1, 1) := by decide +kernel
theorem dX7_feed_72 : decode cX7_feed 72 = .ok (.iadd, 1) := by decide +kernel
theorem dX7_feed_73 : decode cX7_feed 73 = .ok (.putfield 56, 3) := by decide +kernel
theorem dX7_feed_76 : decode cX7_feed 76 = .ok (.iinc 4 (-1), 3) := by decide +kernel
theorem dX7_feed_79 : decode cX7_feed 79 = .ok (.goto (-39), 3) := by decide +kernel
theorem dX7_feed_82 : decode cX7_feed 82 = .ok (.aload_n 0, 1) := by decide +kernel
theorem dX7_feed_83 : decode cX7_feed 83 = .ok (.getfield 56, 3) := by decide +kernel
theorem dX7_feed_86 : decode cX7_feed 86 = .ok (.ireturn, 1) := by decide +kernel
theorem dX7_sample_0 : decode cX7_sample 0 = .ok (.aload_n 0, 1) := by decide +kernel
theorem dX7_sample_1 : decode cX7_sample 1 = .ok (.iconst 0, 1) := by decide +kernel
theorem dX7_sample_2 : decode cX7_sample 2 = .ok (.putfield 60, 3) := by decide +kernel
theorem dX7_sample_5 : decode cX7_sample 5 = .ok (.aload_n 0, 1) := by decide +kernel
theorem dX7_sample_6 : decode cX7_sample 6 = .ok (.getfield 56, 3) := by decide +kernel
theorem dX7_sample_9 : decode cX7_sample 9 = .ok (.i2l, 1) := by decide +kernel
theorem dX7_sample_10 : decode cX7_sample 10 = .ok (.lconst 1, 1) := by decide +kernel
theorem dX7_sample_11 : decode cX7_sample 11 = .ok (.ldc2_w 69, 3) := by decide +kernel
theorem dX7_sample_14 : decode cX7_sample 14 = .ok (.invokestatic 65, 3) := by decide +kernel
theorem dX7_sample_17 : decode cX7_sample 17 = .ok (.ifCond .ne 6, 3) := by decide +kernel
theorem dX7_sample_20 : decode cX7_sample 20 = .ok (.bipush (-102), 2) := by decide +kernel
theorem dX7_sample_22 : decode cX7_sample 22 = .ok (.ireturn, 1) := by decide +kernel
theorem dX7_sample_23 : decode cX7_sample 23 = .ok (.aload_n 0, 1) := by decide +kernel
theorem dX7_sample_24 : decode cX7_sample 24 = .ok (.getfield 71, 3) := by decide +kernel
theorem dX7_sample_27 : decode cX7_sample 27 = .ok (.bipush 8, 2) := by decide +kernel
theorem dX7_sample_29 : decode cX7_sample 29 = .ok (.if_icmp .ne 6, 3) := by decide +kernel
theorem dX7_sample_32 : decode cX7_sample 32 = .ok (.bipush (-103), 2) := by decide +kernel
theorem dX7_sample_34 : decode cX7_sample 34 = .ok (.ireturn, 1) := by decide +kernel
theorem dX7_sample_35 : decode cX7_sample 35 = .ok (.iconst 0, 1) := by decide +kernel
theorem dX7_sample_36 : decode cX7_sample 36 = .ok (.istore_n 1, 1) := by decide +kernel
theorem dX7_sample_37 : decode cX7_sample 37 = .ok (.iload_n 1, 1) := by decide +kernel
theorem dX7_sample_38 : decode cX7_sample 38 = .ok (.aload_n 0, 1) := by decide +kernel
theorem dX7_sample_39 : decode cX7_sample 39 = .ok (.getfield 56, 3) := by decide +kernel
theorem dX7_sample_42 : decode cX7_sample 42 = .ok (.if_icmp .ge 29, 3) := by decide +kernel
theorem dX7_sample_45 : decode cX7_sample 45 = .ok (.aload_n 0, 1) := by decide +kernel
theorem dX7_sample_46 : decode cX7_sample 46 = .ok (.getfield 16, 3) := by decide +kernel
theorem dX7_sample_49 : decode cX7_sample 49 = .ok (.bipush 40, 2) := by decide +kernel
theorem dX7_sample_51 : decode cX7_sample 51 = .ok (.aload_n 0, 1) := by decide +kernel
theorem dX7_sample_52 : decode cX7_sample 52 = .ok (.getfield 71, 3) := by decide +kernel
theorem dX7_sample_55 : decode cX7_sample 55 = .ok (.imul, 1) := by decide +kernel
theorem dX7_sample_56 : decode cX7_sample 56 = .ok (.iload_n 1, 1) := by decide +kernel
theorem dX7_sample_57 : decode cX7_sample 57 = .ok (.iadd, 1) := by decide +kernel
theorem dX7_sample_58 : decode cX7_sample 58 = .ok (.aload_n 0, 1) := by decide +kernel
theorem dX7_sample_59 : decode cX7_sample 59 = .ok (.getfield 7, 3) := by decide +kernel
theorem dX7_sample_62 : decode cX7_sample 62 = .ok (.iload_n 1, 1) := by decide +kernel
theorem dX7_sample_63 : decode cX7_sample 63 = .ok (.iaload, 1) := by decide +kernel
theorem dX7_sample_64 : decode cX7_sample 64 = .ok (.iastore, 1) := by decide +kernel
theorem dX7_sample_65 : decode cX7_sample 65 = .ok (.iinc 1 1, 3) := by decide +kernel
theorem dX7_sample_68 : decode cX7_sample 68 = .ok (.goto (-31), 3) := by decide +kernel
theorem dX7_sample_71 : decode cX7_sample 71 = .ok (.aload_n 0, 1) := by decide +kernel
theorem dX7_sample_72 : decode cX7_sample 72 = .ok (.getfield 13, 3) := by decide +kernel
theorem dX7_sample_75 : decode cX7_sample 75 = .ok (.aload_n 0, 1) := by decide +kernel
theorem dX7_sample_76 : decode cX7_sample 76 = .ok (.getfield 71, 3) := by decide +kernel
theorem dX7_sample_79 : decode cX7_sample 79 = .ok (.aload_n 0, 1) := by decide +kernel
theorem dX7_sample_80 : decode cX7_sample 80 = .ok (.getfield 56, 3) := by decide +kernel
theorem dX7_sample_83 : decode cX7_sample 83 = .ok (.iastore, 1) := by decide +kernel
theorem dX7_sample_84 : decode cX7_sample 84 = .ok (.aload_n 0, 1) := by decide +kernel
theorem dX7_sample_85 : decode cX7_sample 85 = .ok (.iconst 0, 1) := by decide +kernel
theorem dX7_sample_86 : decode cX7_sample 86 = .ok (.putfield 56, 3) := by decide +kernel
theorem dX7_sample_89 : decode cX7_sample 89 = .ok (.aload_n 0, 1) := by decide +kernel
theorem dX7_sample_90 : decode cX7_sample 90 = .ok (.dup, 1) := by decide +kernel
theorem dX7_sample_91 : decode cX7_sample 91 = .ok (.getfield 71, 3) := by decide +kernel
theorem dX7_sample_94 : decode cX7_sample 94 = .ok (.iconst 1, 1) := by decide +kernel
theorem dX7_sample_95 : decode cX7_sample 95 = .ok (.iadd, 1) := by decide +kernel
theorem dX7_sample_96 : decode cX7_sample 96 = .ok (.putfield 71, 3) := by decide +kernel
theorem dX7_sample_99 : decode cX7_sample 99 = .ok (.aload_n 0, 1) := by decide +kernel
theorem dX7_sample_100 : decode cX7_sample 100 = .ok (.getfield 71, 3) := by decide +kernel
theorem dX7_sample_103 : decode cX7_sample 103 = .ok (.iconst 1, 1) := by decide +kernel
theorem dX7_sample_104 : decode cX7_sample 104 = .ok (.isub, 1) := by decide +kernel
theorem dX7_sample_105 : decode cX7_sample 105 = .ok (.ireturn, 1) := by decide +kernel
theorem dX7_forget_0 : decode cX7_forget 0 = .ok (.aload_n 0, 1) := by decide +kernel
theorem dX7_forget_1 : decode cX7_forget 1 = .ok (.iconst 0, 1) := by decide +kernel
theorem dX7_forget_2 : decode cX7_forget 2 = .ok (.putfield 60, 3) := by decide +kernel
theorem dX7_forget_5 : decode cX7_forget 5 = .ok (.aload_n 0, 1) := by decide +kernel
theorem dX7_forget_6 : decode cX7_forget 6 = .ok (.getfield 71, 3) := by decide +kernel
theorem dX7_forget_9 : decode cX7_forget 9 = .ok (.istore_n 1, 1) := by decide +kernel
theorem dX7_forget_10 : decode cX7_forget 10 = .ok (.aload_n 0, 1) := by decide +kernel
theorem dX7_forget_11 : decode cX7_forget 11 = .ok (.iconst 0, 1) := by decide +kernel
theorem dX7_forget_12 : decode cX7_forget 12 = .ok (.putfield 71, 3) := by decide +kernel
theorem dX7_forget_15 : decode cX7_forget 15 = .ok (.iload_n 1, 1) := by decide +kernel
theorem dX7_forget_16 : decode cX7_forget 16 = .ok (.ireturn, 1) := by decide +kernel
theorem dX7_isOpen_0 : decode cX7_isOpen 0 = .ok (.iload_n 2, 1) := by decide +kernel
theorem dX7_isOpen_1 : decode cX7_isOpen 1 = .ok (.iload_n 3, 1) := by decide +kernel
theorem dX7_isOpen_2 : decode cX7_isOpen 2 = .ok (.iadd, 1) := by decide +kernel
theorem dX7_isOpen_3 : decode cX7_isOpen 3 = .ok (.aload_n 0, 1) := by decide +kernel
theorem dX7_isOpen_4 : decode cX7_isOpen 4 = .ok (.getfield 13, 3) := by decide +kernel
theorem dX7_isOpen_7 : decode cX7_isOpen 7 = .ok (.iload_n 1, 1) := by decide +kernel
theorem dX7_isOpen_8 : decode cX7_isOpen 8 = .ok (.iaload, 1) := by decide +kernel
theorem dX7_isOpen_9 : decode cX7_isOpen 9 = .ok (.if_icmp .gt 7, 3) := by decide +kernel
theorem dX7_isOpen_12 : decode cX7_isOpen 12 = .ok (.iconst 1, 1) := by decide +kernel
theorem dX7_isOpen_13 : decode cX7_isOpen 13 = .ok (.goto 4, 3) := by decide +kernel
theorem dX7_isOpen_16 : decode cX7_isOpen 16 = .ok (.iconst 0, 1) := by decide +kernel
theorem dX7_isOpen_17 : decode cX7_isOpen 17 = .ok (.istore 4, 2) := by decide +kernel
theorem dX7_isOpen_19 : decode cX7_isOpen 19 = .ok (.iconst 0, 1) := by decide +kernel
theorem dX7_isOpen_20 : decode cX7_isOpen 20 = .ok (.istore 5, 2) := by decide +kernel
theorem dX7_isOpen_22 : decode cX7_isOpen 22 = .ok (.iload 5, 2) := by decide +kernel
theorem dX7_isOpen_24 : decode cX7_isOpen 24 = .ok (.iload_n 3, 1) := by decide +kernel
theorem dX7_isOpen_25 : decode cX7_isOpen 25 = .ok (.if_icmp .ge 38, 3) := by decide +kernel
theorem dX7_isOpen_28 : decode cX7_isOpen 28 = .ok (.iload 4, 2) := by decide +kernel
theorem dX7_isOpen_30 : decode cX7_isOpen 30 = .ok (.ifCond .eq 33, 3) := by decide +kernel
theorem dX7_isOpen_33 : decode cX7_isOpen 33 = .ok (.aload_n 0, 1) := by decide +kernel
theorem dX7_isOpen_34 : decode cX7_isOpen 34 = .ok (.getfield 34, 3) := by decide +kernel
theorem dX7_isOpen_37 : decode cX7_isOpen 37 = .ok (.bipush 40, 2) := by decide +kernel
theorem dX7_isOpen_39 : decode cX7_isOpen 39 = .ok (.iload_n 1, 1) := by decide +kernel
theorem dX7_isOpen_40 : decode cX7_isOpen 40 = .ok (.imul, 1) := by decide +kernel
theorem dX7_isOpen_41 : decode cX7_isOpen 41 = .ok (.iload_n 2, 1) := by decide +kernel
theorem dX7_isOpen_42 : decode cX7_isOpen 42 = .ok (.iadd, 1) := by decide +kernel
theorem dX7_isOpen_43 : decode cX7_isOpen 43 = .ok (.iload 5, 2) := by decide +kernel
theorem dX7_isOpen_45 : decode cX7_isOpen 45 = .ok (.iadd, 1) := by decide +kernel
theorem dX7_isOpen_46 : decode cX7_isOpen 46 = .ok (.baload, 1) := by decide +kernel
theorem dX7_isOpen_47 : decode cX7_isOpen 47 = .ok (.ifCond .ne 7, 3) := by decide +kernel
theorem dX7_isOpen_50 : decode cX7_isOpen 50 = .ok (.iconst 1, 1) := by decide +kernel
theorem dX7_isOpen_51 : decode cX7_isOpen 51 = .ok (.goto 4, 3) := by decide +kernel
theorem dX7_isOpen_54 : decode cX7_isOpen 54 = .ok (.iconst 0, 1) := by decide +kernel
theorem dX7_isOpen_55 : decode cX7_isOpen 55 = .ok (.istore 4, 2) := by decide +kernel
theorem dX7_isOpen_57 : decode cX7_isOpen 57 = .ok (.iinc 5 1, 3) := by decide +kernel
theorem dX7_isOpen_60 : decode cX7_isOpen 60 = .ok (.goto (-38), 3) := by decide +kernel
theorem dX7_isOpen_63 : decode cX7_isOpen 63 = .ok (.iload 4, 2) := by decide +kernel
theorem dX7_isOpen_65 : decode cX7_isOpen 65 = .ok (.ireturn, 1) := by decide +kernel
theorem dX7_areAlike_0 : decode cX7_areAlike 0 = .ok (.iconst 1, 1) := by decide +kernel
theorem dX7_areAlike_1 : decode cX7_areAlike 1 = .ok (.istore 4, 2) := by decide +kernel
theorem dX7_areAlike_3 : decode cX7_areAlike 3 = .ok (.iconst 0, 1) := by decide +kernel
theorem dX7_areAlike_4 : decode cX7_areAlike 4 = .ok (.istore 5, 2) := by decide +kernel
theorem dX7_areAlike_6 : decode cX7_areAlike 6 = .ok (.iload 5, 2) := by decide +kernel
theorem dX7_areAlike_8 : decode cX7_areAlike 8 = .ok (.iload_n 3, 1) := by decide +kernel
theorem dX7_areAlike_9 : decode cX7_areAlike 9 = .ok (.if_icmp .ge 42, 3) := by decide +kernel
theorem dX7_areAlike_12 : decode cX7_areAlike 12 = .ok (.iload 4, 2) := by decide +kernel
theorem dX7_areAlike_14 : decode cX7_areAlike 14 = .ok (.ifCond .eq 37, 3) := by decide +kernel
theorem dX7_areAlike_17 : decode cX7_areAlike 17 = .ok (.aload_n 0, 1) := by decide +kernel
theorem dX7_areAlike_18 : decode cX7_areAlike 18 = .ok (.getfield 16, 3) := by decide +kernel
theorem dX7_areAlike_21 : decode cX7_areAlike 21 = .ok (.iload_n 1, 1) := by decide +kernel
theorem dX7_areAlike_22 : decode cX7_areAlike 22 = .ok (.iload 5, 2) := by decide +kernel
theorem dX7_areAlike_24 : decode cX7_areAlike 24 = .ok (.iadd, 1) := by decide +kernel
theorem dX7_areAlike_25 : decode cX7_areAlike 25 = .ok (.iaload, 1) := by decide +kernel
theorem dX7_areAlike_26 : decode cX7_areAlike 26 = .ok (.aload_n 0, 1) := by decide +kernel
theorem dX7_areAlike_27 : decode cX7_areAlike 27 = .ok (.getfield 16, 3) := by decide +kernel
theorem dX7_areAlike_30 : decode cX7_areAlike 30 = .ok (.iload_n 2, 1) := by decide +kernel
theorem dX7_areAlike_31 : decode cX7_areAlike 31 = .ok (.iload 5, 2) := by decide +kernel
theorem dX7_areAlike_33 : decode cX7_areAlike 33 = .ok (.iadd, 1) := by decide +kernel
theorem dX7_areAlike_34 : decode cX7_areAlike 34 = .ok (.iaload, 1) := by decide +kernel
theorem dX7_areAlike_35 : decode cX7_areAlike 35 = .ok (.if_icmp .ne 7, 3) := by decide +kernel
theorem dX7_areAlike_38 : decode cX7_areAlike 38 = .ok (.iconst 1, 1) := by decide +kernel
theorem dX7_areAlike_39 : decode cX7_areAlike 39 = .ok (.goto 4, 3) := by decide +kernel
theorem dX7_areAlike_42 : decode cX7_areAlike 42 = .ok (.iconst 0, 1) := by decide +kernel
theorem dX7_areAlike_43 : decode cX7_areAlike 43 = .ok (.istore 4, 2) := by decide +kernel
theorem dX7_areAlike_45 : decode cX7_areAlike 45 = .ok (.iinc 5 1, 3) := by decide +kernel
theorem dX7_areAlike_48 : decode cX7_areAlike 48 = .ok (.goto (-42), 3) := by decide +kernel
theorem dX7_areAlike_51 : decode cX7_areAlike 51 = .ok (.iload 4, 2) := by decide +kernel
theorem dX7_areAlike_53 : decode cX7_areAlike 53 = .ok (.ireturn, 1) := by decide +kernel
theorem dX7_counted_0 : decode cX7_counted 0 = .ok (.iconst 0, 1) := by decide +kernel
theorem dX7_counted_1 : decode cX7_counted 1 = .ok (.istore 4, 2) := by decide +kernel
theorem dX7_counted_3 : decode cX7_counted 3 = .ok (.iconst 0, 1) := by decide +kernel
theorem dX7_counted_4 : decode cX7_counted 4 = .ok (.istore 5, 2) := by decide +kernel
theorem dX7_counted_6 : decode cX7_counted 6 = .ok (.iload 5, 2) := by decide +kernel
theorem dX7_counted_8 : decode cX7_counted 8 = .ok (.aload_n 0, 1) := by decide +kernel
theorem dX7_counted_9 : decode cX7_counted 9 = .ok (.getfield 71, 3) := by decide +kernel
theorem dX7_counted_12 : decode cX7_counted 12 = .ok (.if_icmp .ge 109, 3) := by decide +kernel
theorem dX7_counted_15 : decode cX7_counted 15 = .ok (.iconst 0, 1) := by decide +kernel
theorem dX7_counted_16 : decode cX7_counted 16 = .ok (.istore 6, 2) := by decide +kernel
theorem dX7_counted_18 : decode cX7_counted 18 = .ok (.iload 6, 2) := by decide +kernel
theorem dX7_counted_20 : decode cX7_counted 20 = .ok (.iload_n 2, 1) := by decide +kernel
theorem dX7_counted_21 : decode cX7_counted 21 = .ok (.iadd, 1) := by decide +kernel
theorem dX7_counted_22 : decode cX7_counted 22 = .ok (.aload_n 0, 1) := by decide +kernel
theorem dX7_counted_23 : decode cX7_counted 23 = .ok (.getfield 13, 3) := by decide +kernel
theorem dX7_counted_26 : decode cX7_counted 26 = .ok (.iload 5, 2) := by decide +kernel
theorem dX7_counted_28 : decode cX7_counted 28 = .ok (.iaload, 1) := by decide +kernel
theorem dX7_counted_29 : decode cX7_counted 29 = .ok (.if_icmp .gt 86, 3) := by decide +kernel
theorem dX7_counted_32 : decode cX7_counted 32 = .ok (.aload_n 0, 1) := by decide +kernel
theorem dX7_counted_33 : decode cX7_counted 33 = .ok (.iload_n 1, 1) := by decide +kernel
theorem dX7_counted_34 : decode cX7_counted 34 = .ok (.bipush 40, 2) := by decide +kernel
theorem dX7_counted_36 : decode cX7_counted 36 = .ok (.iload 5, 2) := by decide +kernel
theorem dX7_counted_38 : decode cX7_counted 38 = .ok (.imul, 1) := by decide +kernel
theorem dX7_counted_39 : decode cX7_counted 39 = .ok (.iload 6, 2) := by decide +kernel
theorem dX7_counted_41 : decode cX7_counted 41 = .ok (.iadd, 1) := by decide +kernel
theorem dX7_counted_42 : decode cX7_counted 42 = .ok (.iload_n 2, 1) := by decide +kernel
theorem dX7_counted_43 : decode cX7_counted 43 = .ok (.invokevirtual 74, 3) := by decide +kernel
theorem dX7_counted_46 : decode cX7_counted 46 = .ok (.ifCond .eq 63, 3) := by decide +kernel
theorem dX7_counted_49 : decode cX7_counted 49 = .ok (.aload_n 0, 1) := by decide +kernel
theorem dX7_counted_50 : decode cX7_counted 50 = .ok (.iload 5, 2) := by decide +kernel
theorem dX7_counted_52 : decode cX7_counted 52 = .ok (.iload 6, 2) := by decide +kernel
theorem dX7_counted_54 : decode cX7_counted 54 = .ok (.iload_n 2, 1) := by decide +kernel
theorem dX7_counted_55 : decode cX7_counted 55 = .ok (.invokevirtual 78, 3) := by decide +kernel
theorem dX7_counted_58 : decode cX7_counted 58 = .ok (.ifCond .eq 51, 3) := by decide +kernel
theorem dX7_counted_61 : decode cX7_counted 61 = .ok (.iinc 4 1, 3) := by decide +kernel
theorem dX7_counted_64 : decode cX7_counted 64 = .ok (.iconst 0, 1) := by decide +kernel
theorem dX7_counted_65 : decode cX7_counted 65 = .ok (.istore 7, 2) := by decide +kernel
theorem dX7_counted_67 : decode cX7_counted 67 = .ok (.iload 7, 2) := by decide +kernel
theorem dX7_counted_69 : decode cX7_counted 69 = .ok (.iload_n 2, 1) := by decide +kernel
theorem dX7_counted_70 : decode cX7_counted 70 = .ok (.if_icmp .ge 30, 3) := by decide +kernel
theorem dX7_counted_73 : decode cX7_counted 73 = .ok (.iload_n 3, 1) := by decide +kernel
theorem dX7_counted_74 : decode cX7_counted 74 = .ok (.ifCond .eq 26, 3) := by decide +kernel
theorem dX7_counted_77 : decode cX7_counted 77 = .ok (.aload_n 0, 1) := by decide +kernel
theorem dX7_counted_78 : decode cX7_counted 78 = .ok (.getfield 34, 3) := by decide +kernel
theorem dX7_counted_81 : decode cX7_counted 81 = .ok (.bipush 40, 2) := by decide +kernel
theorem dX7_counted_83 : decode cX7_counted 83 = .ok (.iload 5, 2) := by decide +kernel
theorem dX7_counted_85 : decode cX7_counted 85 = .ok (.imul, 1) := by decide +kernel
theorem dX7_counted_86 : decode cX7_counted 86 = .ok (.iload 6, 2) := by decide +kernel
theorem dX7_counted_88 : decode cX7_counted 88 = .ok (.iadd, 1) := by decide +kernel
theorem dX7_counted_89 : decode cX7_counted 89 = .ok (.iload 7, 2) := by decide +kernel
theorem dX7_counted_91 : decode cX7_counted 91 = .ok (.iadd, 1) := by decide +kernel
theorem dX7_counted_92 : decode cX7_counted 92 = .ok (.iconst 1, 1) := by decide +kernel
theorem dX7_counted_93 : decode cX7_counted 93 = .ok (.bastore, 1) := by decide +kernel
theorem dX7_counted_94 : decode cX7_counted 94 = .ok (.iinc 7 1, 3) := by decide +kernel
theorem dX7_counted_97 : decode cX7_counted 97 = .ok (.goto (-30), 3) := by decide +kernel
theorem dX7_counted_100 : decode cX7_counted 100 = .ok (.iload 6, 2) := by decide +kernel
theorem dX7_counted_102 : decode cX7_counted 102 = .ok (.iload_n 2, 1) := by decide +kernel
theorem dX7_counted_103 : decode cX7_counted 103 = .ok (.iadd, 1) := by decide +kernel
theorem dX7_counted_104 : decode cX7_counted 104 = .ok (.istore 6, 2) := by decide +kernel
theorem dX7_counted_106 : decode cX7_counted 106 = .ok (.goto (-88), 3) := by decide +kernel
theorem dX7_counted_109 : decode cX7_counted 109 = .ok (.iinc 6 1, 3) := by decide +kernel
theorem dX7_counted_112 : decode cX7_counted 112 = .ok (.goto (-94), 3) := by decide +kernel
theorem dX7_counted_115 : decode cX7_counted 115 = .ok (.iinc 5 1, 3) := by decide +kernel
theorem dX7_counted_118 : decode cX7_counted 118 = .ok (.goto (-112), 3) := by decide +kernel
theorem dX7_counted_121 : decode cX7_counted 121 = .ok (.iload 4, 2) := by decide +kernel
theorem dX7_counted_123 : decode cX7_counted 123 = .ok (.ireturn, 1) := by decide +kernel
theorem dX7_train_0 : decode cX7_train 0 = .ok (.aload_n 0, 1) := by decide +kernel
theorem dX7_train_1 : decode cX7_train 1 = .ok (.iconst 0, 1) := by decide +kernel
theorem dX7_train_2 : decode cX7_train 2 = .ok (.putfield 60, 3) := by decide +kernel
theorem dX7_train_5 : decode cX7_train 5 = .ok (.iload_n 1, 1) := by decide +kernel
theorem dX7_train_6 : decode cX7_train 6 = .ok (.i2l, 1) := by decide +kernel
theorem dX7_train_7 : decode cX7_train 7 = .ok (.lconst 0, 1) := by decide +kernel
theorem dX7_train_8 : decode cX7_train 8 = .ok (.ldc2_w 81, 3) := by decide +kernel
theorem dX7_train_11 : decode cX7_train 11 = .ok (.invokestatic 65, 3) := by decide +kernel
theorem dX7_train_14 : decode cX7_train 14 = .ok (.ifCond .ne 6, 3) := by decide +kernel
theorem dX7_train_17 : decode cX7_train 17 = .ok (.bipush (-101), 2) := by decide +kernel
theorem dX7_train_19 : decode cX7_train 19 = .ok (.ireturn, 1) := by decide +kernel
theorem dX7_train_20 : decode cX7_train 20 = .ok (.iload_n 2, 1) := by decide +kernel
theorem dX7_train_21 : decode cX7_train 21 = .ok (.i2l, 1) := by decide +kernel
theorem dX7_train_22 : decode cX7_train 22 = .ok (.lconst 1, 1) := by decide +kernel
theorem dX7_train_23 : decode cX7_train 23 = .ok (.ldc2_w 83, 3) := by decide +kernel
theorem dX7_train_26 : decode cX7_train 26 = .ok (.invokestatic 65, 3) := by decide +kernel
theorem dX7_train_29 : decode cX7_train 29 = .ok (.ifCond .eq 30, 3) := by decide +kernel
theorem dX7_train_32 : decode cX7_train 32 = .ok (.iload_n 3, 1) := by decide +kernel
theorem dX7_train_33 : decode cX7_train 33 = .ok (.i2l, 1) := by decide +kernel
theorem dX7_train_34 : decode cX7_train 34 = .ok (.ldc2_w 85, 3) := by decide +kernel
theorem dX7_train_37 : decode cX7_train 37 = .ok (.ldc2_w 63, 3) := by decide +kernel
theorem dX7_train_40 : decode cX7_train 40 = .ok (.invokestatic 65, 3) := by decide +kernel
theorem dX7_train_43 : decode cX7_train 43 = .ok (.ifCond .eq 16, 3) := by decide +kernel
theorem dX7_train_46 : decode cX7_train 46 = .ok (.iload 4, 2) := by decide +kernel
theorem dX7_train_48 : decode cX7_train 48 = .ok (.i2l, 1) := by decide +kernel
theorem dX7_train_49 : decode cX7_train 49 = .ok (.lconst 0, 1) := by decide +kernel
theorem dX7_train_50 : decode cX7_train 50 = .ok (.ldc2_w 87, 3) := by decide +kernel
theorem dX7_train_53 : decode cX7_train 53 = .ok (.invokestatic 65, 3) := by decide +kernel
theorem dX7_train_56 : decode cX7_train 56 = .ok (.ifCond .ne 6, 3) := by decide +kernel
theorem dX7_train_59 : decode cX7_train 59 = .ok (.bipush (-102), 2) := by decide +kernel
theorem dX7_train_61 : decode cX7_train 61 = .ok (.ireturn, 1) := by decide +kernel
theorem dX7_train_62 : decode cX7_train 62 = .ok (.aload_n 0, 1) := by decide +kernel
theorem dX7_train_63 : decode cX7_train 63 = .ok (.getfield 71, 3) := by decide +kernel
theorem dX7_train_66 : decode cX7_train 66 = .ok (.ifCond .ne 6, 3) := by decide +kernel
theorem dX7_train_69 : decode cX7_train 69 = .ok (.bipush (-104), 2) := by decide +kernel
theorem dX7_train_71 : decode cX7_train 71 = .ok (.ireturn, 1) := by decide +kernel
theorem dX7_train_72 : decode cX7_train 72 = .ok (.iconst 0, 1) := by decide +kernel
theorem dX7_train_73 : decode cX7_train 73 = .ok (.istore 5, 2) := by decide +kernel
theorem dX7_train_75 : decode cX7_train 75 = .ok (.iload 5, 2) := by decide +kernel
theorem dX7_train_77 : decode cX7_train 77 = .ok (.sipush 320, 3) := by decide +kernel
theorem dX7_train_80 : decode cX7_train 80 = .ok (.if_icmp .ge 17, 3) := by decide +kernel
theorem dX7_train_83 : decode cX7_train 83 = .ok (.aload_n 0, 1) := by decide +kernel
theorem dX7_train_84 : decode cX7_train 84 = .ok (.getfield 34, 3) := by decide +kernel
theorem dX7_train_87 : decode cX7_train 87 = .ok (.iload 5, 2) := by decide +kernel
theorem dX7_train_89 : decode cX7_train 89 = .ok (.iconst 0, 1) := by decide +kernel
theorem dX7_train_90 : decode cX7_train 90 = .ok (.bastore, 1) := by decide +kernel
theorem dX7_train_91 : decode cX7_train 91 = .ok (.iinc 5 1, 3) := by decide +kernel
theorem dX7_train_94 : decode cX7_train 94 = .ok (.goto (-19), 3) := by decide +kernel
theorem dX7_train_97 : decode cX7_train 97 = .ok (.aload_n 0, 1) := by decide +kernel
theorem dX7_train_98 : decode cX7_train 98 = .ok (.iconst 0, 1) := by decide +kernel
theorem dX7_train_99 : decode cX7_train 99 = .ok (.putfield 89, 3) := by decide +kernel
theorem dX7_train_102 : decode cX7_train 102 = .ok (.iconst 1, 1) := by decide +kernel
theorem dX7_train_103 : decode cX7_train 103 = .ok (.istore 5, 2) := by decide +kernel
theorem dX7_train_105 : decode cX7_train 105 = .ok (.iload 5, 2) := by decide +kernel
theorem dX7_train_107 : decode cX7_train 107 = .ok (.ifCond .eq 211, 3) := by decide +kernel
theorem dX7_train_110 : decode cX7_train 110 = .ok (.iconst (-1), 1) := by decide +kernel
theorem dX7_train_111 : decode cX7_train 111 = .ok (.istore 6, 2) := by decide +kernel
theorem dX7_train_113 : decode cX7_train 113 = .ok (.iconst 0, 1) := by decide +kernel
theorem dX7_train_114 : decode cX7_train 114 = .ok (.istore 7, 2) := by decide +kernel
theorem dX7_train_116 : decode cX7_train 116 = .ok (.iconst 0, 1) := by decide +kernel
theorem dX7_train_117 : decode cX7_train 117 = .ok (.istore 8, 2) := by decide +kernel
theorem dX7_train_119 : decode cX7_train 119 = .ok (.iload 8, 2) := by decide +kernel
theorem dX7_train_121 : decode cX7_train 121 = .ok (.aload_n 0, 1) := by decide +kernel
theorem dX7_train_122 : decode cX7_train 122 = .ok (.getfield 71, 3) := by decide +kernel
theorem dX7_train_125 : decode cX7_train 125 = .ok (.if_icmp .ge 95, 3) := by decide +kernel
end
section
theorem dX7_train_128 : decode cX7_train 128 = .ok (.iconst 0, 1) := by decide +kernel
theorem dX7_train_129 : decode cX7_train 129 = .ok (.istore 9, 2) := by decide +kernel
theorem dX7_train_131 : decode cX7_train 131 = .ok (.iload 9, 2) := by decide +kernel
theorem dX7_train_133 : decode cX7_train 133 = .ok (.iload_n 3, 1) := by decide +kernel
theorem dX7_train_134 : decode cX7_train 134 = .ok (.iadd, 1) := by decide +kernel
theorem dX7_train_135 : decode cX7_train 135 = .ok (.aload_n 0, 1) := by decide +kernel
theorem dX7_train_136 : decode cX7_train 136 = .ok (.getfield 13, 3) := by decide +kernel
theorem dX7_train_139 : decode cX7_train 139 = .ok (.iload 8, 2) := by decide +kernel
theorem dX7_train_141 : decode cX7_train 141 = .ok (.iaload, 1) := by decide +kernel
theorem dX7_train_142 : decode cX7_train 142 = .ok (.if_icmp .gt 72, 3) := by decide +kernel
theorem dX7_train_145 : decode cX7_train 145 = .ok (.aload_n 0, 1) := by decide +kernel
theorem dX7_train_146 : decode cX7_train 146 = .ok (.iload 8, 2) := by decide +kernel
theorem dX7_train_148 : decode cX7_train 148 = .ok (.iload 9, 2) := by decide +kernel
theorem dX7_train_150 : decode cX7_train 150 = .ok (.iload_n 3, 1) := by decide +kernel
theorem dX7_train_151 : decode cX7_train 151 = .ok (.invokevirtual 78, 3) := by decide +kernel
theorem dX7_train_154 : decode cX7_train 154 = .ok (.ifCond .eq 54, 3) := by decide +kernel
theorem dX7_train_157 : decode cX7_train 157 = .ok (.iload_n 3, 1) := by decide +kernel
theorem dX7_train_158 : decode cX7_train 158 = .ok (.iconst 2, 1) := by decide +kernel
theorem dX7_train_159 : decode cX7_train 159 = .ok (.isub, 1) := by decide +kernel
theorem dX7_train_160 : decode cX7_train 160 = .ok (.aload_n 0, 1) := by decide +kernel
theorem dX7_train_161 : decode cX7_train 161 = .ok (.bipush 40, 2) := by decide +kernel
theorem dX7_train_163 : decode cX7_train 163 = .ok (.iload 8, 2) := by decide +kernel
theorem dX7_train_165 : decode cX7_train 165 = .ok (.imul, 1) := by decide +kernel
theorem dX7_train_166 : decode cX7_train 166 = .ok (.iload 9, 2) := by decide +kernel
theorem dX7_train_168 : decode cX7_train 168 = .ok (.iadd, 1) := by decide +kernel
theorem dX7_train_169 : decode cX7_train 169 = .ok (.iload_n 3, 1) := by decide +kernel
theorem dX7_train_170 : decode cX7_train 170 = .ok (.iconst 0, 1) := by decide +kernel
theorem dX7_train_171 : decode cX7_train 171 = .ok (.invokevirtual 92, 3) := by decide +kernel
theorem dX7_train_174 : decode cX7_train 174 = .ok (.imul, 1) := by decide +kernel
theorem dX7_train_175 : decode cX7_train 175 = .ok (.iload_n 3, 1) := by decide +kernel
theorem dX7_train_176 : decode cX7_train 176 = .ok (.isub, 1) := by decide +kernel
theorem dX7_train_177 : decode cX7_train 177 = .ok (.iconst 1, 1) := by decide +kernel
theorem dX7_train_178 : decode cX7_train 178 = .ok (.isub, 1) := by decide +kernel
theorem dX7_train_179 : decode cX7_train 179 = .ok (.istore 10, 2) := by decide +kernel
theorem dX7_train_181 : decode cX7_train 181 = .ok (.iload 6, 2) := by decide +kernel
theorem dX7_train_183 : decode cX7_train 183 = .ok (.iconst (-1), 1) := by decide +kernel
theorem dX7_train_184 : decode cX7_train 184 = .ok (.if_icmp .eq 10, 3) := by decide +kernel
theorem dX7_train_187 : decode cX7_train 187 = .ok (.iload 10, 2) := by decide +kernel
theorem dX7_train_189 : decode cX7_train 189 = .ok (.iload 7, 2) := by decide +kernel
theorem dX7_train_191 : decode cX7_train 191 = .ok (.if_icmp .le 17, 3) := by decide +kernel
theorem dX7_train_194 : decode cX7_train 194 = .ok (.bipush 40, 2) := by decide +kernel
theorem dX7_train_196 : decode cX7_train 196 = .ok (.iload 8, 2) := by decide +kernel
theorem dX7_train_198 : decode cX7_train 198 = .ok (.imul, 1) := by decide +kernel
theorem dX7_train_199 : decode cX7_train 199 = .ok (.iload 9, 2) := by decide +kernel
theorem dX7_train_201 : decode cX7_train 201 = .ok (.iadd, 1) := by decide +kernel
theorem dX7_train_202 : decode cX7_train 202 = .ok (.istore 6, 2) := by decide +kernel
theorem dX7_train_204 : decode cX7_train 204 = .ok (.iload 10, 2) := by decide +kernel
theorem dX7_train_206 : decode cX7_train 206 = .ok (.istore 7, 2) := by decide +kernel
theorem dX7_train_208 : decode cX7_train 208 = .ok (.iinc 9 1, 3) := by decide +kernel
theorem dX7_train_211 : decode cX7_train 211 = .ok (.goto (-80), 3) := by decide +kernel
theorem dX7_train_214 : decode cX7_train 214 = .ok (.iinc 8 1, 3) := by decide +kernel
theorem dX7_train_217 : decode cX7_train 217 = .ok (.goto (-98), 3) := by decide +kernel
theorem dX7_train_220 : decode cX7_train 220 = .ok (.iload 6, 2) := by decide +kernel
theorem dX7_train_222 : decode cX7_train 222 = .ok (.iconst (-1), 1) := by decide +kernel
theorem dX7_train_223 : decode cX7_train 223 = .ok (.if_icmp .eq 25, 3) := by decide +kernel
theorem dX7_train_226 : decode cX7_train 226 = .ok (.iload 7, 2) := by decide +kernel
theorem dX7_train_228 : decode cX7_train 228 = .ok (.ifCond .le 20, 3) := by decide +kernel
theorem dX7_train_231 : decode cX7_train 231 = .ok (.iload_n 3, 1) := by decide +kernel
theorem dX7_train_232 : decode cX7_train 232 = .ok (.aload_n 0, 1) := by decide +kernel
theorem dX7_train_233 : decode cX7_train 233 = .ok (.getfield 89, 3) := by decide +kernel
theorem dX7_train_236 : decode cX7_train 236 = .ok (.iconst 1, 1) := by decide +kernel
theorem dX7_train_237 : decode cX7_train 237 = .ok (.iadd, 1) := by decide +kernel
theorem dX7_train_238 : decode cX7_train 238 = .ok (.imul, 1) := by decide +kernel
theorem dX7_train_239 : decode cX7_train 239 = .ok (.iload 4, 2) := by decide +kernel
theorem dX7_train_241 : decode cX7_train 241 = .ok (.if_icmp .gt 7, 3) := by decide +kernel
theorem dX7_train_244 : decode cX7_train 244 = .ok (.iconst 1, 1) := by decide +kernel
theorem dX7_train_245 : decode cX7_train 245 = .ok (.goto 4, 3) := by decide +kernel
theorem dX7_train_248 : decode cX7_train 248 = .ok (.iconst 0, 1) := by decide +kernel
theorem dX7_train_249 : decode cX7_train 249 = .ok (.istore 5, 2) := by decide +kernel
theorem dX7_train_251 : decode cX7_train 251 = .ok (.iload 5, 2) := by decide +kernel
theorem dX7_train_253 : decode cX7_train 253 = .ok (.ifCond .eq 62, 3) := by decide +kernel
theorem dX7_train_256 : decode cX7_train 256 = .ok (.iconst 0, 1) := by decide +kernel
theorem dX7_train_257 : decode cX7_train 257 = .ok (.istore 8, 2) := by decide +kernel
theorem dX7_train_259 : decode cX7_train 259 = .ok (.iload 8, 2) := by decide +kernel
theorem dX7_train_261 : decode cX7_train 261 = .ok (.iload_n 3, 1) := by decide +kernel
theorem dX7_train_262 : decode cX7_train 262 = .ok (.if_icmp .ge 33, 3) := by decide +kernel
theorem dX7_train_265 : decode cX7_train 265 = .ok (.aload_n 0, 1) := by decide +kernel
theorem dX7_train_266 : decode cX7_train 266 = .ok (.getfield 38, 3) := by decide +kernel
theorem dX7_train_269 : decode cX7_train 269 = .ok (.iload_n 3, 1) := by decide +kernel
theorem dX7_train_270 : decode cX7_train 270 = .ok (.aload_n 0, 1) := by decide +kernel
theorem dX7_train_271 : decode cX7_train 271 = .ok (.getfield 89, 3) := by decide +kernel
theorem dX7_train_274 : decode cX7_train 274 = .ok (.imul, 1) := by decide +kernel
theorem dX7_train_275 : decode cX7_train 275 = .ok (.iload 8, 2) := by decide +kernel
theorem dX7_train_277 : decode cX7_train 277 = .ok (.iadd, 1) := by decide +kernel
theorem dX7_train_278 : decode cX7_train 278 = .ok (.aload_n 0, 1) := by decide +kernel
theorem dX7_train_279 : decode cX7_train 279 = .ok (.getfield 16, 3) := by decide +kernel
theorem dX7_train_282 : decode cX7_train 282 = .ok (.iload 6, 2) := by decide +kernel
theorem dX7_train_284 : decode cX7_train 284 = .ok (.iload 8, 2) := by decide +kernel
theorem dX7_train_286 : decode cX7_train 286 = .ok (.iadd, 1) := by decide +kernel
theorem dX7_train_287 : decode cX7_train 287 = .ok (.iaload, 1) := by decide +kernel
theorem dX7_train_288 : decode cX7_train 288 = .ok (.iastore, 1) := by decide +kernel
theorem dX7_train_289 : decode cX7_train 289 = .ok (.iinc 8 1, 3) := by decide +kernel
theorem dX7_train_292 : decode cX7_train 292 = .ok (.goto (-33), 3) := by decide +kernel
theorem dX7_train_295 : decode cX7_train 295 = .ok (.aload_n 0, 1) := by decide +kernel
theorem dX7_train_296 : decode cX7_train 296 = .ok (.dup, 1) := by decide +kernel
theorem dX7_train_297 : decode cX7_train 297 = .ok (.getfield 89, 3) := by decide +kernel
theorem dX7_train_300 : decode cX7_train 300 = .ok (.iconst 1, 1) := by decide +kernel
theorem dX7_train_301 : decode cX7_train 301 = .ok (.iadd, 1) := by decide +kernel
theorem dX7_train_302 : decode cX7_train 302 = .ok (.putfield 89, 3) := by decide +kernel
theorem dX7_train_305 : decode cX7_train 305 = .ok (.aload_n 0, 1) := by decide +kernel
theorem dX7_train_306 : decode cX7_train 306 = .ok (.iload 6, 2) := by decide +kernel
theorem dX7_train_308 : decode cX7_train 308 = .ok (.iload_n 3, 1) := by decide +kernel
theorem dX7_train_309 : decode cX7_train 309 = .ok (.iconst 1, 1) := by decide +kernel
theorem dX7_train_310 : decode cX7_train 310 = .ok (.invokevirtual 92, 3) := by decide +kernel
theorem dX7_train_313 : decode cX7_train 313 = .ok (.istore 8, 2) := by decide +kernel
theorem dX7_train_315 : decode cX7_train 315 = .ok (.goto (-210), 3) := by decide +kernel
theorem dX7_train_318 : decode cX7_train 318 = .ok (.aload_n 0, 1) := by decide +kernel
theorem dX7_train_319 : decode cX7_train 319 = .ok (.getfield 19, 3) := by decide +kernel
theorem dX7_train_322 : decode cX7_train 322 = .ok (.iload_n 1, 1) := by decide +kernel
theorem dX7_train_323 : decode cX7_train 323 = .ok (.iload_n 2, 1) := by decide +kernel
theorem dX7_train_324 : decode cX7_train 324 = .ok (.iastore, 1) := by decide +kernel
theorem dX7_train_325 : decode cX7_train 325 = .ok (.aload_n 0, 1) := by decide +kernel
theorem dX7_train_326 : decode cX7_train 326 = .ok (.getfield 22, 3) := by decide +kernel
theorem dX7_train_329 : decode cX7_train 329 = .ok (.iload_n 1, 1) := by decide +kernel
theorem dX7_train_330 : decode cX7_train 330 = .ok (.aload_n 0, 1) := by decide +kernel
theorem dX7_train_331 : decode cX7_train 331 = .ok (.getfield 89, 3) := by decide +kernel
theorem dX7_train_334 : decode cX7_train 334 = .ok (.iastore, 1) := by decide +kernel
theorem dX7_train_335 : decode cX7_train 335 = .ok (.aload_n 0, 1) := by decide +kernel
theorem dX7_train_336 : decode cX7_train 336 = .ok (.getfield 28, 3) := by decide +kernel
theorem dX7_train_339 : decode cX7_train 339 = .ok (.iload_n 1, 1) := by decide +kernel
theorem dX7_train_340 : decode cX7_train 340 = .ok (.iload_n 3, 1) := by decide +kernel
theorem dX7_train_341 : decode cX7_train 341 = .ok (.aload_n 0, 1) := by decide +kernel
theorem dX7_train_342 : decode cX7_train 342 = .ok (.getfield 89, 3) := by decide +kernel
theorem dX7_train_345 : decode cX7_train 345 = .ok (.imul, 1) := by decide +kernel
theorem dX7_train_346 : decode cX7_train 346 = .ok (.iastore, 1) := by decide +kernel
theorem dX7_train_347 : decode cX7_train 347 = .ok (.iconst 0, 1) := by decide +kernel
theorem dX7_train_348 : decode cX7_train 348 = .ok (.istore 6, 2) := by decide +kernel
theorem dX7_train_350 : decode cX7_train 350 = .ok (.iload 6, 2) := by decide +kernel
theorem dX7_train_352 : decode cX7_train 352 = .ok (.aload_n 0, 1) := by decide +kernel
theorem dX7_train_353 : decode cX7_train 353 = .ok (.getfield 89, 3) := by decide +kernel
theorem dX7_train_356 : decode cX7_train 356 = .ok (.if_icmp .ge 73, 3) := by decide +kernel
theorem dX7_train_359 : decode cX7_train 359 = .ok (.aload_n 0, 1) := by decide +kernel
theorem dX7_train_360 : decode cX7_train 360 = .ok (.getfield 25, 3) := by decide +kernel
theorem dX7_train_363 : decode cX7_train 363 = .ok (.bipush 80, 2) := by decide +kernel
theorem dX7_train_365 : decode cX7_train 365 = .ok (.iload_n 1, 1) := by decide +kernel
theorem dX7_train_366 : decode cX7_train 366 = .ok (.imul, 1) := by decide +kernel
theorem dX7_train_367 : decode cX7_train 367 = .ok (.iload 6, 2) := by decide +kernel
theorem dX7_train_369 : decode cX7_train 369 = .ok (.iadd, 1) := by decide +kernel
theorem dX7_train_370 : decode cX7_train 370 = .ok (.iload_n 3, 1) := by decide +kernel
theorem dX7_train_371 : decode cX7_train 371 = .ok (.iastore, 1) := by decide +kernel
theorem dX7_train_372 : decode cX7_train 372 = .ok (.iconst 0, 1) := by decide +kernel
theorem dX7_train_373 : decode cX7_train 373 = .ok (.istore 7, 2) := by decide +kernel
theorem dX7_train_375 : decode cX7_train 375 = .ok (.iload 7, 2) := by decide +kernel
theorem dX7_train_377 : decode cX7_train 377 = .ok (.iload_n 3, 1) := by decide +kernel
theorem dX7_train_378 : decode cX7_train 378 = .ok (.if_icmp .ge 45, 3) := by decide +kernel
theorem dX7_train_381 : decode cX7_train 381 = .ok (.aload_n 0, 1) := by decide +kernel
theorem dX7_train_382 : decode cX7_train 382 = .ok (.getfield 31, 3) := by decide +kernel
theorem dX7_train_385 : decode cX7_train 385 = .ok (.bipush 80, 2) := by decide +kernel
theorem dX7_train_387 : decode cX7_train 387 = .ok (.iload_n 1, 1) := by decide +kernel
theorem dX7_train_388 : decode cX7_train 388 = .ok (.imul, 1) := by decide +kernel
theorem dX7_train_389 : decode cX7_train 389 = .ok (.iload_n 3, 1) := by decide +kernel
theorem dX7_train_390 : decode cX7_train 390 = .ok (.iload 6, 2) := by decide +kernel
theorem dX7_train_392 : decode cX7_train 392 = .ok (.imul, 1) := by decide +kernel
theorem dX7_train_393 : decode cX7_train 393 = .ok (.iadd, 1) := by decide +kernel
theorem dX7_train_394 : decode cX7_train 394 = .ok (.iload 7, 2) := by decide +kernel
theorem dX7_train_396 : decode cX7_train 396 = .ok (.iadd, 1) := by decide +kernel
theorem dX7_train_397 : decode cX7_train 397 = .ok (.aload_n 0, 1) := by decide +kernel
theorem dX7_train_398 : decode cX7_train 398 = .ok (.getfield 38, 3) := by decide +kernel
theorem dX7_train_401 : decode cX7_train 401 = .ok (.iload_n 3, 1) := by decide +kernel
theorem dX7_train_402 : decode cX7_train 402 = .ok (.aload_n 0, 1) := by decide +kernel
theorem dX7_train_403 : decode cX7_train 403 = .ok (.getfield 89, 3) := by decide +kernel
theorem dX7_train_406 : decode cX7_train 406 = .ok (.iconst 1, 1) := by decide +kernel
theorem dX7_train_407 : decode cX7_train 407 = .ok (.isub, 1) := by decide +kernel
theorem dX7_train_408 : decode cX7_train 408 = .ok (.iload 6, 2) := by decide +kernel
theorem dX7_train_410 : decode cX7_train 410 = .ok (.isub, 1) := by decide +kernel
theorem dX7_train_411 : decode cX7_train 411 = .ok (.imul, 1) := by decide +kernel
theorem dX7_train_412 : decode cX7_train 412 = .ok (.iload 7, 2) := by decide +kernel
theorem dX7_train_414 : decode cX7_train 414 = .ok (.iadd, 1) := by decide +kernel
theorem dX7_train_415 : decode cX7_train 415 = .ok (.iaload, 1) := by decide +kernel
theorem dX7_train_416 : decode cX7_train 416 = .ok (.iastore, 1) := by decide +kernel
theorem dX7_train_417 : decode cX7_train 417 = .ok (.iinc 7 1, 3) := by decide +kernel
theorem dX7_train_420 : decode cX7_train 420 = .ok (.goto (-45), 3) := by decide +kernel
theorem dX7_train_423 : decode cX7_train 423 = .ok (.iinc 6 1, 3) := by decide +kernel
theorem dX7_train_426 : decode cX7_train 426 = .ok (.goto (-76), 3) := by decide +kernel
theorem dX7_train_429 : decode cX7_train 429 = .ok (.aload_n 0, 1) := by decide +kernel
theorem dX7_train_430 : decode cX7_train 430 = .ok (.getfield 89, 3) := by decide +kernel
theorem dX7_train_433 : decode cX7_train 433 = .ok (.ireturn, 1) := by decide +kernel
theorem dX7_give_0 : decode cX7_give 0 = .ok (.aload_n 0, 1) := by decide +kernel
theorem dX7_give_1 : decode cX7_give 1 = .ok (.iconst 0, 1) := by decide +kernel
theorem dX7_give_2 : decode cX7_give 2 = .ok (.putfield 60, 3) := by decide +kernel
theorem dX7_give_5 : decode cX7_give 5 = .ok (.iload_n 1, 1) := by decide +kernel
theorem dX7_give_6 : decode cX7_give 6 = .ok (.i2l, 1) := by decide +kernel
theorem dX7_give_7 : decode cX7_give 7 = .ok (.lconst 0, 1) := by decide +kernel
theorem dX7_give_8 : decode cX7_give 8 = .ok (.ldc2_w 81, 3) := by decide +kernel
theorem dX7_give_11 : decode cX7_give 11 = .ok (.invokestatic 65, 3) := by decide +kernel
theorem dX7_give_14 : decode cX7_give 14 = .ok (.ifCond .ne 6, 3) := by decide +kernel
theorem dX7_give_17 : decode cX7_give 17 = .ok (.bipush (-101), 2) := by decide +kernel
theorem dX7_give_19 : decode cX7_give 19 = .ok (.ireturn, 1) := by decide +kernel
theorem dX7_give_20 : decode cX7_give 20 = .ok (.iload_n 2, 1) := by decide +kernel
theorem dX7_give_21 : decode cX7_give 21 = .ok (.i2l, 1) := by decide +kernel
theorem dX7_give_22 : decode cX7_give 22 = .ok (.lconst 1, 1) := by decide +kernel
theorem dX7_give_23 : decode cX7_give 23 = .ok (.ldc2_w 83, 3) := by decide +kernel
theorem dX7_give_26 : decode cX7_give 26 = .ok (.invokestatic 65, 3) := by decide +kernel
theorem dX7_give_29 : decode cX7_give 29 = .ok (.ifCond .eq 12, 3) := by decide +kernel
theorem dX7_give_32 : decode cX7_give 32 = .ok (.aload_n 0, 1) := by decide +kernel
theorem dX7_give_33 : decode cX7_give 33 = .ok (.getfield 56, 3) := by decide +kernel
theorem dX7_give_36 : decode cX7_give 36 = .ok (.bipush 80, 2) := by decide +kernel
theorem dX7_give_38 : decode cX7_give 38 = .ok (.if_icmp .le 6, 3) := by decide +kernel
theorem dX7_give_41 : decode cX7_give 41 = .ok (.bipush (-102), 2) := by decide +kernel
theorem dX7_give_43 : decode cX7_give 43 = .ok (.ireturn, 1) := by decide +kernel
theorem dX7_give_44 : decode cX7_give 44 = .ok (.aload_n 0, 1) := by decide +kernel
theorem dX7_give_45 : decode cX7_give 45 = .ok (.getfield 19, 3) := by decide +kernel
theorem dX7_give_48 : decode cX7_give 48 = .ok (.iload_n 1, 1) := by decide +kernel
theorem dX7_give_49 : decode cX7_give 49 = .ok (.iload_n 2, 1) := by decide +kernel
theorem dX7_give_50 : decode cX7_give 50 = .ok (.iastore, 1) := by decide +kernel
theorem dX7_give_51 : decode cX7_give 51 = .ok (.aload_n 0, 1) := by decide +kernel
theorem dX7_give_52 : decode cX7_give 52 = .ok (.getfield 28, 3) := by decide +kernel
theorem dX7_give_55 : decode cX7_give 55 = .ok (.iload_n 1, 1) := by decide +kernel
theorem dX7_give_56 : decode cX7_give 56 = .ok (.aload_n 0, 1) := by decide +kernel
theorem dX7_give_57 : decode cX7_give 57 = .ok (.getfield 56, 3) := by decide +kernel
theorem dX7_give_60 : decode cX7_give 60 = .ok (.iastore, 1) := by decide +kernel
theorem dX7_give_61 : decode cX7_give 61 = .ok (.aload_n 0, 1) := by decide +kernel
theorem dX7_give_62 : decode cX7_give 62 = .ok (.getfield 22, 3) := by decide +kernel
theorem dX7_give_65 : decode cX7_give 65 = .ok (.iload_n 1, 1) := by decide +kernel
theorem dX7_give_66 : decode cX7_give 66 = .ok (.aload_n 0, 1) := by decide +kernel
theorem dX7_give_67 : decode cX7_give 67 = .ok (.getfield 56, 3) := by decide +kernel
theorem dX7_give_70 : decode cX7_give 70 = .ok (.ifCond .le 7, 3) := by decide +kernel
theorem dX7_give_73 : decode cX7_give 73 = .ok (.iconst 1, 1) := by decide +kernel
theorem dX7_give_74 : decode cX7_give 74 = .ok (.goto 4, 3) := by decide +kernel
theorem dX7_give_77 : decode cX7_give 77 = .ok (.iconst 0, 1) := by decide +kernel
theorem dX7_give_78 : decode cX7_give 78 = .ok (.iastore, 1) := by decide +kernel
theorem dX7_give_79 : decode cX7_give 79 = .ok (.aload_n 0, 1) := by decide +kernel
theorem dX7_give_80 : decode cX7_give 80 = .ok (.getfield 25, 3) := by decide +kernel
theorem dX7_give_83 : decode cX7_give 83 = .ok (.bipush 80, 2) := by decide +kernel
theorem dX7_give_85 : decode cX7_give 85 = .ok (.iload_n 1, 1) := by decide +kernel
theorem dX7_give_86 : decode cX7_give 86 = .ok (.imul, 1) := by decide +kernel
theorem dX7_give_87 : decode cX7_give 87 = .ok (.aload_n 0, 1) := by decide +kernel
theorem dX7_give_88 : decode cX7_give 88 = .ok (.getfield 56, 3) := by decide +kernel
theorem dX7_give_91 : decode cX7_give 91 = .ok (.iastore, 1) := by decide +kernel
theorem dX7_give_92 : decode cX7_give 92 = .ok (.iconst 0, 1) := by decide +kernel
theorem dX7_give_93 : decode cX7_give 93 = .ok (.istore_n 3, 1) := by decide +kernel
theorem dX7_give_94 : decode cX7_give 94 = .ok (.iload_n 3, 1) := by decide +kernel
theorem dX7_give_95 : decode cX7_give 95 = .ok (.aload_n 0, 1) := by decide +kernel
theorem dX7_give_96 : decode cX7_give 96 = .ok (.getfield 56, 3) := by decide +kernel
theorem dX7_give_99 : decode cX7_give 99 = .ok (.if_icmp .ge 26, 3) := by decide +kernel
theorem dX7_give_102 : decode cX7_give 102 = .ok (.aload_n 0, 1) := by decide +kernel
theorem dX7_give_103 : decode cX7_give 103 = .ok (.getfield 31, 3) := by decide +kernel
theorem dX7_give_106 : decode cX7_give 106 = .ok (.bipush 80, 2) := by decide +kernel
theorem dX7_give_108 : decode cX7_give 108 = .ok (.iload_n 1, 1) := by decide +kernel
theorem dX7_give_109 : decode cX7_give 109 = .ok (.imul, 1) := by decide +kernel
theorem dX7_give_110 : decode cX7_give 110 = .ok (.iload_n 3, 1) := by decide +kernel
theorem dX7_give_111 : decode cX7_give 111 = .ok (.iadd, 1) := by decide +kernel
theorem dX7_give_112 : decode cX7_give 112 = .ok (.aload_n 0, 1) := by decide +kernel
theorem dX7_give_113 : decode cX7_give 113 = .ok (.getfield 7, 3) := by decide +kernel
theorem dX7_give_116 : decode cX7_give 116 = .ok (.iload_n 3, 1) := by decide +kernel
theorem dX7_give_117 : decode cX7_give 117 = .ok (.iaload, 1) := by decide +kernel
theorem dX7_give_118 : decode cX7_give 118 = .ok (.iastore, 1) := by decide +kernel
theorem dX7_give_119 : decode cX7_give 119 = .ok (.iinc 3 1, 3) := by decide +kernel
theorem dX7_give_122 : decode cX7_give 122 = .ok (.goto (-28), 3) := by decide +kernel
theorem dX7_give_125 : decode cX7_give 125 = .ok (.aload_n 0, 1) := by decide +kernel
theorem dX7_give_126 : decode cX7_give 126 = .ok (.getfield 56, 3) := by decide +kernel
theorem dX7_give_129 : decode cX7_give 129 = .ok (.istore_n 3, 1) := by decide +kernel
theorem dX7_give_130 : decode cX7_give 130 = .ok (.aload_n 0, 1) := by decide +kernel
theorem dX7_give_131 : decode cX7_give 131 = .ok (.iconst 0, 1) := by decide +kernel
theorem dX7_give_132 : decode cX7_give 132 = .ok (.putfield 56, 3) := by decide +kernel
theorem dX7_give_135 : decode cX7_give 135 = .ok (.iload_n 3, 1) := by decide +kernel
theorem dX7_give_136 : decode cX7_give 136 = .ok (.ireturn, 1) := by decide +kernel
theorem dX7_isThere_0 : decode cX7_isThere 0 = .ok (.iload_n 1, 1) := by decide +kernel
theorem dX7_isThere_1 : decode cX7_isThere 1 = .ok (.i2l, 1) := by decide +kernel
theorem dX7_isThere_2 : decode cX7_isThere 2 = .ok (.lconst 0, 1) := by decide +kernel
theorem dX7_isThere_3 : decode cX7_isThere 3 = .ok (.ldc2_w 81, 3) := by decide +kernel
theorem dX7_isThere_6 : decode cX7_isThere 6 = .ok (.invokestatic 65, 3) := by decide +kernel
theorem dX7_isThere_9 : decode cX7_isThere 9 = .ok (.ifCond .eq 16, 3) := by decide +kernel
theorem dX7_isThere_12 : decode cX7_isThere 12 = .ok (.aload_n 0, 1) := by decide +kernel
theorem dX7_isThere_13 : decode cX7_isThere 13 = .ok (.getfield 19, 3) := by decide +kernel
theorem dX7_isThere_16 : decode cX7_isThere 16 = .ok (.iload_n 1, 1) := by decide +kernel
theorem dX7_isThere_17 : decode cX7_isThere 17 = .ok (.iaload, 1) := by decide +kernel
theorem dX7_isThere_18 : decode cX7_isThere 18 = .ok (.ifCond .le 7, 3) := by decide +kernel
theorem dX7_isThere_21 : decode cX7_isThere 21 = .ok (.iconst 1, 1) := by decide +kernel
theorem dX7_isThere_22 : decode cX7_isThere 22 = .ok (.goto 4, 3) := by decide +kernel
theorem dX7_isThere_25 : decode cX7_isThere 25 = .ok (.iconst 0, 1) := by decide +kernel
theorem dX7_isThere_26 : decode cX7_isThere 26 = .ok (.ireturn, 1) := by decide +kernel
theorem dX7_pieceAt_0 : decode cX7_pieceAt 0 = .ok (.iconst 0, 1) := by decide +kernel
theorem dX7_pieceAt_1 : decode cX7_pieceAt 1 = .ok (.istore_n 3, 1) := by decide +kernel
theorem dX7_pieceAt_2 : decode cX7_pieceAt 2 = .ok (.iconst 0, 1) := by decide +kernel
theorem dX7_pieceAt_3 : decode cX7_pieceAt 3 = .ok (.istore 4, 2) := by decide +kernel
theorem dX7_pieceAt_5 : decode cX7_pieceAt 5 = .ok (.iload 4, 2) := by decide +kernel
theorem dX7_pieceAt_7 : decode cX7_pieceAt 7 = .ok (.iload_n 2, 1) := by decide +kernel
theorem dX7_pieceAt_8 : decode cX7_pieceAt 8 = .ok (.if_icmp .ge 24, 3) := by decide +kernel
theorem dX7_pieceAt_11 : decode cX7_pieceAt 11 = .ok (.iload_n 3, 1) := by decide +kernel
theorem dX7_pieceAt_12 : decode cX7_pieceAt 12 = .ok (.aload_n 0, 1) := by decide +kernel
theorem dX7_pieceAt_13 : decode cX7_pieceAt 13 = .ok (.getfield 25, 3) := by decide +kernel
theorem dX7_pieceAt_16 : decode cX7_pieceAt 16 = .ok (.bipush 80, 2) := by decide +kernel
theorem dX7_pieceAt_18 : decode cX7_pieceAt 18 = .ok (.iload_n 1, 1) := by decide +kernel
theorem dX7_pieceAt_19 : decode cX7_pieceAt 19 = .ok (.imul, 1) := by decide +kernel
theorem dX7_pieceAt_20 : decode cX7_pieceAt 20 = .ok (.iload 4, 2) := by decide +kernel
theorem dX7_pieceAt_22 : decode cX7_pieceAt 22 = .ok (.iadd, 1) := by decide +kernel
theorem dX7_pieceAt_23 : decode cX7_pieceAt 23 = .ok (.iaload, 1) := by decide +kernel
theorem dX7_pieceAt_24 : decode cX7_pieceAt 24 = .ok (.iadd, 1) := by decide +kernel
theorem dX7_pieceAt_25 : decode cX7_pieceAt 25 = .ok (.istore_n 3, 1) := by decide +kernel
theorem dX7_pieceAt_26 : decode cX7_pieceAt 26 = .ok (.iinc 4 1, 3) := by decide +kernel
theorem dX7_pieceAt_29 : decode cX7_pieceAt 29 = .ok (.goto (-24), 3) := by decide +kernel
theorem dX7_pieceAt_32 : decode cX7_pieceAt 32 = .ok (.iload_n 3, 1) := by decide +kernel
theorem dX7_pieceAt_33 : decode cX7_pieceAt 33 = .ok (.ireturn, 1) := by decide +kernel
theorem dX7_layAhead_0 : decode cX7_layAhead 0 = .ok (.aload_n 0, 1) := by decide +kernel
theorem dX7_layAhead_1 : decode cX7_layAhead 1 = .ok (.iconst 0, 1) := by decide +kernel
theorem dX7_layAhead_2 : decode cX7_layAhead 2 = .ok (.putfield 96, 3) := by decide +kernel
theorem dX7_layAhead_5 : decode cX7_layAhead 5 = .ok (.iload_n 1, 1) := by decide +kernel
theorem dX7_layAhead_6 : decode cX7_layAhead 6 = .ok (.iconst (-1), 1) := by decide +kernel
theorem dX7_layAhead_7 : decode cX7_layAhead 7 = .ok (.if_icmp .eq 107, 3) := by decide +kernel
theorem dX7_layAhead_10 : decode cX7_layAhead 10 = .ok (.iload_n 2, 1) := by decide +kernel
theorem dX7_layAhead_11 : decode cX7_layAhead 11 = .ok (.iconst (-1), 1) := by decide +kernel
theorem dX7_layAhead_12 : decode cX7_layAhead 12 = .ok (.if_icmp .ne 7, 3) := by decide +kernel
theorem dX7_layAhead_15 : decode cX7_layAhead 15 = .ok (.iconst 0, 1) := by decide +kernel
theorem dX7_layAhead_16 : decode cX7_layAhead 16 = .ok (.goto 9, 3) := by decide +kernel
theorem dX7_layAhead_19 : decode cX7_layAhead 19 = .ok (.aload_n 0, 1) := by decide +kernel
theorem dX7_layAhead_20 : decode cX7_layAhead 20 = .ok (.iload_n 1, 1) := by decide +kernel
theorem dX7_layAhead_21 : decode cX7_layAhead 21 = .ok (.iload_n 2, 1) := by decide +kernel
theorem dX7_layAhead_22 : decode cX7_layAhead 22 = .ok (.invokevirtual 99, 3) := by decide +kernel
theorem dX7_layAhead_25 : decode cX7_layAhead 25 = .ok (.istore_n 3, 1) := by decide +kernel
theorem dX7_layAhead_26 : decode cX7_layAhead 26 = .ok (.iload_n 2, 1) := by decide +kernel
theorem dX7_layAhead_27 : decode cX7_layAhead 27 = .ok (.iconst (-1), 1) := by decide +kernel
theorem dX7_layAhead_28 : decode cX7_layAhead 28 = .ok (.if_icmp .ne 7, 3) := by decide +kernel
theorem dX7_layAhead_31 : decode cX7_layAhead 31 = .ok (.iconst 0, 1) := by decide +kernel
theorem dX7_layAhead_32 : decode cX7_layAhead 32 = .ok (.goto 14, 3) := by decide +kernel
theorem dX7_layAhead_35 : decode cX7_layAhead 35 = .ok (.aload_n 0, 1) := by decide +kernel
theorem dX7_layAhead_36 : decode cX7_layAhead 36 = .ok (.getfield 25, 3) := by decide +kernel
theorem dX7_layAhead_39 : decode cX7_layAhead 39 = .ok (.bipush 80, 2) := by decide +kernel
theorem dX7_layAhead_41 : decode cX7_layAhead 41 = .ok (.iload_n 1, 1) := by decide +kernel
theorem dX7_layAhead_42 : decode cX7_layAhead 42 = .ok (.imul, 1) := by decide +kernel
theorem dX7_layAhead_43 : decode cX7_layAhead 43 = .ok (.iload_n 2, 1) := by decide +kernel
theorem dX7_layAhead_44 : decode cX7_layAhead 44 = .ok (.iadd, 1) := by decide +kernel
theorem dX7_layAhead_45 : decode cX7_layAhead 45 = .ok (.iaload, 1) := by decide +kernel
theorem dX7_layAhead_46 : decode cX7_layAhead 46 = .ok (.istore 4, 2) := by decide +kernel
theorem dX7_layAhead_48 : decode cX7_layAhead 48 = .ok (.iconst 0, 1) := by decide +kernel
theorem dX7_layAhead_49 : decode cX7_layAhead 49 = .ok (.istore 5, 2) := by decide +kernel
theorem dX7_layAhead_51 : decode cX7_layAhead 51 = .ok (.iload 5, 2) := by decide +kernel
theorem dX7_layAhead_53 : decode cX7_layAhead 53 = .ok (.aload_n 0, 1) := by decide +kernel
theorem dX7_layAhead_54 : decode cX7_layAhead 54 = .ok (.getfield 28, 3) := by decide +kernel
theorem dX7_layAhead_57 : decode cX7_layAhead 57 = .ok (.iload_n 1, 1) := by decide +kernel
theorem dX7_layAhead_58 : decode cX7_layAhead 58 = .ok (.iaload, 1) := by decide +kernel
theorem dX7_layAhead_59 : decode cX7_layAhead 59 = .ok (.if_icmp .ge 55, 3) := by decide +kernel
theorem dX7_layAhead_62 : decode cX7_layAhead 62 = .ok (.iload 5, 2) := by decide +kernel
theorem dX7_layAhead_64 : decode cX7_layAhead 64 = .ok (.iload_n 3, 1) := by decide +kernel
theorem dX7_layAhead_65 : decode cX7_layAhead 65 = .ok (.if_icmp .lt 12, 3) := by decide +kernel
theorem dX7_layAhead_68 : decode cX7_layAhead 68 = .ok (.iload 5, 2) := by decide +kernel
theorem dX7_layAhead_70 : decode cX7_layAhead 70 = .ok (.iload_n 3, 1) := by decide +kernel
theorem dX7_layAhead_71 : decode cX7_layAhead 71 = .ok (.iload 4, 2) := by decide +kernel
theorem dX7_layAhead_73 : decode cX7_layAhead 73 = .ok (.iadd, 1) := by decide +kernel
theorem dX7_layAhead_74 : decode cX7_layAhead 74 = .ok (.if_icmp .lt 34, 3) := by decide +kernel
theorem dX7_layAhead_77 : decode cX7_layAhead 77 = .ok (.aload_n 0, 1) := by decide +kernel
theorem dX7_layAhead_78 : decode cX7_layAhead 78 = .ok (.getfield 41, 3) := by decide +kernel
theorem dX7_layAhead_81 : decode cX7_layAhead 81 = .ok (.aload_n 0, 1) := by decide +kernel
theorem dX7_layAhead_82 : decode cX7_layAhead 82 = .ok (.getfield 96, 3) := by decide +kernel
theorem dX7_layAhead_85 : decode cX7_layAhead 85 = .ok (.aload_n 0, 1) := by decide +kernel
theorem dX7_layAhead_86 : decode cX7_layAhead 86 = .ok (.getfield 31, 3) := by decide +kernel
theorem dX7_layAhead_89 : decode cX7_layAhead 89 = .ok (.bipush 80, 2) := by decide +kernel
theorem dX7_layAhead_91 : decode cX7_layAhead 91 = .ok (.iload_n 1, 1) := by decide +kernel
theorem dX7_layAhead_92 : decode cX7_layAhead 92 = .ok (.imul, 1) := by decide +kernel
theorem dX7_layAhead_93 : decode cX7_layAhead 93 = .ok (.iload 5, 2) := by decide +kernel
theorem dX7_layAhead_95 : decode cX7_layAhead 95 = .ok (.iadd, 1) := by decide +kernel
theorem dX7_layAhead_96 : decode cX7_layAhead 96 = .ok (.iaload, 1) := by decide +kernel
theorem dX7_layAhead_97 : decode cX7_layAhead 97 = .ok (.iastore, 1) := by decide +kernel
theorem dX7_layAhead_98 : decode cX7_layAhead 98 = .ok (.aload_n 0, 1) := by decide +kernel
theorem dX7_layAhead_99 : decode cX7_layAhead 99 = .ok (.dup, 1) := by decide +kernel
theorem dX7_layAhead_100 : decode cX7_layAhead 100 = .ok (.getfield 96, 3) := by decide +kernel
theorem dX7_layAhead_103 : decode cX7_layAhead 103 = .ok (.iconst 1, 1) := by decide +kernel
theorem dX7_layAhead_104 : decode cX7_layAhead 104 = .ok (.iadd, 1) := by decide +kernel
theorem dX7_layAhead_105 : decode cX7_layAhead 105 = .ok (.putfield 96, 3) := by decide +kernel
theorem dX7_layAhead_108 : decode cX7_layAhead 108 = .ok (.iinc 5 1, 3) := by decide +kernel
theorem dX7_layAhead_111 : decode cX7_layAhead 111 = .ok (.goto (-60), 3) := by decide +kernel
theorem dX7_layAhead_114 : decode cX7_layAhead 114 = .ok (.return_, 1) := by decide +kernel
theorem dX7_laySample_0 : decode cX7_laySample 0 = .ok (.aload_n 0, 1) := by decide +kernel
theorem dX7_laySample_1 : decode cX7_laySample 1 = .ok (.aload_n 0, 1) := by decide +kernel
theorem dX7_laySample_2 : decode cX7_laySample 2 = .ok (.getfield 13, 3) := by decide +kernel
theorem dX7_laySample_5 : decode cX7_laySample 5 = .ok (.iload_n 1, 1) := by decide +kernel
theorem dX7_laySample_6 : decode cX7_laySample 6 = .ok (.iaload, 1) := by decide +kernel
theorem dX7_laySample_7 : decode cX7_laySample 7 = .ok (.putfield 103, 3) := by decide +kernel
theorem dX7_laySample_10 : decode cX7_laySample 10 = .ok (.iconst 0, 1) := by decide +kernel
theorem dX7_laySample_11 : decode cX7_laySample 11 = .ok (.istore_n 2, 1) := by decide +kernel
theorem dX7_laySample_12 : decode cX7_laySample 12 = .ok (.iload_n 2, 1) := by decide +kernel
theorem dX7_laySample_13 : decode cX7_laySample 13 = .ok (.aload_n 0, 1) := by decide +kernel
theorem dX7_laySample_14 : decode cX7_laySample 14 = .ok (.getfield 103, 3) := by decide +kernel
theorem dX7_laySample_17 : decode cX7_laySample 17 = .ok (.if_icmp .ge 31, 3) := by decide +kernel
theorem dX7_laySample_20 : decode cX7_laySample 20 = .ok (.aload_n 0, 1) := by decide +kernel
theorem dX7_laySample_21 : decode cX7_laySample 21 = .ok (.getfield 41, 3) := by decide +kernel
theorem dX7_laySample_24 : decode cX7_laySample 24 = .ok (.aload_n 0, 1) := by decide +kernel
theorem dX7_laySample_25 : decode cX7_laySample 25 = .ok (.getfield 96, 3) := by decide +kernel
theorem dX7_laySample_28 : decode cX7_laySample 28 = .ok (.iload_n 2, 1) := by decide +kernel
theorem dX7_laySample_29 : decode cX7_laySample 29 = .ok (.iadd, 1) := by decide +kernel
theorem dX7_laySample_30 : decode cX7_laySample 30 = .ok (.aload_n 0, 1) := by decide +kernel
theorem dX7_laySample_31 : decode cX7_laySample 31 = .ok (.getfield 16, 3) := by decide +kernel
theorem dX7_laySample_34 : decode cX7_laySample 34 = .ok (.bipush 40, 2) := by decide +kernel
theorem dX7_laySample_36 : decode cX7_laySample 36 = .ok (.iload_n 1, 1) := by decide +kernel
theorem dX7_laySample_37 : decode cX7_laySample 37 = .ok (.imul, 1) := by decide +kernel
theorem dX7_laySample_38 : decode cX7_laySample 38 = .ok (.iload_n 2, 1) := by decide +kernel
theorem dX7_laySample_39 : decode cX7_laySample 39 = .ok (.iadd, 1) := by decide +kernel
theorem dX7_laySample_40 : decode cX7_laySample 40 = .ok (.iaload, 1) := by decide +kernel
theorem dX7_laySample_41 : decode cX7_laySample 41 = .ok (.iastore, 1) := by decide +kernel
theorem dX7_laySample_42 : decode cX7_laySample 42 = .ok (.iinc 2 1, 3) := by decide +kernel
theorem dX7_laySample_45 : decode cX7_laySample 45 = .ok (.goto (-33), 3) := by decide +kernel
theorem dX7_laySample_48 : decode cX7_laySample 48 = .ok (.return_, 1) := by decide +kernel
theorem dX7_findMatches_0 : decode cX7_findMatches 0 = .ok (.iconst 0, 1) := by decide +kernel
theorem dX7_findMatches_1 : decode cX7_findMatches 1 = .ok (.istore_n 2, 1) := by decide +kernel
theorem dX7_findMatches_2 : decode cX7_findMatches 2 = .ok (.iload_n 2, 1) := by decide +kernel
theorem dX7_findMatches_3 : decode cX7_findMatches 3 = .ok (.bipush 10, 2) := by decide +kernel
theorem dX7_findMatches_5 : decode cX7_findMatches 5 = .ok (.if_icmp .ge 21, 3) := by decide +kernel
theorem dX7_findMatches_8 : decode cX7_findMatches 8 = .ok (.aload_n 0, 1) := by decide +kernel
theorem dX7_findMatches_9 : decode cX7_findMatches 9 = .ok (.getfield 47, 3) := by decide +kernel
theorem dX7_findMatches_12 : decode cX7_findMatches 12 = .ok (.bipush 10, 2) := by decide +kernel
end
section
theorem dX7_findMatches_14 : decode cX7_findMatches 14 = .ok (.iload_n 1, 1) := by decide +kernel
theorem dX7_findMatches_15 : decode cX7_findMatches 15 = .ok (.imul, 1) := by decide +kernel
theorem dX7_findMatches_16 : decode cX7_findMatches 16 = .ok (.iload_n 2, 1) := by decide +kernel
theorem dX7_findMatches_17 : decode cX7_findMatches 17 = .ok (.iadd, 1) := by decide +kernel
theorem dX7_findMatches_18 : decode cX7_findMatches 18 = .ok (.iconst 0, 1) := by decide +kernel
theorem dX7_findMatches_19 : decode cX7_findMatches 19 = .ok (.iastore, 1) := by decide +kernel
theorem dX7_findMatches_20 : decode cX7_findMatches 20 = .ok (.iinc 2 1, 3) := by decide +kernel
theorem dX7_findMatches_23 : decode cX7_findMatches 23 = .ok (.goto (-21), 3) := by decide +kernel
theorem dX7_findMatches_26 : decode cX7_findMatches 26 = .ok (.aload_n 0, 1) := by decide +kernel
theorem dX7_findMatches_27 : decode cX7_findMatches 27 = .ok (.getfield 96, 3) := by decide +kernel
theorem dX7_findMatches_30 : decode cX7_findMatches 30 = .ok (.iload_n 1, 1) := by decide +kernel
theorem dX7_findMatches_31 : decode cX7_findMatches 31 = .ok (.iadd, 1) := by decide +kernel
theorem dX7_findMatches_32 : decode cX7_findMatches 32 = .ok (.istore_n 2, 1) := by decide +kernel
theorem dX7_findMatches_33 : decode cX7_findMatches 33 = .ok (.iconst 1, 1) := by decide +kernel
theorem dX7_findMatches_34 : decode cX7_findMatches 34 = .ok (.istore_n 3, 1) := by decide +kernel
theorem dX7_findMatches_35 : decode cX7_findMatches 35 = .ok (.iload_n 3, 1) := by decide +kernel
theorem dX7_findMatches_36 : decode cX7_findMatches 36 = .ok (.iload_n 2, 1) := by decide +kernel
theorem dX7_findMatches_37 : decode cX7_findMatches 37 = .ok (.if_icmp .gt 87, 3) := by decide +kernel
theorem dX7_findMatches_40 : decode cX7_findMatches 40 = .ok (.iconst 0, 1) := by decide +kernel
theorem dX7_findMatches_41 : decode cX7_findMatches 41 = .ok (.istore 4, 2) := by decide +kernel
theorem dX7_findMatches_43 : decode cX7_findMatches 43 = .ok (.iload 4, 2) := by decide +kernel
theorem dX7_findMatches_45 : decode cX7_findMatches 45 = .ok (.bipush 9, 2) := by decide +kernel
theorem dX7_findMatches_47 : decode cX7_findMatches 47 = .ok (.if_icmp .ge 71, 3) := by decide +kernel
theorem dX7_findMatches_50 : decode cX7_findMatches 50 = .ok (.iload_n 1, 1) := by decide +kernel
theorem dX7_findMatches_51 : decode cX7_findMatches 51 = .ok (.iload 4, 2) := by decide +kernel
theorem dX7_findMatches_53 : decode cX7_findMatches 53 = .ok (.iadd, 1) := by decide +kernel
theorem dX7_findMatches_54 : decode cX7_findMatches 54 = .ok (.aload_n 0, 1) := by decide +kernel
theorem dX7_findMatches_55 : decode cX7_findMatches 55 = .ok (.getfield 103, 3) := by decide +kernel
theorem dX7_findMatches_58 : decode cX7_findMatches 58 = .ok (.if_icmp .ge 60, 3) := by decide +kernel
theorem dX7_findMatches_61 : decode cX7_findMatches 61 = .ok (.aload_n 0, 1) := by decide +kernel
theorem dX7_findMatches_62 : decode cX7_findMatches 62 = .ok (.getfield 41, 3) := by decide +kernel
theorem dX7_findMatches_65 : decode cX7_findMatches 65 = .ok (.iload_n 2, 1) := by decide +kernel
theorem dX7_findMatches_66 : decode cX7_findMatches 66 = .ok (.iload 4, 2) := by decide +kernel
theorem dX7_findMatches_68 : decode cX7_findMatches 68 = .ok (.iadd, 1) := by decide +kernel
theorem dX7_findMatches_69 : decode cX7_findMatches 69 = .ok (.iaload, 1) := by decide +kernel
theorem dX7_findMatches_70 : decode cX7_findMatches 70 = .ok (.aload_n 0, 1) := by decide +kernel
theorem dX7_findMatches_71 : decode cX7_findMatches 71 = .ok (.getfield 41, 3) := by decide +kernel
theorem dX7_findMatches_74 : decode cX7_findMatches 74 = .ok (.iload_n 2, 1) := by decide +kernel
theorem dX7_findMatches_75 : decode cX7_findMatches 75 = .ok (.iload 4, 2) := by decide +kernel
theorem dX7_findMatches_77 : decode cX7_findMatches 77 = .ok (.iadd, 1) := by decide +kernel
theorem dX7_findMatches_78 : decode cX7_findMatches 78 = .ok (.iload_n 3, 1) := by decide +kernel
theorem dX7_findMatches_79 : decode cX7_findMatches 79 = .ok (.isub, 1) := by decide +kernel
theorem dX7_findMatches_80 : decode cX7_findMatches 80 = .ok (.iaload, 1) := by decide +kernel
theorem dX7_findMatches_81 : decode cX7_findMatches 81 = .ok (.if_icmp .ne 37, 3) := by decide +kernel
theorem dX7_findMatches_84 : decode cX7_findMatches 84 = .ok (.iinc 4 1, 3) := by decide +kernel
theorem dX7_findMatches_87 : decode cX7_findMatches 87 = .ok (.aload_n 0, 1) := by decide +kernel
theorem dX7_findMatches_88 : decode cX7_findMatches 88 = .ok (.getfield 47, 3) := by decide +kernel
theorem dX7_findMatches_91 : decode cX7_findMatches 91 = .ok (.bipush 10, 2) := by decide +kernel
theorem dX7_findMatches_93 : decode cX7_findMatches 93 = .ok (.iload_n 1, 1) := by decide +kernel
theorem dX7_findMatches_94 : decode cX7_findMatches 94 = .ok (.imul, 1) := by decide +kernel
theorem dX7_findMatches_95 : decode cX7_findMatches 95 = .ok (.iload 4, 2) := by decide +kernel
theorem dX7_findMatches_97 : decode cX7_findMatches 97 = .ok (.iadd, 1) := by decide +kernel
theorem dX7_findMatches_98 : decode cX7_findMatches 98 = .ok (.iaload, 1) := by decide +kernel
theorem dX7_findMatches_99 : decode cX7_findMatches 99 = .ok (.ifCond .ne (-56), 3) := by decide +kernel
theorem dX7_findMatches_102 : decode cX7_findMatches 102 = .ok (.aload_n 0, 1) := by decide +kernel
theorem dX7_findMatches_103 : decode cX7_findMatches 103 = .ok (.getfield 47, 3) := by decide +kernel
theorem dX7_findMatches_106 : decode cX7_findMatches 106 = .ok (.bipush 10, 2) := by decide +kernel
theorem dX7_findMatches_108 : decode cX7_findMatches 108 = .ok (.iload_n 1, 1) := by decide +kernel
theorem dX7_findMatches_109 : decode cX7_findMatches 109 = .ok (.imul, 1) := by decide +kernel
theorem dX7_findMatches_110 : decode cX7_findMatches 110 = .ok (.iload 4, 2) := by decide +kernel
theorem dX7_findMatches_112 : decode cX7_findMatches 112 = .ok (.iadd, 1) := by decide +kernel
theorem dX7_findMatches_113 : decode cX7_findMatches 113 = .ok (.iload_n 3, 1) := by decide +kernel
theorem dX7_findMatches_114 : decode cX7_findMatches 114 = .ok (.iastore, 1) := by decide +kernel
theorem dX7_findMatches_115 : decode cX7_findMatches 115 = .ok (.goto (-72), 3) := by decide +kernel
theorem dX7_findMatches_118 : decode cX7_findMatches 118 = .ok (.iinc 3 1, 3) := by decide +kernel
theorem dX7_findMatches_121 : decode cX7_findMatches 121 = .ok (.goto (-86), 3) := by decide +kernel
theorem dX7_findMatches_124 : decode cX7_findMatches 124 = .ok (.return_, 1) := by decide +kernel
theorem dX7_packedLong_0 : decode cX7_packedLong 0 = .ok (.aload_n 0, 1) := by decide +kernel
theorem dX7_packedLong_1 : decode cX7_packedLong 1 = .ok (.getfield 44, 3) := by decide +kernel
theorem dX7_packedLong_4 : decode cX7_packedLong 4 = .ok (.aload_n 0, 1) := by decide +kernel
theorem dX7_packedLong_5 : decode cX7_packedLong 5 = .ok (.getfield 103, 3) := by decide +kernel
theorem dX7_packedLong_8 : decode cX7_packedLong 8 = .ok (.iconst 0, 1) := by decide +kernel
theorem dX7_packedLong_9 : decode cX7_packedLong 9 = .ok (.iastore, 1) := by decide +kernel
theorem dX7_packedLong_10 : decode cX7_packedLong 10 = .ok (.aload_n 0, 1) := by decide +kernel
theorem dX7_packedLong_11 : decode cX7_packedLong 11 = .ok (.getfield 103, 3) := by decide +kernel
theorem dX7_packedLong_14 : decode cX7_packedLong 14 = .ok (.iconst 1, 1) := by decide +kernel
theorem dX7_packedLong_15 : decode cX7_packedLong 15 = .ok (.isub, 1) := by decide +kernel
theorem dX7_packedLong_16 : decode cX7_packedLong 16 = .ok (.istore_n 1, 1) := by decide +kernel
theorem dX7_packedLong_17 : decode cX7_packedLong 17 = .ok (.iload_n 1, 1) := by decide +kernel
theorem dX7_packedLong_18 : decode cX7_packedLong 18 = .ok (.ifCond .lt 129, 3) := by decide +kernel
theorem dX7_packedLong_21 : decode cX7_packedLong 21 = .ok (.aload_n 0, 1) := by decide +kernel
theorem dX7_packedLong_22 : decode cX7_packedLong 22 = .ok (.iload_n 1, 1) := by decide +kernel
theorem dX7_packedLong_23 : decode cX7_packedLong 23 = .ok (.invokevirtual 106, 3) := by decide +kernel
theorem dX7_packedLong_26 : decode cX7_packedLong 26 = .ok (.sipush 1000, 3) := by decide +kernel
theorem dX7_packedLong_29 : decode cX7_packedLong 29 = .ok (.istore_n 2, 1) := by decide +kernel
theorem dX7_packedLong_30 : decode cX7_packedLong 30 = .ok (.iconst 1, 1) := by decide +kernel
theorem dX7_packedLong_31 : decode cX7_packedLong 31 = .ok (.istore_n 3, 1) := by decide +kernel
theorem dX7_packedLong_32 : decode cX7_packedLong 32 = .ok (.iload_n 3, 1) := by decide +kernel
theorem dX7_packedLong_33 : decode cX7_packedLong 33 = .ok (.bipush 32, 2) := by decide +kernel
theorem dX7_packedLong_35 : decode cX7_packedLong 35 = .ok (.if_icmp .gt 46, 3) := by decide +kernel
theorem dX7_packedLong_38 : decode cX7_packedLong 38 = .ok (.iload_n 1, 1) := by decide +kernel
theorem dX7_packedLong_39 : decode cX7_packedLong 39 = .ok (.iload_n 3, 1) := by decide +kernel
theorem dX7_packedLong_40 : decode cX7_packedLong 40 = .ok (.iadd, 1) := by decide +kernel
theorem dX7_packedLong_41 : decode cX7_packedLong 41 = .ok (.aload_n 0, 1) := by decide +kernel
theorem dX7_packedLong_42 : decode cX7_packedLong 42 = .ok (.getfield 103, 3) := by decide +kernel
theorem dX7_packedLong_45 : decode cX7_packedLong 45 = .ok (.if_icmp .gt 36, 3) := by decide +kernel
theorem dX7_packedLong_48 : decode cX7_packedLong 48 = .ok (.iconst 1, 1) := by decide +kernel
theorem dX7_packedLong_49 : decode cX7_packedLong 49 = .ok (.iload_n 3, 1) := by decide +kernel
theorem dX7_packedLong_50 : decode cX7_packedLong 50 = .ok (.iadd, 1) := by decide +kernel
theorem dX7_packedLong_51 : decode cX7_packedLong 51 = .ok (.aload_n 0, 1) := by decide +kernel
theorem dX7_packedLong_52 : decode cX7_packedLong 52 = .ok (.getfield 44, 3) := by decide +kernel
theorem dX7_packedLong_55 : decode cX7_packedLong 55 = .ok (.iload_n 1, 1) := by decide +kernel
theorem dX7_packedLong_56 : decode cX7_packedLong 56 = .ok (.iload_n 3, 1) := by decide +kernel
theorem dX7_packedLong_57 : decode cX7_packedLong 57 = .ok (.iadd, 1) := by decide +kernel
theorem dX7_packedLong_58 : decode cX7_packedLong 58 = .ok (.iaload, 1) := by decide +kernel
theorem dX7_packedLong_59 : decode cX7_packedLong 59 = .ok (.iadd, 1) := by decide +kernel
theorem dX7_packedLong_60 : decode cX7_packedLong 60 = .ok (.istore 4, 2) := by decide +kernel
theorem dX7_packedLong_62 : decode cX7_packedLong 62 = .ok (.iload 4, 2) := by decide +kernel
theorem dX7_packedLong_64 : decode cX7_packedLong 64 = .ok (.iload_n 2, 1) := by decide +kernel
theorem dX7_packedLong_65 : decode cX7_packedLong 65 = .ok (.if_icmp .ge 8, 3) := by decide +kernel
theorem dX7_packedLong_68 : decode cX7_packedLong 68 = .ok (.iload 4, 2) := by decide +kernel
theorem dX7_packedLong_70 : decode cX7_packedLong 70 = .ok (.goto 4, 3) := by decide +kernel
theorem dX7_packedLong_73 : decode cX7_packedLong 73 = .ok (.iload_n 2, 1) := by decide +kernel
theorem dX7_packedLong_74 : decode cX7_packedLong 74 = .ok (.istore_n 2, 1) := by decide +kernel
theorem dX7_packedLong_75 : decode cX7_packedLong 75 = .ok (.iinc 3 1, 3) := by decide +kernel
theorem dX7_packedLong_78 : decode cX7_packedLong 78 = .ok (.goto (-46), 3) := by decide +kernel
theorem dX7_packedLong_81 : decode cX7_packedLong 81 = .ok (.iconst 3, 1) := by decide +kernel
theorem dX7_packedLong_82 : decode cX7_packedLong 82 = .ok (.istore_n 3, 1) := by decide +kernel
theorem dX7_packedLong_83 : decode cX7_packedLong 83 = .ok (.iload_n 3, 1) := by decide +kernel
theorem dX7_packedLong_84 : decode cX7_packedLong 84 = .ok (.bipush 9, 2) := by decide +kernel
theorem dX7_packedLong_86 : decode cX7_packedLong 86 = .ok (.if_icmp .gt 48, 3) := by decide +kernel
theorem dX7_packedLong_89 : decode cX7_packedLong 89 = .ok (.aload_n 0, 1) := by decide +kernel
theorem dX7_packedLong_90 : decode cX7_packedLong 90 = .ok (.getfield 47, 3) := by decide +kernel
theorem dX7_packedLong_93 : decode cX7_packedLong 93 = .ok (.bipush 10, 2) := by decide +kernel
theorem dX7_packedLong_95 : decode cX7_packedLong 95 = .ok (.iload_n 1, 1) := by decide +kernel
theorem dX7_packedLong_96 : decode cX7_packedLong 96 = .ok (.imul, 1) := by decide +kernel
theorem dX7_packedLong_97 : decode cX7_packedLong 97 = .ok (.iload_n 3, 1) := by decide +kernel
theorem dX7_packedLong_98 : decode cX7_packedLong 98 = .ok (.iadd, 1) := by decide +kernel
theorem dX7_packedLong_99 : decode cX7_packedLong 99 = .ok (.iaload, 1) := by decide +kernel
theorem dX7_packedLong_100 : decode cX7_packedLong 100 = .ok (.ifCond .le 28, 3) := by decide +kernel
theorem dX7_packedLong_103 : decode cX7_packedLong 103 = .ok (.iconst 2, 1) := by decide +kernel
theorem dX7_packedLong_104 : decode cX7_packedLong 104 = .ok (.aload_n 0, 1) := by decide +kernel
theorem dX7_packedLong_105 : decode cX7_packedLong 105 = .ok (.getfield 44, 3) := by decide +kernel
theorem dX7_packedLong_108 : decode cX7_packedLong 108 = .ok (.iload_n 1, 1) := by decide +kernel
theorem dX7_packedLong_109 : decode cX7_packedLong 109 = .ok (.iload_n 3, 1) := by decide +kernel
theorem dX7_packedLong_110 : decode cX7_packedLong 110 = .ok (.iadd, 1) := by decide +kernel
theorem dX7_packedLong_111 : decode cX7_packedLong 111 = .ok (.iaload, 1) := by decide +kernel
theorem dX7_packedLong_112 : decode cX7_packedLong 112 = .ok (.iadd, 1) := by decide +kernel
theorem dX7_packedLong_113 : decode cX7_packedLong 113 = .ok (.iload_n 2, 1) := by decide +kernel
theorem dX7_packedLong_114 : decode cX7_packedLong 114 = .ok (.if_icmp .ge 14, 3) := by decide +kernel
theorem dX7_packedLong_117 : decode cX7_packedLong 117 = .ok (.iconst 2, 1) := by decide +kernel
theorem dX7_packedLong_118 : decode cX7_packedLong 118 = .ok (.aload_n 0, 1) := by decide +kernel
theorem dX7_packedLong_119 : decode cX7_packedLong 119 = .ok (.getfield 44, 3) := by decide +kernel
theorem dX7_packedLong_122 : decode cX7_packedLong 122 = .ok (.iload_n 1, 1) := by decide +kernel
theorem dX7_packedLong_123 : decode cX7_packedLong 123 = .ok (.iload_n 3, 1) := by decide +kernel
theorem dX7_packedLong_124 : decode cX7_packedLong 124 = .ok (.iadd, 1) := by decide +kernel
theorem dX7_packedLong_125 : decode cX7_packedLong 125 = .ok (.iaload, 1) := by decide +kernel
theorem dX7_packedLong_126 : decode cX7_packedLong 126 = .ok (.iadd, 1) := by decide +kernel
theorem dX7_packedLong_127 : decode cX7_packedLong 127 = .ok (.istore_n 2, 1) := by decide +kernel
theorem dX7_packedLong_128 : decode cX7_packedLong 128 = .ok (.iinc 3 1, 3) := by decide +kernel
theorem dX7_packedLong_131 : decode cX7_packedLong 131 = .ok (.goto (-48), 3) := by decide +kernel
theorem dX7_packedLong_134 : decode cX7_packedLong 134 = .ok (.aload_n 0, 1) := by decide +kernel
theorem dX7_packedLong_135 : decode cX7_packedLong 135 = .ok (.getfield 44, 3) := by decide +kernel
theorem dX7_packedLong_138 : decode cX7_packedLong 138 = .ok (.iload_n 1, 1) := by decide +kernel
theorem dX7_packedLong_139 : decode cX7_packedLong 139 = .ok (.iload_n 2, 1) := by decide +kernel
theorem dX7_packedLong_140 : decode cX7_packedLong 140 = .ok (.iastore, 1) := by decide +kernel
theorem dX7_packedLong_141 : decode cX7_packedLong 141 = .ok (.iinc 1 (-1), 3) := by decide +kernel
theorem dX7_packedLong_144 : decode cX7_packedLong 144 = .ok (.goto (-127), 3) := by decide +kernel
theorem dX7_packedLong_147 : decode cX7_packedLong 147 = .ok (.iconst 4, 1) := by decide +kernel
theorem dX7_packedLong_148 : decode cX7_packedLong 148 = .ok (.aload_n 0, 1) := by decide +kernel
theorem dX7_packedLong_149 : decode cX7_packedLong 149 = .ok (.getfield 44, 3) := by decide +kernel
theorem dX7_packedLong_152 : decode cX7_packedLong 152 = .ok (.iconst 0, 1) := by decide +kernel
theorem dX7_packedLong_153 : decode cX7_packedLong 153 = .ok (.iaload, 1) := by decide +kernel
theorem dX7_packedLong_154 : decode cX7_packedLong 154 = .ok (.iadd, 1) := by decide +kernel
theorem dX7_packedLong_155 : decode cX7_packedLong 155 = .ok (.ireturn, 1) := by decide +kernel
theorem dX7_sizeOf_0 : decode cX7_sizeOf 0 = .ok (.aload_n 0, 1) := by decide +kernel
theorem dX7_sizeOf_1 : decode cX7_sizeOf 1 = .ok (.iload_n 2, 1) := by decide +kernel
theorem dX7_sizeOf_2 : decode cX7_sizeOf 2 = .ok (.iload_n 3, 1) := by decide +kernel
theorem dX7_sizeOf_3 : decode cX7_sizeOf 3 = .ok (.invokevirtual 110, 3) := by decide +kernel
theorem dX7_sizeOf_6 : decode cX7_sizeOf 6 = .ok (.aload_n 0, 1) := by decide +kernel
theorem dX7_sizeOf_7 : decode cX7_sizeOf 7 = .ok (.iload_n 1, 1) := by decide +kernel
theorem dX7_sizeOf_8 : decode cX7_sizeOf 8 = .ok (.invokevirtual 114, 3) := by decide +kernel
theorem dX7_sizeOf_11 : decode cX7_sizeOf 11 = .ok (.aload_n 0, 1) := by decide +kernel
theorem dX7_sizeOf_12 : decode cX7_sizeOf 12 = .ok (.invokevirtual 117, 3) := by decide +kernel
theorem dX7_sizeOf_15 : decode cX7_sizeOf 15 = .ok (.ireturn, 1) := by decide +kernel
theorem dX7_sizeOfAll_0 : decode cX7_sizeOfAll 0 = .ok (.iconst 0, 1) := by decide +kernel
theorem dX7_sizeOfAll_1 : decode cX7_sizeOfAll 1 = .ok (.istore_n 3, 1) := by decide +kernel
theorem dX7_sizeOfAll_2 : decode cX7_sizeOfAll 2 = .ok (.iconst 0, 1) := by decide +kernel
theorem dX7_sizeOfAll_3 : decode cX7_sizeOfAll 3 = .ok (.istore 4, 2) := by decide +kernel
theorem dX7_sizeOfAll_5 : decode cX7_sizeOfAll 5 = .ok (.iload 4, 2) := by decide +kernel
theorem dX7_sizeOfAll_7 : decode cX7_sizeOfAll 7 = .ok (.aload_n 0, 1) := by decide +kernel
theorem dX7_sizeOfAll_8 : decode cX7_sizeOfAll 8 = .ok (.getfield 71, 3) := by decide +kernel
theorem dX7_sizeOfAll_11 : decode cX7_sizeOfAll 11 = .ok (.if_icmp .ge 20, 3) := by decide +kernel
theorem dX7_sizeOfAll_14 : decode cX7_sizeOfAll 14 = .ok (.iload_n 3, 1) := by decide +kernel
theorem dX7_sizeOfAll_15 : decode cX7_sizeOfAll 15 = .ok (.aload_n 0, 1) := by decide +kernel
theorem dX7_sizeOfAll_16 : decode cX7_sizeOfAll 16 = .ok (.iload 4, 2) := by decide +kernel
theorem dX7_sizeOfAll_18 : decode cX7_sizeOfAll 18 = .ok (.iload_n 1, 1) := by decide +kernel
theorem dX7_sizeOfAll_19 : decode cX7_sizeOfAll 19 = .ok (.iload_n 2, 1) := by decide +kernel
theorem dX7_sizeOfAll_20 : decode cX7_sizeOfAll 20 = .ok (.invokevirtual 121, 3) := by decide +kernel
theorem dX7_sizeOfAll_23 : decode cX7_sizeOfAll 23 = .ok (.iadd, 1) := by decide +kernel
theorem dX7_sizeOfAll_24 : decode cX7_sizeOfAll 24 = .ok (.istore_n 3, 1) := by decide +kernel
theorem dX7_sizeOfAll_25 : decode cX7_sizeOfAll 25 = .ok (.iinc 4 1, 3) := by decide +kernel
theorem dX7_sizeOfAll_28 : decode cX7_sizeOfAll 28 = .ok (.goto (-23), 3) := by decide +kernel
theorem dX7_sizeOfAll_31 : decode cX7_sizeOfAll 31 = .ok (.iload_n 3, 1) := by decide +kernel
theorem dX7_sizeOfAll_32 : decode cX7_sizeOfAll 32 = .ok (.ireturn, 1) := by decide +kernel
theorem dX7_trim_0 : decode cX7_trim 0 = .ok (.aload_n 0, 1) := by decide +kernel
theorem dX7_trim_1 : decode cX7_trim 1 = .ok (.iconst 0, 1) := by decide +kernel
theorem dX7_trim_2 : decode cX7_trim 2 = .ok (.putfield 60, 3) := by decide +kernel
theorem dX7_trim_5 : decode cX7_trim 5 = .ok (.aload_n 0, 1) := by decide +kernel
theorem dX7_trim_6 : decode cX7_trim 6 = .ok (.iload_n 1, 1) := by decide +kernel
theorem dX7_trim_7 : decode cX7_trim 7 = .ok (.invokevirtual 125, 3) := by decide +kernel
theorem dX7_trim_10 : decode cX7_trim 10 = .ok (.ifCond .ne 6, 3) := by decide +kernel
theorem dX7_trim_13 : decode cX7_trim 13 = .ok (.bipush (-101), 2) := by decide +kernel
theorem dX7_trim_15 : decode cX7_trim 15 = .ok (.ireturn, 1) := by decide +kernel
theorem dX7_trim_16 : decode cX7_trim 16 = .ok (.aload_n 0, 1) := by decide +kernel
theorem dX7_trim_17 : decode cX7_trim 17 = .ok (.getfield 71, 3) := by decide +kernel
theorem dX7_trim_20 : decode cX7_trim 20 = .ok (.ifCond .ne 6, 3) := by decide +kernel
theorem dX7_trim_23 : decode cX7_trim 23 = .ok (.bipush (-104), 2) := by decide +kernel
theorem dX7_trim_25 : decode cX7_trim 25 = .ok (.ireturn, 1) := by decide +kernel
theorem dX7_trim_26 : decode cX7_trim 26 = .ok (.iconst 0, 1) := by decide +kernel
theorem dX7_trim_27 : decode cX7_trim 27 = .ok (.istore_n 2, 1) := by decide +kernel
theorem dX7_trim_28 : decode cX7_trim 28 = .ok (.iconst 0, 1) := by decide +kernel
theorem dX7_trim_29 : decode cX7_trim 29 = .ok (.istore_n 3, 1) := by decide +kernel
theorem dX7_trim_30 : decode cX7_trim 30 = .ok (.iload_n 3, 1) := by decide +kernel
theorem dX7_trim_31 : decode cX7_trim 31 = .ok (.aload_n 0, 1) := by decide +kernel
theorem dX7_trim_32 : decode cX7_trim 32 = .ok (.getfield 22, 3) := by decide +kernel
theorem dX7_trim_35 : decode cX7_trim 35 = .ok (.iload_n 1, 1) := by decide +kernel
theorem dX7_trim_36 : decode cX7_trim 36 = .ok (.iaload, 1) := by decide +kernel
theorem dX7_trim_37 : decode cX7_trim 37 = .ok (.if_icmp .ge 36, 3) := by decide +kernel
theorem dX7_trim_40 : decode cX7_trim 40 = .ok (.aload_n 0, 1) := by decide +kernel
theorem dX7_trim_41 : decode cX7_trim 41 = .ok (.iload_n 1, 1) := by decide +kernel
theorem dX7_trim_42 : decode cX7_trim 42 = .ok (.iload_n 3, 1) := by decide +kernel
theorem dX7_trim_43 : decode cX7_trim 43 = .ok (.invokevirtual 129, 3) := by decide +kernel
theorem dX7_trim_46 : decode cX7_trim 46 = .ok (.aload_n 0, 1) := by decide +kernel
theorem dX7_trim_47 : decode cX7_trim 47 = .ok (.iload_n 1, 1) := by decide +kernel
theorem dX7_trim_48 : decode cX7_trim 48 = .ok (.iconst (-1), 1) := by decide +kernel
theorem dX7_trim_49 : decode cX7_trim 49 = .ok (.invokevirtual 129, 3) := by decide +kernel
theorem dX7_trim_52 : decode cX7_trim 52 = .ok (.if_icmp .gt 15, 3) := by decide +kernel
theorem dX7_trim_55 : decode cX7_trim 55 = .ok (.aload_n 0, 1) := by decide +kernel
theorem dX7_trim_56 : decode cX7_trim 56 = .ok (.iload_n 1, 1) := by decide +kernel
theorem dX7_trim_57 : decode cX7_trim 57 = .ok (.iload_n 3, 1) := by decide +kernel
theorem dX7_trim_58 : decode cX7_trim 58 = .ok (.invokevirtual 132, 3) := by decide +kernel
theorem dX7_trim_61 : decode cX7_trim 61 = .ok (.iinc 2 1, 3) := by decide +kernel
theorem dX7_trim_64 : decode cX7_trim 64 = .ok (.goto (-34), 3) := by decide +kernel
theorem dX7_trim_67 : decode cX7_trim 67 = .ok (.iinc 3 1, 3) := by decide +kernel
theorem dX7_trim_70 : decode cX7_trim 70 = .ok (.goto (-40), 3) := by decide +kernel
theorem dX7_trim_73 : decode cX7_trim 73 = .ok (.iload_n 2, 1) := by decide +kernel
theorem dX7_trim_74 : decode cX7_trim 74 = .ok (.ireturn, 1) := by decide +kernel
theorem dX7_goes_0 : decode cX7_goes 0 = .ok (.aload_n 0, 1) := by decide +kernel
theorem dX7_goes_1 : decode cX7_goes 1 = .ok (.iload_n 1, 1) := by decide +kernel
theorem dX7_goes_2 : decode cX7_goes 2 = .ok (.iload_n 2, 1) := by decide +kernel
theorem dX7_goes_3 : decode cX7_goes 3 = .ok (.invokevirtual 99, 3) := by decide +kernel
theorem dX7_goes_6 : decode cX7_goes 6 = .ok (.istore_n 3, 1) := by decide +kernel
theorem dX7_goes_7 : decode cX7_goes 7 = .ok (.aload_n 0, 1) := by decide +kernel
theorem dX7_goes_8 : decode cX7_goes 8 = .ok (.getfield 25, 3) := by decide +kernel
theorem dX7_goes_11 : decode cX7_goes 11 = .ok (.bipush 80, 2) := by decide +kernel
theorem dX7_goes_13 : decode cX7_goes 13 = .ok (.iload_n 1, 1) := by decide +kernel
theorem dX7_goes_14 : decode cX7_goes 14 = .ok (.imul, 1) := by decide +kernel
theorem dX7_goes_15 : decode cX7_goes 15 = .ok (.iload_n 2, 1) := by decide +kernel
theorem dX7_goes_16 : decode cX7_goes 16 = .ok (.iadd, 1) := by decide +kernel
theorem dX7_goes_17 : decode cX7_goes 17 = .ok (.iaload, 1) := by decide +kernel
theorem dX7_goes_18 : decode cX7_goes 18 = .ok (.istore 4, 2) := by decide +kernel
theorem dX7_goes_20 : decode cX7_goes 20 = .ok (.iload_n 3, 1) := by decide +kernel
theorem dX7_goes_21 : decode cX7_goes 21 = .ok (.istore 5, 2) := by decide +kernel
theorem dX7_goes_23 : decode cX7_goes 23 = .ok (.iload 5, 2) := by decide +kernel
theorem dX7_goes_25 : decode cX7_goes 25 = .ok (.iload 4, 2) := by decide +kernel
theorem dX7_goes_27 : decode cX7_goes 27 = .ok (.iadd, 1) := by decide +kernel
theorem dX7_goes_28 : decode cX7_goes 28 = .ok (.aload_n 0, 1) := by decide +kernel
theorem dX7_goes_29 : decode cX7_goes 29 = .ok (.getfield 28, 3) := by decide +kernel
theorem dX7_goes_32 : decode cX7_goes 32 = .ok (.iload_n 1, 1) := by decide +kernel
theorem dX7_goes_33 : decode cX7_goes 33 = .ok (.iaload, 1) := by decide +kernel
theorem dX7_goes_34 : decode cX7_goes 34 = .ok (.if_icmp .ge 36, 3) := by decide +kernel
theorem dX7_goes_37 : decode cX7_goes 37 = .ok (.aload_n 0, 1) := by decide +kernel
theorem dX7_goes_38 : decode cX7_goes 38 = .ok (.getfield 31, 3) := by decide +kernel
theorem dX7_goes_41 : decode cX7_goes 41 = .ok (.bipush 80, 2) := by decide +kernel
theorem dX7_goes_43 : decode cX7_goes 43 = .ok (.iload_n 1, 1) := by decide +kernel
theorem dX7_goes_44 : decode cX7_goes 44 = .ok (.imul, 1) := by decide +kernel
theorem dX7_goes_45 : decode cX7_goes 45 = .ok (.iload 5, 2) := by decide +kernel
theorem dX7_goes_47 : decode cX7_goes 47 = .ok (.iadd, 1) := by decide +kernel
theorem dX7_goes_48 : decode cX7_goes 48 = .ok (.aload_n 0, 1) := by decide +kernel
theorem dX7_goes_49 : decode cX7_goes 49 = .ok (.getfield 31, 3) := by decide +kernel
theorem dX7_goes_52 : decode cX7_goes 52 = .ok (.bipush 80, 2) := by decide +kernel
theorem dX7_goes_54 : decode cX7_goes 54 = .ok (.iload_n 1, 1) := by decide +kernel
theorem dX7_goes_55 : decode cX7_goes 55 = .ok (.imul, 1) := by decide +kernel
theorem dX7_goes_56 : decode cX7_goes 56 = .ok (.iload 5, 2) := by decide +kernel
theorem dX7_goes_58 : decode cX7_goes 58 = .ok (.iadd, 1) := by decide +kernel
theorem dX7_goes_59 : decode cX7_goes 59 = .ok (.iload 4, 2) := by decide +kernel
theorem dX7_goes_61 : decode cX7_goes 61 = .ok (.iadd, 1) := by decide +kernel
theorem dX7_goes_62 : decode cX7_goes 62 = .ok (.iaload, 1) := by decide +kernel
theorem dX7_goes_63 : decode cX7_goes 63 = .ok (.iastore, 1) := by decide +kernel
theorem dX7_goes_64 : decode cX7_goes 64 = .ok (.iinc 5 1, 3) := by decide +kernel
theorem dX7_goes_67 : decode cX7_goes 67 = .ok (.goto (-44), 3) := by decide +kernel
theorem dX7_goes_70 : decode cX7_goes 70 = .ok (.aload_n 0, 1) := by decide +kernel
theorem dX7_goes_71 : decode cX7_goes 71 = .ok (.getfield 28, 3) := by decide +kernel
theorem dX7_goes_74 : decode cX7_goes 74 = .ok (.iload_n 1, 1) := by decide +kernel
theorem dX7_goes_75 : decode cX7_goes 75 = .ok (.dup2, 1) := by decide +kernel
theorem dX7_goes_76 : decode cX7_goes 76 = .ok (.iaload, 1) := by decide +kernel
theorem dX7_goes_77 : decode cX7_goes 77 = .ok (.iload 4, 2) := by decide +kernel
theorem dX7_goes_79 : decode cX7_goes 79 = .ok (.isub, 1) := by decide +kernel
theorem dX7_goes_80 : decode cX7_goes 80 = .ok (.iastore, 1) := by decide +kernel
theorem dX7_goes_81 : decode cX7_goes 81 = .ok (.aload_n 0, 1) := by decide +kernel
theorem dX7_goes_82 : decode cX7_goes 82 = .ok (.getfield 22, 3) := by decide +kernel
theorem dX7_goes_85 : decode cX7_goes 85 = .ok (.iload_n 1, 1) := by decide +kernel
theorem dX7_goes_86 : decode cX7_goes 86 = .ok (.dup2, 1) := by decide +kernel
theorem dX7_goes_87 : decode cX7_goes 87 = .ok (.iaload, 1) := by decide +kernel
theorem dX7_goes_88 : decode cX7_goes 88 = .ok (.iconst 1, 1) := by decide +kernel
theorem dX7_goes_89 : decode cX7_goes 89 = .ok (.isub, 1) := by decide +kernel
theorem dX7_goes_90 : decode cX7_goes 90 = .ok (.iastore, 1) := by decide +kernel
theorem dX7_goes_91 : decode cX7_goes 91 = .ok (.iload_n 2, 1) := by decide +kernel
theorem dX7_goes_92 : decode cX7_goes 92 = .ok (.istore 5, 2) := by decide +kernel
theorem dX7_goes_94 : decode cX7_goes 94 = .ok (.iload 5, 2) := by decide +kernel
theorem dX7_goes_96 : decode cX7_goes 96 = .ok (.aload_n 0, 1) := by decide +kernel
theorem dX7_goes_97 : decode cX7_goes 97 = .ok (.getfield 22, 3) := by decide +kernel
theorem dX7_goes_100 : decode cX7_goes 100 = .ok (.iload_n 1, 1) := by decide +kernel
theorem dX7_goes_101 : decode cX7_goes 101 = .ok (.iaload, 1) := by decide +kernel
theorem dX7_goes_102 : decode cX7_goes 102 = .ok (.if_icmp .ge 35, 3) := by decide +kernel
theorem dX7_goes_105 : decode cX7_goes 105 = .ok (.aload_n 0, 1) := by decide +kernel
theorem dX7_goes_106 : decode cX7_goes 106 = .ok (.getfield 25, 3) := by decide +kernel
theorem dX7_goes_109 : decode cX7_goes 109 = .ok (.bipush 80, 2) := by decide +kernel
theorem dX7_goes_111 : decode cX7_goes 111 = .ok (.iload_n 1, 1) := by decide +kernel
theorem dX7_goes_112 : decode cX7_goes 112 = .ok (.imul, 1) := by decide +kernel
theorem dX7_goes_113 : decode cX7_goes 113 = .ok (.iload 5, 2) := by decide +kernel
theorem dX7_goes_115 : decode cX7_goes 115 = .ok (.iadd, 1) := by decide +kernel
theorem dX7_goes_116 : decode cX7_goes 116 = .ok (.aload_n 0, 1) := by decide +kernel
theorem dX7_goes_117 : decode cX7_goes 117 = .ok (.getfield 25, 3) := by decide +kernel
theorem dX7_goes_120 : decode cX7_goes 120 = .ok (.bipush 80, 2) := by decide +kernel
theorem dX7_goes_122 : decode cX7_goes 122 = .ok (.iload_n 1, 1) := by decide +kernel
theorem dX7_goes_123 : decode cX7_goes 123 = .ok (.imul, 1) := by decide +kernel
theorem dX7_goes_124 : decode cX7_goes 124 = .ok (.iload 5, 2) := by decide +kernel
theorem dX7_goes_126 : decode cX7_goes 126 = .ok (.iadd, 1) := by decide +kernel
theorem dX7_goes_127 : decode cX7_goes 127 = .ok (.iconst 1, 1) := by decide +kernel
theorem dX7_goes_128 : decode cX7_goes 128 = .ok (.iadd, 1) := by decide +kernel
theorem dX7_goes_129 : decode cX7_goes 129 = .ok (.iaload, 1) := by decide +kernel
theorem dX7_goes_130 : decode cX7_goes 130 = .ok (.iastore, 1) := by decide +kernel
theorem dX7_goes_131 : decode cX7_goes 131 = .ok (.iinc 5 1, 3) := by decide +kernel
theorem dX7_goes_134 : decode cX7_goes 134 = .ok (.goto (-40), 3) := by decide +kernel
theorem dX7_goes_137 : decode cX7_goes 137 = .ok (.return_, 1) := by decide +kernel
theorem dX7_drop_0 : decode cX7_drop 0 = .ok (.aload_n 0, 1) := by decide +kernel
theorem dX7_drop_1 : decode cX7_drop 1 = .ok (.iconst 0, 1) := by decide +kernel
theorem dX7_drop_2 : decode cX7_drop 2 = .ok (.putfield 60, 3) := by decide +kernel
theorem dX7_drop_5 : decode cX7_drop 5 = .ok (.aload_n 0, 1) := by decide +kernel
theorem dX7_drop_6 : decode cX7_drop 6 = .ok (.iload_n 1, 1) := by decide +kernel
theorem dX7_drop_7 : decode cX7_drop 7 = .ok (.invokevirtual 125, 3) := by decide +kernel
theorem dX7_drop_10 : decode cX7_drop 10 = .ok (.ifCond .ne 6, 3) := by decide +kernel
theorem dX7_drop_13 : decode cX7_drop 13 = .ok (.bipush (-101), 2) := by decide +kernel
theorem dX7_drop_15 : decode cX7_drop 15 = .ok (.ireturn, 1) := by decide +kernel
theorem dX7_drop_16 : decode cX7_drop 16 = .ok (.aload_n 0, 1) := by decide +kernel
theorem dX7_drop_17 : decode cX7_drop 17 = .ok (.getfield 19, 3) := by decide +kernel
theorem dX7_drop_20 : decode cX7_drop 20 = .ok (.iload_n 1, 1) := by decide +kernel
theorem dX7_drop_21 : decode cX7_drop 21 = .ok (.iconst 0, 1) := by decide +kernel
theorem dX7_drop_22 : decode cX7_drop 22 = .ok (.iastore, 1) := by decide +kernel
theorem dX7_drop_23 : decode cX7_drop 23 = .ok (.aload_n 0, 1) := by decide +kernel
theorem dX7_drop_24 : decode cX7_drop 24 = .ok (.getfield 22, 3) := by decide +kernel
theorem dX7_drop_27 : decode cX7_drop 27 = .ok (.iload_n 1, 1) := by decide +kernel
theorem dX7_drop_28 : decode cX7_drop 28 = .ok (.iaload, 1) := by decide +kernel
theorem dX7_drop_29 : decode cX7_drop 29 = .ok (.ireturn, 1) := by decide +kernel
theorem dX7_sumOf_0 : decode cX7_sumOf 0 = .ok (.iconst 1, 1) := by decide +kernel
theorem dX7_sumOf_1 : decode cX7_sumOf 1 = .ok (.istore_n 2, 1) := by decide +kernel
theorem dX7_sumOf_2 : decode cX7_sumOf 2 = .ok (.iconst 0, 1) := by decide +kernel
theorem dX7_sumOf_3 : decode cX7_sumOf 3 = .ok (.istore_n 3, 1) := by decide +kernel
theorem dX7_sumOf_4 : decode cX7_sumOf 4 = .ok (.iconst 0, 1) := by decide +kernel
theorem dX7_sumOf_5 : decode cX7_sumOf 5 = .ok (.istore 4, 2) := by decide +kernel
theorem dX7_sumOf_7 : decode cX7_sumOf 7 = .ok (.iload 4, 2) := by decide +kernel
theorem dX7_sumOf_9 : decode cX7_sumOf 9 = .ok (.aload_n 0, 1) := by decide +kernel
theorem dX7_sumOf_10 : decode cX7_sumOf 10 = .ok (.getfield 28, 3) := by decide +kernel
theorem dX7_sumOf_13 : decode cX7_sumOf 13 = .ok (.iload_n 1, 1) := by decide +kernel
theorem dX7_sumOf_14 : decode cX7_sumOf 14 = .ok (.iaload, 1) := by decide +kernel
theorem dX7_sumOf_15 : decode cX7_sumOf 15 = .ok (.if_icmp .ge 36, 3) := by decide +kernel
theorem dX7_sumOf_18 : decode cX7_sumOf 18 = .ok (.iload_n 2, 1) := by decide +kernel
theorem dX7_sumOf_19 : decode cX7_sumOf 19 = .ok (.aload_n 0, 1) := by decide +kernel
theorem dX7_sumOf_20 : decode cX7_sumOf 20 = .ok (.getfield 31, 3) := by decide +kernel
theorem dX7_sumOf_23 : decode cX7_sumOf 23 = .ok (.bipush 80, 2) := by decide +kernel
theorem dX7_sumOf_25 : decode cX7_sumOf 25 = .ok (.iload_n 1, 1) := by decide +kernel
theorem dX7_sumOf_26 : decode cX7_sumOf 26 = .ok (.imul, 1) := by decide +kernel
theorem dX7_sumOf_27 : decode cX7_sumOf 27 = .ok (.iload 4, 2) := by decide +kernel
theorem dX7_sumOf_29 : decode cX7_sumOf 29 = .ok (.iadd, 1) := by decide +kernel
theorem dX7_sumOf_30 : decode cX7_sumOf 30 = .ok (.iaload, 1) := by decide +kernel
theorem dX7_sumOf_31 : decode cX7_sumOf 31 = .ok (.iadd, 1) := by decide +kernel
theorem dX7_sumOf_32 : decode cX7_sumOf 32 = .ok (.sipush 251, 3) := by decide +kernel
theorem dX7_sumOf_35 : decode cX7_sumOf 35 = .ok (.irem, 1) := by decide +kernel
theorem dX7_sumOf_36 : decode cX7_sumOf 36 = .ok (.istore_n 2, 1) := by decide +kernel
theorem dX7_sumOf_37 : decode cX7_sumOf 37 = .ok (.iload_n 3, 1) := by decide +kernel
theorem dX7_sumOf_38 : decode cX7_sumOf 38 = .ok (.iload_n 2, 1) := by decide +kernel
theorem dX7_sumOf_39 : decode cX7_sumOf 39 = .ok (.iadd, 1) := by decide +kernel
theorem dX7_sumOf_40 : decode cX7_sumOf 40 = .ok (.sipush 251, 3) := by decide +kernel
theorem dX7_sumOf_43 : decode cX7_sumOf 43 = .ok (.irem, 1) := by decide +kernel
theorem dX7_sumOf_44 : decode cX7_sumOf 44 = .ok (.istore_n 3, 1) := by decide +kernel
theorem dX7_sumOf_45 : decode cX7_sumOf 45 = .ok (.iinc 4 1, 3) := by decide +kernel
theorem dX7_sumOf_48 : decode cX7_sumOf 48 = .ok (.goto (-41), 3) := by decide +kernel
theorem dX7_sumOf_51 : decode cX7_sumOf 51 = .ok (.sipush 256, 3) := by decide +kernel
theorem dX7_sumOf_54 : decode cX7_sumOf 54 = .ok (.iload_n 3, 1) := by decide +kernel
theorem dX7_sumOf_55 : decode cX7_sumOf 55 = .ok (.imul, 1) := by decide +kernel
theorem dX7_sumOf_56 : decode cX7_sumOf 56 = .ok (.iload_n 2, 1) := by decide +kernel
theorem dX7_sumOf_57 : decode cX7_sumOf 57 = .ok (.iadd, 1) := by decide +kernel
theorem dX7_sumOf_58 : decode cX7_sumOf 58 = .ok (.ireturn, 1) := by decide +kernel
theorem dX7_told_0 : decode cX7_told 0 = .ok (.aload_n 0, 1) := by decide +kernel
theorem dX7_told_1 : decode cX7_told 1 = .ok (.iconst 0, 1) := by decide +kernel
theorem dX7_told_2 : decode cX7_told 2 = .ok (.putfield 60, 3) := by decide +kernel
theorem dX7_told_5 : decode cX7_told 5 = .ok (.aload_n 0, 1) := by decide +kernel
theorem dX7_told_6 : decode cX7_told 6 = .ok (.iload_n 1, 1) := by decide +kernel
theorem dX7_told_7 : decode cX7_told 7 = .ok (.invokevirtual 125, 3) := by decide +kernel
theorem dX7_told_10 : decode cX7_told 10 = .ok (.ifCond .ne 6, 3) := by decide +kernel
theorem dX7_told_13 : decode cX7_told 13 = .ok (.bipush (-101), 2) := by decide +kernel
theorem dX7_told_15 : decode cX7_told 15 = .ok (.ireturn, 1) := by decide +kernel
theorem dX7_told_16 : decode cX7_told 16 = .ok (.iload_n 2, 1) := by decide +kernel
theorem dX7_told_17 : decode cX7_told 17 = .ok (.tableswitch 58 0 3 #[31, 38, 45, 52], 31) := by decide +kernel
theorem dX7_told_48 : decode cX7_told 48 = .ok (.aload_n 0, 1) := by decide +kernel
theorem dX7_told_49 : decode cX7_told 49 = .ok (.getfield 19, 3) := by decide +kernel
theorem dX7_told_52 : decode cX7_told 52 = .ok (.iload_n 1, 1) := by decide +kernel
theorem dX7_told_53 : decode cX7_told 53 = .ok (.iaload, 1) := by decide +kernel
end
section
theorem dX7_told_54 : decode cX7_told 54 = .ok (.ireturn, 1) := by decide +kernel
theorem dX7_told_55 : decode cX7_told 55 = .ok (.aload_n 0, 1) := by decide +kernel
theorem dX7_told_56 : decode cX7_told 56 = .ok (.getfield 22, 3) := by decide +kernel
theorem dX7_told_59 : decode cX7_told 59 = .ok (.iload_n 1, 1) := by decide +kernel
theorem dX7_told_60 : decode cX7_told 60 = .ok (.iaload, 1) := by decide +kernel
theorem dX7_told_61 : decode cX7_told 61 = .ok (.ireturn, 1) := by decide +kernel
theorem dX7_told_62 : decode cX7_told 62 = .ok (.aload_n 0, 1) := by decide +kernel
theorem dX7_told_63 : decode cX7_told 63 = .ok (.getfield 28, 3) := by decide +kernel
theorem dX7_told_66 : decode cX7_told 66 = .ok (.iload_n 1, 1) := by decide +kernel
theorem dX7_told_67 : decode cX7_told 67 = .ok (.iaload, 1) := by decide +kernel
theorem dX7_told_68 : decode cX7_told 68 = .ok (.ireturn, 1) := by decide +kernel
theorem dX7_told_69 : decode cX7_told 69 = .ok (.aload_n 0, 1) := by decide +kernel
theorem dX7_told_70 : decode cX7_told 70 = .ok (.iload_n 1, 1) := by decide +kernel
theorem dX7_told_71 : decode cX7_told 71 = .ok (.invokevirtual 135, 3) := by decide +kernel
theorem dX7_told_74 : decode cX7_told 74 = .ok (.ireturn, 1) := by decide +kernel
theorem dX7_told_75 : decode cX7_told 75 = .ok (.iload_n 2, 1) := by decide +kernel
theorem dX7_told_76 : decode cX7_told 76 = .ok (.i2l, 1) := by decide +kernel
theorem dX7_told_77 : decode cX7_told 77 = .ok (.ldc2_w 139, 3) := by decide +kernel
theorem dX7_told_80 : decode cX7_told 80 = .ok (.bipush 9, 2) := by decide +kernel
theorem dX7_told_82 : decode cX7_told 82 = .ok (.aload_n 0, 1) := by decide +kernel
theorem dX7_told_83 : decode cX7_told 83 = .ok (.getfield 22, 3) := by decide +kernel
theorem dX7_told_86 : decode cX7_told 86 = .ok (.iload_n 1, 1) := by decide +kernel
theorem dX7_told_87 : decode cX7_told 87 = .ok (.iaload, 1) := by decide +kernel
theorem dX7_told_88 : decode cX7_told 88 = .ok (.iadd, 1) := by decide +kernel
theorem dX7_told_89 : decode cX7_told 89 = .ok (.i2l, 1) := by decide +kernel
theorem dX7_told_90 : decode cX7_told 90 = .ok (.invokestatic 65, 3) := by decide +kernel
theorem dX7_told_93 : decode cX7_told 93 = .ok (.ifCond .eq 20, 3) := by decide +kernel
theorem dX7_told_96 : decode cX7_told 96 = .ok (.aload_n 0, 1) := by decide +kernel
theorem dX7_told_97 : decode cX7_told 97 = .ok (.getfield 25, 3) := by decide +kernel
theorem dX7_told_100 : decode cX7_told 100 = .ok (.bipush 80, 2) := by decide +kernel
theorem dX7_told_102 : decode cX7_told 102 = .ok (.iload_n 1, 1) := by decide +kernel
theorem dX7_told_103 : decode cX7_told 103 = .ok (.imul, 1) := by decide +kernel
theorem dX7_told_104 : decode cX7_told 104 = .ok (.iload_n 2, 1) := by decide +kernel
theorem dX7_told_105 : decode cX7_told 105 = .ok (.iadd, 1) := by decide +kernel
theorem dX7_told_106 : decode cX7_told 106 = .ok (.bipush 10, 2) := by decide +kernel
theorem dX7_told_108 : decode cX7_told 108 = .ok (.isub, 1) := by decide +kernel
theorem dX7_told_109 : decode cX7_told 109 = .ok (.iaload, 1) := by decide +kernel
theorem dX7_told_110 : decode cX7_told 110 = .ok (.goto 5, 3) := by decide +kernel
theorem dX7_told_113 : decode cX7_told 113 = .ok (.bipush (-102), 2) := by decide +kernel
theorem dX7_told_115 : decode cX7_told 115 = .ok (.ireturn, 1) := by decide +kernel
theorem dX7_content_0 : decode cX7_content 0 = .ok (.aload_n 0, 1) := by decide +kernel
theorem dX7_content_1 : decode cX7_content 1 = .ok (.iload_n 1, 1) := by decide +kernel
theorem dX7_content_2 : decode cX7_content 2 = .ok (.i2l, 1) := by decide +kernel
theorem dX7_content_3 : decode cX7_content 3 = .ok (.lconst 0, 1) := by decide +kernel
theorem dX7_content_4 : decode cX7_content 4 = .ok (.ldc2_w 81, 3) := by decide +kernel
theorem dX7_content_7 : decode cX7_content 7 = .ok (.invokestatic 65, 3) := by decide +kernel
theorem dX7_content_10 : decode cX7_content 10 = .ok (.ifCond .ne 7, 3) := by decide +kernel
theorem dX7_content_13 : decode cX7_content 13 = .ok (.iconst 2, 1) := by decide +kernel
theorem dX7_content_14 : decode cX7_content 14 = .ok (.goto 39, 3) := by decide +kernel
theorem dX7_content_17 : decode cX7_content 17 = .ok (.aload_n 0, 1) := by decide +kernel
theorem dX7_content_18 : decode cX7_content 18 = .ok (.getfield 19, 3) := by decide +kernel
theorem dX7_content_21 : decode cX7_content 21 = .ok (.iload_n 1, 1) := by decide +kernel
theorem dX7_content_22 : decode cX7_content 22 = .ok (.iaload, 1) := by decide +kernel
theorem dX7_content_23 : decode cX7_content 23 = .ok (.ifCond .ne 7, 3) := by decide +kernel
theorem dX7_content_26 : decode cX7_content 26 = .ok (.iconst 1, 1) := by decide +kernel
theorem dX7_content_27 : decode cX7_content 27 = .ok (.goto 26, 3) := by decide +kernel
theorem dX7_content_30 : decode cX7_content 30 = .ok (.iload_n 2, 1) := by decide +kernel
theorem dX7_content_31 : decode cX7_content 31 = .ok (.i2l, 1) := by decide +kernel
theorem dX7_content_32 : decode cX7_content 32 = .ok (.lconst 0, 1) := by decide +kernel
theorem dX7_content_33 : decode cX7_content 33 = .ok (.aload_n 0, 1) := by decide +kernel
theorem dX7_content_34 : decode cX7_content 34 = .ok (.getfield 28, 3) := by decide +kernel
theorem dX7_content_37 : decode cX7_content 37 = .ok (.iload_n 1, 1) := by decide +kernel
theorem dX7_content_38 : decode cX7_content 38 = .ok (.iaload, 1) := by decide +kernel
theorem dX7_content_39 : decode cX7_content 39 = .ok (.iconst 1, 1) := by decide +kernel
theorem dX7_content_40 : decode cX7_content 40 = .ok (.isub, 1) := by decide +kernel
theorem dX7_content_41 : decode cX7_content 41 = .ok (.i2l, 1) := by decide +kernel
theorem dX7_content_42 : decode cX7_content 42 = .ok (.invokestatic 65, 3) := by decide +kernel
theorem dX7_content_45 : decode cX7_content 45 = .ok (.ifCond .eq 7, 3) := by decide +kernel
theorem dX7_content_48 : decode cX7_content 48 = .ok (.iconst 0, 1) := by decide +kernel
theorem dX7_content_49 : decode cX7_content 49 = .ok (.goto 4, 3) := by decide +kernel
theorem dX7_content_52 : decode cX7_content 52 = .ok (.iconst 2, 1) := by decide +kernel
theorem dX7_content_53 : decode cX7_content 53 = .ok (.putfield 60, 3) := by decide +kernel
theorem dX7_content_56 : decode cX7_content 56 = .ok (.aload_n 0, 1) := by decide +kernel
theorem dX7_content_57 : decode cX7_content 57 = .ok (.getfield 60, 3) := by decide +kernel
theorem dX7_content_60 : decode cX7_content 60 = .ok (.ifCond .le 7, 3) := by decide +kernel
theorem dX7_content_63 : decode cX7_content 63 = .ok (.iconst 0, 1) := by decide +kernel
theorem dX7_content_64 : decode cX7_content 64 = .ok (.goto 15, 3) := by decide +kernel
theorem dX7_content_67 : decode cX7_content 67 = .ok (.aload_n 0, 1) := by decide +kernel
theorem dX7_content_68 : decode cX7_content 68 = .ok (.getfield 31, 3) := by decide +kernel
theorem dX7_content_71 : decode cX7_content 71 = .ok (.bipush 80, 2) := by decide +kernel
theorem dX7_content_73 : decode cX7_content 73 = .ok (.iload_n 1, 1) := by decide +kernel
theorem dX7_content_74 : decode cX7_content 74 = .ok (.imul, 1) := by decide +kernel
theorem dX7_content_75 : decode cX7_content 75 = .ok (.iload_n 2, 1) := by decide +kernel
theorem dX7_content_76 : decode cX7_content 76 = .ok (.iadd, 1) := by decide +kernel
theorem dX7_content_77 : decode cX7_content 77 = .ok (.iaload, 1) := by decide +kernel
theorem dX7_content_78 : decode cX7_content 78 = .ok (.i2b, 1) := by decide +kernel
theorem dX7_content_79 : decode cX7_content 79 = .ok (.ireturn, 1) := by decide +kernel
theorem dX7_put_0 : decode cX7_put 0 = .ok (.aload_n 0, 1) := by decide +kernel
theorem dX7_put_1 : decode cX7_put 1 = .ok (.getfield 50, 3) := by decide +kernel
theorem dX7_put_4 : decode cX7_put 4 = .ok (.aload_n 0, 1) := by decide +kernel
theorem dX7_put_5 : decode cX7_put 5 = .ok (.getfield 141, 3) := by decide +kernel
theorem dX7_put_8 : decode cX7_put 8 = .ok (.iload_n 1, 1) := by decide +kernel
theorem dX7_put_9 : decode cX7_put 9 = .ok (.iastore, 1) := by decide +kernel
theorem dX7_put_10 : decode cX7_put 10 = .ok (.aload_n 0, 1) := by decide +kernel
theorem dX7_put_11 : decode cX7_put 11 = .ok (.dup, 1) := by decide +kernel
theorem dX7_put_12 : decode cX7_put 12 = .ok (.getfield 141, 3) := by decide +kernel
theorem dX7_put_15 : decode cX7_put 15 = .ok (.iconst 1, 1) := by decide +kernel
theorem dX7_put_16 : decode cX7_put 16 = .ok (.iadd, 1) := by decide +kernel
theorem dX7_put_17 : decode cX7_put 17 = .ok (.putfield 141, 3) := by decide +kernel
theorem dX7_put_20 : decode cX7_put 20 = .ok (.return_, 1) := by decide +kernel
theorem dX7_putItem_0 : decode cX7_putItem 0 = .ok (.bipush 9, 2) := by decide +kernel
theorem dX7_putItem_2 : decode cX7_putItem 2 = .ok (.istore_n 2, 1) := by decide +kernel
theorem dX7_putItem_3 : decode cX7_putItem 3 = .ok (.iload_n 2, 1) := by decide +kernel
theorem dX7_putItem_4 : decode cX7_putItem 4 = .ok (.iconst 3, 1) := by decide +kernel
theorem dX7_putItem_5 : decode cX7_putItem 5 = .ok (.if_icmp .lt 83, 3) := by decide +kernel
theorem dX7_putItem_8 : decode cX7_putItem 8 = .ok (.aload_n 0, 1) := by decide +kernel
theorem dX7_putItem_9 : decode cX7_putItem 9 = .ok (.getfield 47, 3) := by decide +kernel
theorem dX7_putItem_12 : decode cX7_putItem 12 = .ok (.bipush 10, 2) := by decide +kernel
theorem dX7_putItem_14 : decode cX7_putItem 14 = .ok (.iload_n 1, 1) := by decide +kernel
theorem dX7_putItem_15 : decode cX7_putItem 15 = .ok (.imul, 1) := by decide +kernel
theorem dX7_putItem_16 : decode cX7_putItem 16 = .ok (.iload_n 2, 1) := by decide +kernel
theorem dX7_putItem_17 : decode cX7_putItem 17 = .ok (.iadd, 1) := by decide +kernel
theorem dX7_putItem_18 : decode cX7_putItem 18 = .ok (.iaload, 1) := by decide +kernel
theorem dX7_putItem_19 : decode cX7_putItem 19 = .ok (.iconst 1, 1) := by decide +kernel
theorem dX7_putItem_20 : decode cX7_putItem 20 = .ok (.isub, 1) := by decide +kernel
theorem dX7_putItem_21 : decode cX7_putItem 21 = .ok (.istore_n 3, 1) := by decide +kernel
theorem dX7_putItem_22 : decode cX7_putItem 22 = .ok (.iload_n 3, 1) := by decide +kernel
theorem dX7_putItem_23 : decode cX7_putItem 23 = .ok (.ifCond .lt 59, 3) := by decide +kernel
theorem dX7_putItem_26 : decode cX7_putItem 26 = .ok (.iconst 2, 1) := by decide +kernel
theorem dX7_putItem_27 : decode cX7_putItem 27 = .ok (.aload_n 0, 1) := by decide +kernel
theorem dX7_putItem_28 : decode cX7_putItem 28 = .ok (.getfield 44, 3) := by decide +kernel
theorem dX7_putItem_31 : decode cX7_putItem 31 = .ok (.iload_n 1, 1) := by decide +kernel
theorem dX7_putItem_32 : decode cX7_putItem 32 = .ok (.iload_n 2, 1) := by decide +kernel
theorem dX7_putItem_33 : decode cX7_putItem 33 = .ok (.iadd, 1) := by decide +kernel
theorem dX7_putItem_34 : decode cX7_putItem 34 = .ok (.iaload, 1) := by decide +kernel
theorem dX7_putItem_35 : decode cX7_putItem 35 = .ok (.iadd, 1) := by decide +kernel
theorem dX7_putItem_36 : decode cX7_putItem 36 = .ok (.aload_n 0, 1) := by decide +kernel
theorem dX7_putItem_37 : decode cX7_putItem 37 = .ok (.getfield 44, 3) := by decide +kernel
theorem dX7_putItem_40 : decode cX7_putItem 40 = .ok (.iload_n 1, 1) := by decide +kernel
theorem dX7_putItem_41 : decode cX7_putItem 41 = .ok (.iaload, 1) := by decide +kernel
theorem dX7_putItem_42 : decode cX7_putItem 42 = .ok (.if_icmp .ne 40, 3) := by decide +kernel
theorem dX7_putItem_45 : decode cX7_putItem 45 = .ok (.aload_n 0, 1) := by decide +kernel
theorem dX7_putItem_46 : decode cX7_putItem 46 = .ok (.bipush 32, 2) := by decide +kernel
theorem dX7_putItem_48 : decode cX7_putItem 48 = .ok (.iload_n 2, 1) := by decide +kernel
theorem dX7_putItem_49 : decode cX7_putItem 49 = .ok (.iconst 2, 1) := by decide +kernel
theorem dX7_putItem_50 : decode cX7_putItem 50 = .ok (.isub, 1) := by decide +kernel
theorem dX7_putItem_51 : decode cX7_putItem 51 = .ok (.imul, 1) := by decide +kernel
theorem dX7_putItem_52 : decode cX7_putItem 52 = .ok (.iload_n 3, 1) := by decide +kernel
theorem dX7_putItem_53 : decode cX7_putItem 53 = .ok (.sipush 256, 3) := by decide +kernel
theorem dX7_putItem_56 : decode cX7_putItem 56 = .ok (.idiv, 1) := by decide +kernel
theorem dX7_putItem_57 : decode cX7_putItem 57 = .ok (.iadd, 1) := by decide +kernel
theorem dX7_putItem_58 : decode cX7_putItem 58 = .ok (.invokevirtual 144, 3) := by decide +kernel
theorem dX7_putItem_61 : decode cX7_putItem 61 = .ok (.aload_n 0, 1) := by decide +kernel
theorem dX7_putItem_62 : decode cX7_putItem 62 = .ok (.iload_n 3, 1) := by decide +kernel
theorem dX7_putItem_63 : decode cX7_putItem 63 = .ok (.sipush 256, 3) := by decide +kernel
theorem dX7_putItem_66 : decode cX7_putItem 66 = .ok (.irem, 1) := by decide +kernel
theorem dX7_putItem_67 : decode cX7_putItem 67 = .ok (.invokevirtual 144, 3) := by decide +kernel
theorem dX7_putItem_70 : decode cX7_putItem 70 = .ok (.aload_n 0, 1) := by decide +kernel
theorem dX7_putItem_71 : decode cX7_putItem 71 = .ok (.dup, 1) := by decide +kernel
theorem dX7_putItem_72 : decode cX7_putItem 72 = .ok (.getfield 147, 3) := by decide +kernel
theorem dX7_putItem_75 : decode cX7_putItem 75 = .ok (.iconst 1, 1) := by decide +kernel
theorem dX7_putItem_76 : decode cX7_putItem 76 = .ok (.iadd, 1) := by decide +kernel
theorem dX7_putItem_77 : decode cX7_putItem 77 = .ok (.putfield 147, 3) := by decide +kernel
theorem dX7_putItem_80 : decode cX7_putItem 80 = .ok (.iload_n 2, 1) := by decide +kernel
theorem dX7_putItem_81 : decode cX7_putItem 81 = .ok (.ireturn, 1) := by decide +kernel
theorem dX7_putItem_82 : decode cX7_putItem 82 = .ok (.iinc 2 (-1), 3) := by decide +kernel
theorem dX7_putItem_85 : decode cX7_putItem 85 = .ok (.goto (-82), 3) := by decide +kernel
theorem dX7_putItem_88 : decode cX7_putItem 88 = .ok (.aload_n 0, 1) := by decide +kernel
theorem dX7_putItem_89 : decode cX7_putItem 89 = .ok (.getfield 103, 3) := by decide +kernel
theorem dX7_putItem_92 : decode cX7_putItem 92 = .ok (.iload_n 1, 1) := by decide +kernel
theorem dX7_putItem_93 : decode cX7_putItem 93 = .ok (.isub, 1) := by decide +kernel
theorem dX7_putItem_94 : decode cX7_putItem 94 = .ok (.bipush 32, 2) := by decide +kernel
theorem dX7_putItem_96 : decode cX7_putItem 96 = .ok (.if_icmp .ge 12, 3) := by decide +kernel
theorem dX7_putItem_99 : decode cX7_putItem 99 = .ok (.aload_n 0, 1) := by decide +kernel
theorem dX7_putItem_100 : decode cX7_putItem 100 = .ok (.getfield 103, 3) := by decide +kernel
theorem dX7_putItem_103 : decode cX7_putItem 103 = .ok (.iload_n 1, 1) := by decide +kernel
theorem dX7_putItem_104 : decode cX7_putItem 104 = .ok (.isub, 1) := by decide +kernel
theorem dX7_putItem_105 : decode cX7_putItem 105 = .ok (.goto 5, 3) := by decide +kernel
theorem dX7_putItem_108 : decode cX7_putItem 108 = .ok (.bipush 32, 2) := by decide +kernel
theorem dX7_putItem_110 : decode cX7_putItem 110 = .ok (.istore_n 2, 1) := by decide +kernel
theorem dX7_putItem_111 : decode cX7_putItem 111 = .ok (.iconst 1, 1) := by decide +kernel
theorem dX7_putItem_112 : decode cX7_putItem 112 = .ok (.iload_n 2, 1) := by decide +kernel
theorem dX7_putItem_113 : decode cX7_putItem 113 = .ok (.iadd, 1) := by decide +kernel
theorem dX7_putItem_114 : decode cX7_putItem 114 = .ok (.aload_n 0, 1) := by decide +kernel
theorem dX7_putItem_115 : decode cX7_putItem 115 = .ok (.getfield 44, 3) := by decide +kernel
theorem dX7_putItem_118 : decode cX7_putItem 118 = .ok (.iload_n 1, 1) := by decide +kernel
theorem dX7_putItem_119 : decode cX7_putItem 119 = .ok (.iload_n 2, 1) := by decide +kernel
theorem dX7_putItem_120 : decode cX7_putItem 120 = .ok (.iadd, 1) := by decide +kernel
theorem dX7_putItem_121 : decode cX7_putItem 121 = .ok (.iaload, 1) := by decide +kernel
theorem dX7_putItem_122 : decode cX7_putItem 122 = .ok (.iadd, 1) := by decide +kernel
theorem dX7_putItem_123 : decode cX7_putItem 123 = .ok (.aload_n 0, 1) := by decide +kernel
theorem dX7_putItem_124 : decode cX7_putItem 124 = .ok (.getfield 44, 3) := by decide +kernel
theorem dX7_putItem_127 : decode cX7_putItem 127 = .ok (.iload_n 1, 1) := by decide +kernel
theorem dX7_putItem_128 : decode cX7_putItem 128 = .ok (.iaload, 1) := by decide +kernel
theorem dX7_putItem_129 : decode cX7_putItem 129 = .ok (.if_icmp .eq 9, 3) := by decide +kernel
theorem dX7_putItem_132 : decode cX7_putItem 132 = .ok (.iinc 2 (-1), 3) := by decide +kernel
theorem dX7_putItem_135 : decode cX7_putItem 135 = .ok (.goto (-24), 3) := by decide +kernel
theorem dX7_putItem_138 : decode cX7_putItem 138 = .ok (.aload_n 0, 1) := by decide +kernel
theorem dX7_putItem_139 : decode cX7_putItem 139 = .ok (.iload_n 2, 1) := by decide +kernel
theorem dX7_putItem_140 : decode cX7_putItem 140 = .ok (.iconst 1, 1) := by decide +kernel
theorem dX7_putItem_141 : decode cX7_putItem 141 = .ok (.isub, 1) := by decide +kernel
theorem dX7_putItem_142 : decode cX7_putItem 142 = .ok (.invokevirtual 144, 3) := by decide +kernel
theorem dX7_putItem_145 : decode cX7_putItem 145 = .ok (.iconst 0, 1) := by decide +kernel
theorem dX7_putItem_146 : decode cX7_putItem 146 = .ok (.istore_n 3, 1) := by decide +kernel
theorem dX7_putItem_147 : decode cX7_putItem 147 = .ok (.iload_n 3, 1) := by decide +kernel
theorem dX7_putItem_148 : decode cX7_putItem 148 = .ok (.iload_n 2, 1) := by decide +kernel
theorem dX7_putItem_149 : decode cX7_putItem 149 = .ok (.if_icmp .ge 26, 3) := by decide +kernel
theorem dX7_putItem_152 : decode cX7_putItem 152 = .ok (.aload_n 0, 1) := by decide +kernel
theorem dX7_putItem_153 : decode cX7_putItem 153 = .ok (.aload_n 0, 1) := by decide +kernel
theorem dX7_putItem_154 : decode cX7_putItem 154 = .ok (.getfield 41, 3) := by decide +kernel
theorem dX7_putItem_157 : decode cX7_putItem 157 = .ok (.aload_n 0, 1) := by decide +kernel
theorem dX7_putItem_158 : decode cX7_putItem 158 = .ok (.getfield 96, 3) := by decide +kernel
theorem dX7_putItem_161 : decode cX7_putItem 161 = .ok (.iload_n 1, 1) := by decide +kernel
theorem dX7_putItem_162 : decode cX7_putItem 162 = .ok (.iadd, 1) := by decide +kernel
theorem dX7_putItem_163 : decode cX7_putItem 163 = .ok (.iload_n 3, 1) := by decide +kernel
theorem dX7_putItem_164 : decode cX7_putItem 164 = .ok (.iadd, 1) := by decide +kernel
theorem dX7_putItem_165 : decode cX7_putItem 165 = .ok (.iaload, 1) := by decide +kernel
theorem dX7_putItem_166 : decode cX7_putItem 166 = .ok (.invokevirtual 144, 3) := by decide +kernel
theorem dX7_putItem_169 : decode cX7_putItem 169 = .ok (.iinc 3 1, 3) := by decide +kernel
theorem dX7_putItem_172 : decode cX7_putItem 172 = .ok (.goto (-25), 3) := by decide +kernel
theorem dX7_putItem_175 : decode cX7_putItem 175 = .ok (.iload_n 2, 1) := by decide +kernel
theorem dX7_putItem_176 : decode cX7_putItem 176 = .ok (.ireturn, 1) := by decide +kernel
theorem dX7_pack_0 : decode cX7_pack 0 = .ok (.aload_n 0, 1) := by decide +kernel
theorem dX7_pack_1 : decode cX7_pack 1 = .ok (.iconst 0, 1) := by decide +kernel
theorem dX7_pack_2 : decode cX7_pack 2 = .ok (.putfield 60, 3) := by decide +kernel
theorem dX7_pack_5 : decode cX7_pack 5 = .ok (.iload_n 1, 1) := by decide +kernel
theorem dX7_pack_6 : decode cX7_pack 6 = .ok (.iconst (-1), 1) := by decide +kernel
theorem dX7_pack_7 : decode cX7_pack 7 = .ok (.if_icmp .eq 14, 3) := by decide +kernel
theorem dX7_pack_10 : decode cX7_pack 10 = .ok (.aload_n 0, 1) := by decide +kernel
theorem dX7_pack_11 : decode cX7_pack 11 = .ok (.iload_n 1, 1) := by decide +kernel
theorem dX7_pack_12 : decode cX7_pack 12 = .ok (.invokevirtual 125, 3) := by decide +kernel
theorem dX7_pack_15 : decode cX7_pack 15 = .ok (.ifCond .ne 6, 3) := by decide +kernel
theorem dX7_pack_18 : decode cX7_pack 18 = .ok (.bipush (-101), 2) := by decide +kernel
theorem dX7_pack_20 : decode cX7_pack 20 = .ok (.ireturn, 1) := by decide +kernel
theorem dX7_pack_21 : decode cX7_pack 21 = .ok (.aload_n 0, 1) := by decide +kernel
theorem dX7_pack_22 : decode cX7_pack 22 = .ok (.iload_n 1, 1) := by decide +kernel
theorem dX7_pack_23 : decode cX7_pack 23 = .ok (.iconst (-1), 1) := by decide +kernel
theorem dX7_pack_24 : decode cX7_pack 24 = .ok (.invokevirtual 110, 3) := by decide +kernel
theorem dX7_pack_27 : decode cX7_pack 27 = .ok (.aload_n 0, 1) := by decide +kernel
theorem dX7_pack_28 : decode cX7_pack 28 = .ok (.aload_n 0, 1) := by decide +kernel
theorem dX7_pack_29 : decode cX7_pack 29 = .ok (.getfield 56, 3) := by decide +kernel
theorem dX7_pack_32 : decode cX7_pack 32 = .ok (.putfield 103, 3) := by decide +kernel
theorem dX7_pack_35 : decode cX7_pack 35 = .ok (.iconst 0, 1) := by decide +kernel
theorem dX7_pack_36 : decode cX7_pack 36 = .ok (.istore_n 2, 1) := by decide +kernel
theorem dX7_pack_37 : decode cX7_pack 37 = .ok (.iload_n 2, 1) := by decide +kernel
theorem dX7_pack_38 : decode cX7_pack 38 = .ok (.aload_n 0, 1) := by decide +kernel
theorem dX7_pack_39 : decode cX7_pack 39 = .ok (.getfield 56, 3) := by decide +kernel
theorem dX7_pack_42 : decode cX7_pack 42 = .ok (.if_icmp .ge 26, 3) := by decide +kernel
theorem dX7_pack_45 : decode cX7_pack 45 = .ok (.aload_n 0, 1) := by decide +kernel
theorem dX7_pack_46 : decode cX7_pack 46 = .ok (.getfield 41, 3) := by decide +kernel
theorem dX7_pack_49 : decode cX7_pack 49 = .ok (.aload_n 0, 1) := by decide +kernel
theorem dX7_pack_50 : decode cX7_pack 50 = .ok (.getfield 96, 3) := by decide +kernel
theorem dX7_pack_53 : decode cX7_pack 53 = .ok (.iload_n 2, 1) := by decide +kernel
theorem dX7_pack_54 : decode cX7_pack 54 = .ok (.iadd, 1) := by decide +kernel
theorem dX7_pack_55 : decode cX7_pack 55 = .ok (.aload_n 0, 1) := by decide +kernel
theorem dX7_pack_56 : decode cX7_pack 56 = .ok (.getfield 7, 3) := by decide +kernel
theorem dX7_pack_59 : decode cX7_pack 59 = .ok (.iload_n 2, 1) := by decide +kernel
theorem dX7_pack_60 : decode cX7_pack 60 = .ok (.iaload, 1) := by decide +kernel
theorem dX7_pack_61 : decode cX7_pack 61 = .ok (.iastore, 1) := by decide +kernel
theorem dX7_pack_62 : decode cX7_pack 62 = .ok (.iinc 2 1, 3) := by decide +kernel
theorem dX7_pack_65 : decode cX7_pack 65 = .ok (.goto (-28), 3) := by decide +kernel
theorem dX7_pack_68 : decode cX7_pack 68 = .ok (.aload_n 0, 1) := by decide +kernel
theorem dX7_pack_69 : decode cX7_pack 69 = .ok (.invokevirtual 117, 3) := by decide +kernel
theorem dX7_pack_72 : decode cX7_pack 72 = .ok (.istore_n 2, 1) := by decide +kernel
theorem dX7_pack_73 : decode cX7_pack 73 = .ok (.aload_n 0, 1) := by decide +kernel
theorem dX7_pack_74 : decode cX7_pack 74 = .ok (.iconst 0, 1) := by decide +kernel
theorem dX7_pack_75 : decode cX7_pack 75 = .ok (.putfield 141, 3) := by decide +kernel
theorem dX7_pack_78 : decode cX7_pack 78 = .ok (.aload_n 0, 1) := by decide +kernel
theorem dX7_pack_79 : decode cX7_pack 79 = .ok (.iconst 0, 1) := by decide +kernel
theorem dX7_pack_80 : decode cX7_pack 80 = .ok (.putfield 150, 3) := by decide +kernel
theorem dX7_pack_83 : decode cX7_pack 83 = .ok (.aload_n 0, 1) := by decide +kernel
theorem dX7_pack_84 : decode cX7_pack 84 = .ok (.iconst 0, 1) := by decide +kernel
theorem dX7_pack_85 : decode cX7_pack 85 = .ok (.putfield 147, 3) := by decide +kernel
theorem dX7_pack_88 : decode cX7_pack 88 = .ok (.iload_n 1, 1) := by decide +kernel
theorem dX7_pack_89 : decode cX7_pack 89 = .ok (.iconst (-1), 1) := by decide +kernel
theorem dX7_pack_90 : decode cX7_pack 90 = .ok (.if_icmp .ne 7, 3) := by decide +kernel
theorem dX7_pack_93 : decode cX7_pack 93 = .ok (.iconst 0, 1) := by decide +kernel
theorem dX7_pack_94 : decode cX7_pack 94 = .ok (.goto 8, 3) := by decide +kernel
theorem dX7_pack_97 : decode cX7_pack 97 = .ok (.aload_n 0, 1) := by decide +kernel
theorem dX7_pack_98 : decode cX7_pack 98 = .ok (.iload_n 1, 1) := by decide +kernel
theorem dX7_pack_99 : decode cX7_pack 99 = .ok (.invokevirtual 135, 3) := by decide +kernel
theorem dX7_pack_102 : decode cX7_pack 102 = .ok (.istore_n 3, 1) := by decide +kernel
theorem dX7_pack_103 : decode cX7_pack 103 = .ok (.aload_n 0, 1) := by decide +kernel
theorem dX7_pack_104 : decode cX7_pack 104 = .ok (.iload_n 1, 1) := by decide +kernel
theorem dX7_pack_105 : decode cX7_pack 105 = .ok (.iconst (-1), 1) := by decide +kernel
theorem dX7_pack_106 : decode cX7_pack 106 = .ok (.if_icmp .ne 7, 3) := by decide +kernel
theorem dX7_pack_109 : decode cX7_pack 109 = .ok (.iconst 0, 1) := by decide +kernel
theorem dX7_pack_110 : decode cX7_pack 110 = .ok (.goto 9, 3) := by decide +kernel
theorem dX7_pack_113 : decode cX7_pack 113 = .ok (.aload_n 0, 1) := by decide +kernel
theorem dX7_pack_114 : decode cX7_pack 114 = .ok (.getfield 19, 3) := by decide +kernel
theorem dX7_pack_117 : decode cX7_pack 117 = .ok (.iload_n 1, 1) := by decide +kernel
theorem dX7_pack_118 : decode cX7_pack 118 = .ok (.iaload, 1) := by decide +kernel
theorem dX7_pack_119 : decode cX7_pack 119 = .ok (.invokevirtual 144, 3) := by decide +kernel
theorem dX7_pack_122 : decode cX7_pack 122 = .ok (.aload_n 0, 1) := by decide +kernel
theorem dX7_pack_123 : decode cX7_pack 123 = .ok (.iload_n 3, 1) := by decide +kernel
theorem dX7_pack_124 : decode cX7_pack 124 = .ok (.sipush 256, 3) := by decide +kernel
theorem dX7_pack_127 : decode cX7_pack 127 = .ok (.idiv, 1) := by decide +kernel
theorem dX7_pack_128 : decode cX7_pack 128 = .ok (.invokevirtual 144, 3) := by decide +kernel
theorem dX7_pack_131 : decode cX7_pack 131 = .ok (.aload_n 0, 1) := by decide +kernel
theorem dX7_pack_132 : decode cX7_pack 132 = .ok (.iload_n 3, 1) := by decide +kernel
theorem dX7_pack_133 : decode cX7_pack 133 = .ok (.sipush 256, 3) := by decide +kernel
theorem dX7_pack_136 : decode cX7_pack 136 = .ok (.irem, 1) := by decide +kernel
theorem dX7_pack_137 : decode cX7_pack 137 = .ok (.invokevirtual 144, 3) := by decide +kernel
theorem dX7_pack_140 : decode cX7_pack 140 = .ok (.aload_n 0, 1) := by decide +kernel
theorem dX7_pack_141 : decode cX7_pack 141 = .ok (.aload_n 0, 1) := by decide +kernel
theorem dX7_pack_142 : decode cX7_pack 142 = .ok (.getfield 56, 3) := by decide +kernel
theorem dX7_pack_145 : decode cX7_pack 145 = .ok (.invokevirtual 144, 3) := by decide +kernel
theorem dX7_pack_148 : decode cX7_pack 148 = .ok (.iconst 0, 1) := by decide +kernel
theorem dX7_pack_149 : decode cX7_pack 149 = .ok (.istore 4, 2) := by decide +kernel
theorem dX7_pack_151 : decode cX7_pack 151 = .ok (.iload 4, 2) := by decide +kernel
theorem dX7_pack_153 : decode cX7_pack 153 = .ok (.aload_n 0, 1) := by decide +kernel
theorem dX7_pack_154 : decode cX7_pack 154 = .ok (.getfield 103, 3) := by decide +kernel
theorem dX7_pack_157 : decode cX7_pack 157 = .ok (.if_icmp .ge 27, 3) := by decide +kernel
theorem dX7_pack_160 : decode cX7_pack 160 = .ok (.aload_n 0, 1) := by decide +kernel
theorem dX7_pack_161 : decode cX7_pack 161 = .ok (.dup, 1) := by decide +kernel
theorem dX7_pack_162 : decode cX7_pack 162 = .ok (.getfield 150, 3) := by decide +kernel
theorem dX7_pack_165 : decode cX7_pack 165 = .ok (.iconst 1, 1) := by decide +kernel
theorem dX7_pack_166 : decode cX7_pack 166 = .ok (.iadd, 1) := by decide +kernel
theorem dX7_pack_167 : decode cX7_pack 167 = .ok (.putfield 150, 3) := by decide +kernel
theorem dX7_pack_170 : decode cX7_pack 170 = .ok (.iload 4, 2) := by decide +kernel
theorem dX7_pack_172 : decode cX7_pack 172 = .ok (.aload_n 0, 1) := by decide +kernel
theorem dX7_pack_173 : decode cX7_pack 173 = .ok (.iload 4, 2) := by decide +kernel
theorem dX7_pack_175 : decode cX7_pack 175 = .ok (.invokevirtual 153, 3) := by decide +kernel
theorem dX7_pack_178 : decode cX7_pack 178 = .ok (.iadd, 1) := by decide +kernel
theorem dX7_pack_179 : decode cX7_pack 179 = .ok (.istore 4, 2) := by decide +kernel
theorem dX7_pack_181 : decode cX7_pack 181 = .ok (.goto (-30), 3) := by decide +kernel
theorem dX7_pack_184 : decode cX7_pack 184 = .ok (.aload_n 0, 1) := by decide +kernel
theorem dX7_pack_185 : decode cX7_pack 185 = .ok (.iconst 0, 1) := by decide +kernel
theorem dX7_pack_186 : decode cX7_pack 186 = .ok (.putfield 56, 3) := by decide +kernel
theorem dX7_pack_189 : decode cX7_pack 189 = .ok (.iload_n 2, 1) := by decide +kernel
theorem dX7_pack_190 : decode cX7_pack 190 = .ok (.ireturn, 1) := by decide +kernel
theorem dX7_out_0 : decode cX7_out 0 = .ok (.aload_n 0, 1) := by decide +kernel
theorem dX7_out_1 : decode cX7_out 1 = .ok (.iload_n 1, 1) := by decide +kernel
theorem dX7_out_2 : decode cX7_out 2 = .ok (.i2l, 1) := by decide +kernel
theorem dX7_out_3 : decode cX7_out 3 = .ok (.lconst 0, 1) := by decide +kernel
theorem dX7_out_4 : decode cX7_out 4 = .ok (.aload_n 0, 1) := by decide +kernel
theorem dX7_out_5 : decode cX7_out 5 = .ok (.getfield 141, 3) := by decide +kernel
theorem dX7_out_8 : decode cX7_out 8 = .ok (.iconst 1, 1) := by decide +kernel
theorem dX7_out_9 : decode cX7_out 9 = .ok (.isub, 1) := by decide +kernel
theorem dX7_out_10 : decode cX7_out 10 = .ok (.i2l, 1) := by decide +kernel
theorem dX7_out_11 : decode cX7_out 11 = .ok (.invokestatic 65, 3) := by decide +kernel
theorem dX7_out_14 : decode cX7_out 14 = .ok (.ifCond .eq 7, 3) := by decide +kernel
theorem dX7_out_17 : decode cX7_out 17 = .ok (.iconst 0, 1) := by decide +kernel
theorem dX7_out_18 : decode cX7_out 18 = .ok (.goto 4, 3) := by decide +kernel
theorem dX7_out_21 : decode cX7_out 21 = .ok (.iconst 1, 1) := by decide +kernel
theorem dX7_out_22 : decode cX7_out 22 = .ok (.putfield 60, 3) := by decide +kernel
theorem dX7_out_25 : decode cX7_out 25 = .ok (.aload_n 0, 1) := by decide +kernel
theorem dX7_out_26 : decode cX7_out 26 = .ok (.getfield 60, 3) := by decide +kernel
theorem dX7_out_29 : decode cX7_out 29 = .ok (.ifCond .le 7, 3) := by decide +kernel
theorem dX7_out_32 : decode cX7_out 32 = .ok (.iconst 0, 1) := by decide +kernel
theorem dX7_out_33 : decode cX7_out 33 = .ok (.goto 9, 3) := by decide +kernel
theorem dX7_out_36 : decode cX7_out 36 = .ok (.aload_n 0, 1) := by decide +kernel
theorem dX7_out_37 : decode cX7_out 37 = .ok (.getfield 50, 3) := by decide +kernel
theorem dX7_out_40 : decode cX7_out 40 = .ok (.iload_n 1, 1) := by decide +kernel
theorem dX7_out_41 : decode cX7_out 41 = .ok (.iaload, 1) := by decide +kernel
theorem dX7_out_42 : decode cX7_out 42 = .ok (.ireturn, 1) := by decide +kernel
theorem dX7_firstWith_0 : decode cX7_firstWith 0 = .ok (.iconst 0, 1) := by decide +kernel
theorem dX7_firstWith_1 : decode cX7_firstWith 1 = .ok (.istore_n 2, 1) := by decide +kernel
theorem dX7_firstWith_2 : decode cX7_firstWith 2 = .ok (.iload_n 2, 1) := by decide +kernel
theorem dX7_firstWith_3 : decode cX7_firstWith 3 = .ok (.bipush 6, 2) := by decide +kernel
theorem dX7_firstWith_5 : decode cX7_firstWith 5 = .ok (.if_icmp .ge 21, 3) := by decide +kernel
theorem dX7_firstWith_8 : decode cX7_firstWith 8 = .ok (.aload_n 0, 1) := by decide +kernel
theorem dX7_firstWith_9 : decode cX7_firstWith 9 = .ok (.getfield 19, 3) := by decide +kernel
theorem dX7_firstWith_12 : decode cX7_firstWith 12 = .ok (.iload_n 2, 1) := by decide +kernel
theorem dX7_firstWith_13 : decode cX7_firstWith 13 = .ok (.iaload, 1) := by decide +kernel
theorem dX7_firstWith_14 : decode cX7_firstWith 14 = .ok (.iload_n 1, 1) := by decide +kernel
theorem dX7_firstWith_15 : decode cX7_firstWith 15 = .ok (.if_icmp .ne 5, 3) := by decide +kernel
theorem dX7_firstWith_18 : decode cX7_firstWith 18 = .ok (.iload_n 2, 1) := by decide +kernel
theorem dX7_firstWith_19 : decode cX7_firstWith 19 = .ok (.ireturn, 1) := by decide +kernel
theorem dX7_firstWith_20 : decode cX7_firstWith 20 = .ok (.iinc 2 1, 3) := by decide +kernel
theorem dX7_firstWith_23 : decode cX7_firstWith 23 = .ok (.goto (-21), 3) := by decide +kernel
theorem dX7_firstWith_26 : decode cX7_firstWith 26 = .ok (.iconst (-1), 1) := by decide +kernel
theorem dX7_firstWith_27 : decode cX7_firstWith 27 = .ok (.ireturn, 1) := by decide +kernel
theorem dX7_wrong_0 : decode cX7_wrong 0 = .ok (.aload_n 0, 1) := by decide +kernel
theorem dX7_wrong_1 : decode cX7_wrong 1 = .ok (.getfield 56, 3) := by decide +kernel
theorem dX7_wrong_4 : decode cX7_wrong 4 = .ok (.ifCond .le 12, 3) := by decide +kernel
theorem dX7_wrong_7 : decode cX7_wrong 7 = .ok (.aload_n 0, 1) := by decide +kernel
theorem dX7_wrong_8 : decode cX7_wrong 8 = .ok (.getfield 7, 3) := by decide +kernel
theorem dX7_wrong_11 : decode cX7_wrong 11 = .ok (.iconst 0, 1) := by decide +kernel
theorem dX7_wrong_12 : decode cX7_wrong 12 = .ok (.iaload, 1) := by decide +kernel
theorem dX7_wrong_13 : decode cX7_wrong 13 = .ok (.goto 4, 3) := by decide +kernel
theorem dX7_wrong_16 : decode cX7_wrong 16 = .ok (.iconst 0, 1) := by decide +kernel
theorem dX7_wrong_17 : decode cX7_wrong 17 = .ok (.istore_n 1, 1) := by decide +kernel
theorem dX7_wrong_18 : decode cX7_wrong 18 = .ok (.iload_n 1, 1) := by decide +kernel
theorem dX7_wrong_19 : decode cX7_wrong 19 = .ok (.ifCond .ne 7, 3) := by decide +kernel
theorem dX7_wrong_22 : decode cX7_wrong 22 = .ok (.iconst (-1), 1) := by decide +kernel
theorem dX7_wrong_23 : decode cX7_wrong 23 = .ok (.goto 8, 3) := by decide +kernel
theorem dX7_wrong_26 : decode cX7_wrong 26 = .ok (.aload_n 0, 1) := by decide +kernel
theorem dX7_wrong_27 : decode cX7_wrong 27 = .ok (.iload_n 1, 1) := by decide +kernel
theorem dX7_wrong_28 : decode cX7_wrong 28 = .ok (.invokevirtual 156, 3) := by decide +kernel
theorem dX7_wrong_31 : decode cX7_wrong 31 = .ok (.istore_n 2, 1) := by decide +kernel
theorem dX7_wrong_32 : decode cX7_wrong 32 = .ok (.aload_n 0, 1) := by decide +kernel
theorem dX7_wrong_33 : decode cX7_wrong 33 = .ok (.getfield 56, 3) := by decide +kernel
theorem dX7_wrong_36 : decode cX7_wrong 36 = .ok (.ifCond .eq 12, 3) := by decide +kernel
theorem dX7_wrong_39 : decode cX7_wrong 39 = .ok (.iload_n 1, 1) := by decide +kernel
theorem dX7_wrong_40 : decode cX7_wrong 40 = .ok (.ifCond .le 10, 3) := by decide +kernel
theorem dX7_wrong_43 : decode cX7_wrong 43 = .ok (.iload_n 2, 1) := by decide +kernel
theorem dX7_wrong_44 : decode cX7_wrong 44 = .ok (.iconst (-1), 1) := by decide +kernel
theorem dX7_wrong_45 : decode cX7_wrong 45 = .ok (.if_icmp .ne 5, 3) := by decide +kernel
theorem dX7_wrong_48 : decode cX7_wrong 48 = .ok (.iconst 0, 1) := by decide +kernel
theorem dX7_wrong_49 : decode cX7_wrong 49 = .ok (.ireturn, 1) := by decide +kernel
theorem dX7_wrong_50 : decode cX7_wrong 50 = .ok (.aload_n 0, 1) := by decide +kernel
theorem dX7_wrong_51 : decode cX7_wrong 51 = .ok (.getfield 56, 3) := by decide +kernel
theorem dX7_wrong_54 : decode cX7_wrong 54 = .ok (.iconst 3, 1) := by decide +kernel
theorem dX7_wrong_55 : decode cX7_wrong 55 = .ok (.if_icmp .ge 8, 3) := by decide +kernel
theorem dX7_wrong_58 : decode cX7_wrong 58 = .ok (.aload_n 0, 1) := by decide +kernel
theorem dX7_wrong_59 : decode cX7_wrong 59 = .ok (.getfield 56, 3) := by decide +kernel
theorem dX7_wrong_62 : decode cX7_wrong 62 = .ok (.ireturn, 1) := by decide +kernel
theorem dX7_wrong_63 : decode cX7_wrong 63 = .ok (.sipush 256, 3) := by decide +kernel
theorem dX7_wrong_66 : decode cX7_wrong 66 = .ok (.aload_n 0, 1) := by decide +kernel
end
section
theorem dX7_wrong_67 : decode cX7_wrong 67 = .ok (.getfield 7, 3) := by decide +kernel
theorem dX7_wrong_70 : decode cX7_wrong 70 = .ok (.iconst 1, 1) := by decide +kernel
theorem dX7_wrong_71 : decode cX7_wrong 71 = .ok (.iaload, 1) := by decide +kernel
theorem dX7_wrong_72 : decode cX7_wrong 72 = .ok (.imul, 1) := by decide +kernel
theorem dX7_wrong_73 : decode cX7_wrong 73 = .ok (.aload_n 0, 1) := by decide +kernel
theorem dX7_wrong_74 : decode cX7_wrong 74 = .ok (.getfield 7, 3) := by decide +kernel
theorem dX7_wrong_77 : decode cX7_wrong 77 = .ok (.iconst 2, 1) := by decide +kernel
theorem dX7_wrong_78 : decode cX7_wrong 78 = .ok (.iaload, 1) := by decide +kernel
theorem dX7_wrong_79 : decode cX7_wrong 79 = .ok (.iadd, 1) := by decide +kernel
theorem dX7_wrong_80 : decode cX7_wrong 80 = .ok (.iload_n 2, 1) := by decide +kernel
theorem dX7_wrong_81 : decode cX7_wrong 81 = .ok (.iconst (-1), 1) := by decide +kernel
theorem dX7_wrong_82 : decode cX7_wrong 82 = .ok (.if_icmp .ne 7, 3) := by decide +kernel
theorem dX7_wrong_85 : decode cX7_wrong 85 = .ok (.iconst 0, 1) := by decide +kernel
theorem dX7_wrong_86 : decode cX7_wrong 86 = .ok (.goto 8, 3) := by decide +kernel
theorem dX7_wrong_89 : decode cX7_wrong 89 = .ok (.aload_n 0, 1) := by decide +kernel
theorem dX7_wrong_90 : decode cX7_wrong 90 = .ok (.iload_n 2, 1) := by decide +kernel
theorem dX7_wrong_91 : decode cX7_wrong 91 = .ok (.invokevirtual 135, 3) := by decide +kernel
theorem dX7_wrong_94 : decode cX7_wrong 94 = .ok (.if_icmp .eq 5, 3) := by decide +kernel
theorem dX7_wrong_97 : decode cX7_wrong 97 = .ok (.iconst 1, 1) := by decide +kernel
theorem dX7_wrong_98 : decode cX7_wrong 98 = .ok (.ireturn, 1) := by decide +kernel
theorem dX7_wrong_99 : decode cX7_wrong 99 = .ok (.aload_n 0, 1) := by decide +kernel
theorem dX7_wrong_100 : decode cX7_wrong 100 = .ok (.getfield 56, 3) := by decide +kernel
theorem dX7_wrong_103 : decode cX7_wrong 103 = .ok (.iconst 3, 1) := by decide +kernel
theorem dX7_wrong_104 : decode cX7_wrong 104 = .ok (.if_icmp .eq 15, 3) := by decide +kernel
theorem dX7_wrong_107 : decode cX7_wrong 107 = .ok (.aload_n 0, 1) := by decide +kernel
theorem dX7_wrong_108 : decode cX7_wrong 108 = .ok (.getfield 7, 3) := by decide +kernel
theorem dX7_wrong_111 : decode cX7_wrong 111 = .ok (.iconst 3, 1) := by decide +kernel
theorem dX7_wrong_112 : decode cX7_wrong 112 = .ok (.iaload, 1) := by decide +kernel
theorem dX7_wrong_113 : decode cX7_wrong 113 = .ok (.sipush 200, 3) := by decide +kernel
theorem dX7_wrong_116 : decode cX7_wrong 116 = .ok (.if_icmp .le 5, 3) := by decide +kernel
theorem dX7_wrong_119 : decode cX7_wrong 119 = .ok (.iconst 3, 1) := by decide +kernel
theorem dX7_wrong_120 : decode cX7_wrong 120 = .ok (.ireturn, 1) := by decide +kernel
theorem dX7_wrong_121 : decode cX7_wrong 121 = .ok (.aload_n 0, 1) := by decide +kernel
theorem dX7_wrong_122 : decode cX7_wrong 122 = .ok (.iload_n 2, 1) := by decide +kernel
theorem dX7_wrong_123 : decode cX7_wrong 123 = .ok (.iconst (-1), 1) := by decide +kernel
theorem dX7_wrong_124 : decode cX7_wrong 124 = .ok (.invokevirtual 110, 3) := by decide +kernel
theorem dX7_wrong_127 : decode cX7_wrong 127 = .ok (.aload_n 0, 1) := by decide +kernel
theorem dX7_wrong_128 : decode cX7_wrong 128 = .ok (.aload_n 0, 1) := by decide +kernel
theorem dX7_wrong_129 : decode cX7_wrong 129 = .ok (.getfield 7, 3) := by decide +kernel
theorem dX7_wrong_132 : decode cX7_wrong 132 = .ok (.iconst 3, 1) := by decide +kernel
theorem dX7_wrong_133 : decode cX7_wrong 133 = .ok (.iaload, 1) := by decide +kernel
theorem dX7_wrong_134 : decode cX7_wrong 134 = .ok (.putfield 103, 3) := by decide +kernel
theorem dX7_wrong_137 : decode cX7_wrong 137 = .ok (.iconst 4, 1) := by decide +kernel
theorem dX7_wrong_138 : decode cX7_wrong 138 = .ok (.istore_n 3, 1) := by decide +kernel
theorem dX7_wrong_139 : decode cX7_wrong 139 = .ok (.iconst 0, 1) := by decide +kernel
theorem dX7_wrong_140 : decode cX7_wrong 140 = .ok (.istore 4, 2) := by decide +kernel
theorem dX7_wrong_142 : decode cX7_wrong 142 = .ok (.iload 4, 2) := by decide +kernel
theorem dX7_wrong_144 : decode cX7_wrong 144 = .ok (.aload_n 0, 1) := by decide +kernel
theorem dX7_wrong_145 : decode cX7_wrong 145 = .ok (.getfield 103, 3) := by decide +kernel
theorem dX7_wrong_148 : decode cX7_wrong 148 = .ok (.if_icmp .ge 239, 3) := by decide +kernel
theorem dX7_wrong_151 : decode cX7_wrong 151 = .ok (.iload_n 3, 1) := by decide +kernel
theorem dX7_wrong_152 : decode cX7_wrong 152 = .ok (.aload_n 0, 1) := by decide +kernel
theorem dX7_wrong_153 : decode cX7_wrong 153 = .ok (.getfield 56, 3) := by decide +kernel
theorem dX7_wrong_156 : decode cX7_wrong 156 = .ok (.if_icmp .ge 231, 3) := by decide +kernel
theorem dX7_wrong_159 : decode cX7_wrong 159 = .ok (.aload_n 0, 1) := by decide +kernel
theorem dX7_wrong_160 : decode cX7_wrong 160 = .ok (.getfield 7, 3) := by decide +kernel
theorem dX7_wrong_163 : decode cX7_wrong 163 = .ok (.iload_n 3, 1) := by decide +kernel
theorem dX7_wrong_164 : decode cX7_wrong 164 = .ok (.iaload, 1) := by decide +kernel
theorem dX7_wrong_165 : decode cX7_wrong 165 = .ok (.istore 5, 2) := by decide +kernel
theorem dX7_wrong_167 : decode cX7_wrong 167 = .ok (.iload 5, 2) := by decide +kernel
theorem dX7_wrong_169 : decode cX7_wrong 169 = .ok (.bipush 32, 2) := by decide +kernel
theorem dX7_wrong_171 : decode cX7_wrong 171 = .ok (.if_icmp .ge 10, 3) := by decide +kernel
theorem dX7_wrong_174 : decode cX7_wrong 174 = .ok (.iload 5, 2) := by decide +kernel
theorem dX7_wrong_176 : decode cX7_wrong 176 = .ok (.iconst 1, 1) := by decide +kernel
theorem dX7_wrong_177 : decode cX7_wrong 177 = .ok (.iadd, 1) := by decide +kernel
theorem dX7_wrong_178 : decode cX7_wrong 178 = .ok (.goto 10, 3) := by decide +kernel
theorem dX7_wrong_181 : decode cX7_wrong 181 = .ok (.iload 5, 2) := by decide +kernel
theorem dX7_wrong_183 : decode cX7_wrong 183 = .ok (.bipush 32, 2) := by decide +kernel
theorem dX7_wrong_185 : decode cX7_wrong 185 = .ok (.idiv, 1) := by decide +kernel
theorem dX7_wrong_186 : decode cX7_wrong 186 = .ok (.iconst 2, 1) := by decide +kernel
theorem dX7_wrong_187 : decode cX7_wrong 187 = .ok (.iadd, 1) := by decide +kernel
theorem dX7_wrong_188 : decode cX7_wrong 188 = .ok (.istore 6, 2) := by decide +kernel
theorem dX7_wrong_190 : decode cX7_wrong 190 = .ok (.iload 4, 2) := by decide +kernel
theorem dX7_wrong_192 : decode cX7_wrong 192 = .ok (.iload 6, 2) := by decide +kernel
theorem dX7_wrong_194 : decode cX7_wrong 194 = .ok (.iadd, 1) := by decide +kernel
theorem dX7_wrong_195 : decode cX7_wrong 195 = .ok (.aload_n 0, 1) := by decide +kernel
theorem dX7_wrong_196 : decode cX7_wrong 196 = .ok (.getfield 103, 3) := by decide +kernel
theorem dX7_wrong_199 : decode cX7_wrong 199 = .ok (.if_icmp .le 5, 3) := by decide +kernel
theorem dX7_wrong_202 : decode cX7_wrong 202 = .ok (.iload_n 3, 1) := by decide +kernel
theorem dX7_wrong_203 : decode cX7_wrong 203 = .ok (.ireturn, 1) := by decide +kernel
theorem dX7_wrong_204 : decode cX7_wrong 204 = .ok (.iinc 3 1, 3) := by decide +kernel
theorem dX7_wrong_207 : decode cX7_wrong 207 = .ok (.iload 5, 2) := by decide +kernel
theorem dX7_wrong_209 : decode cX7_wrong 209 = .ok (.bipush 32, 2) := by decide +kernel
theorem dX7_wrong_211 : decode cX7_wrong 211 = .ok (.if_icmp .ge 67, 3) := by decide +kernel
theorem dX7_wrong_214 : decode cX7_wrong 214 = .ok (.iload_n 3, 1) := by decide +kernel
theorem dX7_wrong_215 : decode cX7_wrong 215 = .ok (.iload 6, 2) := by decide +kernel
theorem dX7_wrong_217 : decode cX7_wrong 217 = .ok (.iadd, 1) := by decide +kernel
theorem dX7_wrong_218 : decode cX7_wrong 218 = .ok (.aload_n 0, 1) := by decide +kernel
theorem dX7_wrong_219 : decode cX7_wrong 219 = .ok (.getfield 56, 3) := by decide +kernel
theorem dX7_wrong_222 : decode cX7_wrong 222 = .ok (.if_icmp .le 8, 3) := by decide +kernel
theorem dX7_wrong_225 : decode cX7_wrong 225 = .ok (.aload_n 0, 1) := by decide +kernel
theorem dX7_wrong_226 : decode cX7_wrong 226 = .ok (.getfield 56, 3) := by decide +kernel
theorem dX7_wrong_229 : decode cX7_wrong 229 = .ok (.ireturn, 1) := by decide +kernel
theorem dX7_wrong_230 : decode cX7_wrong 230 = .ok (.iconst 0, 1) := by decide +kernel
theorem dX7_wrong_231 : decode cX7_wrong 231 = .ok (.istore 7, 2) := by decide +kernel
theorem dX7_wrong_233 : decode cX7_wrong 233 = .ok (.iload 7, 2) := by decide +kernel
theorem dX7_wrong_235 : decode cX7_wrong 235 = .ok (.iload 6, 2) := by decide +kernel
theorem dX7_wrong_237 : decode cX7_wrong 237 = .ok (.if_icmp .ge 33, 3) := by decide +kernel
theorem dX7_wrong_240 : decode cX7_wrong 240 = .ok (.aload_n 0, 1) := by decide +kernel
theorem dX7_wrong_241 : decode cX7_wrong 241 = .ok (.getfield 41, 3) := by decide +kernel
theorem dX7_wrong_244 : decode cX7_wrong 244 = .ok (.aload_n 0, 1) := by decide +kernel
theorem dX7_wrong_245 : decode cX7_wrong 245 = .ok (.getfield 96, 3) := by decide +kernel
theorem dX7_wrong_248 : decode cX7_wrong 248 = .ok (.iload 4, 2) := by decide +kernel
theorem dX7_wrong_250 : decode cX7_wrong 250 = .ok (.iadd, 1) := by decide +kernel
theorem dX7_wrong_251 : decode cX7_wrong 251 = .ok (.iload 7, 2) := by decide +kernel
theorem dX7_wrong_253 : decode cX7_wrong 253 = .ok (.iadd, 1) := by decide +kernel
theorem dX7_wrong_254 : decode cX7_wrong 254 = .ok (.aload_n 0, 1) := by decide +kernel
theorem dX7_wrong_255 : decode cX7_wrong 255 = .ok (.getfield 7, 3) := by decide +kernel
theorem dX7_wrong_258 : decode cX7_wrong 258 = .ok (.iload_n 3, 1) := by decide +kernel
theorem dX7_wrong_259 : decode cX7_wrong 259 = .ok (.iload 7, 2) := by decide +kernel
theorem dX7_wrong_261 : decode cX7_wrong 261 = .ok (.iadd, 1) := by decide +kernel
theorem dX7_wrong_262 : decode cX7_wrong 262 = .ok (.iaload, 1) := by decide +kernel
theorem dX7_wrong_263 : decode cX7_wrong 263 = .ok (.iastore, 1) := by decide +kernel
theorem dX7_wrong_264 : decode cX7_wrong 264 = .ok (.iinc 7 1, 3) := by decide +kernel
theorem dX7_wrong_267 : decode cX7_wrong 267 = .ok (.goto (-34), 3) := by decide +kernel
theorem dX7_wrong_270 : decode cX7_wrong 270 = .ok (.iload_n 3, 1) := by decide +kernel
theorem dX7_wrong_271 : decode cX7_wrong 271 = .ok (.iload 6, 2) := by decide +kernel
theorem dX7_wrong_273 : decode cX7_wrong 273 = .ok (.iadd, 1) := by decide +kernel
theorem dX7_wrong_274 : decode cX7_wrong 274 = .ok (.istore_n 3, 1) := by decide +kernel
theorem dX7_wrong_275 : decode cX7_wrong 275 = .ok (.goto 102, 3) := by decide +kernel
theorem dX7_wrong_278 : decode cX7_wrong 278 = .ok (.iload_n 3, 1) := by decide +kernel
theorem dX7_wrong_279 : decode cX7_wrong 279 = .ok (.aload_n 0, 1) := by decide +kernel
theorem dX7_wrong_280 : decode cX7_wrong 280 = .ok (.getfield 56, 3) := by decide +kernel
theorem dX7_wrong_283 : decode cX7_wrong 283 = .ok (.if_icmp .ne 8, 3) := by decide +kernel
theorem dX7_wrong_286 : decode cX7_wrong 286 = .ok (.aload_n 0, 1) := by decide +kernel
theorem dX7_wrong_287 : decode cX7_wrong 287 = .ok (.getfield 56, 3) := by decide +kernel
theorem dX7_wrong_290 : decode cX7_wrong 290 = .ok (.ireturn, 1) := by decide +kernel
theorem dX7_wrong_291 : decode cX7_wrong 291 = .ok (.sipush 256, 3) := by decide +kernel
theorem dX7_wrong_294 : decode cX7_wrong 294 = .ok (.iload 5, 2) := by decide +kernel
theorem dX7_wrong_296 : decode cX7_wrong 296 = .ok (.bipush 32, 2) := by decide +kernel
theorem dX7_wrong_298 : decode cX7_wrong 298 = .ok (.irem, 1) := by decide +kernel
theorem dX7_wrong_299 : decode cX7_wrong 299 = .ok (.imul, 1) := by decide +kernel
theorem dX7_wrong_300 : decode cX7_wrong 300 = .ok (.aload_n 0, 1) := by decide +kernel
theorem dX7_wrong_301 : decode cX7_wrong 301 = .ok (.getfield 7, 3) := by decide +kernel
theorem dX7_wrong_304 : decode cX7_wrong 304 = .ok (.iload_n 3, 1) := by decide +kernel
theorem dX7_wrong_305 : decode cX7_wrong 305 = .ok (.iaload, 1) := by decide +kernel
theorem dX7_wrong_306 : decode cX7_wrong 306 = .ok (.iadd, 1) := by decide +kernel
theorem dX7_wrong_307 : decode cX7_wrong 307 = .ok (.iconst 1, 1) := by decide +kernel
theorem dX7_wrong_308 : decode cX7_wrong 308 = .ok (.iadd, 1) := by decide +kernel
theorem dX7_wrong_309 : decode cX7_wrong 309 = .ok (.istore 7, 2) := by decide +kernel
theorem dX7_wrong_311 : decode cX7_wrong 311 = .ok (.iload 7, 2) := by decide +kernel
theorem dX7_wrong_313 : decode cX7_wrong 313 = .ok (.aload_n 0, 1) := by decide +kernel
theorem dX7_wrong_314 : decode cX7_wrong 314 = .ok (.getfield 96, 3) := by decide +kernel
theorem dX7_wrong_317 : decode cX7_wrong 317 = .ok (.iload 4, 2) := by decide +kernel
theorem dX7_wrong_319 : decode cX7_wrong 319 = .ok (.iadd, 1) := by decide +kernel
theorem dX7_wrong_320 : decode cX7_wrong 320 = .ok (.if_icmp .le 5, 3) := by decide +kernel
theorem dX7_wrong_323 : decode cX7_wrong 323 = .ok (.iload_n 3, 1) := by decide +kernel
theorem dX7_wrong_324 : decode cX7_wrong 324 = .ok (.ireturn, 1) := by decide +kernel
theorem dX7_wrong_325 : decode cX7_wrong 325 = .ok (.iconst 0, 1) := by decide +kernel
theorem dX7_wrong_326 : decode cX7_wrong 326 = .ok (.istore 8, 2) := by decide +kernel
theorem dX7_wrong_328 : decode cX7_wrong 328 = .ok (.iload 8, 2) := by decide +kernel
theorem dX7_wrong_330 : decode cX7_wrong 330 = .ok (.iload 6, 2) := by decide +kernel
theorem dX7_wrong_332 : decode cX7_wrong 332 = .ok (.if_icmp .ge 42, 3) := by decide +kernel
theorem dX7_wrong_335 : decode cX7_wrong 335 = .ok (.aload_n 0, 1) := by decide +kernel
theorem dX7_wrong_336 : decode cX7_wrong 336 = .ok (.getfield 41, 3) := by decide +kernel
theorem dX7_wrong_339 : decode cX7_wrong 339 = .ok (.aload_n 0, 1) := by decide +kernel
theorem dX7_wrong_340 : decode cX7_wrong 340 = .ok (.getfield 96, 3) := by decide +kernel
theorem dX7_wrong_343 : decode cX7_wrong 343 = .ok (.iload 4, 2) := by decide +kernel
theorem dX7_wrong_345 : decode cX7_wrong 345 = .ok (.iadd, 1) := by decide +kernel
theorem dX7_wrong_346 : decode cX7_wrong 346 = .ok (.iload 8, 2) := by decide +kernel
theorem dX7_wrong_348 : decode cX7_wrong 348 = .ok (.iadd, 1) := by decide +kernel
theorem dX7_wrong_349 : decode cX7_wrong 349 = .ok (.aload_n 0, 1) := by decide +kernel
theorem dX7_wrong_350 : decode cX7_wrong 350 = .ok (.getfield 41, 3) := by decide +kernel
theorem dX7_wrong_353 : decode cX7_wrong 353 = .ok (.aload_n 0, 1) := by decide +kernel
theorem dX7_wrong_354 : decode cX7_wrong 354 = .ok (.getfield 96, 3) := by decide +kernel
theorem dX7_wrong_357 : decode cX7_wrong 357 = .ok (.iload 4, 2) := by decide +kernel
theorem dX7_wrong_359 : decode cX7_wrong 359 = .ok (.iadd, 1) := by decide +kernel
theorem dX7_wrong_360 : decode cX7_wrong 360 = .ok (.iload 8, 2) := by decide +kernel
theorem dX7_wrong_362 : decode cX7_wrong 362 = .ok (.iadd, 1) := by decide +kernel
theorem dX7_wrong_363 : decode cX7_wrong 363 = .ok (.iload 7, 2) := by decide +kernel
theorem dX7_wrong_365 : decode cX7_wrong 365 = .ok (.isub, 1) := by decide +kernel
theorem dX7_wrong_366 : decode cX7_wrong 366 = .ok (.iaload, 1) := by decide +kernel
theorem dX7_wrong_367 : decode cX7_wrong 367 = .ok (.iastore, 1) := by decide +kernel
theorem dX7_wrong_368 : decode cX7_wrong 368 = .ok (.iinc 8 1, 3) := by decide +kernel
theorem dX7_wrong_371 : decode cX7_wrong 371 = .ok (.goto (-43), 3) := by decide +kernel
theorem dX7_wrong_374 : decode cX7_wrong 374 = .ok (.iinc 3 1, 3) := by decide +kernel
theorem dX7_wrong_377 : decode cX7_wrong 377 = .ok (.iload 4, 2) := by decide +kernel
theorem dX7_wrong_379 : decode cX7_wrong 379 = .ok (.iload 6, 2) := by decide +kernel
theorem dX7_wrong_381 : decode cX7_wrong 381 = .ok (.iadd, 1) := by decide +kernel
theorem dX7_wrong_382 : decode cX7_wrong 382 = .ok (.istore 4, 2) := by decide +kernel
theorem dX7_wrong_384 : decode cX7_wrong 384 = .ok (.goto (-242), 3) := by decide +kernel
theorem dX7_wrong_387 : decode cX7_wrong 387 = .ok (.iload 4, 2) := by decide +kernel
theorem dX7_wrong_389 : decode cX7_wrong 389 = .ok (.aload_n 0, 1) := by decide +kernel
theorem dX7_wrong_390 : decode cX7_wrong 390 = .ok (.getfield 103, 3) := by decide +kernel
theorem dX7_wrong_393 : decode cX7_wrong 393 = .ok (.if_icmp .lt 11, 3) := by decide +kernel
theorem dX7_wrong_396 : decode cX7_wrong 396 = .ok (.iload_n 3, 1) := by decide +kernel
theorem dX7_wrong_397 : decode cX7_wrong 397 = .ok (.aload_n 0, 1) := by decide +kernel
theorem dX7_wrong_398 : decode cX7_wrong 398 = .ok (.getfield 56, 3) := by decide +kernel
theorem dX7_wrong_401 : decode cX7_wrong 401 = .ok (.if_icmp .ge 7, 3) := by decide +kernel
theorem dX7_wrong_404 : decode cX7_wrong 404 = .ok (.iload_n 3, 1) := by decide +kernel
theorem dX7_wrong_405 : decode cX7_wrong 405 = .ok (.goto 4, 3) := by decide +kernel
theorem dX7_wrong_408 : decode cX7_wrong 408 = .ok (.iconst (-1), 1) := by decide +kernel
theorem dX7_wrong_409 : decode cX7_wrong 409 = .ok (.ireturn, 1) := by decide +kernel
theorem dX7_open_0 : decode cX7_open 0 = .ok (.aload_n 0, 1) := by decide +kernel
theorem dX7_open_1 : decode cX7_open 1 = .ok (.iconst 0, 1) := by decide +kernel
theorem dX7_open_2 : decode cX7_open 2 = .ok (.putfield 60, 3) := by decide +kernel
theorem dX7_open_5 : decode cX7_open 5 = .ok (.aload_n 0, 1) := by decide +kernel
theorem dX7_open_6 : decode cX7_open 6 = .ok (.invokevirtual 159, 3) := by decide +kernel
theorem dX7_open_9 : decode cX7_open 9 = .ok (.istore_n 1, 1) := by decide +kernel
theorem dX7_open_10 : decode cX7_open 10 = .ok (.aload_n 0, 1) := by decide +kernel
theorem dX7_open_11 : decode cX7_open 11 = .ok (.iconst 0, 1) := by decide +kernel
theorem dX7_open_12 : decode cX7_open 12 = .ok (.putfield 56, 3) := by decide +kernel
theorem dX7_open_15 : decode cX7_open 15 = .ok (.iload_n 1, 1) := by decide +kernel
theorem dX7_open_16 : decode cX7_open 16 = .ok (.iconst (-1), 1) := by decide +kernel
theorem dX7_open_17 : decode cX7_open 17 = .ok (.if_icmp .eq 9, 3) := by decide +kernel
theorem dX7_open_20 : decode cX7_open 20 = .ok (.sipush (-200), 3) := by decide +kernel
theorem dX7_open_23 : decode cX7_open 23 = .ok (.iload_n 1, 1) := by decide +kernel
theorem dX7_open_24 : decode cX7_open 24 = .ok (.isub, 1) := by decide +kernel
theorem dX7_open_25 : decode cX7_open 25 = .ok (.ireturn, 1) := by decide +kernel
theorem dX7_open_26 : decode cX7_open 26 = .ok (.aload_n 0, 1) := by decide +kernel
theorem dX7_open_27 : decode cX7_open 27 = .ok (.aload_n 0, 1) := by decide +kernel
theorem dX7_open_28 : decode cX7_open 28 = .ok (.getfield 103, 3) := by decide +kernel
theorem dX7_open_31 : decode cX7_open 31 = .ok (.putfield 162, 3) := by decide +kernel
theorem dX7_open_34 : decode cX7_open 34 = .ok (.iconst 0, 1) := by decide +kernel
theorem dX7_open_35 : decode cX7_open 35 = .ok (.istore_n 2, 1) := by decide +kernel
theorem dX7_open_36 : decode cX7_open 36 = .ok (.iload_n 2, 1) := by decide +kernel
theorem dX7_open_37 : decode cX7_open 37 = .ok (.aload_n 0, 1) := by decide +kernel
theorem dX7_open_38 : decode cX7_open 38 = .ok (.getfield 162, 3) := by decide +kernel
theorem dX7_open_41 : decode cX7_open 41 = .ok (.if_icmp .ge 26, 3) := by decide +kernel
theorem dX7_open_44 : decode cX7_open 44 = .ok (.aload_n 0, 1) := by decide +kernel
theorem dX7_open_45 : decode cX7_open 45 = .ok (.getfield 53, 3) := by decide +kernel
theorem dX7_open_48 : decode cX7_open 48 = .ok (.iload_n 2, 1) := by decide +kernel
theorem dX7_open_49 : decode cX7_open 49 = .ok (.aload_n 0, 1) := by decide +kernel
theorem dX7_open_50 : decode cX7_open 50 = .ok (.getfield 41, 3) := by decide +kernel
theorem dX7_open_53 : decode cX7_open 53 = .ok (.aload_n 0, 1) := by decide +kernel
theorem dX7_open_54 : decode cX7_open 54 = .ok (.getfield 96, 3) := by decide +kernel
theorem dX7_open_57 : decode cX7_open 57 = .ok (.iload_n 2, 1) := by decide +kernel
theorem dX7_open_58 : decode cX7_open 58 = .ok (.iadd, 1) := by decide +kernel
theorem dX7_open_59 : decode cX7_open 59 = .ok (.iaload, 1) := by decide +kernel
theorem dX7_open_60 : decode cX7_open 60 = .ok (.iastore, 1) := by decide +kernel
theorem dX7_open_61 : decode cX7_open 61 = .ok (.iinc 2 1, 3) := by decide +kernel
theorem dX7_open_64 : decode cX7_open 64 = .ok (.goto (-28), 3) := by decide +kernel
theorem dX7_open_67 : decode cX7_open 67 = .ok (.aload_n 0, 1) := by decide +kernel
theorem dX7_open_68 : decode cX7_open 68 = .ok (.getfield 162, 3) := by decide +kernel
theorem dX7_open_71 : decode cX7_open 71 = .ok (.ireturn, 1) := by decide +kernel
theorem dX7_text_0 : decode cX7_text 0 = .ok (.aload_n 0, 1) := by decide +kernel
theorem dX7_text_1 : decode cX7_text 1 = .ok (.iload_n 1, 1) := by decide +kernel
theorem dX7_text_2 : decode cX7_text 2 = .ok (.i2l, 1) := by decide +kernel
theorem dX7_text_3 : decode cX7_text 3 = .ok (.lconst 0, 1) := by decide +kernel
theorem dX7_text_4 : decode cX7_text 4 = .ok (.aload_n 0, 1) := by decide +kernel
theorem dX7_text_5 : decode cX7_text 5 = .ok (.getfield 162, 3) := by decide +kernel
theorem dX7_text_8 : decode cX7_text 8 = .ok (.iconst 1, 1) := by decide +kernel
theorem dX7_text_9 : decode cX7_text 9 = .ok (.isub, 1) := by decide +kernel
theorem dX7_text_10 : decode cX7_text 10 = .ok (.i2l, 1) := by decide +kernel
theorem dX7_text_11 : decode cX7_text 11 = .ok (.invokestatic 65, 3) := by decide +kernel
theorem dX7_text_14 : decode cX7_text 14 = .ok (.ifCond .eq 7, 3) := by decide +kernel
theorem dX7_text_17 : decode cX7_text 17 = .ok (.iconst 0, 1) := by decide +kernel
theorem dX7_text_18 : decode cX7_text 18 = .ok (.goto 4, 3) := by decide +kernel
theorem dX7_text_21 : decode cX7_text 21 = .ok (.iconst 1, 1) := by decide +kernel
theorem dX7_text_22 : decode cX7_text 22 = .ok (.putfield 60, 3) := by decide +kernel
theorem dX7_text_25 : decode cX7_text 25 = .ok (.aload_n 0, 1) := by decide +kernel
theorem dX7_text_26 : decode cX7_text 26 = .ok (.getfield 60, 3) := by decide +kernel
theorem dX7_text_29 : decode cX7_text 29 = .ok (.ifCond .le 7, 3) := by decide +kernel
theorem dX7_text_32 : decode cX7_text 32 = .ok (.iconst 0, 1) := by decide +kernel
theorem dX7_text_33 : decode cX7_text 33 = .ok (.goto 9, 3) := by decide +kernel
theorem dX7_text_36 : decode cX7_text 36 = .ok (.aload_n 0, 1) := by decide +kernel
theorem dX7_text_37 : decode cX7_text 37 = .ok (.getfield 53, 3) := by decide +kernel
theorem dX7_text_40 : decode cX7_text 40 = .ok (.iload_n 1, 1) := by decide +kernel
theorem dX7_text_41 : decode cX7_text 41 = .ok (.iaload, 1) := by decide +kernel
theorem dX7_text_42 : decode cX7_text 42 = .ok (.ireturn, 1) := by decide +kernel
theorem dX7_size_0 : decode cX7_size 0 = .ok (.aload_n 0, 1) := by decide +kernel
theorem dX7_size_1 : decode cX7_size 1 = .ok (.iconst 0, 1) := by decide +kernel
theorem dX7_size_2 : decode cX7_size 2 = .ok (.putfield 60, 3) := by decide +kernel
theorem dX7_size_5 : decode cX7_size 5 = .ok (.iload_n 1, 1) := by decide +kernel
theorem dX7_size_6 : decode cX7_size 6 = .ok (.i2l, 1) := by decide +kernel
theorem dX7_size_7 : decode cX7_size 7 = .ok (.lconst 0, 1) := by decide +kernel
theorem dX7_size_8 : decode cX7_size 8 = .ok (.aload_n 0, 1) := by decide +kernel
theorem dX7_size_9 : decode cX7_size 9 = .ok (.getfield 71, 3) := by decide +kernel
theorem dX7_size_12 : decode cX7_size 12 = .ok (.iconst 1, 1) := by decide +kernel
theorem dX7_size_13 : decode cX7_size 13 = .ok (.isub, 1) := by decide +kernel
theorem dX7_size_14 : decode cX7_size 14 = .ok (.i2l, 1) := by decide +kernel
theorem dX7_size_15 : decode cX7_size 15 = .ok (.invokestatic 65, 3) := by decide +kernel
theorem dX7_size_18 : decode cX7_size 18 = .ok (.ifCond .eq 16, 3) := by decide +kernel
theorem dX7_size_21 : decode cX7_size 21 = .ok (.iload_n 2, 1) := by decide +kernel
theorem dX7_size_22 : decode cX7_size 22 = .ok (.iconst (-1), 1) := by decide +kernel
theorem dX7_size_23 : decode cX7_size 23 = .ok (.if_icmp .eq 14, 3) := by decide +kernel
theorem dX7_size_26 : decode cX7_size 26 = .ok (.aload_n 0, 1) := by decide +kernel
theorem dX7_size_27 : decode cX7_size 27 = .ok (.iload_n 2, 1) := by decide +kernel
theorem dX7_size_28 : decode cX7_size 28 = .ok (.invokevirtual 125, 3) := by decide +kernel
theorem dX7_size_31 : decode cX7_size 31 = .ok (.ifCond .ne 6, 3) := by decide +kernel
theorem dX7_size_34 : decode cX7_size 34 = .ok (.bipush (-101), 2) := by decide +kernel
theorem dX7_size_36 : decode cX7_size 36 = .ok (.ireturn, 1) := by decide +kernel
theorem dX7_size_37 : decode cX7_size 37 = .ok (.aload_n 0, 1) := by decide +kernel
theorem dX7_size_38 : decode cX7_size 38 = .ok (.iload_n 1, 1) := by decide +kernel
theorem dX7_size_39 : decode cX7_size 39 = .ok (.iload_n 2, 1) := by decide +kernel
theorem dX7_size_40 : decode cX7_size 40 = .ok (.iconst (-1), 1) := by decide +kernel
theorem dX7_size_41 : decode cX7_size 41 = .ok (.invokevirtual 121, 3) := by decide +kernel
theorem dX7_size_44 : decode cX7_size 44 = .ok (.ireturn, 1) := by decide +kernel
theorem dX7_best_0 : decode cX7_best 0 = .ok (.aload_n 0, 1) := by decide +kernel
theorem dX7_best_1 : decode cX7_best 1 = .ok (.iconst 0, 1) := by decide +kernel
theorem dX7_best_2 : decode cX7_best 2 = .ok (.putfield 60, 3) := by decide +kernel
theorem dX7_best_5 : decode cX7_best 5 = .ok (.iload_n 1, 1) := by decide +kernel
theorem dX7_best_6 : decode cX7_best 6 = .ok (.i2l, 1) := by decide +kernel
theorem dX7_best_7 : decode cX7_best 7 = .ok (.lconst 0, 1) := by decide +kernel
theorem dX7_best_8 : decode cX7_best 8 = .ok (.aload_n 0, 1) := by decide +kernel
theorem dX7_best_9 : decode cX7_best 9 = .ok (.getfield 71, 3) := by decide +kernel
theorem dX7_best_12 : decode cX7_best 12 = .ok (.iconst 1, 1) := by decide +kernel
theorem dX7_best_13 : decode cX7_best 13 = .ok (.isub, 1) := by decide +kernel
theorem dX7_best_14 : decode cX7_best 14 = .ok (.i2l, 1) := by decide +kernel
theorem dX7_best_15 : decode cX7_best 15 = .ok (.invokestatic 65, 3) := by decide +kernel
theorem dX7_best_18 : decode cX7_best 18 = .ok (.ifCond .ne 6, 3) := by decide +kernel
theorem dX7_best_21 : decode cX7_best 21 = .ok (.bipush (-101), 2) := by decide +kernel
theorem dX7_best_23 : decode cX7_best 23 = .ok (.ireturn, 1) := by decide +kernel
theorem dX7_best_24 : decode cX7_best 24 = .ok (.iconst (-1), 1) := by decide +kernel
theorem dX7_best_25 : decode cX7_best 25 = .ok (.istore_n 2, 1) := by decide +kernel
theorem dX7_best_26 : decode cX7_best 26 = .ok (.aload_n 0, 1) := by decide +kernel
theorem dX7_best_27 : decode cX7_best 27 = .ok (.iload_n 1, 1) := by decide +kernel
theorem dX7_best_28 : decode cX7_best 28 = .ok (.iconst (-1), 1) := by decide +kernel
theorem dX7_best_29 : decode cX7_best 29 = .ok (.iconst (-1), 1) := by decide +kernel
theorem dX7_best_30 : decode cX7_best 30 = .ok (.invokevirtual 121, 3) := by decide +kernel
theorem dX7_best_33 : decode cX7_best 33 = .ok (.istore_n 3, 1) := by decide +kernel
theorem dX7_best_34 : decode cX7_best 34 = .ok (.iconst 0, 1) := by decide +kernel
theorem dX7_best_35 : decode cX7_best 35 = .ok (.istore 4, 2) := by decide +kernel
theorem dX7_best_37 : decode cX7_best 37 = .ok (.iload 4, 2) := by decide +kernel
theorem dX7_best_39 : decode cX7_best 39 = .ok (.bipush 6, 2) := by decide +kernel
theorem dX7_best_41 : decode cX7_best 41 = .ok (.if_icmp .ge 58, 3) := by decide +kernel
theorem dX7_best_44 : decode cX7_best 44 = .ok (.aload_n 0, 1) := by decide +kernel
theorem dX7_best_45 : decode cX7_best 45 = .ok (.iload 4, 2) := by decide +kernel
theorem dX7_best_47 : decode cX7_best 47 = .ok (.invokevirtual 125, 3) := by decide +kernel
theorem dX7_best_50 : decode cX7_best 50 = .ok (.ifCond .eq 14, 3) := by decide +kernel
theorem dX7_best_53 : decode cX7_best 53 = .ok (.aload_n 0, 1) := by decide +kernel
theorem dX7_best_54 : decode cX7_best 54 = .ok (.iload_n 1, 1) := by decide +kernel
theorem dX7_best_55 : decode cX7_best 55 = .ok (.iload 4, 2) := by decide +kernel
theorem dX7_best_57 : decode cX7_best 57 = .ok (.iconst (-1), 1) := by decide +kernel
theorem dX7_best_58 : decode cX7_best 58 = .ok (.invokevirtual 121, 3) := by decide +kernel
theorem dX7_best_61 : decode cX7_best 61 = .ok (.goto 4, 3) := by decide +kernel
theorem dX7_best_64 : decode cX7_best 64 = .ok (.iload_n 3, 1) := by decide +kernel
theorem dX7_best_65 : decode cX7_best 65 = .ok (.istore 5, 2) := by decide +kernel
theorem dX7_best_67 : decode cX7_best 67 = .ok (.iload 5, 2) := by decide +kernel
theorem dX7_best_69 : decode cX7_best 69 = .ok (.iload_n 3, 1) := by decide +kernel
theorem dX7_best_70 : decode cX7_best 70 = .ok (.if_icmp .ge 8, 3) := by decide +kernel
theorem dX7_best_73 : decode cX7_best 73 = .ok (.iload 4, 2) := by decide +kernel
theorem dX7_best_75 : decode cX7_best 75 = .ok (.goto 4, 3) := by decide +kernel
theorem dX7_best_78 : decode cX7_best 78 = .ok (.iload_n 2, 1) := by decide +kernel
theorem dX7_best_79 : decode cX7_best 79 = .ok (.istore_n 2, 1) := by decide +kernel
theorem dX7_best_80 : decode cX7_best 80 = .ok (.iload 5, 2) := by decide +kernel
theorem dX7_best_82 : decode cX7_best 82 = .ok (.iload_n 3, 1) := by decide +kernel
theorem dX7_best_83 : decode cX7_best 83 = .ok (.if_icmp .ge 8, 3) := by decide +kernel
theorem dX7_best_86 : decode cX7_best 86 = .ok (.iload 5, 2) := by decide +kernel
theorem dX7_best_88 : decode cX7_best 88 = .ok (.goto 4, 3) := by decide +kernel
theorem dX7_best_91 : decode cX7_best 91 = .ok (.iload_n 3, 1) := by decide +kernel
theorem dX7_best_92 : decode cX7_best 92 = .ok (.istore_n 3, 1) := by decide +kernel
theorem dX7_best_93 : decode cX7_best 93 = .ok (.iinc 4 1, 3) := by decide +kernel
theorem dX7_best_96 : decode cX7_best 96 = .ok (.goto (-59), 3) := by decide +kernel
theorem dX7_best_99 : decode cX7_best 99 = .ok (.iload_n 2, 1) := by decide +kernel
theorem dX7_best_100 : decode cX7_best 100 = .ok (.ireturn, 1) := by decide +kernel
theorem dX7_share_0 : decode cX7_share 0 = .ok (.aload_n 0, 1) := by decide +kernel
theorem dX7_share_1 : decode cX7_share 1 = .ok (.iconst 0, 1) := by decide +kernel
theorem dX7_share_2 : decode cX7_share 2 = .ok (.putfield 60, 3) := by decide +kernel
theorem dX7_share_5 : decode cX7_share 5 = .ok (.aload_n 0, 1) := by decide +kernel
theorem dX7_share_6 : decode cX7_share 6 = .ok (.iload_n 1, 1) := by decide +kernel
theorem dX7_share_7 : decode cX7_share 7 = .ok (.invokevirtual 125, 3) := by decide +kernel
theorem dX7_share_10 : decode cX7_share 10 = .ok (.ifCond .ne 6, 3) := by decide +kernel
theorem dX7_share_13 : decode cX7_share 13 = .ok (.bipush (-101), 2) := by decide +kernel
theorem dX7_share_15 : decode cX7_share 15 = .ok (.ireturn, 1) := by decide +kernel
theorem dX7_share_16 : decode cX7_share 16 = .ok (.aload_n 0, 1) := by decide +kernel
theorem dX7_share_17 : decode cX7_share 17 = .ok (.aload_n 0, 1) := by decide +kernel
theorem dX7_share_18 : decode cX7_share 18 = .ok (.getfield 71, 3) := by decide +kernel
theorem dX7_share_21 : decode cX7_share 21 = .ok (.ifCond .ne 7, 3) := by decide +kernel
theorem dX7_share_24 : decode cX7_share 24 = .ok (.iconst 1, 1) := by decide +kernel
theorem dX7_share_25 : decode cX7_share 25 = .ok (.goto 4, 3) := by decide +kernel
theorem dX7_share_28 : decode cX7_share 28 = .ok (.iconst 0, 1) := by decide +kernel
theorem dX7_share_29 : decode cX7_share 29 = .ok (.putfield 60, 3) := by decide +kernel
theorem dX7_share_32 : decode cX7_share 32 = .ok (.aload_n 0, 1) := by decide +kernel
theorem dX7_share_33 : decode cX7_share 33 = .ok (.getfield 60, 3) := by decide +kernel
theorem dX7_share_36 : decode cX7_share 36 = .ok (.ifCond .le 5, 3) := by decide +kernel
theorem dX7_share_39 : decode cX7_share 39 = .ok (.iconst 0, 1) := by decide +kernel
theorem dX7_share_40 : decode cX7_share 40 = .ok (.ireturn, 1) := by decide +kernel
theorem dX7_share_41 : decode cX7_share 41 = .ok (.aload_n 0, 1) := by decide +kernel
theorem dX7_share_42 : decode cX7_share 42 = .ok (.iconst (-1), 1) := by decide +kernel
theorem dX7_share_43 : decode cX7_share 43 = .ok (.iconst (-1), 1) := by decide +kernel
theorem dX7_share_44 : decode cX7_share 44 = .ok (.invokevirtual 129, 3) := by decide +kernel
theorem dX7_share_47 : decode cX7_share 47 = .ok (.istore_n 2, 1) := by decide +kernel
theorem dX7_share_48 : decode cX7_share 48 = .ok (.iload_n 2, 1) := by decide +kernel
theorem dX7_share_49 : decode cX7_share 49 = .ok (.aload_n 0, 1) := by decide +kernel
theorem dX7_share_50 : decode cX7_share 50 = .ok (.iload_n 1, 1) := by decide +kernel
theorem dX7_share_51 : decode cX7_share 51 = .ok (.iconst (-1), 1) := by decide +kernel
theorem dX7_share_52 : decode cX7_share 52 = .ok (.invokevirtual 129, 3) := by decide +kernel
theorem dX7_share_55 : decode cX7_share 55 = .ok (.isub, 1) := by decide +kernel
theorem dX7_share_56 : decode cX7_share 56 = .ok (.sipush 1000, 3) := by decide +kernel
theorem dX7_share_59 : decode cX7_share 59 = .ok (.imul, 1) := by decide +kernel
theorem dX7_share_60 : decode cX7_share 60 = .ok (.iload_n 2, 1) := by decide +kernel
theorem dX7_share_61 : decode cX7_share 61 = .ok (.idiv, 1) := by decide +kernel
theorem dX7_share_62 : decode cX7_share 62 = .ok (.ireturn, 1) := by decide +kernel
theorem dX7_about_0 : decode cX7_about 0 = .ok (.aload_n 0, 1) := by decide +kernel
theorem dX7_about_1 : decode cX7_about 1 = .ok (.iconst 0, 1) := by decide +kernel
theorem dX7_about_2 : decode cX7_about 2 = .ok (.putfield 60, 3) := by decide +kernel
theorem dX7_about_5 : decode cX7_about 5 = .ok (.iconst 0, 1) := by decide +kernel
theorem dX7_about_6 : decode cX7_about 6 = .ok (.istore_n 2, 1) := by decide +kernel
theorem dX7_about_7 : decode cX7_about 7 = .ok (.iconst 0, 1) := by decide +kernel
theorem dX7_about_8 : decode cX7_about 8 = .ok (.istore_n 3, 1) := by decide +kernel
theorem dX7_about_9 : decode cX7_about 9 = .ok (.iload_n 3, 1) := by decide +kernel
theorem dX7_about_10 : decode cX7_about 10 = .ok (.bipush 6, 2) := by decide +kernel
theorem dX7_about_12 : decode cX7_about 12 = .ok (.if_icmp .ge 26, 3) := by decide +kernel
theorem dX7_about_15 : decode cX7_about 15 = .ok (.iload_n 2, 1) := by decide +kernel
theorem dX7_about_16 : decode cX7_about 16 = .ok (.aload_n 0, 1) := by decide +kernel
theorem dX7_about_17 : decode cX7_about 17 = .ok (.getfield 19, 3) := by decide +kernel
theorem dX7_about_20 : decode cX7_about 20 = .ok (.iload_n 3, 1) := by decide +kernel
theorem dX7_about_21 : decode cX7_about 21 = .ok (.iaload, 1) := by decide +kernel
theorem dX7_about_22 : decode cX7_about 22 = .ok (.ifCond .le 7, 3) := by decide +kernel
end
section
theorem dX7_about_25 : decode cX7_about 25 = .ok (.iconst 1, 1) := by decide +kernel
theorem dX7_about_26 : decode cX7_about 26 = .ok (.goto 4, 3) := by decide +kernel
theorem dX7_about_29 : decode cX7_about 29 = .ok (.iconst 0, 1) := by decide +kernel
theorem dX7_about_30 : decode cX7_about 30 = .ok (.iadd, 1) := by decide +kernel
theorem dX7_about_31 : decode cX7_about 31 = .ok (.istore_n 2, 1) := by decide +kernel
theorem dX7_about_32 : decode cX7_about 32 = .ok (.iinc 3 1, 3) := by decide +kernel
theorem dX7_about_35 : decode cX7_about 35 = .ok (.goto (-26), 3) := by decide +kernel
theorem dX7_about_38 : decode cX7_about 38 = .ok (.iload_n 1, 1) := by decide +kernel
theorem dX7_about_39 : decode cX7_about 39 = .ok (.tableswitch 73 0 6 #[41, 46, 51, 53, 58, 63, 68], 41) := by decide +kernel
theorem dX7_about_80 : decode cX7_about 80 = .ok (.aload_n 0, 1) := by decide +kernel
theorem dX7_about_81 : decode cX7_about 81 = .ok (.getfield 56, 3) := by decide +kernel
theorem dX7_about_84 : decode cX7_about 84 = .ok (.ireturn, 1) := by decide +kernel
theorem dX7_about_85 : decode cX7_about 85 = .ok (.aload_n 0, 1) := by decide +kernel
theorem dX7_about_86 : decode cX7_about 86 = .ok (.getfield 71, 3) := by decide +kernel
theorem dX7_about_89 : decode cX7_about 89 = .ok (.ireturn, 1) := by decide +kernel
theorem dX7_about_90 : decode cX7_about 90 = .ok (.iload_n 2, 1) := by decide +kernel
theorem dX7_about_91 : decode cX7_about 91 = .ok (.ireturn, 1) := by decide +kernel
theorem dX7_about_92 : decode cX7_about 92 = .ok (.aload_n 0, 1) := by decide +kernel
theorem dX7_about_93 : decode cX7_about 93 = .ok (.getfield 141, 3) := by decide +kernel
theorem dX7_about_96 : decode cX7_about 96 = .ok (.ireturn, 1) := by decide +kernel
theorem dX7_about_97 : decode cX7_about 97 = .ok (.aload_n 0, 1) := by decide +kernel
theorem dX7_about_98 : decode cX7_about 98 = .ok (.getfield 162, 3) := by decide +kernel
theorem dX7_about_101 : decode cX7_about 101 = .ok (.ireturn, 1) := by decide +kernel
theorem dX7_about_102 : decode cX7_about 102 = .ok (.aload_n 0, 1) := by decide +kernel
theorem dX7_about_103 : decode cX7_about 103 = .ok (.getfield 150, 3) := by decide +kernel
theorem dX7_about_106 : decode cX7_about 106 = .ok (.ireturn, 1) := by decide +kernel
theorem dX7_about_107 : decode cX7_about 107 = .ok (.aload_n 0, 1) := by decide +kernel
theorem dX7_about_108 : decode cX7_about 108 = .ok (.getfield 147, 3) := by decide +kernel
theorem dX7_about_111 : decode cX7_about 111 = .ok (.ireturn, 1) := by decide +kernel
theorem dX7_about_112 : decode cX7_about 112 = .ok (.bipush (-102), 2) := by decide +kernel
theorem dX7_about_114 : decode cX7_about 114 = .ok (.ireturn, 1) := by decide +kernel
end
section
/-! GO: the machine at a frame, its heap hidden behind the list of cells, its locals behind a list. -/
/-- what stays the same over a method's body -/
def Cx (p : Program) (s : State) (m : MethodId) (args : Array Value) (c : Code) (cc : ByteArray) (nL : Nat) (own : String) (Ts : List Cond) (D : va_G) (tys : List (ClassId × FieldType)) (A : Nat → Prop) : Prop :=
  p.tables.exec = Jvm.exec ∧ c.code = cc ∧ c.maxLocals = nL ∧ s.vm.findClass own = some m.cls ∧ (∀ w ∈ Ts, w.before args s = true) ∧ va_K D vwCl tys s ∧ ∀ q, s.heap.size ≤ q → A q
/-- from any heap that holds the cells ws (others of A may be anything), with the locals lv and the stack st: it comes to Q -/
def Go (p : Program) (l : Launch) (e : Env) (R : Room) (s : State) (m : MethodId) (args : Array Value) (below : List Frame) (meth : Method) (c : Code) (Q : State → Prop) (nL : Nat) (D : va_G) (A : Nat → Prop) (ws : va_W) (cells slots pc : Nat) (lv : List (Nat × Value)) (st : List Value) : Prop :=
  ∀ (H : Heap) (locs : List Loc) (ls : Array Slot), va_P D vwCl ws H → va_D A ws → va_S A s.heap H locs → lv_has ls nL lv → W p l e R s m args below meth c H locs cells slots Q (F0 m pc ls st)
section GO
variable {p : Program} {l : Launch} {e : Env} {R : Room} {s : State} {m : MethodId} {args : Array Value} {below : List Frame} {meth : Method} {c : Code} {Q : State → Prop} {cc : ByteArray} {nL : Nat} {own : String} {Ts : List Cond} {D : va_G} {tys : List (ClassId × FieldType)} {A : Nat → Prop} {ws : va_W} {cells slots pc : Nat} {lv : List (Nat × Value)} {st : List Value}
theorem go_iconst (X : Cx p s m args c cc nL own Ts D tys A) {n : Int} {v : Int32} (hd : decode cc pc = .ok (.iconst n, 1)) (hv : Int32.ofInt n = v) (k : Go p l e R s m args below meth c Q nL D A ws cells slots (pc + 1) lv (.int v :: st)) : Go p l e R s m args below meth c Q nL D A ws cells slots pc lv st :=
  fun H locs ls hP hD hS hl => lv_iconst X.1 X.2.1 hd hv (k H locs ls hP hD hS hl)
theorem go_bipush (X : Cx p s m args c cc nL own Ts D tys A) {n : Int} {v : Int32} (hd : decode cc pc = .ok (.bipush n, 2)) (hv : (Int8.ofInt n).toInt32 = v) (k : Go p l e R s m args below meth c Q nL D A ws cells slots (pc + 2) lv (.int v :: st)) : Go p l e R s m args below meth c Q nL D A ws cells slots pc lv st :=
  fun H locs ls hP hD hS hl => lv_bipush X.1 X.2.1 hd hv (k H locs ls hP hD hS hl)
theorem go_sipush (X : Cx p s m args c cc nL own Ts D tys A) {n : Int} {v : Int32} (hd : decode cc pc = .ok (.sipush n, 3)) (hv : (Int16.ofInt n).toInt32 = v) (k : Go p l e R s m args below meth c Q nL D A ws cells slots (pc + 3) lv (.int v :: st)) : Go p l e R s m args below meth c Q nL D A ws cells slots pc lv st :=
  fun H locs ls hP hD hS hl => lv_sipush X.1 X.2.1 hd hv (k H locs ls hP hD hS hl)
theorem go_lconst (X : Cx p s m args c cc nL own Ts D tys A) {n : Fin 2} {v : Int64} (hd : decode cc pc = .ok (.lconst n, 1)) (hv : Int64.ofNat (n : Nat) = v) (k : Go p l e R s m args below meth c Q nL D A ws cells slots (pc + 1) lv (.long v :: st)) : Go p l e R s m args below meth c Q nL D A ws cells slots pc lv st :=
  fun H locs ls hP hD hS hl => lv_lconst X.1 X.2.1 hd hv (k H locs ls hP hD hS hl)
theorem go_ldc (X : Cx p s m args c cc nL own Ts D tys A) {index : Nat} {v : Int32} (hc : Jvm.Cond.constant own index v ∈ Ts) (hd : decode cc pc = .ok (.ldc index, 2)) (k : Go p l e R s m args below meth c Q nL D A ws cells slots (pc + 2) lv (.int v :: st)) : Go p l e R s m args below meth c Q nL D A ws cells slots pc lv st :=
  fun H locs ls hP hD hS hl => lv_ldc X.1 X.2.1 X.2.2.2.1 (X.2.2.2.2.1 _ hc) hd (k H locs ls hP hD hS hl)
theorem go_ldc2 (X : Cx p s m args c cc nL own Ts D tys A) {index : Nat} {v : Int64} (hc : Jvm.Cond.constantLong own index v ∈ Ts) (hd : decode cc pc = .ok (.ldc2_w index, 3)) (k : Go p l e R s m args below meth c Q nL D A ws cells slots (pc + 3) lv (.long v :: st)) : Go p l e R s m args below meth c Q nL D A ws cells slots pc lv st :=
  fun H locs ls hP hD hS hl => lv_ldc2 X.1 X.2.1 X.2.2.2.1 (X.2.2.2.2.1 _ hc) hd (k H locs ls hP hD hS hl)
theorem go_null (X : Cx p s m args c cc nL own Ts D tys A) (hd : decode cc pc = .ok (.aconst_null, 1)) (k : Go p l e R s m args below meth c Q nL D A ws cells slots (pc + 1) lv (.null :: st)) : Go p l e R s m args below meth c Q nL D A ws cells slots pc lv st :=
  fun H locs ls hP hD hS hl => lv_null X.1 X.2.1 hd (k H locs ls hP hD hS hl)
theorem go_iload_n (X : Cx p s m args c cc nL own Ts D tys A) {kk : Fin 4} {x : Int32} (hd : decode cc pc = .ok (.iload_n kk, 1)) (j : Nat) {i : Nat} (hj : lv[j]? = some (i, .int x)) (hi : (kk : Nat) = i) (k : Go p l e R s m args below meth c Q nL D A ws cells slots (pc + 1) lv (.int x :: st)) : Go p l e R s m args below meth c Q nL D A ws cells slots pc lv st :=
  fun H locs ls hP hD hS hl => lv_iload_n X.1 X.2.1 hd hi (lv_at hl j hj) (k H locs ls hP hD hS hl)
theorem go_iload (X : Cx p s m args c cc nL own Ts D tys A) {i : Nat} {x : Int32} (hd : decode cc pc = .ok (.iload i, 2)) (j : Nat) (hj : lv[j]? = some (i, .int x)) (k : Go p l e R s m args below meth c Q nL D A ws cells slots (pc + 2) lv (.int x :: st)) : Go p l e R s m args below meth c Q nL D A ws cells slots pc lv st :=
  fun H locs ls hP hD hS hl => lv_iload X.1 X.2.1 hd (lv_at hl j hj) (k H locs ls hP hD hS hl)
theorem go_lload_n (X : Cx p s m args c cc nL own Ts D tys A) {kk : Fin 4} {x : Int64} (hd : decode cc pc = .ok (.lload_n kk, 1)) (j : Nat) {i : Nat} (hj : lv[j]? = some (i, .long x)) (hi : (kk : Nat) = i) (k : Go p l e R s m args below meth c Q nL D A ws cells slots (pc + 1) lv (.long x :: st)) : Go p l e R s m args below meth c Q nL D A ws cells slots pc lv st :=
  fun H locs ls hP hD hS hl => lv_lload_n X.1 X.2.1 hd hi (lv_at hl j hj) (k H locs ls hP hD hS hl)
theorem go_lload (X : Cx p s m args c cc nL own Ts D tys A) {i : Nat} {x : Int64} (hd : decode cc pc = .ok (.lload i, 2)) (j : Nat) (hj : lv[j]? = some (i, .long x)) (k : Go p l e R s m args below meth c Q nL D A ws cells slots (pc + 2) lv (.long x :: st)) : Go p l e R s m args below meth c Q nL D A ws cells slots pc lv st :=
  fun H locs ls hP hD hS hl => lv_lload X.1 X.2.1 hd (lv_at hl j hj) (k H locs ls hP hD hS hl)
theorem go_aload_n (X : Cx p s m args c cc nL own Ts D tys A) {kk : Fin 4} {x : Nat} (hd : decode cc pc = .ok (.aload_n kk, 1)) (j : Nat) {i : Nat} (hj : lv[j]? = some (i, .ref x)) (hi : (kk : Nat) = i) (k : Go p l e R s m args below meth c Q nL D A ws cells slots (pc + 1) lv (.ref x :: st)) : Go p l e R s m args below meth c Q nL D A ws cells slots pc lv st :=
  fun H locs ls hP hD hS hl => lv_aload_n X.1 X.2.1 hd hi (lv_at hl j hj) (k H locs ls hP hD hS hl)
theorem go_aload (X : Cx p s m args c cc nL own Ts D tys A) {i : Nat} {x : Nat} (hd : decode cc pc = .ok (.aload i, 2)) (j : Nat) (hj : lv[j]? = some (i, .ref x)) (k : Go p l e R s m args below meth c Q nL D A ws cells slots (pc + 2) lv (.ref x :: st)) : Go p l e R s m args below meth c Q nL D A ws cells slots pc lv st :=
  fun H locs ls hP hD hS hl => lv_aload X.1 X.2.1 hd (lv_at hl j hj) (k H locs ls hP hD hS hl)
theorem go_aload_nN (X : Cx p s m args c cc nL own Ts D tys A) {kk : Fin 4} (hd : decode cc pc = .ok (.aload_n kk, 1)) (j : Nat) {i : Nat} (hj : lv[j]? = some (i, .null)) (hi : (kk : Nat) = i) (k : Go p l e R s m args below meth c Q nL D A ws cells slots (pc + 1) lv (.null :: st)) : Go p l e R s m args below meth c Q nL D A ws cells slots pc lv st :=
  fun H locs ls hP hD hS hl => lv_aload_nN X.1 X.2.1 hd hi (lv_at hl j hj) (k H locs ls hP hD hS hl)
theorem go_istore_n (X : Cx p s m args c cc nL own Ts D tys A) {kk : Fin 4} {i : Nat} {x : Int32} {lv' : List (Nat × Value)} (hd : decode cc pc = .ok (.istore_n kk, 1)) (hi : (kk : Nat) = i) (hn : i < nL) (hl' : (i, Value.int x) :: lv.filter (fun q => !(q.1 == i) && !(q.1 + 1 == i && q.2.category == 2)) = lv') (k : Go p l e R s m args below meth c Q nL D A ws cells slots (pc + 1) lv' st) : Go p l e R s m args below meth c Q nL D A ws cells slots pc lv (.int x :: st) :=
  fun H locs ls hP hD hS hl => lv_istore_n X.1 X.2.1 hd hi hl hn hl' (fun ls hl => k H locs ls hP hD hS hl)
theorem go_istore (X : Cx p s m args c cc nL own Ts D tys A) {i : Nat} {x : Int32} {lv' : List (Nat × Value)} (hd : decode cc pc = .ok (.istore i, 2)) (hn : i < nL) (hl' : (i, Value.int x) :: lv.filter (fun q => !(q.1 == i) && !(q.1 + 1 == i && q.2.category == 2)) = lv') (k : Go p l e R s m args below meth c Q nL D A ws cells slots (pc + 2) lv' st) : Go p l e R s m args below meth c Q nL D A ws cells slots pc lv (.int x :: st) :=
  fun H locs ls hP hD hS hl => lv_istore X.1 X.2.1 hd hl hn hl' (fun ls hl => k H locs ls hP hD hS hl)
theorem go_astore_n (X : Cx p s m args c cc nL own Ts D tys A) {kk : Fin 4} {i x : Nat} {lv' : List (Nat × Value)} (hd : decode cc pc = .ok (.astore_n kk, 1)) (hi : (kk : Nat) = i) (hn : i < nL) (hl' : (i, Value.ref x) :: lv.filter (fun q => !(q.1 == i) && !(q.1 + 1 == i && q.2.category == 2)) = lv') (k : Go p l e R s m args below meth c Q nL D A ws cells slots (pc + 1) lv' st) : Go p l e R s m args below meth c Q nL D A ws cells slots pc lv (.ref x :: st) :=
  fun H locs ls hP hD hS hl => lv_astore_n X.1 X.2.1 hd hi hl hn hl' (fun ls hl => k H locs ls hP hD hS hl)
theorem go_astore (X : Cx p s m args c cc nL own Ts D tys A) {i x : Nat} {lv' : List (Nat × Value)} (hd : decode cc pc = .ok (.astore i, 2)) (hn : i < nL) (hl' : (i, Value.ref x) :: lv.filter (fun q => !(q.1 == i) && !(q.1 + 1 == i && q.2.category == 2)) = lv') (k : Go p l e R s m args below meth c Q nL D A ws cells slots (pc + 2) lv' st) : Go p l e R s m args below meth c Q nL D A ws cells slots pc lv (.ref x :: st) :=
  fun H locs ls hP hD hS hl => lv_astore X.1 X.2.1 hd hl hn hl' (fun ls hl => k H locs ls hP hD hS hl)
theorem go_astore_nN (X : Cx p s m args c cc nL own Ts D tys A) {kk : Fin 4} {i : Nat} {lv' : List (Nat × Value)} (hd : decode cc pc = .ok (.astore_n kk, 1)) (hi : (kk : Nat) = i) (hn : i < nL) (hl' : (i, Value.null) :: lv.filter (fun q => !(q.1 == i) && !(q.1 + 1 == i && q.2.category == 2)) = lv') (k : Go p l e R s m args below meth c Q nL D A ws cells slots (pc + 1) lv' st) : Go p l e R s m args below meth c Q nL D A ws cells slots pc lv (.null :: st) :=
  fun H locs ls hP hD hS hl => lv_astore_nN X.1 X.2.1 hd hi hl hn hl' (fun ls hl => k H locs ls hP hD hS hl)
theorem go_iinc (X : Cx p s m args c cc nL own Ts D tys A) {i : Nat} {n : Int} {x : Int32} {lv' : List (Nat × Value)} (v : Int32) (hd : decode cc pc = .ok (.iinc i n, 3)) (j : Nat) (hj : lv[j]? = some (i, .int x)) (hv : x + Int32.ofInt n = v) (hn : i < nL) (hl' : (i, Value.int v) :: lv.filter (fun q => !(q.1 == i) && !(q.1 + 1 == i && q.2.category == 2)) = lv') (k : Go p l e R s m args below meth c Q nL D A ws cells slots (pc + 3) lv' st) : Go p l e R s m args below meth c Q nL D A ws cells slots pc lv st :=
  fun H locs ls hP hD hS hl => lv_iinc X.1 X.2.1 hd hl hj hv hn hl' (fun ls hl => k H locs ls hP hD hS hl)
theorem go_iadd (X : Cx p s m args c cc nL own Ts D tys A) {x y : Int32} (hd : decode cc pc = .ok (.iadd, 1)) (k : Go p l e R s m args below meth c Q nL D A ws cells slots (pc + 1) lv (.int (x + y) :: st)) : Go p l e R s m args below meth c Q nL D A ws cells slots pc lv (.int y :: .int x :: st) :=
  fun H locs ls hP hD hS hl => lv_iadd X.1 X.2.1 hd (k H locs ls hP hD hS hl)
theorem go_isub (X : Cx p s m args c cc nL own Ts D tys A) {x y : Int32} (hd : decode cc pc = .ok (.isub, 1)) (k : Go p l e R s m args below meth c Q nL D A ws cells slots (pc + 1) lv (.int (x - y) :: st)) : Go p l e R s m args below meth c Q nL D A ws cells slots pc lv (.int y :: .int x :: st) :=
  fun H locs ls hP hD hS hl => lv_isub X.1 X.2.1 hd (k H locs ls hP hD hS hl)
theorem go_imul (X : Cx p s m args c cc nL own Ts D tys A) {x y : Int32} (hd : decode cc pc = .ok (.imul, 1)) (k : Go p l e R s m args below meth c Q nL D A ws cells slots (pc + 1) lv (.int (x * y) :: st)) : Go p l e R s m args below meth c Q nL D A ws cells slots pc lv (.int y :: .int x :: st) :=
  fun H locs ls hP hD hS hl => lv_imul X.1 X.2.1 hd (k H locs ls hP hD hS hl)
theorem go_iand (X : Cx p s m args c cc nL own Ts D tys A) {x y : Int32} (hd : decode cc pc = .ok (.iand, 1)) (k : Go p l e R s m args below meth c Q nL D A ws cells slots (pc + 1) lv (.int (x &&& y) :: st)) : Go p l e R s m args below meth c Q nL D A ws cells slots pc lv (.int y :: .int x :: st) :=
  fun H locs ls hP hD hS hl => lv_iand X.1 X.2.1 hd (k H locs ls hP hD hS hl)
theorem go_idiv (X : Cx p s m args c cc nL own Ts D tys A) {x y : Int32} (hd : decode cc pc = .ok (.idiv, 1)) (hne : ¬ y = 0) (k : Go p l e R s m args below meth c Q nL D A ws cells slots (pc + 1) lv (.int (x / y) :: st)) : Go p l e R s m args below meth c Q nL D A ws cells slots pc lv (.int y :: .int x :: st) :=
  fun H locs ls hP hD hS hl => lv_idiv X.1 X.2.1 hd hne (k H locs ls hP hD hS hl)
theorem go_irem (X : Cx p s m args c cc nL own Ts D tys A) {x y : Int32} (hd : decode cc pc = .ok (.irem, 1)) (hne : ¬ y = 0) (k : Go p l e R s m args below meth c Q nL D A ws cells slots (pc + 1) lv (.int (x - x / y * y) :: st)) : Go p l e R s m args below meth c Q nL D A ws cells slots pc lv (.int y :: .int x :: st) :=
  fun H locs ls hP hD hS hl => lv_irem X.1 X.2.1 hd hne (k H locs ls hP hD hS hl)
theorem go_ishr (X : Cx p s m args c cc nL own Ts D tys A) {x y : Int32} (hd : decode cc pc = .ok (.ishr, 1)) (k : Go p l e R s m args below meth c Q nL D A ws cells slots (pc + 1) lv (.int (x >>> (y &&& 31)) :: st)) : Go p l e R s m args below meth c Q nL D A ws cells slots pc lv (.int y :: .int x :: st) :=
  fun H locs ls hP hD hS hl => lv_ishr X.1 X.2.1 hd (k H locs ls hP hD hS hl)
theorem go_land (X : Cx p s m args c cc nL own Ts D tys A) {x y : Int64} (hd : decode cc pc = .ok (.land, 1)) (k : Go p l e R s m args below meth c Q nL D A ws cells slots (pc + 1) lv (.long (x &&& y) :: st)) : Go p l e R s m args below meth c Q nL D A ws cells slots pc lv (.long y :: .long x :: st) :=
  fun H locs ls hP hD hS hl => lv_land X.1 X.2.1 hd (k H locs ls hP hD hS hl)
theorem go_lor (X : Cx p s m args c cc nL own Ts D tys A) {x y : Int64} (hd : decode cc pc = .ok (.lor, 1)) (k : Go p l e R s m args below meth c Q nL D A ws cells slots (pc + 1) lv (.long (x ||| y) :: st)) : Go p l e R s m args below meth c Q nL D A ws cells slots pc lv (.long y :: .long x :: st) :=
  fun H locs ls hP hD hS hl => lv_lor X.1 X.2.1 hd (k H locs ls hP hD hS hl)
theorem go_ineg (X : Cx p s m args c cc nL own Ts D tys A) {x : Int32} (hd : decode cc pc = .ok (.ineg, 1)) (k : Go p l e R s m args below meth c Q nL D A ws cells slots (pc + 1) lv (.int (0 - x) :: st)) : Go p l e R s m args below meth c Q nL D A ws cells slots pc lv (.int x :: st) :=
  fun H locs ls hP hD hS hl => lv_ineg X.1 X.2.1 hd (k H locs ls hP hD hS hl)
theorem go_i2l (X : Cx p s m args c cc nL own Ts D tys A) {x : Int32} (hd : decode cc pc = .ok (.i2l, 1)) (k : Go p l e R s m args below meth c Q nL D A ws cells slots (pc + 1) lv (.long x.toInt64 :: st)) : Go p l e R s m args below meth c Q nL D A ws cells slots pc lv (.int x :: st) :=
  fun H locs ls hP hD hS hl => lv_i2l X.1 X.2.1 hd rfl (k H locs ls hP hD hS hl)
theorem go_l2i (X : Cx p s m args c cc nL own Ts D tys A) {x : Int64} (hd : decode cc pc = .ok (.l2i, 1)) (k : Go p l e R s m args below meth c Q nL D A ws cells slots (pc + 1) lv (.int x.toInt32 :: st)) : Go p l e R s m args below meth c Q nL D A ws cells slots pc lv (.long x :: st) :=
  fun H locs ls hP hD hS hl => lv_l2i X.1 X.2.1 hd rfl (k H locs ls hP hD hS hl)
theorem go_i2b (X : Cx p s m args c cc nL own Ts D tys A) {x : Int32} (hd : decode cc pc = .ok (.i2b, 1)) (k : Go p l e R s m args below meth c Q nL D A ws cells slots (pc + 1) lv (.int x.toInt8.toInt32 :: st)) : Go p l e R s m args below meth c Q nL D A ws cells slots pc lv (.int x :: st) :=
  fun H locs ls hP hD hS hl => lv_i2b X.1 X.2.1 hd rfl (k H locs ls hP hD hS hl)
theorem go_lushr (X : Cx p s m args c cc nL own Ts D tys A) {x : Int64} {y : Int32} (hd : decode cc pc = .ok (.lushr, 1)) (k : Go p l e R s m args below meth c Q nL D A ws cells slots (pc + 1) lv (.long ((x.toUInt64 >>> (y.toInt64.toUInt64 &&& Int64.toUInt64 63)).toInt64) :: st)) : Go p l e R s m args below meth c Q nL D A ws cells slots pc lv (.int y :: .long x :: st) :=
  fun H locs ls hP hD hS hl => lv_lushr X.1 X.2.1 hd rfl (k H locs ls hP hD hS hl)
theorem go_lshl (X : Cx p s m args c cc nL own Ts D tys A) {x : Int64} {y : Int32} (hd : decode cc pc = .ok (.lshl, 1)) (k : Go p l e R s m args below meth c Q nL D A ws cells slots (pc + 1) lv (.long (x <<< (y.toInt64 &&& 63)) :: st)) : Go p l e R s m args below meth c Q nL D A ws cells slots pc lv (.int y :: .long x :: st) :=
  fun H locs ls hP hD hS hl => lv_lshl X.1 X.2.1 hd rfl (k H locs ls hP hD hS hl)
theorem go_lshr (X : Cx p s m args c cc nL own Ts D tys A) {x : Int64} {y : Int32} (hd : decode cc pc = .ok (.lshr, 1)) (k : Go p l e R s m args below meth c Q nL D A ws cells slots (pc + 1) lv (.long (x >>> (y.toInt64 &&& 63)) :: st)) : Go p l e R s m args below meth c Q nL D A ws cells slots pc lv (.int y :: .long x :: st) :=
  fun H locs ls hP hD hS hl => lv_lshr X.1 X.2.1 hd rfl (k H locs ls hP hD hS hl)
theorem go_lcmp (X : Cx p s m args c cc nL own Ts D tys A) {x y : Int64} (hd : decode cc pc = .ok (.lcmp, 1)) (k : Go p l e R s m args below meth c Q nL D A ws cells slots (pc + 1) lv (.int (lg_cmp x y) :: st)) : Go p l e R s m args below meth c Q nL D A ws cells slots pc lv (.long y :: .long x :: st) :=
  fun H locs ls hP hD hS hl => W.lcmp X.1 X.2.1 hd (k H locs ls hP hD hS hl)
theorem go_dup (X : Cx p s m args c cc nL own Ts D tys A) {va : Value} (hd : decode cc pc = .ok (.dup, 1)) (hc : va.category = 1) (k : Go p l e R s m args below meth c Q nL D A ws cells slots (pc + 1) lv (va :: va :: st)) : Go p l e R s m args below meth c Q nL D A ws cells slots pc lv (va :: st) :=
  fun H locs ls hP hD hS hl => lv_dup X.1 X.2.1 hd hc (k H locs ls hP hD hS hl)
theorem go_pop (X : Cx p s m args c cc nL own Ts D tys A) {va : Value} (hd : decode cc pc = .ok (.pop, 1)) (hc : va.category = 1) (k : Go p l e R s m args below meth c Q nL D A ws cells slots (pc + 1) lv st) : Go p l e R s m args below meth c Q nL D A ws cells slots pc lv (va :: st) :=
  fun H locs ls hP hD hS hl => lv_pop X.1 X.2.1 hd hc (k H locs ls hP hD hS hl)
theorem go_dup2 (X : Cx p s m args c cc nL own Ts D tys A) {va vb : Value} (hd : decode cc pc = .ok (.dup2, 1)) (hc : va.category = 1) (hc2 : vb.category = 1) (k : Go p l e R s m args below meth c Q nL D A ws cells slots (pc + 1) lv (va :: vb :: va :: vb :: st)) : Go p l e R s m args below meth c Q nL D A ws cells slots pc lv (va :: vb :: st) :=
  fun H locs ls hP hD hS hl => lv_dup2_11 X.1 X.2.1 hd hc hc2 (k H locs ls hP hD hS hl)
theorem go_if_eq (X : Cx p s m args c cc nL own Ts D tys A) {x : Int32} {off : Int} (tgt : Nat) (hd : decode cc pc = .ok (.ifCond .eq off, 3)) (ht : (pc : Int) + off = (tgt : Int)) (kt : x = 0 → Go p l e R s m args below meth c Q nL D A ws cells slots tgt lv st) (kf : ¬ x = 0 → Go p l e R s m args below meth c Q nL D A ws cells slots (pc + 3) lv st) : Go p l e R s m args below meth c Q nL D A ws cells slots pc lv (.int x :: st) :=
  fun H locs ls hP hD hS hl => lv_if_eq X.1 X.2.1 hd ht (fun h => kt h H locs ls hP hD hS hl) (fun h => kf h H locs ls hP hD hS hl)
theorem go_icmp_eq (X : Cx p s m args c cc nL own Ts D tys A) {x y : Int32} {off : Int} (tgt : Nat) (hd : decode cc pc = .ok (.if_icmp .eq off, 3)) (ht : (pc : Int) + off = (tgt : Int)) (kt : x = y → Go p l e R s m args below meth c Q nL D A ws cells slots tgt lv st) (kf : ¬ x = y → Go p l e R s m args below meth c Q nL D A ws cells slots (pc + 3) lv st) : Go p l e R s m args below meth c Q nL D A ws cells slots pc lv (.int y :: .int x :: st) :=
  fun H locs ls hP hD hS hl => lv_icmp_eq X.1 X.2.1 hd ht (fun h => kt h H locs ls hP hD hS hl) (fun h => kf h H locs ls hP hD hS hl)
theorem go_if_ne (X : Cx p s m args c cc nL own Ts D tys A) {x : Int32} {off : Int} (tgt : Nat) (hd : decode cc pc = .ok (.ifCond .ne off, 3)) (ht : (pc : Int) + off = (tgt : Int)) (kt : ¬ x = 0 → Go p l e R s m args below meth c Q nL D A ws cells slots tgt lv st) (kf : x = 0 → Go p l e R s m args below meth c Q nL D A ws cells slots (pc + 3) lv st) : Go p l e R s m args below meth c Q nL D A ws cells slots pc lv (.int x :: st) :=
  fun H locs ls hP hD hS hl => lv_if_ne X.1 X.2.1 hd ht (fun h => kt h H locs ls hP hD hS hl) (fun h => kf h H locs ls hP hD hS hl)
theorem go_icmp_ne (X : Cx p s m args c cc nL own Ts D tys A) {x y : Int32} {off : Int} (tgt : Nat) (hd : decode cc pc = .ok (.if_icmp .ne off, 3)) (ht : (pc : Int) + off = (tgt : Int)) (kt : ¬ x = y → Go p l e R s m args below meth c Q nL D A ws cells slots tgt lv st) (kf : x = y → Go p l e R s m args below meth c Q nL D A ws cells slots (pc + 3) lv st) : Go p l e R s m args below meth c Q nL D A ws cells slots pc lv (.int y :: .int x :: st) :=
  fun H locs ls hP hD hS hl => lv_icmp_ne X.1 X.2.1 hd ht (fun h => kt h H locs ls hP hD hS hl) (fun h => kf h H locs ls hP hD hS hl)
theorem go_if_lt (X : Cx p s m args c cc nL own Ts D tys A) {x : Int32} {off : Int} (tgt : Nat) (hd : decode cc pc = .ok (.ifCond .lt off, 3)) (ht : (pc : Int) + off = (tgt : Int)) (kt : x < 0 → Go p l e R s m args below meth c Q nL D A ws cells slots tgt lv st) (kf : ¬ x < 0 → Go p l e R s m args below meth c Q nL D A ws cells slots (pc + 3) lv st) : Go p l e R s m args below meth c Q nL D A ws cells slots pc lv (.int x :: st) :=
  fun H locs ls hP hD hS hl => lv_if_lt X.1 X.2.1 hd ht (fun h => kt h H locs ls hP hD hS hl) (fun h => kf h H locs ls hP hD hS hl)
theorem go_icmp_lt (X : Cx p s m args c cc nL own Ts D tys A) {x y : Int32} {off : Int} (tgt : Nat) (hd : decode cc pc = .ok (.if_icmp .lt off, 3)) (ht : (pc : Int) + off = (tgt : Int)) (kt : x < y → Go p l e R s m args below meth c Q nL D A ws cells slots tgt lv st) (kf : ¬ x < y → Go p l e R s m args below meth c Q nL D A ws cells slots (pc + 3) lv st) : Go p l e R s m args below meth c Q nL D A ws cells slots pc lv (.int y :: .int x :: st) :=
  fun H locs ls hP hD hS hl => lv_icmp_lt X.1 X.2.1 hd ht (fun h => kt h H locs ls hP hD hS hl) (fun h => kf h H locs ls hP hD hS hl)
theorem go_if_ge (X : Cx p s m args c cc nL own Ts D tys A) {x : Int32} {off : Int} (tgt : Nat) (hd : decode cc pc = .ok (.ifCond .ge off, 3)) (ht : (pc : Int) + off = (tgt : Int)) (kt : 0 ≤ x → Go p l e R s m args below meth c Q nL D A ws cells slots tgt lv st) (kf : ¬ 0 ≤ x → Go p l e R s m args below meth c Q nL D A ws cells slots (pc + 3) lv st) : Go p l e R s m args below meth c Q nL D A ws cells slots pc lv (.int x :: st) :=
  fun H locs ls hP hD hS hl => lv_if_ge X.1 X.2.1 hd ht (fun h => kt h H locs ls hP hD hS hl) (fun h => kf h H locs ls hP hD hS hl)
theorem go_icmp_ge (X : Cx p s m args c cc nL own Ts D tys A) {x y : Int32} {off : Int} (tgt : Nat) (hd : decode cc pc = .ok (.if_icmp .ge off, 3)) (ht : (pc : Int) + off = (tgt : Int)) (kt : y ≤ x → Go p l e R s m args below meth c Q nL D A ws cells slots tgt lv st) (kf : ¬ y ≤ x → Go p l e R s m args below meth c Q nL D A ws cells slots (pc + 3) lv st) : Go p l e R s m args below meth c Q nL D A ws cells slots pc lv (.int y :: .int x :: st) :=
  fun H locs ls hP hD hS hl => lv_icmp_ge X.1 X.2.1 hd ht (fun h => kt h H locs ls hP hD hS hl) (fun h => kf h H locs ls hP hD hS hl)
theorem go_if_gt (X : Cx p s m args c cc nL own Ts D tys A) {x : Int32} {off : Int} (tgt : Nat) (hd : decode cc pc = .ok (.ifCond .gt off, 3)) (ht : (pc : Int) + off = (tgt : Int)) (kt : 0 < x → Go p l e R s m args below meth c Q nL D A ws cells slots tgt lv st) (kf : ¬ 0 < x → Go p l e R s m args below meth c Q nL D A ws cells slots (pc + 3) lv st) : Go p l e R s m args below meth c Q nL D A ws cells slots pc lv (.int x :: st) :=
  fun H locs ls hP hD hS hl => lv_if_gt X.1 X.2.1 hd ht (fun h => kt h H locs ls hP hD hS hl) (fun h => kf h H locs ls hP hD hS hl)
theorem go_icmp_gt (X : Cx p s m args c cc nL own Ts D tys A) {x y : Int32} {off : Int} (tgt : Nat) (hd : decode cc pc = .ok (.if_icmp .gt off, 3)) (ht : (pc : Int) + off = (tgt : Int)) (kt : y < x → Go p l e R s m args below meth c Q nL D A ws cells slots tgt lv st) (kf : ¬ y < x → Go p l e R s m args below meth c Q nL D A ws cells slots (pc + 3) lv st) : Go p l e R s m args below meth c Q nL D A ws cells slots pc lv (.int y :: .int x :: st) :=
  fun H locs ls hP hD hS hl => lv_icmp_gt X.1 X.2.1 hd ht (fun h => kt h H locs ls hP hD hS hl) (fun h => kf h H locs ls hP hD hS hl)
theorem go_if_le (X : Cx p s m args c cc nL own Ts D tys A) {x : Int32} {off : Int} (tgt : Nat) (hd : decode cc pc = .ok (.ifCond .le off, 3)) (ht : (pc : Int) + off = (tgt : Int)) (kt : x ≤ 0 → Go p l e R s m args below meth c Q nL D A ws cells slots tgt lv st) (kf : ¬ x ≤ 0 → Go p l e R s m args below meth c Q nL D A ws cells slots (pc + 3) lv st) : Go p l e R s m args below meth c Q nL D A ws cells slots pc lv (.int x :: st) :=
  fun H locs ls hP hD hS hl => lv_if_le X.1 X.2.1 hd ht (fun h => kt h H locs ls hP hD hS hl) (fun h => kf h H locs ls hP hD hS hl)
theorem go_icmp_le (X : Cx p s m args c cc nL own Ts D tys A) {x y : Int32} {off : Int} (tgt : Nat) (hd : decode cc pc = .ok (.if_icmp .le off, 3)) (ht : (pc : Int) + off = (tgt : Int)) (kt : x ≤ y → Go p l e R s m args below meth c Q nL D A ws cells slots tgt lv st) (kf : ¬ x ≤ y → Go p l e R s m args below meth c Q nL D A ws cells slots (pc + 3) lv st) : Go p l e R s m args below meth c Q nL D A ws cells slots pc lv (.int y :: .int x :: st) :=
  fun H locs ls hP hD hS hl => lv_icmp_le X.1 X.2.1 hd ht (fun h => kt h H locs ls hP hD hS hl) (fun h => kf h H locs ls hP hD hS hl)
theorem go_goto (X : Cx p s m args c cc nL own Ts D tys A) {off : Int} (tgt : Nat) (hd : decode cc pc = .ok (.goto off, 3)) (ht : (pc : Int) + off = (tgt : Int)) (k : Go p l e R s m args below meth c Q nL D A ws cells slots tgt lv st) : Go p l e R s m args below meth c Q nL D A ws cells slots pc lv st :=
  fun H locs ls hP hD hS hl => lv_goto X.1 X.2.1 hd ht (k H locs ls hP hD hS hl)
theorem go_ifnonnull (X : Cx p s m args c cc nL own Ts D tys A) {x : Nat} {off : Int} (tgt : Nat) (hd : decode cc pc = .ok (.ifnonnull off, 3)) (ht : (pc : Int) + off = (tgt : Int)) (k : Go p l e R s m args below meth c Q nL D A ws cells slots tgt lv st) : Go p l e R s m args below meth c Q nL D A ws cells slots pc lv (.ref x :: st) :=
  fun H locs ls hP hD hS hl => lv_ifnonnull X.1 X.2.1 hd ht (k H locs ls hP hD hS hl)
theorem go_ifnonnullN (X : Cx p s m args c cc nL own Ts D tys A) {off : Int} (hd : decode cc pc = .ok (.ifnonnull off, 3)) (k : Go p l e R s m args below meth c Q nL D A ws cells slots (pc + 3) lv st) : Go p l e R s m args below meth c Q nL D A ws cells slots pc lv (.null :: st) :=
  fun H locs ls hP hD hS hl => lv_ifnonnullN X.1 X.2.1 hd (k H locs ls hP hD hS hl)
theorem go_tableOut (X : Cx p s m args c cc nL own Ts D tys A) {dflt lo hi : Int} {offs : Array Int} {len : Nat} {x : Int32} (tgt : Nat) (hd : decode cc pc = .ok (.tableswitch dflt lo hi offs, len)) (h : x.toInt < lo ∨ hi < x.toInt) (ht : (pc : Int) + dflt = (tgt : Int)) (k : Go p l e R s m args below meth c Q nL D A ws cells slots tgt lv st) : Go p l e R s m args below meth c Q nL D A ws cells slots pc lv (.int x :: st) :=
  fun H locs ls hP hD hS hl => lv_tableOut X.1 X.2.1 hd h ht (k H locs ls hP hD hS hl)
theorem go_tableIn (X : Cx p s m args c cc nL own Ts D tys A) {dflt lo hi : Int} {offs : Array Int} {len : Nat} {x : Int32} {off : Int} (tgt : Nat) (hd : decode cc pc = .ok (.tableswitch dflt lo hi offs, len)) (h1 : ¬ x.toInt < lo) (h2 : ¬ hi < x.toInt) (ho : offs[(x.toInt - lo).toNat]? = some off) (ht : (pc : Int) + off = (tgt : Int)) (k : Go p l e R s m args below meth c Q nL D A ws cells slots tgt lv st) : Go p l e R s m args below meth c Q nL D A ws cells slots pc lv (.int x :: st) :=
  fun H locs ls hP hD hS hl => lv_tableIn X.1 X.2.1 hd h1 h2 ho ht (k H locs ls hP hD hS hl)
theorem go_get (X : Cx p s m args c cc nL own Ts D tys A) {C : String} {T : u_T} {N ci index a : Nat} {fs : List Value} {v : Value} (hin : ∀ w ∈ u_ws C T N, w ∈ Ts) (q0 : Nat) (he : ws[q0]? = some (a, .inr (ci, fs))) (hc : vwCl[ci]? = some (C, T, N)) (k : Nat) (hk : k < N) (hlink : Cond.fieldLink own index (T k).1 (T k).2.1 (T k).2.2.1 ∈ Ts) (hv : fs[k]? = some v) (hd : decode cc pc = .ok (.getfield index, 3)) (kk : Go p l e R s m args below meth c Q nL D A ws cells slots (pc + 3) lv (v :: st)) : Go p l e R s m args below meth c Q nL D A ws cells slots pc lv (.ref a :: st) :=
  fun H locs ls hP hD hS hl => va_get X.1 X.2.1 X.2.2.2.2.1 hin X.2.2.2.1 X.2.2.2.2.2.1 hP q0 he hc k hk (X.2.2.2.2.1 _ hlink) (fun _ h9 => h9) hv hd (kk H locs ls hP hD hS hl)
theorem go_put (X : Cx p s m args c cc nL own Ts D tys A) {C : String} {T : u_T} {N ci index a : Nat} {fs : List Value} {v : Value} {ty : FieldType} (ws' : va_W) (hin : ∀ w ∈ u_ws C T N, w ∈ Ts) (ty0 : Nat → FieldType) (hty : ∀ k, k < N → parseFieldDescriptor (T k).2.2.1 = some (ty0 k)) (hnm : ∀ a, a < N → ∀ b, b < N → a ≠ b → (T a).2.1 ≠ (T b).2.1) (q0 : Nat) (he : ws[q0]? = some (a, .inr (ci, fs))) (hc : vwCl[ci]? = some (C, T, N)) (k : Nat) (hk : k < N) (hlink : Cond.fieldLink own index (T k).1 (T k).2.1 (T k).2.2.1 ∈ Ts) (hfin : (T k).2.2.2 = false) (hd1 : parseFieldDescriptor (T k).2.2.1 = some ty) (hn : narrow ty v = v) (hfit : fits ty v = true) (hl1 : k < fs.length) (hw : ws.set q0 (a, .inr (ci, fs.set k v)) = ws') (hd : decode cc pc = .ok (.putfield index, 3)) (kk : Go p l e R s m args below meth c Q nL D A ws' cells slots (pc + 3) lv st) : Go p l e R s m args below meth c Q nL D A ws cells slots pc lv (v :: .ref a :: st) := by
  subst hw
  exact fun H locs ls hP hD hS hl => va_put X.1 X.2.1 X.2.2.2.2.1 hin ty0 hty hnm X.2.2.2.1 X.2.2.2.2.2.1 hP hD hS q0 he hc k hk (X.2.2.2.2.1 _ hlink) (fun _ h9 => h9) hfin hd1 hn hfit hl1 hd (fun H locs hP hD hS => kk H locs ls hP hD hS hl)
theorem go_putF (X : Cx p s m args c cc nL own Ts D tys A) {C : String} {T : u_T} {N ci index a : Nat} {fs : List Value} {v : Value} {ty : FieldType} (ws' : va_W) (hin : ∀ w ∈ u_ws C T N, w ∈ Ts) (ty0 : Nat → FieldType) (hty : ∀ k, k < N → parseFieldDescriptor (T k).2.2.1 = some (ty0 k)) (hnm : ∀ a, a < N → ∀ b, b < N → a ≠ b → (T a).2.1 ≠ (T b).2.1) (q0 : Nat) (he : ws[q0]? = some (a, .inr (ci, fs))) (hc : vwCl[ci]? = some (C, T, N)) (k : Nat) (hk : k < N) (hlink : Cond.fieldLink own index (T k).1 (T k).2.1 (T k).2.2.1 ∈ Ts) (hfin : (T k).2.2.2 = true) (hin2 : meth.name = "<init>") (hdecl : (T k).1 = own) (hd1 : parseFieldDescriptor (T k).2.2.1 = some ty) (hn : narrow ty v = v) (hfit : fits ty v = true) (hl1 : k < fs.length) (hw : ws.set q0 (a, .inr (ci, fs.set k v)) = ws') (hd : decode cc pc = .ok (.putfield index, 3)) (kk : Go p l e R s m args below meth c Q nL D A ws' cells slots (pc + 3) lv st) : Go p l e R s m args below meth c Q nL D A ws cells slots pc lv (v :: .ref a :: st) := by
  subst hw
  exact fun H locs ls hP hD hS hl => va_putF X.1 X.2.1 X.2.2.2.2.1 hin ty0 hty hnm X.2.2.2.1 X.2.2.2.2.2.1 hP hD hS q0 he hc k hk (X.2.2.2.2.1 _ hlink) (fun _ h9 => h9) hfin hin2 hdecl hd1 hn hfit hl1 hd (fun H locs hP hD hS => kk H locs ls hP hD hS hl)
theorem go_iald (X : Cx p s m args c cc nL own Ts D tys A) (q0 t0 : Nat) {a : Nat} {cA : ClassId} {n : Nat} {f : Nat → Int32} (ha : ws[q0]? = some (a, .inl (cA, n, .inl f))) (ht : tys[t0]? = some (cA, .int)) {i : Int32} (hin : vp_in i n) (hd : decode cc pc = .ok (.iaload, 1)) (kk : Go p l e R s m args below meth c Q nL D A ws cells slots (pc + 1) lv (.int (f i.toNatClampNeg) :: st)) : Go p l e R s m args below meth c Q nL D A ws cells slots pc lv (.int i :: .ref a :: st) :=
  fun H locs ls hP hD hS hl => va_iald X.1 X.2.1 X.2.2.2.2.2.1 hP q0 t0 ha ht hin hd (kk H locs ls hP hD hS hl)
theorem go_bald (X : Cx p s m args c cc nL own Ts D tys A) (q0 t0 : Nat) {a : Nat} {cA : ClassId} {n : Nat} {f : Nat → Int32} (ha : ws[q0]? = some (a, .inl (cA, n, .inl f))) (ht : tys[t0]? = some (cA, .byte)) {i : Int32} (hin : vp_in i n) (hd : decode cc pc = .ok (.baload, 1)) (kk : Go p l e R s m args below meth c Q nL D A ws cells slots (pc + 1) lv (.int (f i.toNatClampNeg) :: st)) : Go p l e R s m args below meth c Q nL D A ws cells slots pc lv (.int i :: .ref a :: st) :=
  fun H locs ls hP hD hS hl => va_bald X.1 X.2.1 X.2.2.2.2.2.1 hP q0 t0 ha ht hin hd (kk H locs ls hP hD hS hl)
theorem go_zald (X : Cx p s m args c cc nL own Ts D tys A) (q0 t0 : Nat) {a : Nat} {cA : ClassId} {n : Nat} {f : Nat → Int32} (ha : ws[q0]? = some (a, .inl (cA, n, .inl f))) (ht : tys[t0]? = some (cA, .boolean)) {i : Int32} (hin : vp_in i n) (hd : decode cc pc = .ok (.baload, 1)) (kk : Go p l e R s m args below meth c Q nL D A ws cells slots (pc + 1) lv (.int (f i.toNatClampNeg) :: st)) : Go p l e R s m args below meth c Q nL D A ws cells slots pc lv (.int i :: .ref a :: st) :=
  fun H locs ls hP hD hS hl => va_zald X.1 X.2.1 X.2.2.2.2.2.1 hP q0 t0 ha ht hin hd (kk H locs ls hP hD hS hl)
theorem go_lald (X : Cx p s m args c cc nL own Ts D tys A) (q0 t0 : Nat) {a : Nat} {cA : ClassId} {n : Nat} {f : Nat → Int64} (ha : ws[q0]? = some (a, .inl (cA, n, .inr (.inl f)))) (ht : tys[t0]? = some (cA, .long)) {i : Int32} (hin : vp_in i n) (hd : decode cc pc = .ok (.laload, 1)) (kk : Go p l e R s m args below meth c Q nL D A ws cells slots (pc + 1) lv (.long (f i.toNatClampNeg) :: st)) : Go p l e R s m args below meth c Q nL D A ws cells slots pc lv (.int i :: .ref a :: st) :=
  fun H locs ls hP hD hS hl => va_lald X.1 X.2.1 X.2.2.2.2.2.1 hP q0 t0 ha ht hin hd (kk H locs ls hP hD hS hl)
theorem go_iast (X : Cx p s m args c cc nL own Ts D tys A) (ws' : va_W) (q0 t0 : Nat) {a : Nat} {cA : ClassId} {n : Nat} {f : Nat → Int32} (ha : ws[q0]? = some (a, .inl (cA, n, .inl f))) (ht : tys[t0]? = some (cA, .int)) {i : Int32} {x : Int32} (hin : vp_in i n) (hw : ws.set q0 (a, .inl (cA, n, .inl (upd f i.toNatClampNeg x))) = ws') (hd : decode cc pc = .ok (.iastore, 1)) (kk : Go p l e R s m args below meth c Q nL D A ws' cells slots (pc + 1) lv st) : Go p l e R s m args below meth c Q nL D A ws cells slots pc lv (.int x :: .int i :: .ref a :: st) := by
  subst hw
  exact fun H locs ls hP hD hS hl => va_iast X.1 X.2.1 X.2.2.2.2.2.1 hP hD hS q0 t0 ha ht hin hd (fun H locs hP hD hS => kk H locs ls hP hD hS hl)
theorem go_bast (X : Cx p s m args c cc nL own Ts D tys A) (ws' : va_W) (q0 t0 : Nat) {a : Nat} {cA : ClassId} {n : Nat} {f : Nat → Int32} (ha : ws[q0]? = some (a, .inl (cA, n, .inl f))) (ht : tys[t0]? = some (cA, .byte)) {i : Int32} {x : Int32} (hin : vp_in i n) (hw : ws.set q0 (a, .inl (cA, n, .inl (upd f i.toNatClampNeg (vp_nar .byte x)))) = ws') (hd : decode cc pc = .ok (.bastore, 1)) (kk : Go p l e R s m args below meth c Q nL D A ws' cells slots (pc + 1) lv st) : Go p l e R s m args below meth c Q nL D A ws cells slots pc lv (.int x :: .int i :: .ref a :: st) := by
  subst hw
  exact fun H locs ls hP hD hS hl => va_bast X.1 X.2.1 X.2.2.2.2.2.1 hP hD hS q0 t0 ha ht hin hd (fun H locs hP hD hS => kk H locs ls hP hD hS hl)
theorem go_zast (X : Cx p s m args c cc nL own Ts D tys A) (ws' : va_W) (q0 t0 : Nat) {a : Nat} {cA : ClassId} {n : Nat} {f : Nat → Int32} (ha : ws[q0]? = some (a, .inl (cA, n, .inl f))) (ht : tys[t0]? = some (cA, .boolean)) {i : Int32} {x : Int32} (hin : vp_in i n) (hw : ws.set q0 (a, .inl (cA, n, .inl (upd f i.toNatClampNeg (vp_nar .boolean x)))) = ws') (hd : decode cc pc = .ok (.bastore, 1)) (kk : Go p l e R s m args below meth c Q nL D A ws' cells slots (pc + 1) lv st) : Go p l e R s m args below meth c Q nL D A ws cells slots pc lv (.int x :: .int i :: .ref a :: st) := by
  subst hw
  exact fun H locs ls hP hD hS hl => va_zast X.1 X.2.1 X.2.2.2.2.2.1 hP hD hS q0 t0 ha ht hin hd (fun H locs hP hD hS => kk H locs ls hP hD hS hl)
theorem go_last (X : Cx p s m args c cc nL own Ts D tys A) (ws' : va_W) (q0 t0 : Nat) {a : Nat} {cA : ClassId} {n : Nat} {f : Nat → Int64} (ha : ws[q0]? = some (a, .inl (cA, n, .inr (.inl f)))) (ht : tys[t0]? = some (cA, .long)) {i : Int32} {x : Int64} (hin : vp_in i n) (hw : ws.set q0 (a, .inl (cA, n, .inr (.inl (vp_updL f i.toNatClampNeg x)))) = ws') (hd : decode cc pc = .ok (.lastore, 1)) (kk : Go p l e R s m args below meth c Q nL D A ws' cells slots (pc + 1) lv st) : Go p l e R s m args below meth c Q nL D A ws cells slots pc lv (.long x :: .int i :: .ref a :: st) := by
  subst hw
  exact fun H locs ls hP hD hS hl => va_last X.1 X.2.1 X.2.2.2.2.2.1 hP hD hS q0 t0 ha ht hin hd (fun H locs hP hD hS => kk H locs ls hP hD hS hl)
theorem go_alen (X : Cx p s m args c cc nL own Ts D tys A) (q0 t0 : Nat) {a : Nat} {cA : ClassId} {x : vp_A} (ha : ws[q0]? = some (a, .inl (cA, x))) {ty : FieldType} (ht : tys[t0]? = some (cA, ty)) (hd : decode cc pc = .ok (.arraylength, 1)) (kk : Go p l e R s m args below meth c Q nL D A ws cells slots (pc + 1) lv (.int (nI x.1) :: st)) : Go p l e R s m args below meth c Q nL D A ws cells slots pc lv (.ref a :: st) :=
  fun H locs ls hP hD hS hl => va_alen X.1 X.2.1 X.2.2.2.2.2.1 hP q0 t0 ha ht rfl hd (kk H locs ls hP hD hS hl)
theorem go_aldq (X : Cx p s m args c cc nL own Ts D tys A) (q0 t0 : Nat) {a : Nat} {cA : ClassId} {C : String} {n : Nat} {f : Nat → Option Nat} (ha : ws[q0]? = some (a, .inl (cA, n, .inr (.inr (.inr (.inr f)))))) (ht : tys[t0]? = some (cA, .object C)) {i : Int32} (hin : vp_in i n) (hd : decode cc pc = .ok (.aaload, 1)) (kk : Go p l e R s m args below meth c Q nL D A ws cells slots (pc + 1) lv (va_rf (f i.toNatClampNeg) :: st)) : Go p l e R s m args below meth c Q nL D A ws cells slots pc lv (.int i :: .ref a :: st) :=
  fun H locs ls hP hD hS hl => va_aldq X.1 X.2.1 X.2.2.2.2.2.1 hP q0 t0 ha ht hin hd (kk H locs ls hP hD hS hl)
end GO
end
section
/-! Worlds as heaps of cells in any order; calls with the frame rule; contracts. -/
theorem wP_iff {D : va_G} {cl : List vw_C} {ws : va_W} {H : Heap} : va_P D cl ws H ↔ ∀ q ∈ ws, va_at D cl q H := by
  constructor
  · intro h q hq
    obtain ⟨i, hi⟩ := List.getElem?_of_mem hq
    exact h i q hi
  · intro h k q hk
    exact h q (List.mem_of_getElem? hk)
theorem wD_iff {A : Nat → Prop} {ws : va_W} : va_D A ws ↔ (ws.map (fun q => q.1)).Nodup ∧ ∀ q ∈ ws, A q.1 := by
  constructor
  · intro h
    refine ⟨?_, fun q hq => ?_⟩
    · refine List.pairwise_iff_getElem.mpr fun i j hi hj hij heq => ?_
      have hi' : i < ws.length := by rw [List.length_map] at hi; exact hi
      have hj' : j < ws.length := by rw [List.length_map] at hj; exact hj
      have := h.1 i j _ _ (List.getElem?_eq_getElem hi') (List.getElem?_eq_getElem hj') (by simpa using heq)
      omega
    · obtain ⟨i, hi⟩ := List.getElem?_of_mem hq
      exact h.2 i q hi
  · intro h
    have hn := List.pairwise_iff_getElem.mp h.1
    refine ⟨fun i j x y hi hj hxy => ?_, fun k q hk => h.2 q (List.mem_of_getElem? hk)⟩
    obtain ⟨li, hi⟩ := List.getElem?_eq_some_iff.mp hi
    obtain ⟨lj, hj⟩ := List.getElem?_eq_some_iff.mp hj
    rcases Nat.lt_trichotomy i j with hlt | rfl | hlt
    · exact absurd (by rw [List.getElem_map, List.getElem_map, hi, hj]; exact hxy) (hn i j (by rw [List.length_map]; exact li) (by rw [List.length_map]; exact lj) hlt)
    · rfl
    · exact absurd (by rw [List.getElem_map, List.getElem_map, hi, hj]; exact hxy.symm) (hn j i (by rw [List.length_map]; exact lj) (by rw [List.length_map]; exact li) hlt)
theorem wP_perm {D : va_G} {cl : List vw_C} {ws ws' : va_W} {H : Heap} (hp : List.Perm ws ws') (h : va_P D cl ws H) : va_P D cl ws' H := wP_iff.mpr fun q hq => wP_iff.mp h q (hp.mem_iff.mpr hq)
theorem wD_perm {A : Nat → Prop} {ws ws' : va_W} (hp : List.Perm ws ws') (h : va_D A ws) : va_D A ws' := by
  rw [wD_iff] at h ⊢
  exact ⟨(hp.map _).nodup_iff.mp h.1, fun q hq => h.2 q (hp.mem_iff.mpr hq)⟩
theorem wP_app {D : va_G} {cl : List vw_C} {a b : va_W} {H : Heap} : va_P D cl (a ++ b) H ↔ va_P D cl a H ∧ va_P D cl b H := by
  simp only [wP_iff, List.mem_append]
  exact ⟨fun h => ⟨fun q hq => h q (Or.inl hq), fun q hq => h q (Or.inr hq)⟩, fun h q hq => hq.elim (h.1 q) (h.2 q)⟩
theorem wA_iff {ws : va_W} {sz q : Nat} : va_A ws sz q ↔ (∃ x ∈ ws, x.1 = q) ∨ sz ≤ q := by
  constructor
  · rintro (⟨k, e, h⟩ | h)
    · exact Or.inl ⟨_, List.mem_of_getElem? h, rfl⟩
    · exact Or.inr h
  · rintro (⟨x, hx, rfl⟩ | h)
    · obtain ⟨i, hi⟩ := List.getElem?_of_mem hx
      exact Or.inl ⟨i, x.2, hi⟩
    · exact Or.inr h
theorem filterMap_range_get {α : Type} : ∀ (l : List α), (List.range l.length).filterMap (fun i => l[i]?) = l
  | [] => rfl
  | a :: l => by
    rw [List.length_cons, List.range_succ_eq_map, List.filterMap_cons]
    simp only [List.getElem?_cons_zero, List.filterMap_map, Function.comp_def, List.getElem?_cons_succ]
    rw [filterMap_range_get l]
/-- a list in another order, by its places -/
theorem perm_idx {α : Type} {a b : List α} (is : List Nat) (h1 : is.isPerm (List.range a.length) = true) (h2 : is.filterMap (fun i => a[i]?) = b) : List.Perm a b := by
  have h := (List.isPerm_iff.mp h1).filterMap (fun i => a[i]?)
  rw [h2, filterMap_range_get] at h
  exact h.symm
/-- behind a call: what the callee didn't have is unchanged -/
theorem w_join {A0 : Nat → Prop} {D : va_G} {cl : List vw_C} {ws w0 wr w1 : va_W} {H H1 : Heap} (hP : va_P D cl ws H) (hD : va_D A0 ws) (hp : List.Perm ws (w0 ++ wr))
    (hk : ∀ q : Nat, q < H.size → ¬ va_A w0 H.size q → H1[q]? = H[q]?) (hF : ∀ q, va_A w0 H.size q → A0 q) (hP1 : va_P D cl w1 H1) (hD1 : va_D (va_A w0 H.size) w1) : va_P D cl (w1 ++ wr) H1 ∧ va_D A0 (w1 ++ wr) := by
  have hP' := wP_app.mp (wP_perm hp hP)
  have hD' := wD_iff.mp (wD_perm hp hD)
  rw [List.map_append, List.nodup_append] at hD'
  obtain ⟨⟨hn0, hnr, hdis⟩, hA'⟩ := hD'
  have apart : ∀ q ∈ wr, q.1 < H.size ∧ ¬ va_A w0 H.size q.1 := by
    intro q hq
    have hl := (wP_iff.mp hP'.2 q hq).lt
    refine ⟨hl, fun h => ?_⟩
    rcases wA_iff.mp h with ⟨x, hx, he⟩ | h
    · exact hdis x.1 (List.mem_map.mpr ⟨x, hx, rfl⟩) q.1 (List.mem_map.mpr ⟨q, hq, rfl⟩) he
    · omega
  refine ⟨wP_app.mpr ⟨hP1, wP_iff.mpr fun q hq => ?_⟩, wD_iff.mpr ⟨?_, fun q hq => ?_⟩⟩
  · exact (wP_iff.mp hP'.2 q hq).kept (hk q.1 (apart q hq).1 (apart q hq).2)
  · rw [List.map_append, List.nodup_append]
    refine ⟨(wD_iff.mp hD1).1, hnr, fun a ha b hb hab => ?_⟩
    obtain ⟨x, hx, rfl⟩ := List.mem_map.mp ha
    obtain ⟨y, hy, rfl⟩ := List.mem_map.mp hb
    exact (apart y hy).2 (by rw [← hab]; exact (wD_iff.mp hD1).2 x hx)
  · rcases List.mem_append.mp hq with h | h
    · exact hF _ ((wD_iff.mp hD1).2 q h)
    · exact hA' q (List.mem_append.mpr (Or.inr h))
/-- a contract's start: its cells; its end: its cells anew -/
def PreW (D : va_G) (tys : List (ClassId × FieldType)) (w0 : va_W) (sz : Nat) : State → Prop := fun U => U.heap.size = sz ∧ va_P D vwCl w0 U.heap ∧ va_K D vwCl tys U ∧ va_D (fun _ => True) w0
def AtW {S : Type} (D : va_G) (tys : List (ClassId × FieldType)) (A : Nat → Prop) (wc : S → va_W) : S → State → Prop := fun u t => va_P D vwCl (wc u) t.heap ∧ va_K D vwCl tys t ∧ va_D A (wc u)
def MetI {S : Type} (l : Launch) (y : MethodName) (ws : List Cond) (rm : Room) (D : va_G) (tys : List (ClassId × FieldType)) (av : List Value) (w0 : va_W) (wc : S → va_W) (post : Int32 → S → Prop) (mc ms : Nat) : Prop :=
  ∀ sz : Nat, Met l y ws rm (va_Pc av (PreW D tys w0 sz)) (va_Qi post (AtW D tys (va_A w0 sz) wc) (va_A w0 sz)) mc ms (va_A w0 sz)
def MetV {S : Type} (l : Launch) (y : MethodName) (ws : List Cond) (rm : Room) (D : va_G) (tys : List (ClassId × FieldType)) (av : List Value) (w0 : va_W) (wc : S → va_W) (post : S → Prop) (mc ms : Nat) : Prop :=
  ∀ sz : Nat, Met l y ws rm (va_Pc av (PreW D tys w0 sz)) (va_Qv post (AtW D tys (va_A w0 sz) wc) (va_A w0 sz)) mc ms (va_A w0 sz)
def MetQ {S : Type} (l : Launch) (y : MethodName) (ws : List Cond) (rm : Room) (D : va_G) (tys : List (ClassId × FieldType)) (av : List Value) (w0 : va_W) (wc : S → va_W) (post : Option Nat → S → Prop) (mc ms : Nat) : Prop :=
  ∀ sz : Nat, Met l y ws rm (va_Pc av (PreW D tys w0 sz)) (va_Qq post (AtW D tys (va_A w0 sz) wc) (va_A w0 sz)) mc ms (va_A w0 sz)
theorem preW_blind {av : List Value} {D : va_G} {tys : List (ClassId × FieldType)} {w0 : va_W} {sz : Nat} : FrameBlind (va_Pc av (PreW D tys w0 sz)) := by
  intro a U g mk h
  obtain ⟨h0, h1, h2, h3, h4⟩ := h
  exact ⟨h0, h1, h2, va_K.moved (u := U) (U := U.calling g mk a) (Vm.Alike.refl U.vm) h3, h4⟩
section GC
variable {p : Program} {l : Launch} {e : Env} {R : Room} {s : State} {m : MethodId} {args : Array Value} {below : List Frame} {meth : Method} {c : Code} {Q : State → Prop} {cc : ByteArray} {nL : Nat} {own : String} {Ts : List Cond} {D : va_G} {tys : List (ClassId × FieldType)} {A : Nat → Prop} {ws : va_W} {cells slots pc : Nat} {lv : List (Nat × Value)} {st : List Value}
theorem go_perm {ws' : va_W} (hp : List.Perm ws ws') (k : Go p l e R s m args below meth c Q nL D A ws' cells slots pc lv st) : Go p l e R s m args below meth c Q nL D A ws cells slots pc lv st :=
  fun H locs ls hP hD hS hl => k H locs ls (wP_perm hp hP) (wD_perm hp hD) hS hl
theorem go_widen {k n : Nat} (h1 : cells ≤ k) (h2 : slots ≤ n) (kk : Go p l e R s m args below meth c Q nL D A ws k n pc lv st) : Go p l e R s m args below meth c Q nL D A ws cells slots pc lv st :=
  fun H locs ls hP hD hS hl => W.widen h1 h2 (kk H locs ls hP hD hS hl)
theorem go_lv (is : List Nat) {lv' : List (Nat × Value)} (h : lv_pick lv is = lv') (k : Go p l e R s m args below meth c Q nL D A ws cells slots pc lv' st) : Go p l e R s m args below meth c Q nL D A ws cells slots pc lv st :=
  fun H locs ls hP hD hS hl => k H locs ls hP hD hS (lv_sub hl is h)
theorem pre_of {H : Heap} {w0 wr : va_W} (X : Cx p s m args c cc nL own Ts D tys A) (hp : List.Perm ws (w0 ++ wr)) (hP : va_P D vwCl ws H) (hD : va_D A ws) {U : State} (hU : U.heap = H) (hW : s.WarmedH U.vm) : PreW D tys w0 H.size U := by
  refine ⟨by rw [hU], by rw [hU]; exact (wP_app.mp (wP_perm hp hP)).1, va_K.moved hW.alike X.2.2.2.2.2.1, ?_⟩
  have h := wD_iff.mp (wD_perm hp hD)
  rw [List.map_append, List.nodup_append] at h
  exact wD_iff.mpr ⟨h.1.1, fun _ _ => trivial⟩
theorem free_of {H : Heap} {locs : List Loc} {w0 wr : va_W} (X : Cx p s m args c cc nL own Ts D tys A) (hp : List.Perm ws (w0 ++ wr)) (hD : va_D A ws) (hS : va_S A s.heap H locs) : ∀ q, va_A w0 H.size q → A q := by
  intro q h
  rcases wA_iff.mp h with ⟨x, hx, rfl⟩ | h
  · exact (wD_iff.mp (wD_perm hp hD)).2 x (List.mem_append.mpr (Or.inl hx))
  · exact X.2.2.2.2.2.2 q (Nat.le_trans hS.1 h)
theorem rcv_of {H : Heap} {w0 wr : va_W} (X : Cx p s m args c cc nL own Ts D tys A) (hp : List.Perm ws (w0 ++ wr)) (hP : va_P D vwCl ws H) {ci b : Nat} {q : vw_C} {fs : List Value} (hc : vwCl[ci]? = some q) (he : w0[0]? = some (b, .inr (ci, fs))) : ∃ cell : Cell, H[b]? = some cell ∧ cell.vm.isStatics = false ∧ s.vm.findClass q.1 = some cell.cls :=
  va_recv X.2.2.2.2.2.1 ((wP_app.mp (wP_perm hp hP)).1) hc he
variable {S : Type} {y : MethodName} {bytes : ByteArray} {maxL n index ci b mc ms : Nat} {ret : Option FieldType} {wy : List Cond} {rm : Room} {As rest : List Value} {w0 wr : va_W} {wc ws2 : S → va_W} {C : String} {T : u_T} {N : Nat} {fs : List Value}
theorem go_callVi {post : Int32 → S → Prop} (X : Cx p s m args c cc nL own Ts D tys A) (hM : MetI l y wy rm D tys (.ref b :: As) w0 wc post mc ms) (cw : CallW R s args own C index y bytes maxL ret wy rm mc ms n) (hp : List.Perm ws (w0 ++ wr)) (hp2 : ∀ u, List.Perm (wc u ++ wr) (ws2 u)) (hc : vwCl[ci]? = some (C, T, N)) (he : w0[0]? = some (b, .inr (ci, fs))) (hst : st = As.reverse ++ .ref b :: rest) (hn : As.length = n) (hr : (rest.map fun v => v.category).sum ≤ 8) (hd : decode cc pc = .ok (.invokevirtual index, 3)) (hf : cells + mc ≤ R.cells ∧ slots + ms ≤ R.slots)
    (kk : ∀ r u, post r u → Go p l e R s m args below meth c Q nL D A (ws2 u) (cells + mc) (slots + ms) (pc + 3) lv (.int r :: rest)) : Go p l e R s m args below meth c Q nL D A ws cells slots pc lv st := by
  intro H locs ls hP hD hS hl
  refine va_calli (va_runV (As := As) (rest := rest) ⟨X.1, X.2.1, X.2.2.1, X.2.2.2.1, X.2.2.2.2.1⟩ (hM H.size) cw ⟨preW_blind, rcv_of X hp hP hc he, fun U hU hW => ⟨rfl, pre_of X hp hP hD hU hW⟩⟩ rfl hn hl.1 hst (lv_room hr) hd hf) hS (fun q _ h => free_of X hp hD hS q h) (free_of X hp hD hS) (fun r u t H1 locs ht hvm hw hB hz1 hk1 hS1 => ?_)
  obtain ⟨hP1, hK1, hD1⟩ := hB
  rw [ht] at hP1
  obtain ⟨hP2, hD2⟩ := w_join hP hD hp hk1 (free_of X hp hD hS) hP1 hD1
  exact kk r u hw H1 locs ls (wP_perm (hp2 u) hP2) (wD_perm (hp2 u) hD2) hS1 hl
theorem go_callVv {post : S → Prop} (X : Cx p s m args c cc nL own Ts D tys A) (hM : MetV l y wy rm D tys (.ref b :: As) w0 wc post mc ms) (cw : CallW R s args own C index y bytes maxL ret wy rm mc ms n) (hp : List.Perm ws (w0 ++ wr)) (hp2 : ∀ u, List.Perm (wc u ++ wr) (ws2 u)) (hc : vwCl[ci]? = some (C, T, N)) (he : w0[0]? = some (b, .inr (ci, fs))) (hst : st = As.reverse ++ .ref b :: rest) (hn : As.length = n) (hr : (rest.map fun v => v.category).sum ≤ 8) (hd : decode cc pc = .ok (.invokevirtual index, 3)) (hf : cells + mc ≤ R.cells ∧ slots + ms ≤ R.slots)
    (kk : ∀ u, post u → Go p l e R s m args below meth c Q nL D A (ws2 u) (cells + mc) (slots + ms) (pc + 3) lv rest) : Go p l e R s m args below meth c Q nL D A ws cells slots pc lv st := by
  intro H locs ls hP hD hS hl
  refine va_callv (va_runV (As := As) (rest := rest) ⟨X.1, X.2.1, X.2.2.1, X.2.2.2.1, X.2.2.2.2.1⟩ (hM H.size) cw ⟨preW_blind, rcv_of X hp hP hc he, fun U hU hW => ⟨rfl, pre_of X hp hP hD hU hW⟩⟩ rfl hn hl.1 hst (lv_room hr) hd hf) hS (fun q _ h => free_of X hp hD hS q h) (free_of X hp hD hS) (fun u t H1 locs ht hvm hw hB hz1 hk1 hS1 => ?_)
  obtain ⟨hP1, hK1, hD1⟩ := hB
  rw [ht] at hP1
  obtain ⟨hP2, hD2⟩ := w_join hP hD hp hk1 (free_of X hp hD hS) hP1 hD1
  exact kk u hw H1 locs ls (wP_perm (hp2 u) hP2) (wD_perm (hp2 u) hD2) hS1 hl
theorem go_callVq {post : Option Nat → S → Prop} (X : Cx p s m args c cc nL own Ts D tys A) (hM : MetQ l y wy rm D tys (.ref b :: As) w0 wc post mc ms) (cw : CallW R s args own C index y bytes maxL ret wy rm mc ms n) (hp : List.Perm ws (w0 ++ wr)) (hp2 : ∀ u, List.Perm (wc u ++ wr) (ws2 u)) (hc : vwCl[ci]? = some (C, T, N)) (he : w0[0]? = some (b, .inr (ci, fs))) (hst : st = As.reverse ++ .ref b :: rest) (hn : As.length = n) (hr : (rest.map fun v => v.category).sum ≤ 8) (hd : decode cc pc = .ok (.invokevirtual index, 3)) (hf : cells + mc ≤ R.cells ∧ slots + ms ≤ R.slots)
    (kk : ∀ r u, post r u → Go p l e R s m args below meth c Q nL D A (ws2 u) (cells + mc) (slots + ms) (pc + 3) lv (va_rf r :: rest)) : Go p l e R s m args below meth c Q nL D A ws cells slots pc lv st := by
  intro H locs ls hP hD hS hl
  refine va_callq (va_runV (As := As) (rest := rest) ⟨X.1, X.2.1, X.2.2.1, X.2.2.2.1, X.2.2.2.2.1⟩ (hM H.size) cw ⟨preW_blind, rcv_of X hp hP hc he, fun U hU hW => ⟨rfl, pre_of X hp hP hD hU hW⟩⟩ rfl hn hl.1 hst (lv_room hr) hd hf) hS (fun q _ h => free_of X hp hD hS q h) (free_of X hp hD hS) (fun r u t H1 locs ht hvm hw hB hz1 hk1 hS1 => ?_)
  obtain ⟨hP1, hK1, hD1⟩ := hB
  rw [ht] at hP1
  obtain ⟨hP2, hD2⟩ := w_join hP hD hp hk1 (free_of X hp hD hS) hP1 hD1
  exact kk r u hw H1 locs ls (wP_perm (hp2 u) hP2) (wD_perm (hp2 u) hD2) hS1 hl
theorem go_callSi {post : Int32 → S → Prop} (X : Cx p s m args c cc nL own Ts D tys A) (hM : MetI l y wy rm D tys As w0 wc post mc ms) (cw : CallB R s args own index y bytes maxL ret wy rm mc ms n ∧ (Cond.static y).before args s = true) (hp : List.Perm ws (w0 ++ wr)) (hp2 : ∀ u, List.Perm (wc u ++ wr) (ws2 u)) (hst : st = As.reverse ++ rest) (hn : As.length = n) (hr : (rest.map fun v => v.category).sum ≤ 8) (hd : decode cc pc = .ok (.invokestatic index, 3)) (hf : cells + mc ≤ R.cells ∧ slots + ms ≤ R.slots)
    (kk : ∀ r u, post r u → Go p l e R s m args below meth c Q nL D A (ws2 u) (cells + mc) (slots + ms) (pc + 3) lv (.int r :: rest)) : Go p l e R s m args below meth c Q nL D A ws cells slots pc lv st := by
  intro H locs ls hP hD hS hl
  refine va_calli (va_runS (As := As) (rest := rest) ⟨X.1, X.2.1, X.2.2.1, X.2.2.2.1, X.2.2.2.2.1⟩ (hM H.size) cw ⟨preW_blind, fun U hU hW => ⟨rfl, pre_of X hp hP hD hU hW⟩⟩ rfl hn hl.1 hst (lv_room hr) hd hf) hS (fun q _ h => free_of X hp hD hS q h) (free_of X hp hD hS) (fun r u t H1 locs ht hvm hw hB hz1 hk1 hS1 => ?_)
  obtain ⟨hP1, hK1, hD1⟩ := hB
  rw [ht] at hP1
  obtain ⟨hP2, hD2⟩ := w_join hP hD hp hk1 (free_of X hp hD hS) hP1 hD1
  exact kk r u hw H1 locs ls (wP_perm (hp2 u) hP2) (wD_perm (hp2 u) hD2) hS1 hl
theorem go_callSv {post : S → Prop} (X : Cx p s m args c cc nL own Ts D tys A) (hM : MetV l y wy rm D tys As w0 wc post mc ms) (cw : CallB R s args own index y bytes maxL ret wy rm mc ms n ∧ (Cond.static y).before args s = true) (hp : List.Perm ws (w0 ++ wr)) (hp2 : ∀ u, List.Perm (wc u ++ wr) (ws2 u)) (hst : st = As.reverse ++ rest) (hn : As.length = n) (hr : (rest.map fun v => v.category).sum ≤ 8) (hd : decode cc pc = .ok (.invokestatic index, 3)) (hf : cells + mc ≤ R.cells ∧ slots + ms ≤ R.slots)
    (kk : ∀ u, post u → Go p l e R s m args below meth c Q nL D A (ws2 u) (cells + mc) (slots + ms) (pc + 3) lv rest) : Go p l e R s m args below meth c Q nL D A ws cells slots pc lv st := by
  intro H locs ls hP hD hS hl
  refine va_callv (va_runS (As := As) (rest := rest) ⟨X.1, X.2.1, X.2.2.1, X.2.2.2.1, X.2.2.2.2.1⟩ (hM H.size) cw ⟨preW_blind, fun U hU hW => ⟨rfl, pre_of X hp hP hD hU hW⟩⟩ rfl hn hl.1 hst (lv_room hr) hd hf) hS (fun q _ h => free_of X hp hD hS q h) (free_of X hp hD hS) (fun u t H1 locs ht hvm hw hB hz1 hk1 hS1 => ?_)
  obtain ⟨hP1, hK1, hD1⟩ := hB
  rw [ht] at hP1
  obtain ⟨hP2, hD2⟩ := w_join hP hD hp hk1 (free_of X hp hD hS) hP1 hD1
  exact kk u hw H1 locs ls (wP_perm (hp2 u) hP2) (wD_perm (hp2 u) hD2) hS1 hl
theorem go_mmax (X : Cx p s m args c cc nL own Ts D tys A) {x y : Int32} (h1 : Cond.methodLink own index Lib.Math.max.name ∈ Ts) (h2 : Cond.static Lib.Math.max.name ∈ Ts) (h3 : Cond.initialized "java/lang/Math" ∈ Ts) (h4 : Cond.code Lib.Math.max.name Lib.Math.max.code 2 (some .int) ∈ Ts) (hf : 1 ≤ R.frames) (hl0 : (rest.map fun v => v.category).sum + 13 ≤ R.locals) (hc : cells ≤ R.cells ∧ slots ≤ R.slots) (hd : decode cc pc = .ok (.invokestatic index, 3)) (kk : Go p l e R s m args below meth c Q nL D A ws cells slots (pc + 3) lv (.int (if x < y then y else x) :: rest)) : Go p l e R s m args below meth c Q nL D A ws cells slots pc lv (.int y :: .int x :: rest) :=
  fun H locs ls hP hD hS hl => va_mmax X.1 X.2.1 (X.2.2.1.trans hl.1.symm) X.2.2.2.1 (X.2.2.2.2.1 _ h1) (X.2.2.2.2.1 _ h2) (X.2.2.2.2.1 _ h3) (X.2.2.2.2.1 _ h4) hf hl0 hc.1 hc.2 hd (kk H locs ls hP hD hS hl)
theorem go_mmin (X : Cx p s m args c cc nL own Ts D tys A) {x y : Int32} (h1 : Cond.methodLink own index Lib.Math.min.name ∈ Ts) (h2 : Cond.static Lib.Math.min.name ∈ Ts) (h3 : Cond.initialized "java/lang/Math" ∈ Ts) (h4 : Cond.code Lib.Math.min.name Lib.Math.min.code 2 (some .int) ∈ Ts) (hf : 1 ≤ R.frames) (hl0 : (rest.map fun v => v.category).sum + 13 ≤ R.locals) (hc : cells ≤ R.cells ∧ slots ≤ R.slots) (hd : decode cc pc = .ok (.invokestatic index, 3)) (kk : Go p l e R s m args below meth c Q nL D A ws cells slots (pc + 3) lv (.int (if y < x then y else x) :: rest)) : Go p l e R s m args below meth c Q nL D A ws cells slots pc lv (.int y :: .int x :: rest) :=
  fun H locs ls hP hD hS hl => va_mmin X.1 X.2.1 (X.2.2.1.trans hl.1.symm) X.2.2.2.1 (X.2.2.2.2.1 _ h1) (X.2.2.2.2.1 _ h2) (X.2.2.2.2.1 _ h3) (X.2.2.2.2.1 _ h4) hf hl0 hc.1 hc.2 hd (kk H locs ls hP hD hS hl)
theorem go_mabs (X : Cx p s m args c cc nL own Ts D tys A) {x : Int32} (h1 : Cond.methodLink own index Lib.Math.abs.name ∈ Ts) (h2 : Cond.static Lib.Math.abs.name ∈ Ts) (h3 : Cond.initialized "java/lang/Math" ∈ Ts) (h4 : Cond.code Lib.Math.abs.name Lib.Math.abs.code 1 (some .int) ∈ Ts) (hf : 1 ≤ R.frames) (hl0 : (rest.map fun v => v.category).sum + 13 ≤ R.locals) (hc : cells ≤ R.cells ∧ slots ≤ R.slots) (hd : decode cc pc = .ok (.invokestatic index, 3)) (kk : Go p l e R s m args below meth c Q nL D A ws cells slots (pc + 3) lv (.int (if 0 ≤ x then x else 0 - x) :: rest)) : Go p l e R s m args below meth c Q nL D A ws cells slots pc lv (.int x :: rest) :=
  fun H locs ls hP hD hS hl => va_mabs X.1 X.2.1 (X.2.2.1.trans hl.1.symm) X.2.2.2.1 (X.2.2.2.2.1 _ h1) (X.2.2.2.2.1 _ h2) (X.2.2.2.2.1 _ h3) (X.2.2.2.2.1 _ h4) hf hl0 hc.1 hc.2 hd (kk H locs ls hP hD hS hl)
end GC
/-- a method's body ends here with an int -/
def RtI {S : Type} (p : Program) (l : Launch) (e : Env) (R : Room) (s : State) (m : MethodId) (args : Array Value) (below : List Frame) (meth : Method) (c : Code) (cc : ByteArray) (Q : State → Prop) (nL : Nat) (D : va_G) (A : Nat → Prop) (ty : FieldType) (wc : S → va_W) (post : Int32 → S → Prop) (cells slots : Nat) : Prop :=
  ∀ (r : Int32) (u : S) (pc : Nat) (lv : List (Nat × Value)), decode cc pc = .ok (.ireturn, 1) → narrow ty (.int r) = .int r → post r u → Go p l e R s m args below meth c Q nL D A (wc u) cells slots pc lv [.int r]
def RtV {S : Type} (p : Program) (l : Launch) (e : Env) (R : Room) (s : State) (m : MethodId) (args : Array Value) (below : List Frame) (meth : Method) (c : Code) (cc : ByteArray) (Q : State → Prop) (nL : Nat) (D : va_G) (A : Nat → Prop) (wc : S → va_W) (post : S → Prop) (cells slots : Nat) : Prop :=
  ∀ (u : S) (pc : Nat) (lv : List (Nat × Value)), decode cc pc = .ok (.return_, 1) → post u → Go p l e R s m args below meth c Q nL D A (wc u) cells slots pc lv []
def RtQ {S : Type} (p : Program) (l : Launch) (e : Env) (R : Room) (s : State) (m : MethodId) (args : Array Value) (below : List Frame) (meth : Method) (c : Code) (cc : ByteArray) (Q : State → Prop) (nL : Nat) (D : va_G) (A : Nat → Prop) (wc : S → va_W) (post : Option Nat → S → Prop) (cells slots : Nat) : Prop :=
  ∀ (r : Option Nat) (u : S) (pc : Nat) (lv : List (Nat × Value)), decode cc pc = .ok (.areturn, 1) → post r u → Go p l e R s m args below meth c Q nL D A (wc u) cells slots pc lv [va_rf r]
theorem entry_lv {m : MethodId} {av : List Value} {n : Nat} {lv : List (Nat × Value)} (h : (lg_sl av).length ≤ n) (hl : lv_args 0 av = lv) : ∃ ls : Array Slot, lv_has ls n lv ∧ entryFrame m av.toArray n = F0 m 0 ls [] := by
  subst hl
  exact ⟨_, lv_entry av h, lg_entry_eq _ _ _⟩
theorem metI_of {S : Type} {l : Launch} {y : MethodName} {ws ws' : List Cond} {rm : Room} {D : va_G} {tys : List (ClassId × FieldType)} {av : List Value} {w0 : va_W} {wc : S → va_W} {post : Int32 → S → Prop} {mc ms : Nat} {cc : ByteArray} {maxL : Nat} {ty : FieldType} {lv : List (Nat × Value)}
    (hy : plainName y.cls = true) (hw : ws = Cond.code y cc maxL (some ty) :: ws') (ha : (lg_sl av).length ≤ maxL) (hl : lv_args 0 av = lv)
    (body : ∀ (p : Program) (e : Env) (s : State) (m : MethodId) (below : List Frame) (meth : Method) (c : Code) (Q : State → Prop) (A : Nat → Prop), Cx p s m av.toArray c cc maxL y.cls ws D tys A → meth.locks = false → RtI p l e rm s m av.toArray below meth c cc Q maxL D A ty wc post mc ms → Go p l e rm s m av.toArray below meth c Q maxL D A w0 0 0 0 lv []) : MetI l y ws rm D tys av w0 wc post mc ms := by
  intro sz
  refine Met.ofW (cc := cc) (maxL := maxL) (ret := some ty) hy hw ?_
  intro p e s m args below meth c s₁ B hml hv
  obtain ⟨rfl, hsz, hP, hK, hD0⟩ := hv
  subst hsz
  have hD := hD0.self (sz := s.heap.size)
  obtain ⟨ls, hls, he⟩ := entry_lv (m := m) ha hl
  rw [he]
  refine body p e s m below meth c _ (va_A w0 s.heap.size) ⟨B.exec, B.bytes, hml, findClass_of_methodNamed B.named, atoms_spec (ws := ws) B.pre, hK, fun q h => Or.inr h⟩ B.notSynchronized ?_ s.heap [] ls hP hD va_S.rf hls
  intro r u pc lv2 hd hn hp H locs ls hP hD hS hl
  exact W.zret B.exec B.bytes B.returns hn (fun t ht hW => ⟨⟨r, u, rfl, hp, by rw [ht]; exact hP, va_K.moved hW.alike hK, hD⟩, hS.F ht⟩) hS.2.2 hd B.notSynchronized
theorem metV_of {S : Type} {l : Launch} {y : MethodName} {ws ws' : List Cond} {rm : Room} {D : va_G} {tys : List (ClassId × FieldType)} {av : List Value} {w0 : va_W} {wc : S → va_W} {post : S → Prop} {mc ms : Nat} {cc : ByteArray} {maxL : Nat} {lv : List (Nat × Value)}
    (hy : plainName y.cls = true) (hw : ws = Cond.code y cc maxL none :: ws') (ha : (lg_sl av).length ≤ maxL) (hl : lv_args 0 av = lv)
    (body : ∀ (p : Program) (e : Env) (s : State) (m : MethodId) (below : List Frame) (meth : Method) (c : Code) (Q : State → Prop) (A : Nat → Prop), Cx p s m av.toArray c cc maxL y.cls ws D tys A → meth.locks = false → meth.name = y.name → RtV p l e rm s m av.toArray below meth c cc Q maxL D A wc post mc ms → Go p l e rm s m av.toArray below meth c Q maxL D A w0 0 0 0 lv []) : MetV l y ws rm D tys av w0 wc post mc ms := by
  intro sz
  refine Met.ofW (cc := cc) (maxL := maxL) (ret := none) hy hw ?_
  intro p e s m args below meth c s₁ B hml hv
  obtain ⟨rfl, hsz, hP, hK, hD0⟩ := hv
  subst hsz
  have hD := hD0.self (sz := s.heap.size)
  obtain ⟨ls, hls, he⟩ := entry_lv (m := m) ha hl
  rw [he]
  refine body p e s m below meth c _ (va_A w0 s.heap.size) ⟨B.exec, B.bytes, hml, findClass_of_methodNamed B.named, atoms_spec (ws := ws) B.pre, hK, fun q h => Or.inr h⟩ B.notSynchronized (name_of_methodNamed B.named B.method).1 ?_ s.heap [] ls hP hD va_S.rf hls
  intro u pc lv2 hd hp H locs ls hP hD hS hl
  exact W.vret B.exec B.bytes B.returns (fun t ht hW => ⟨⟨u, rfl, hp, by rw [ht]; exact hP, va_K.moved hW.alike hK, hD⟩, hS.F ht⟩) hS.2.2 hd B.notSynchronized
theorem metQ_of {S : Type} {l : Launch} {y : MethodName} {ws ws' : List Cond} {rm : Room} {D : va_G} {tys : List (ClassId × FieldType)} {av : List Value} {w0 : va_W} {wc : S → va_W} {post : Option Nat → S → Prop} {mc ms : Nat} {cc : ByteArray} {maxL : Nat} {rc : String} {lv : List (Nat × Value)}
    (hy : plainName y.cls = true) (hw : ws = Cond.code y cc maxL (some (.object rc)) :: ws') (ha : (lg_sl av).length ≤ maxL) (hl : lv_args 0 av = lv)
    (body : ∀ (p : Program) (e : Env) (s : State) (m : MethodId) (below : List Frame) (meth : Method) (c : Code) (Q : State → Prop) (A : Nat → Prop), Cx p s m av.toArray c cc maxL y.cls ws D tys A → meth.locks = false → RtQ p l e rm s m av.toArray below meth c cc Q maxL D A wc post mc ms → Go p l e rm s m av.toArray below meth c Q maxL D A w0 0 0 0 lv []) : MetQ l y ws rm D tys av w0 wc post mc ms := by
  intro sz
  refine Met.ofW (cc := cc) (maxL := maxL) (ret := some (.object rc)) hy hw ?_
  intro p e s m args below meth c s₁ B hml hv
  obtain ⟨rfl, hsz, hP, hK, hD0⟩ := hv
  subst hsz
  have hD := hD0.self (sz := s.heap.size)
  obtain ⟨ls, hls, he⟩ := entry_lv (m := m) ha hl
  rw [he]
  refine body p e s m below meth c _ (va_A w0 s.heap.size) ⟨B.exec, B.bytes, hml, findClass_of_methodNamed B.named, atoms_spec (ws := ws) B.pre, hK, fun q h => Or.inr h⟩ B.notSynchronized ?_ s.heap [] ls hP hD va_S.rf hls
  intro r u pc lv2 hd hp H locs ls hP hD hS hl
  exact W.aret B.exec B.bytes B.returns (Or.inl ⟨_, rfl⟩) (va_rf_or r) (fun t ht hW => ⟨⟨r, u, rfl, hp, by rw [ht]; exact hP, va_K.moved hW.alike hK, hD⟩, hS.F ht⟩) hS.2.2 hd B.notSynchronized
end
