theorem dX0_init_0 : decode cX0_init 0 = .ok (.aload_n 0, 1) := by decide +kernel
theorem dX0_init_1 : decode cX0_init 1 = .ok (.invokespecial 3, 3) := by decide +kernel
theorem dX0_init_4 : decode cX0_init 4 = .ok (.aload_n 0, 1) := by decide +kernel
theorem dX0_init_5 : decode cX0_init 5 = .ok (.new 9, 3) := by decide +kernel
theorem dX0_init_8 : decode cX0_init 8 = .ok (.dup, 1) := by decide +kernel
theorem dX0_init_9 : decode cX0_init 9 = .ok (.bipush 80, 2) := by decide +kernel
theorem dX0_init_11 : decode cX0_init 11 = .ok (.invokespecial 11, 3) := by decide +kernel
theorem dX0_init_14 : decode cX0_init 14 = .ok (.putfield 14, 3) := by decide +kernel
theorem dX0_init_17 : decode cX0_init 17 = .ok (.return_, 1) := by decide +kernel
theorem dX0_words_0 : decode cX0_words 0 = .ok (.aload_n 0, 1) := by decide +kernel
theorem dX0_words_1 : decode cX0_words 1 = .ok (.getfield 14, 3) := by decide +kernel
theorem dX0_words_4 : decode cX0_words 4 = .ok (.areturn, 1) := by decide +kernel
theorem dX0_id_0 : decode cX0_id 0 = .ok (.aload_n 0, 1) := by decide +kernel
theorem dX0_id_1 : decode cX0_id 1 = .ok (.getfield 20, 3) := by decide +kernel
theorem dX0_id_4 : decode cX0_id 4 = .ok (.ireturn, 1) := by decide +kernel
theorem dX0_isThere_0 : decode cX0_isThere 0 = .ok (.aload_n 0, 1) := by decide +kernel
theorem dX0_isThere_1 : decode cX0_isThere 1 = .ok (.getfield 20, 3) := by decide +kernel
theorem dX0_isThere_4 : decode cX0_isThere 4 = .ok (.ifCond .eq 7, 3) := by decide +kernel
theorem dX0_isThere_7 : decode cX0_isThere 7 = .ok (.iconst 1, 1) := by decide +kernel
theorem dX0_isThere_8 : decode cX0_isThere 8 = .ok (.goto 4, 3) := by decide +kernel
theorem dX0_isThere_11 : decode cX0_isThere 11 = .ok (.iconst 0, 1) := by decide +kernel
theorem dX0_isThere_12 : decode cX0_isThere 12 = .ok (.ireturn, 1) := by decide +kernel
theorem dX0_pieces_0 : decode cX0_pieces 0 = .ok (.aload_n 0, 1) := by decide +kernel
theorem dX0_pieces_1 : decode cX0_pieces 1 = .ok (.getfield 24, 3) := by decide +kernel
theorem dX0_pieces_4 : decode cX0_pieces 4 = .ok (.ireturn, 1) := by decide +kernel
theorem dX0_pieceLength_0 : decode cX0_pieceLength 0 = .ok (.aload_n 0, 1) := by decide +kernel
theorem dX0_pieceLength_1 : decode cX0_pieceLength 1 = .ok (.getfield 27, 3) := by decide +kernel
theorem dX0_pieceLength_4 : decode cX0_pieceLength 4 = .ok (.ireturn, 1) := by decide +kernel
theorem dX0_sum_0 : decode cX0_sum 0 = .ok (.aload_n 0, 1) := by decide +kernel
theorem dX0_sum_1 : decode cX0_sum 1 = .ok (.getfield 20, 3) := by decide +kernel
theorem dX0_sum_4 : decode cX0_sum 4 = .ok (.ifCond .ne 7, 3) := by decide +kernel
theorem dX0_sum_7 : decode cX0_sum 7 = .ok (.iconst 0, 1) := by decide +kernel
theorem dX0_sum_8 : decode cX0_sum 8 = .ok (.goto 10, 3) := by decide +kernel
theorem dX0_sum_11 : decode cX0_sum 11 = .ok (.aload_n 0, 1) := by decide +kernel
theorem dX0_sum_12 : decode cX0_sum 12 = .ok (.getfield 14, 3) := by decide +kernel
theorem dX0_sum_15 : decode cX0_sum 15 = .ok (.invokevirtual 30, 3) := by decide +kernel
theorem dX0_sum_18 : decode cX0_sum 18 = .ok (.ireturn, 1) := by decide +kernel
theorem dX0_begin_0 : decode cX0_begin 0 = .ok (.aload_n 0, 1) := by decide +kernel
theorem dX0_begin_1 : decode cX0_begin 1 = .ok (.iload_n 1, 1) := by decide +kernel
theorem dX0_begin_2 : decode cX0_begin 2 = .ok (.putfield 20, 3) := by decide +kernel
theorem dX0_begin_5 : decode cX0_begin 5 = .ok (.aload_n 0, 1) := by decide +kernel
theorem dX0_begin_6 : decode cX0_begin 6 = .ok (.iload_n 2, 1) := by decide +kernel
theorem dX0_begin_7 : decode cX0_begin 7 = .ok (.putfield 27, 3) := by decide +kernel
theorem dX0_begin_10 : decode cX0_begin 10 = .ok (.aload_n 0, 1) := by decide +kernel
theorem dX0_begin_11 : decode cX0_begin 11 = .ok (.iconst 0, 1) := by decide +kernel
theorem dX0_begin_12 : decode cX0_begin 12 = .ok (.putfield 24, 3) := by decide +kernel
theorem dX0_begin_15 : decode cX0_begin 15 = .ok (.aload_n 0, 1) := by decide +kernel
theorem dX0_begin_16 : decode cX0_begin 16 = .ok (.getfield 14, 3) := by decide +kernel
theorem dX0_begin_19 : decode cX0_begin 19 = .ok (.invokevirtual 34, 3) := by decide +kernel
theorem dX0_begin_22 : decode cX0_begin 22 = .ok (.return_, 1) := by decide +kernel
theorem dX0_addPiece_0 : decode cX0_addPiece 0 = .ok (.aload_n 0, 1) := by decide +kernel
theorem dX0_addPiece_1 : decode cX0_addPiece 1 = .ok (.getfield 27, 3) := by decide +kernel
theorem dX0_addPiece_4 : decode cX0_addPiece 4 = .ok (.ifCond .le 40, 3) := by decide +kernel
theorem dX0_addPiece_7 : decode cX0_addPiece 7 = .ok (.aload_n 0, 1) := by decide +kernel
theorem dX0_addPiece_8 : decode cX0_addPiece 8 = .ok (.getfield 14, 3) := by decide +kernel
theorem dX0_addPiece_11 : decode cX0_addPiece 11 = .ok (.aload_n 0, 1) := by decide +kernel
theorem dX0_addPiece_12 : decode cX0_addPiece 12 = .ok (.getfield 27, 3) := by decide +kernel
theorem dX0_addPiece_15 : decode cX0_addPiece 15 = .ok (.invokevirtual 37, 3) := by decide +kernel
theorem dX0_addPiece_18 : decode cX0_addPiece 18 = .ok (.ifCond .eq 26, 3) := by decide +kernel
theorem dX0_addPiece_21 : decode cX0_addPiece 21 = .ok (.aload_n 0, 1) := by decide +kernel
theorem dX0_addPiece_22 : decode cX0_addPiece 22 = .ok (.getfield 14, 3) := by decide +kernel
theorem dX0_addPiece_25 : decode cX0_addPiece 25 = .ok (.aload_n 1, 1) := by decide +kernel
theorem dX0_addPiece_26 : decode cX0_addPiece 26 = .ok (.iload_n 2, 1) := by decide +kernel
theorem dX0_addPiece_27 : decode cX0_addPiece 27 = .ok (.aload_n 0, 1) := by decide +kernel
theorem dX0_addPiece_28 : decode cX0_addPiece 28 = .ok (.getfield 27, 3) := by decide +kernel
theorem dX0_addPiece_31 : decode cX0_addPiece 31 = .ok (.invokevirtual 41, 3) := by decide +kernel
theorem dX0_addPiece_34 : decode cX0_addPiece 34 = .ok (.aload_n 0, 1) := by decide +kernel
theorem dX0_addPiece_35 : decode cX0_addPiece 35 = .ok (.dup, 1) := by decide +kernel
theorem dX0_addPiece_36 : decode cX0_addPiece 36 = .ok (.getfield 24, 3) := by decide +kernel
theorem dX0_addPiece_39 : decode cX0_addPiece 39 = .ok (.iconst 1, 1) := by decide +kernel
theorem dX0_addPiece_40 : decode cX0_addPiece 40 = .ok (.iadd, 1) := by decide +kernel
theorem dX0_addPiece_41 : decode cX0_addPiece 41 = .ok (.putfield 24, 3) := by decide +kernel
theorem dX0_addPiece_44 : decode cX0_addPiece 44 = .ok (.return_, 1) := by decide +kernel
theorem dX0_copyWithout_0 : decode cX0_copyWithout 0 = .ok (.aload_n 2, 1) := by decide +kernel
theorem dX0_copyWithout_1 : decode cX0_copyWithout 1 = .ok (.aload_n 0, 1) := by decide +kernel
theorem dX0_copyWithout_2 : decode cX0_copyWithout 2 = .ok (.getfield 14, 3) := by decide +kernel
theorem dX0_copyWithout_5 : decode cX0_copyWithout 5 = .ok (.invokevirtual 45, 3) := by decide +kernel
theorem dX0_copyWithout_8 : decode cX0_copyWithout 8 = .ok (.aload_n 2, 1) := by decide +kernel
theorem dX0_copyWithout_9 : decode cX0_copyWithout 9 = .ok (.iload_n 1, 1) := by decide +kernel
theorem dX0_copyWithout_10 : decode cX0_copyWithout 10 = .ok (.aload_n 0, 1) := by decide +kernel
theorem dX0_copyWithout_11 : decode cX0_copyWithout 11 = .ok (.getfield 27, 3) := by decide +kernel
theorem dX0_copyWithout_14 : decode cX0_copyWithout 14 = .ok (.imul, 1) := by decide +kernel
theorem dX0_copyWithout_15 : decode cX0_copyWithout 15 = .ok (.aload_n 0, 1) := by decide +kernel
theorem dX0_copyWithout_16 : decode cX0_copyWithout 16 = .ok (.getfield 27, 3) := by decide +kernel
theorem dX0_copyWithout_19 : decode cX0_copyWithout 19 = .ok (.invokevirtual 49, 3) := by decide +kernel
theorem dX0_copyWithout_22 : decode cX0_copyWithout 22 = .ok (.return_, 1) := by decide +kernel
theorem dX0_removePiece_0 : decode cX0_removePiece 0 = .ok (.iload_n 1, 1) := by decide +kernel
theorem dX0_removePiece_1 : decode cX0_removePiece 1 = .ok (.ifCond .lt 38, 3) := by decide +kernel
theorem dX0_removePiece_4 : decode cX0_removePiece 4 = .ok (.iload_n 1, 1) := by decide +kernel
theorem dX0_removePiece_5 : decode cX0_removePiece 5 = .ok (.aload_n 0, 1) := by decide +kernel
theorem dX0_removePiece_6 : decode cX0_removePiece 6 = .ok (.getfield 24, 3) := by decide +kernel
theorem dX0_removePiece_9 : decode cX0_removePiece 9 = .ok (.if_icmp .ge 30, 3) := by decide +kernel
theorem dX0_removePiece_12 : decode cX0_removePiece 12 = .ok (.aload_n 0, 1) := by decide +kernel
theorem dX0_removePiece_13 : decode cX0_removePiece 13 = .ok (.getfield 14, 3) := by decide +kernel
theorem dX0_removePiece_16 : decode cX0_removePiece 16 = .ok (.iload_n 1, 1) := by decide +kernel
theorem dX0_removePiece_17 : decode cX0_removePiece 17 = .ok (.aload_n 0, 1) := by decide +kernel
theorem dX0_removePiece_18 : decode cX0_removePiece 18 = .ok (.getfield 27, 3) := by decide +kernel
theorem dX0_removePiece_21 : decode cX0_removePiece 21 = .ok (.imul, 1) := by decide +kernel
theorem dX0_removePiece_22 : decode cX0_removePiece 22 = .ok (.aload_n 0, 1) := by decide +kernel
theorem dX0_removePiece_23 : decode cX0_removePiece 23 = .ok (.getfield 27, 3) := by decide +kernel
theorem dX0_removePiece_26 : decode cX0_removePiece 26 = .ok (.invokevirtual 49, 3) := by decide +kernel
theorem dX0_removePiece_29 : decode cX0_removePiece 29 = .ok (.aload_n 0, 1) := by decide +kernel
theorem dX0_removePiece_30 : decode cX0_removePiece 30 = .ok (.dup, 1) := by decide +kernel
theorem dX0_removePiece_31 : decode cX0_removePiece 31 = .ok (.getfield 24, 3) := by decide +kernel
theorem dX0_removePiece_34 : decode cX0_removePiece 34 = .ok (.iconst 1, 1) := by decide +kernel
theorem dX0_removePiece_35 : decode cX0_removePiece 35 = .ok (.isub, 1) := by decide +kernel
theorem dX0_removePiece_36 : decode cX0_removePiece 36 = .ok (.putfield 24, 3) := by decide +kernel
theorem dX0_removePiece_39 : decode cX0_removePiece 39 = .ok (.return_, 1) := by decide +kernel
