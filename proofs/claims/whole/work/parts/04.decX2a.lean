theorem dX2_init_0 : decode cX2_init 0 = .ok (.aload_n 0, 1) := by decide +kernel
theorem dX2_init_1 : decode cX2_init 1 = .ok (.invokespecial 3, 3) := by decide +kernel
theorem dX2_init_4 : decode cX2_init 4 = .ok (.aload_n 0, 1) := by decide +kernel
theorem dX2_init_5 : decode cX2_init 5 = .ok (.new 9, 3) := by decide +kernel
theorem dX2_init_8 : decode cX2_init 8 = .ok (.dup, 1) := by decide +kernel
theorem dX2_init_9 : decode cX2_init 9 = .ok (.sipush 211, 3) := by decide +kernel
theorem dX2_init_12 : decode cX2_init 12 = .ok (.invokespecial 11, 3) := by decide +kernel
theorem dX2_init_15 : decode cX2_init 15 = .ok (.putfield 14, 3) := by decide +kernel
theorem dX2_init_18 : decode cX2_init 18 = .ok (.return_, 1) := by decide +kernel
theorem dX2_bytes_0 : decode cX2_bytes 0 = .ok (.aload_n 0, 1) := by decide +kernel
theorem dX2_bytes_1 : decode cX2_bytes 1 = .ok (.getfield 14, 3) := by decide +kernel
theorem dX2_bytes_4 : decode cX2_bytes 4 = .ok (.areturn, 1) := by decide +kernel
theorem dX2_items_0 : decode cX2_items 0 = .ok (.aload_n 0, 1) := by decide +kernel
theorem dX2_items_1 : decode cX2_items 1 = .ok (.getfield 20, 3) := by decide +kernel
theorem dX2_items_4 : decode cX2_items 4 = .ok (.ireturn, 1) := by decide +kernel
theorem dX2_matches_0 : decode cX2_matches 0 = .ok (.aload_n 0, 1) := by decide +kernel
theorem dX2_matches_1 : decode cX2_matches 1 = .ok (.getfield 24, 3) := by decide +kernel
theorem dX2_matches_4 : decode cX2_matches 4 = .ok (.ireturn, 1) := by decide +kernel
theorem dX2_begin_0 : decode cX2_begin 0 = .ok (.aload_n 0, 1) := by decide +kernel
theorem dX2_begin_1 : decode cX2_begin 1 = .ok (.iconst 0, 1) := by decide +kernel
theorem dX2_begin_2 : decode cX2_begin 2 = .ok (.putfield 20, 3) := by decide +kernel
theorem dX2_begin_5 : decode cX2_begin 5 = .ok (.aload_n 0, 1) := by decide +kernel
theorem dX2_begin_6 : decode cX2_begin 6 = .ok (.iconst 0, 1) := by decide +kernel
theorem dX2_begin_7 : decode cX2_begin 7 = .ok (.putfield 24, 3) := by decide +kernel
theorem dX2_begin_10 : decode cX2_begin 10 = .ok (.aload_n 0, 1) := by decide +kernel
theorem dX2_begin_11 : decode cX2_begin 11 = .ok (.getfield 14, 3) := by decide +kernel
theorem dX2_begin_14 : decode cX2_begin 14 = .ok (.invokevirtual 27, 3) := by decide +kernel
theorem dX2_begin_17 : decode cX2_begin 17 = .ok (.aload_n 0, 1) := by decide +kernel
theorem dX2_begin_18 : decode cX2_begin 18 = .ok (.getfield 14, 3) := by decide +kernel
theorem dX2_begin_21 : decode cX2_begin 21 = .ok (.aload_n 1, 1) := by decide +kernel
theorem dX2_begin_22 : decode cX2_begin 22 = .ok (.invokevirtual 30, 3) := by decide +kernel
theorem dX2_begin_25 : decode cX2_begin 25 = .ok (.invokevirtual 36, 3) := by decide +kernel
theorem dX2_begin_28 : decode cX2_begin 28 = .ok (.aload_n 0, 1) := by decide +kernel
theorem dX2_begin_29 : decode cX2_begin 29 = .ok (.getfield 14, 3) := by decide +kernel
theorem dX2_begin_32 : decode cX2_begin 32 = .ok (.aload_n 1, 1) := by decide +kernel
theorem dX2_begin_33 : decode cX2_begin 33 = .ok (.invokevirtual 39, 3) := by decide +kernel
theorem dX2_begin_36 : decode cX2_begin 36 = .ok (.bipush 8, 2) := by decide +kernel
theorem dX2_begin_38 : decode cX2_begin 38 = .ok (.ishr, 1) := by decide +kernel
theorem dX2_begin_39 : decode cX2_begin 39 = .ok (.invokevirtual 36, 3) := by decide +kernel
theorem dX2_begin_42 : decode cX2_begin 42 = .ok (.aload_n 0, 1) := by decide +kernel
theorem dX2_begin_43 : decode cX2_begin 43 = .ok (.getfield 14, 3) := by decide +kernel
theorem dX2_begin_46 : decode cX2_begin 46 = .ok (.aload_n 1, 1) := by decide +kernel
theorem dX2_begin_47 : decode cX2_begin 47 = .ok (.invokevirtual 39, 3) := by decide +kernel
theorem dX2_begin_50 : decode cX2_begin 50 = .ok (.invokevirtual 36, 3) := by decide +kernel
theorem dX2_begin_53 : decode cX2_begin 53 = .ok (.aload_n 0, 1) := by decide +kernel
theorem dX2_begin_54 : decode cX2_begin 54 = .ok (.getfield 14, 3) := by decide +kernel
theorem dX2_begin_57 : decode cX2_begin 57 = .ok (.iload_n 2, 1) := by decide +kernel
theorem dX2_begin_58 : decode cX2_begin 58 = .ok (.invokevirtual 36, 3) := by decide +kernel
theorem dX2_begin_61 : decode cX2_begin 61 = .ok (.return_, 1) := by decide +kernel
theorem dX2_addMatch_0 : decode cX2_addMatch 0 = .ok (.aload_n 0, 1) := by decide +kernel
theorem dX2_addMatch_1 : decode cX2_addMatch 1 = .ok (.getfield 14, 3) := by decide +kernel
theorem dX2_addMatch_4 : decode cX2_addMatch 4 = .ok (.iload_n 1, 1) := by decide +kernel
theorem dX2_addMatch_5 : decode cX2_addMatch 5 = .ok (.iconst 2, 1) := by decide +kernel
theorem dX2_addMatch_6 : decode cX2_addMatch 6 = .ok (.isub, 1) := by decide +kernel
theorem dX2_addMatch_7 : decode cX2_addMatch 7 = .ok (.bipush 32, 2) := by decide +kernel
theorem dX2_addMatch_9 : decode cX2_addMatch 9 = .ok (.imul, 1) := by decide +kernel
theorem dX2_addMatch_10 : decode cX2_addMatch 10 = .ok (.iload_n 2, 1) := by decide +kernel
theorem dX2_addMatch_11 : decode cX2_addMatch 11 = .ok (.iconst 1, 1) := by decide +kernel
theorem dX2_addMatch_12 : decode cX2_addMatch 12 = .ok (.isub, 1) := by decide +kernel
theorem dX2_addMatch_13 : decode cX2_addMatch 13 = .ok (.sipush 256, 3) := by decide +kernel
theorem dX2_addMatch_16 : decode cX2_addMatch 16 = .ok (.idiv, 1) := by decide +kernel
theorem dX2_addMatch_17 : decode cX2_addMatch 17 = .ok (.iadd, 1) := by decide +kernel
theorem dX2_addMatch_18 : decode cX2_addMatch 18 = .ok (.invokevirtual 36, 3) := by decide +kernel
theorem dX2_addMatch_21 : decode cX2_addMatch 21 = .ok (.aload_n 0, 1) := by decide +kernel
theorem dX2_addMatch_22 : decode cX2_addMatch 22 = .ok (.getfield 14, 3) := by decide +kernel
theorem dX2_addMatch_25 : decode cX2_addMatch 25 = .ok (.iload_n 2, 1) := by decide +kernel
theorem dX2_addMatch_26 : decode cX2_addMatch 26 = .ok (.iconst 1, 1) := by decide +kernel
theorem dX2_addMatch_27 : decode cX2_addMatch 27 = .ok (.isub, 1) := by decide +kernel
theorem dX2_addMatch_28 : decode cX2_addMatch 28 = .ok (.sipush 256, 3) := by decide +kernel
theorem dX2_addMatch_31 : decode cX2_addMatch 31 = .ok (.irem, 1) := by decide +kernel
theorem dX2_addMatch_32 : decode cX2_addMatch 32 = .ok (.invokevirtual 36, 3) := by decide +kernel
theorem dX2_addMatch_35 : decode cX2_addMatch 35 = .ok (.aload_n 0, 1) := by decide +kernel
theorem dX2_addMatch_36 : decode cX2_addMatch 36 = .ok (.dup, 1) := by decide +kernel
theorem dX2_addMatch_37 : decode cX2_addMatch 37 = .ok (.getfield 20, 3) := by decide +kernel
theorem dX2_addMatch_40 : decode cX2_addMatch 40 = .ok (.iconst 1, 1) := by decide +kernel
theorem dX2_addMatch_41 : decode cX2_addMatch 41 = .ok (.iadd, 1) := by decide +kernel
theorem dX2_addMatch_42 : decode cX2_addMatch 42 = .ok (.putfield 20, 3) := by decide +kernel
theorem dX2_addMatch_45 : decode cX2_addMatch 45 = .ok (.aload_n 0, 1) := by decide +kernel
theorem dX2_addMatch_46 : decode cX2_addMatch 46 = .ok (.dup, 1) := by decide +kernel
theorem dX2_addMatch_47 : decode cX2_addMatch 47 = .ok (.getfield 24, 3) := by decide +kernel
theorem dX2_addMatch_50 : decode cX2_addMatch 50 = .ok (.iconst 1, 1) := by decide +kernel
theorem dX2_addMatch_51 : decode cX2_addMatch 51 = .ok (.iadd, 1) := by decide +kernel
theorem dX2_addMatch_52 : decode cX2_addMatch 52 = .ok (.putfield 24, 3) := by decide +kernel
theorem dX2_addMatch_55 : decode cX2_addMatch 55 = .ok (.return_, 1) := by decide +kernel
theorem dX2_addPlain_0 : decode cX2_addPlain 0 = .ok (.aload_n 0, 1) := by decide +kernel
theorem dX2_addPlain_1 : decode cX2_addPlain 1 = .ok (.getfield 14, 3) := by decide +kernel
theorem dX2_addPlain_4 : decode cX2_addPlain 4 = .ok (.iload_n 3, 1) := by decide +kernel
theorem dX2_addPlain_5 : decode cX2_addPlain 5 = .ok (.iconst 1, 1) := by decide +kernel
theorem dX2_addPlain_6 : decode cX2_addPlain 6 = .ok (.isub, 1) := by decide +kernel
theorem dX2_addPlain_7 : decode cX2_addPlain 7 = .ok (.invokevirtual 36, 3) := by decide +kernel
theorem dX2_addPlain_10 : decode cX2_addPlain 10 = .ok (.iload_n 2, 1) := by decide +kernel
theorem dX2_addPlain_11 : decode cX2_addPlain 11 = .ok (.istore 4, 2) := by decide +kernel
theorem dX2_addPlain_13 : decode cX2_addPlain 13 = .ok (.iload 4, 2) := by decide +kernel
theorem dX2_addPlain_15 : decode cX2_addPlain 15 = .ok (.iload_n 2, 1) := by decide +kernel
theorem dX2_addPlain_16 : decode cX2_addPlain 16 = .ok (.iload_n 3, 1) := by decide +kernel
theorem dX2_addPlain_17 : decode cX2_addPlain 17 = .ok (.iadd, 1) := by decide +kernel
theorem dX2_addPlain_18 : decode cX2_addPlain 18 = .ok (.if_icmp .ge 27, 3) := by decide +kernel
theorem dX2_addPlain_21 : decode cX2_addPlain 21 = .ok (.iload 4, 2) := by decide +kernel
theorem dX2_addPlain_23 : decode cX2_addPlain 23 = .ok (.aload_n 1, 1) := by decide +kernel
theorem dX2_addPlain_24 : decode cX2_addPlain 24 = .ok (.arraylength, 1) := by decide +kernel
theorem dX2_addPlain_25 : decode cX2_addPlain 25 = .ok (.if_icmp .ge 20, 3) := by decide +kernel
theorem dX2_addPlain_28 : decode cX2_addPlain 28 = .ok (.aload_n 0, 1) := by decide +kernel
theorem dX2_addPlain_29 : decode cX2_addPlain 29 = .ok (.getfield 14, 3) := by decide +kernel
theorem dX2_addPlain_32 : decode cX2_addPlain 32 = .ok (.aload_n 1, 1) := by decide +kernel
theorem dX2_addPlain_33 : decode cX2_addPlain 33 = .ok (.iload 4, 2) := by decide +kernel
theorem dX2_addPlain_35 : decode cX2_addPlain 35 = .ok (.baload, 1) := by decide +kernel
theorem dX2_addPlain_36 : decode cX2_addPlain 36 = .ok (.invokevirtual 36, 3) := by decide +kernel
theorem dX2_addPlain_39 : decode cX2_addPlain 39 = .ok (.iinc 4 1, 3) := by decide +kernel
theorem dX2_addPlain_42 : decode cX2_addPlain 42 = .ok (.goto (-29), 3) := by decide +kernel
theorem dX2_addPlain_45 : decode cX2_addPlain 45 = .ok (.aload_n 0, 1) := by decide +kernel
theorem dX2_addPlain_46 : decode cX2_addPlain 46 = .ok (.dup, 1) := by decide +kernel
theorem dX2_addPlain_47 : decode cX2_addPlain 47 = .ok (.getfield 20, 3) := by decide +kernel
theorem dX2_addPlain_50 : decode cX2_addPlain 50 = .ok (.iconst 1, 1) := by decide +kernel
theorem dX2_addPlain_51 : decode cX2_addPlain 51 = .ok (.iadd, 1) := by decide +kernel
theorem dX2_addPlain_52 : decode cX2_addPlain 52 = .ok (.putfield 20, 3) := by decide +kernel
theorem dX2_addPlain_55 : decode cX2_addPlain 55 = .ok (.return_, 1) := by decide +kernel
