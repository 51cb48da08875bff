theorem dX5_init_0 : decode cX5_init 0 = .ok (.aload_n 0, 1) := by decide +kernel
theorem dX5_init_1 : decode cX5_init 1 = .ok (.invokespecial 3, 3) := by decide +kernel
theorem dX5_init_4 : decode cX5_init 4 = .ok (.aload_n 0, 1) := by decide +kernel
theorem dX5_init_5 : decode cX5_init 5 = .ok (.new 9, 3) := by decide +kernel
theorem dX5_init_8 : decode cX5_init 8 = .ok (.dup, 1) := by decide +kernel
theorem dX5_init_9 : decode cX5_init 9 = .ok (.sipush 320, 3) := by decide +kernel
theorem dX5_init_12 : decode cX5_init 12 = .ok (.invokespecial 13, 3) := by decide +kernel
theorem dX5_init_15 : decode cX5_init 15 = .ok (.putfield 16, 3) := by decide +kernel
theorem dX5_init_18 : decode cX5_init 18 = .ok (.aload_n 0, 1) := by decide +kernel
theorem dX5_init_19 : decode cX5_init 19 = .ok (.sipush 320, 3) := by decide +kernel
theorem dX5_init_22 : decode cX5_init 22 = .ok (.newarray .boolean, 2) := by decide +kernel
theorem dX5_init_24 : decode cX5_init 24 = .ok (.putfield 20, 3) := by decide +kernel
theorem dX5_init_27 : decode cX5_init 27 = .ok (.aload_n 0, 1) := by decide +kernel
theorem dX5_init_28 : decode cX5_init 28 = .ok (.sipush 320, 3) := by decide +kernel
theorem dX5_init_31 : decode cX5_init 31 = .ok (.newarray .int, 2) := by decide +kernel
theorem dX5_init_33 : decode cX5_init 33 = .ok (.putfield 24, 3) := by decide +kernel
theorem dX5_init_36 : decode cX5_init 36 = .ok (.aload_n 0, 1) := by decide +kernel
theorem dX5_init_37 : decode cX5_init 37 = .ok (.sipush 320, 3) := by decide +kernel
theorem dX5_init_40 : decode cX5_init 40 = .ok (.newarray .int, 2) := by decide +kernel
theorem dX5_init_42 : decode cX5_init 42 = .ok (.putfield 28, 3) := by decide +kernel
theorem dX5_init_45 : decode cX5_init 45 = .ok (.aload_n 0, 1) := by decide +kernel
theorem dX5_init_46 : decode cX5_init 46 = .ok (.sipush 320, 3) := by decide +kernel
theorem dX5_init_49 : decode cX5_init 49 = .ok (.newarray .int, 2) := by decide +kernel
theorem dX5_init_51 : decode cX5_init 51 = .ok (.putfield 31, 3) := by decide +kernel
theorem dX5_init_54 : decode cX5_init 54 = .ok (.aload_n 0, 1) := by decide +kernel
theorem dX5_init_55 : decode cX5_init 55 = .ok (.bipush 26, 2) := by decide +kernel
theorem dX5_init_57 : decode cX5_init 57 = .ok (.newarray .int, 2) := by decide +kernel
theorem dX5_init_59 : decode cX5_init 59 = .ok (.putfield 34, 3) := by decide +kernel
theorem dX5_init_62 : decode cX5_init 62 = .ok (.return_, 1) := by decide +kernel
theorem dX5_load_0 : decode cX5_load 0 = .ok (.aload_n 0, 1) := by decide +kernel
theorem dX5_load_1 : decode cX5_load 1 = .ok (.iload_n 3, 1) := by decide +kernel
theorem dX5_load_2 : decode cX5_load 2 = .ok (.putfield 37, 3) := by decide +kernel
theorem dX5_load_5 : decode cX5_load 5 = .ok (.aload_n 0, 1) := by decide +kernel
theorem dX5_load_6 : decode cX5_load 6 = .ok (.iconst 0, 1) := by decide +kernel
theorem dX5_load_7 : decode cX5_load 7 = .ok (.putfield 41, 3) := by decide +kernel
theorem dX5_load_10 : decode cX5_load 10 = .ok (.aload_n 0, 1) := by decide +kernel
theorem dX5_load_11 : decode cX5_load 11 = .ok (.getfield 16, 3) := by decide +kernel
theorem dX5_load_14 : decode cX5_load 14 = .ok (.invokevirtual 44, 3) := by decide +kernel
theorem dX5_load_17 : decode cX5_load 17 = .ok (.aload_n 0, 1) := by decide +kernel
theorem dX5_load_18 : decode cX5_load 18 = .ok (.iconst 0, 1) := by decide +kernel
theorem dX5_load_19 : decode cX5_load 19 = .ok (.sipush 320, 3) := by decide +kernel
theorem dX5_load_22 : decode cX5_load 22 = .ok (.iconst 0, 1) := by decide +kernel
theorem dX5_load_23 : decode cX5_load 23 = .ok (.invokevirtual 47, 3) := by decide +kernel
theorem dX5_load_26 : decode cX5_load 26 = .ok (.aload_n 0, 1) := by decide +kernel
theorem dX5_load_27 : decode cX5_load 27 = .ok (.getfield 24, 3) := by decide +kernel
theorem dX5_load_30 : decode cX5_load 30 = .ok (.iconst (-1), 1) := by decide +kernel
theorem dX5_load_31 : decode cX5_load 31 = .ok (.invokestatic 51, 3) := by decide +kernel
theorem dX5_load_34 : decode cX5_load 34 = .ok (.iconst 0, 1) := by decide +kernel
theorem dX5_load_35 : decode cX5_load 35 = .ok (.istore 4, 2) := by decide +kernel
theorem dX5_load_37 : decode cX5_load 37 = .ok (.iload 4, 2) := by decide +kernel
theorem dX5_load_39 : decode cX5_load 39 = .ok (.iload_n 2, 1) := by decide +kernel
theorem dX5_load_40 : decode cX5_load 40 = .ok (.if_icmp .ge 51, 3) := by decide +kernel
theorem dX5_load_43 : decode cX5_load 43 = .ok (.iload 4, 2) := by decide +kernel
theorem dX5_load_45 : decode cX5_load 45 = .ok (.aload_n 1, 1) := by decide +kernel
theorem dX5_load_46 : decode cX5_load 46 = .ok (.arraylength, 1) := by decide +kernel
theorem dX5_load_47 : decode cX5_load 47 = .ok (.if_icmp .ge 44, 3) := by decide +kernel
theorem dX5_load_50 : decode cX5_load 50 = .ok (.aload_n 0, 1) := by decide +kernel
theorem dX5_load_51 : decode cX5_load 51 = .ok (.getfield 16, 3) := by decide +kernel
theorem dX5_load_54 : decode cX5_load 54 = .ok (.aload_n 1, 1) := by decide +kernel
theorem dX5_load_55 : decode cX5_load 55 = .ok (.iload 4, 2) := by decide +kernel
theorem dX5_load_57 : decode cX5_load 57 = .ok (.aaload, 1) := by decide +kernel
theorem dX5_load_58 : decode cX5_load 58 = .ok (.iconst 0, 1) := by decide +kernel
theorem dX5_load_59 : decode cX5_load 59 = .ok (.bipush 40, 2) := by decide +kernel
theorem dX5_load_61 : decode cX5_load 61 = .ok (.invokevirtual 57, 3) := by decide +kernel
theorem dX5_load_64 : decode cX5_load 64 = .ok (.aload_n 0, 1) := by decide +kernel
theorem dX5_load_65 : decode cX5_load 65 = .ok (.iload 4, 2) := by decide +kernel
theorem dX5_load_67 : decode cX5_load 67 = .ok (.bipush 40, 2) := by decide +kernel
theorem dX5_load_69 : decode cX5_load 69 = .ok (.imul, 1) := by decide +kernel
theorem dX5_load_70 : decode cX5_load 70 = .ok (.aload_n 1, 1) := by decide +kernel
theorem dX5_load_71 : decode cX5_load 71 = .ok (.iload 4, 2) := by decide +kernel
theorem dX5_load_73 : decode cX5_load 73 = .ok (.aaload, 1) := by decide +kernel
theorem dX5_load_74 : decode cX5_load 74 = .ok (.invokevirtual 61, 3) := by decide +kernel
theorem dX5_load_77 : decode cX5_load 77 = .ok (.aload_n 0, 1) := by decide +kernel
theorem dX5_load_78 : decode cX5_load 78 = .ok (.getfield 37, 3) := by decide +kernel
theorem dX5_load_81 : decode cX5_load 81 = .ok (.isub, 1) := by decide +kernel
theorem dX5_load_82 : decode cX5_load 82 = .ok (.invokevirtual 65, 3) := by decide +kernel
theorem dX5_load_85 : decode cX5_load 85 = .ok (.iinc 4 1, 3) := by decide +kernel
theorem dX5_load_88 : decode cX5_load 88 = .ok (.goto (-51), 3) := by decide +kernel
theorem dX5_load_91 : decode cX5_load 91 = .ok (.return_, 1) := by decide +kernel
theorem dX5_takeRows_0 : decode cX5_takeRows 0 = .ok (.aload_n 0, 1) := by decide +kernel
theorem dX5_takeRows_1 : decode cX5_takeRows 1 = .ok (.getfield 41, 3) := by decide +kernel
theorem dX5_takeRows_4 : decode cX5_takeRows 4 = .ok (.bipush 26, 2) := by decide +kernel
theorem dX5_takeRows_6 : decode cX5_takeRows 6 = .ok (.if_icmp .ge 94, 3) := by decide +kernel
theorem dX5_takeRows_9 : decode cX5_takeRows 9 = .ok (.aload_n 0, 1) := by decide +kernel
theorem dX5_takeRows_10 : decode cX5_takeRows 10 = .ok (.getfield 41, 3) := by decide +kernel
theorem dX5_takeRows_13 : decode cX5_takeRows 13 = .ok (.iconst 1, 1) := by decide +kernel
theorem dX5_takeRows_14 : decode cX5_takeRows 14 = .ok (.iadd, 1) := by decide +kernel
theorem dX5_takeRows_15 : decode cX5_takeRows 15 = .ok (.aload_n 0, 1) := by decide +kernel
theorem dX5_takeRows_16 : decode cX5_takeRows 16 = .ok (.getfield 37, 3) := by decide +kernel
theorem dX5_takeRows_19 : decode cX5_takeRows 19 = .ok (.imul, 1) := by decide +kernel
theorem dX5_takeRows_20 : decode cX5_takeRows 20 = .ok (.iload_n 1, 1) := by decide +kernel
theorem dX5_takeRows_21 : decode cX5_takeRows 21 = .ok (.if_icmp .gt 79, 3) := by decide +kernel
theorem dX5_takeRows_24 : decode cX5_takeRows 24 = .ok (.aload_n 0, 1) := by decide +kernel
theorem dX5_takeRows_25 : decode cX5_takeRows 25 = .ok (.invokevirtual 69, 3) := by decide +kernel
theorem dX5_takeRows_28 : decode cX5_takeRows 28 = .ok (.aload_n 0, 1) := by decide +kernel
theorem dX5_takeRows_29 : decode cX5_takeRows 29 = .ok (.invokevirtual 72, 3) := by decide +kernel
theorem dX5_takeRows_32 : decode cX5_takeRows 32 = .ok (.istore_n 2, 1) := by decide +kernel
theorem dX5_takeRows_33 : decode cX5_takeRows 33 = .ok (.iload_n 2, 1) := by decide +kernel
theorem dX5_takeRows_34 : decode cX5_takeRows 34 = .ok (.iconst (-1), 1) := by decide +kernel
theorem dX5_takeRows_35 : decode cX5_takeRows 35 = .ok (.if_icmp .eq 31, 3) := by decide +kernel
theorem dX5_takeRows_38 : decode cX5_takeRows 38 = .ok (.aload_n 0, 1) := by decide +kernel
theorem dX5_takeRows_39 : decode cX5_takeRows 39 = .ok (.getfield 37, 3) := by decide +kernel
theorem dX5_takeRows_42 : decode cX5_takeRows 42 = .ok (.iconst 2, 1) := by decide +kernel
theorem dX5_takeRows_43 : decode cX5_takeRows 43 = .ok (.isub, 1) := by decide +kernel
theorem dX5_takeRows_44 : decode cX5_takeRows 44 = .ok (.aload_n 0, 1) := by decide +kernel
theorem dX5_takeRows_45 : decode cX5_takeRows 45 = .ok (.getfield 28, 3) := by decide +kernel
theorem dX5_takeRows_48 : decode cX5_takeRows 48 = .ok (.aload_n 0, 1) := by decide +kernel
theorem dX5_takeRows_49 : decode cX5_takeRows 49 = .ok (.getfield 24, 3) := by decide +kernel
theorem dX5_takeRows_52 : decode cX5_takeRows 52 = .ok (.iload_n 2, 1) := by decide +kernel
theorem dX5_takeRows_53 : decode cX5_takeRows 53 = .ok (.iaload, 1) := by decide +kernel
theorem dX5_takeRows_54 : decode cX5_takeRows 54 = .ok (.iaload, 1) := by decide +kernel
theorem dX5_takeRows_55 : decode cX5_takeRows 55 = .ok (.imul, 1) := by decide +kernel
theorem dX5_takeRows_56 : decode cX5_takeRows 56 = .ok (.aload_n 0, 1) := by decide +kernel
theorem dX5_takeRows_57 : decode cX5_takeRows 57 = .ok (.getfield 37, 3) := by decide +kernel
theorem dX5_takeRows_60 : decode cX5_takeRows 60 = .ok (.iconst 1, 1) := by decide +kernel
theorem dX5_takeRows_61 : decode cX5_takeRows 61 = .ok (.iadd, 1) := by decide +kernel
theorem dX5_takeRows_62 : decode cX5_takeRows 62 = .ok (.isub, 1) := by decide +kernel
theorem dX5_takeRows_63 : decode cX5_takeRows 63 = .ok (.ifCond .gt 4, 3) := by decide +kernel
theorem dX5_takeRows_66 : decode cX5_takeRows 66 = .ok (.return_, 1) := by decide +kernel
theorem dX5_takeRows_67 : decode cX5_takeRows 67 = .ok (.aload_n 0, 1) := by decide +kernel
theorem dX5_takeRows_68 : decode cX5_takeRows 68 = .ok (.getfield 34, 3) := by decide +kernel
theorem dX5_takeRows_71 : decode cX5_takeRows 71 = .ok (.aload_n 0, 1) := by decide +kernel
theorem dX5_takeRows_72 : decode cX5_takeRows 72 = .ok (.getfield 41, 3) := by decide +kernel
theorem dX5_takeRows_75 : decode cX5_takeRows 75 = .ok (.iload_n 2, 1) := by decide +kernel
theorem dX5_takeRows_76 : decode cX5_takeRows 76 = .ok (.iastore, 1) := by decide +kernel
theorem dX5_takeRows_77 : decode cX5_takeRows 77 = .ok (.aload_n 0, 1) := by decide +kernel
theorem dX5_takeRows_78 : decode cX5_takeRows 78 = .ok (.dup, 1) := by decide +kernel
theorem dX5_takeRows_79 : decode cX5_takeRows 79 = .ok (.getfield 41, 3) := by decide +kernel
theorem dX5_takeRows_82 : decode cX5_takeRows 82 = .ok (.iconst 1, 1) := by decide +kernel
theorem dX5_takeRows_83 : decode cX5_takeRows 83 = .ok (.iadd, 1) := by decide +kernel
theorem dX5_takeRows_84 : decode cX5_takeRows 84 = .ok (.putfield 41, 3) := by decide +kernel
theorem dX5_takeRows_87 : decode cX5_takeRows 87 = .ok (.aload_n 0, 1) := by decide +kernel
theorem dX5_takeRows_88 : decode cX5_takeRows 88 = .ok (.aload_n 0, 1) := by decide +kernel
theorem dX5_takeRows_89 : decode cX5_takeRows 89 = .ok (.getfield 24, 3) := by decide +kernel
theorem dX5_takeRows_92 : decode cX5_takeRows 92 = .ok (.iload_n 2, 1) := by decide +kernel
theorem dX5_takeRows_93 : decode cX5_takeRows 93 = .ok (.iaload, 1) := by decide +kernel
theorem dX5_takeRows_94 : decode cX5_takeRows 94 = .ok (.invokevirtual 75, 3) := by decide +kernel
theorem dX5_takeRows_97 : decode cX5_takeRows 97 = .ok (.goto (-97), 3) := by decide +kernel
theorem dX5_takeRows_100 : decode cX5_takeRows 100 = .ok (.return_, 1) := by decide +kernel
theorem dX5_handOver_0 : decode cX5_handOver 0 = .ok (.aload_n 0, 1) := by decide +kernel
theorem dX5_handOver_1 : decode cX5_handOver 1 = .ok (.getfield 41, 3) := by decide +kernel
theorem dX5_handOver_4 : decode cX5_handOver 4 = .ok (.iconst 1, 1) := by decide +kernel
theorem dX5_handOver_5 : decode cX5_handOver 5 = .ok (.isub, 1) := by decide +kernel
theorem dX5_handOver_6 : decode cX5_handOver 6 = .ok (.istore_n 2, 1) := by decide +kernel
theorem dX5_handOver_7 : decode cX5_handOver 7 = .ok (.iload_n 2, 1) := by decide +kernel
theorem dX5_handOver_8 : decode cX5_handOver 8 = .ok (.ifCond .lt 23, 3) := by decide +kernel
theorem dX5_handOver_11 : decode cX5_handOver 11 = .ok (.aload_n 1, 1) := by decide +kernel
theorem dX5_handOver_12 : decode cX5_handOver 12 = .ok (.aload_n 0, 1) := by decide +kernel
theorem dX5_handOver_13 : decode cX5_handOver 13 = .ok (.getfield 16, 3) := by decide +kernel
theorem dX5_handOver_16 : decode cX5_handOver 16 = .ok (.aload_n 0, 1) := by decide +kernel
theorem dX5_handOver_17 : decode cX5_handOver 17 = .ok (.getfield 34, 3) := by decide +kernel
theorem dX5_handOver_20 : decode cX5_handOver 20 = .ok (.iload_n 2, 1) := by decide +kernel
theorem dX5_handOver_21 : decode cX5_handOver 21 = .ok (.iaload, 1) := by decide +kernel
theorem dX5_handOver_22 : decode cX5_handOver 22 = .ok (.invokevirtual 78, 3) := by decide +kernel
theorem dX5_handOver_25 : decode cX5_handOver 25 = .ok (.iinc 2 (-1), 3) := by decide +kernel
theorem dX5_handOver_28 : decode cX5_handOver 28 = .ok (.goto (-21), 3) := by decide +kernel
theorem dX5_handOver_31 : decode cX5_handOver 31 = .ok (.return_, 1) := by decide +kernel
theorem dX5_markKinds_0 : decode cX5_markKinds 0 = .ok (.iconst 0, 1) := by decide +kernel
theorem dX5_markKinds_1 : decode cX5_markKinds 1 = .ok (.istore_n 3, 1) := by decide +kernel
theorem dX5_markKinds_2 : decode cX5_markKinds 2 = .ok (.iload_n 3, 1) := by decide +kernel
theorem dX5_markKinds_3 : decode cX5_markKinds 3 = .ok (.iload_n 2, 1) := by decide +kernel
theorem dX5_markKinds_4 : decode cX5_markKinds 4 = .ok (.if_icmp .gt 24, 3) := by decide +kernel
theorem dX5_markKinds_7 : decode cX5_markKinds 7 = .ok (.aload_n 0, 1) := by decide +kernel
theorem dX5_markKinds_8 : decode cX5_markKinds 8 = .ok (.getfield 24, 3) := by decide +kernel
theorem dX5_markKinds_11 : decode cX5_markKinds 11 = .ok (.iload_n 1, 1) := by decide +kernel
theorem dX5_markKinds_12 : decode cX5_markKinds 12 = .ok (.iload_n 3, 1) := by decide +kernel
theorem dX5_markKinds_13 : decode cX5_markKinds 13 = .ok (.iadd, 1) := by decide +kernel
theorem dX5_markKinds_14 : decode cX5_markKinds 14 = .ok (.aload_n 0, 1) := by decide +kernel
theorem dX5_markKinds_15 : decode cX5_markKinds 15 = .ok (.iload_n 1, 1) := by decide +kernel
theorem dX5_markKinds_16 : decode cX5_markKinds 16 = .ok (.iload_n 3, 1) := by decide +kernel
theorem dX5_markKinds_17 : decode cX5_markKinds 17 = .ok (.iadd, 1) := by decide +kernel
theorem dX5_markKinds_18 : decode cX5_markKinds 18 = .ok (.invokevirtual 84, 3) := by decide +kernel
theorem dX5_markKinds_21 : decode cX5_markKinds 21 = .ok (.iastore, 1) := by decide +kernel
theorem dX5_markKinds_22 : decode cX5_markKinds 22 = .ok (.iinc 3 1, 3) := by decide +kernel
theorem dX5_markKinds_25 : decode cX5_markKinds 25 = .ok (.goto (-23), 3) := by decide +kernel
theorem dX5_markKinds_28 : decode cX5_markKinds 28 = .ok (.return_, 1) := by decide +kernel
theorem dX5_firstSameRow_0 : decode cX5_firstSameRow 0 = .ok (.iconst 0, 1) := by decide +kernel
theorem dX5_firstSameRow_1 : decode cX5_firstSameRow 1 = .ok (.istore_n 2, 1) := by decide +kernel
theorem dX5_firstSameRow_2 : decode cX5_firstSameRow 2 = .ok (.iload_n 2, 1) := by decide +kernel
theorem dX5_firstSameRow_3 : decode cX5_firstSameRow 3 = .ok (.iload_n 1, 1) := by decide +kernel
theorem dX5_firstSameRow_4 : decode cX5_firstSameRow 4 = .ok (.if_icmp .ge 30, 3) := by decide +kernel
theorem dX5_firstSameRow_7 : decode cX5_firstSameRow 7 = .ok (.aload_n 0, 1) := by decide +kernel
theorem dX5_firstSameRow_8 : decode cX5_firstSameRow 8 = .ok (.getfield 24, 3) := by decide +kernel
theorem dX5_firstSameRow_11 : decode cX5_firstSameRow 11 = .ok (.iload_n 2, 1) := by decide +kernel
theorem dX5_firstSameRow_12 : decode cX5_firstSameRow 12 = .ok (.iaload, 1) := by decide +kernel
theorem dX5_firstSameRow_13 : decode cX5_firstSameRow 13 = .ok (.iload_n 2, 1) := by decide +kernel
theorem dX5_firstSameRow_14 : decode cX5_firstSameRow 14 = .ok (.if_icmp .ne 14, 3) := by decide +kernel
theorem dX5_firstSameRow_17 : decode cX5_firstSameRow 17 = .ok (.aload_n 0, 1) := by decide +kernel
theorem dX5_firstSameRow_18 : decode cX5_firstSameRow 18 = .ok (.iload_n 2, 1) := by decide +kernel
theorem dX5_firstSameRow_19 : decode cX5_firstSameRow 19 = .ok (.iload_n 1, 1) := by decide +kernel
theorem dX5_firstSameRow_20 : decode cX5_firstSameRow 20 = .ok (.invokevirtual 88, 3) := by decide +kernel
theorem dX5_firstSameRow_23 : decode cX5_firstSameRow 23 = .ok (.ifCond .eq 5, 3) := by decide +kernel
theorem dX5_firstSameRow_26 : decode cX5_firstSameRow 26 = .ok (.iload_n 2, 1) := by decide +kernel
theorem dX5_firstSameRow_27 : decode cX5_firstSameRow 27 = .ok (.ireturn, 1) := by decide +kernel
theorem dX5_firstSameRow_28 : decode cX5_firstSameRow 28 = .ok (.iinc 2 1, 3) := by decide +kernel
theorem dX5_firstSameRow_31 : decode cX5_firstSameRow 31 = .ok (.goto (-29), 3) := by decide +kernel
theorem dX5_firstSameRow_34 : decode cX5_firstSameRow 34 = .ok (.iload_n 1, 1) := by decide +kernel
theorem dX5_firstSameRow_35 : decode cX5_firstSameRow 35 = .ok (.ireturn, 1) := by decide +kernel
theorem dX5_isSameRow_0 : decode cX5_isSameRow 0 = .ok (.iconst 0, 1) := by decide +kernel
theorem dX5_isSameRow_1 : decode cX5_isSameRow 1 = .ok (.istore_n 3, 1) := by decide +kernel
theorem dX5_isSameRow_2 : decode cX5_isSameRow 2 = .ok (.iload_n 3, 1) := by decide +kernel
theorem dX5_isSameRow_3 : decode cX5_isSameRow 3 = .ok (.aload_n 0, 1) := by decide +kernel
theorem dX5_isSameRow_4 : decode cX5_isSameRow 4 = .ok (.getfield 37, 3) := by decide +kernel
theorem dX5_isSameRow_7 : decode cX5_isSameRow 7 = .ok (.if_icmp .ge 34, 3) := by decide +kernel
theorem dX5_isSameRow_10 : decode cX5_isSameRow 10 = .ok (.aload_n 0, 1) := by decide +kernel
theorem dX5_isSameRow_11 : decode cX5_isSameRow 11 = .ok (.getfield 16, 3) := by decide +kernel
theorem dX5_isSameRow_14 : decode cX5_isSameRow 14 = .ok (.iload_n 1, 1) := by decide +kernel
theorem dX5_isSameRow_15 : decode cX5_isSameRow 15 = .ok (.iload_n 3, 1) := by decide +kernel
theorem dX5_isSameRow_16 : decode cX5_isSameRow 16 = .ok (.iadd, 1) := by decide +kernel
theorem dX5_isSameRow_17 : decode cX5_isSameRow 17 = .ok (.invokevirtual 92, 3) := by decide +kernel
theorem dX5_isSameRow_20 : decode cX5_isSameRow 20 = .ok (.aload_n 0, 1) := by decide +kernel
theorem dX5_isSameRow_21 : decode cX5_isSameRow 21 = .ok (.getfield 16, 3) := by decide +kernel
theorem dX5_isSameRow_24 : decode cX5_isSameRow 24 = .ok (.iload_n 2, 1) := by decide +kernel
theorem dX5_isSameRow_25 : decode cX5_isSameRow 25 = .ok (.iload_n 3, 1) := by decide +kernel
theorem dX5_isSameRow_26 : decode cX5_isSameRow 26 = .ok (.iadd, 1) := by decide +kernel
theorem dX5_isSameRow_27 : decode cX5_isSameRow 27 = .ok (.invokevirtual 92, 3) := by decide +kernel
theorem dX5_isSameRow_30 : decode cX5_isSameRow 30 = .ok (.if_icmp .eq 5, 3) := by decide +kernel
theorem dX5_isSameRow_33 : decode cX5_isSameRow 33 = .ok (.iconst 0, 1) := by decide +kernel
theorem dX5_isSameRow_34 : decode cX5_isSameRow 34 = .ok (.ireturn, 1) := by decide +kernel
theorem dX5_isSameRow_35 : decode cX5_isSameRow 35 = .ok (.iinc 3 1, 3) := by decide +kernel
theorem dX5_isSameRow_38 : decode cX5_isSameRow 38 = .ok (.goto (-36), 3) := by decide +kernel
theorem dX5_isSameRow_41 : decode cX5_isSameRow 41 = .ok (.iconst 1, 1) := by decide +kernel
theorem dX5_isSameRow_42 : decode cX5_isSameRow 42 = .ok (.ireturn, 1) := by decide +kernel
theorem dX5_isFreeRow_0 : decode cX5_isFreeRow 0 = .ok (.aload_n 0, 1) := by decide +kernel
theorem dX5_isFreeRow_1 : decode cX5_isFreeRow 1 = .ok (.getfield 24, 3) := by decide +kernel
theorem dX5_isFreeRow_4 : decode cX5_isFreeRow 4 = .ok (.iload_n 1, 1) := by decide +kernel
theorem dX5_isFreeRow_5 : decode cX5_isFreeRow 5 = .ok (.iaload, 1) := by decide +kernel
theorem dX5_isFreeRow_6 : decode cX5_isFreeRow 6 = .ok (.iconst (-1), 1) := by decide +kernel
theorem dX5_isFreeRow_7 : decode cX5_isFreeRow 7 = .ok (.if_icmp .ne 5, 3) := by decide +kernel
theorem dX5_isFreeRow_10 : decode cX5_isFreeRow 10 = .ok (.iconst 0, 1) := by decide +kernel
theorem dX5_isFreeRow_11 : decode cX5_isFreeRow 11 = .ok (.ireturn, 1) := by decide +kernel
theorem dX5_isFreeRow_12 : decode cX5_isFreeRow 12 = .ok (.iload_n 1, 1) := by decide +kernel
theorem dX5_isFreeRow_13 : decode cX5_isFreeRow 13 = .ok (.istore_n 2, 1) := by decide +kernel
theorem dX5_isFreeRow_14 : decode cX5_isFreeRow 14 = .ok (.iload_n 2, 1) := by decide +kernel
theorem dX5_isFreeRow_15 : decode cX5_isFreeRow 15 = .ok (.iload_n 1, 1) := by decide +kernel
theorem dX5_isFreeRow_16 : decode cX5_isFreeRow 16 = .ok (.aload_n 0, 1) := by decide +kernel
theorem dX5_isFreeRow_17 : decode cX5_isFreeRow 17 = .ok (.getfield 37, 3) := by decide +kernel
theorem dX5_isFreeRow_20 : decode cX5_isFreeRow 20 = .ok (.iadd, 1) := by decide +kernel
theorem dX5_isFreeRow_21 : decode cX5_isFreeRow 21 = .ok (.if_icmp .ge 27, 3) := by decide +kernel
theorem dX5_isFreeRow_24 : decode cX5_isFreeRow 24 = .ok (.iload_n 2, 1) := by decide +kernel
theorem dX5_isFreeRow_25 : decode cX5_isFreeRow 25 = .ok (.sipush 320, 3) := by decide +kernel
theorem dX5_isFreeRow_28 : decode cX5_isFreeRow 28 = .ok (.if_icmp .ge 20, 3) := by decide +kernel
theorem dX5_isFreeRow_31 : decode cX5_isFreeRow 31 = .ok (.aload_n 0, 1) := by decide +kernel
theorem dX5_isFreeRow_32 : decode cX5_isFreeRow 32 = .ok (.getfield 20, 3) := by decide +kernel
theorem dX5_isFreeRow_35 : decode cX5_isFreeRow 35 = .ok (.iload_n 2, 1) := by decide +kernel
theorem dX5_isFreeRow_36 : decode cX5_isFreeRow 36 = .ok (.baload, 1) := by decide +kernel
theorem dX5_isFreeRow_37 : decode cX5_isFreeRow 37 = .ok (.ifCond .eq 5, 3) := by decide +kernel
theorem dX5_isFreeRow_40 : decode cX5_isFreeRow 40 = .ok (.iconst 0, 1) := by decide +kernel
theorem dX5_isFreeRow_41 : decode cX5_isFreeRow 41 = .ok (.ireturn, 1) := by decide +kernel
theorem dX5_isFreeRow_42 : decode cX5_isFreeRow 42 = .ok (.iinc 2 1, 3) := by decide +kernel
theorem dX5_isFreeRow_45 : decode cX5_isFreeRow 45 = .ok (.goto (-31), 3) := by decide +kernel
theorem dX5_isFreeRow_48 : decode cX5_isFreeRow 48 = .ok (.iconst 1, 1) := by decide +kernel
theorem dX5_isFreeRow_49 : decode cX5_isFreeRow 49 = .ok (.ireturn, 1) := by decide +kernel
theorem dX5_countRows_0 : decode cX5_countRows 0 = .ok (.aload_n 0, 1) := by decide +kernel
theorem dX5_countRows_1 : decode cX5_countRows 1 = .ok (.getfield 28, 3) := by decide +kernel
theorem dX5_countRows_4 : decode cX5_countRows 4 = .ok (.iconst 0, 1) := by decide +kernel
theorem dX5_countRows_5 : decode cX5_countRows 5 = .ok (.invokestatic 51, 3) := by decide +kernel
theorem dX5_countRows_8 : decode cX5_countRows 8 = .ok (.aload_n 0, 1) := by decide +kernel
theorem dX5_countRows_9 : decode cX5_countRows 9 = .ok (.getfield 31, 3) := by decide +kernel
theorem dX5_countRows_12 : decode cX5_countRows 12 = .ok (.iconst 0, 1) := by decide +kernel
theorem dX5_countRows_13 : decode cX5_countRows 13 = .ok (.invokestatic 51, 3) := by decide +kernel
theorem dX5_countRows_16 : decode cX5_countRows 16 = .ok (.iconst 0, 1) := by decide +kernel
theorem dX5_countRows_17 : decode cX5_countRows 17 = .ok (.istore_n 1, 1) := by decide +kernel
theorem dX5_countRows_18 : decode cX5_countRows 18 = .ok (.iload_n 1, 1) := by decide +kernel
theorem dX5_countRows_19 : decode cX5_countRows 19 = .ok (.sipush 320, 3) := by decide +kernel
theorem dX5_countRows_22 : decode cX5_countRows 22 = .ok (.if_icmp .ge 64, 3) := by decide +kernel
theorem dX5_countRows_25 : decode cX5_countRows 25 = .ok (.aload_n 0, 1) := by decide +kernel
theorem dX5_countRows_26 : decode cX5_countRows 26 = .ok (.iload_n 1, 1) := by decide +kernel
theorem dX5_countRows_27 : decode cX5_countRows 27 = .ok (.invokevirtual 96, 3) := by decide +kernel
theorem dX5_countRows_30 : decode cX5_countRows 30 = .ok (.ifCond .eq 50, 3) := by decide +kernel
theorem dX5_countRows_33 : decode cX5_countRows 33 = .ok (.iload_n 1, 1) := by decide +kernel
theorem dX5_countRows_34 : decode cX5_countRows 34 = .ok (.aload_n 0, 1) := by decide +kernel
theorem dX5_countRows_35 : decode cX5_countRows 35 = .ok (.getfield 31, 3) := by decide +kernel
theorem dX5_countRows_38 : decode cX5_countRows 38 = .ok (.aload_n 0, 1) := by decide +kernel
theorem dX5_countRows_39 : decode cX5_countRows 39 = .ok (.getfield 24, 3) := by decide +kernel
theorem dX5_countRows_42 : decode cX5_countRows 42 = .ok (.iload_n 1, 1) := by decide +kernel
theorem dX5_countRows_43 : decode cX5_countRows 43 = .ok (.iaload, 1) := by decide +kernel
theorem dX5_countRows_44 : decode cX5_countRows 44 = .ok (.iaload, 1) := by decide +kernel
theorem dX5_countRows_45 : decode cX5_countRows 45 = .ok (.if_icmp .lt 35, 3) := by decide +kernel
theorem dX5_countRows_48 : decode cX5_countRows 48 = .ok (.aload_n 0, 1) := by decide +kernel
theorem dX5_countRows_49 : decode cX5_countRows 49 = .ok (.getfield 28, 3) := by decide +kernel
theorem dX5_countRows_52 : decode cX5_countRows 52 = .ok (.aload_n 0, 1) := by decide +kernel
theorem dX5_countRows_53 : decode cX5_countRows 53 = .ok (.getfield 24, 3) := by decide +kernel
theorem dX5_countRows_56 : decode cX5_countRows 56 = .ok (.iload_n 1, 1) := by decide +kernel
theorem dX5_countRows_57 : decode cX5_countRows 57 = .ok (.iaload, 1) := by decide +kernel
theorem dX5_countRows_58 : decode cX5_countRows 58 = .ok (.dup2, 1) := by decide +kernel
theorem dX5_countRows_59 : decode cX5_countRows 59 = .ok (.iaload, 1) := by decide +kernel
theorem dX5_countRows_60 : decode cX5_countRows 60 = .ok (.iconst 1, 1) := by decide +kernel
theorem dX5_countRows_61 : decode cX5_countRows 61 = .ok (.iadd, 1) := by decide +kernel
theorem dX5_countRows_62 : decode cX5_countRows 62 = .ok (.iastore, 1) := by decide +kernel
theorem dX5_countRows_63 : decode cX5_countRows 63 = .ok (.aload_n 0, 1) := by decide +kernel
theorem dX5_countRows_64 : decode cX5_countRows 64 = .ok (.getfield 31, 3) := by decide +kernel
theorem dX5_countRows_67 : decode cX5_countRows 67 = .ok (.aload_n 0, 1) := by decide +kernel
theorem dX5_countRows_68 : decode cX5_countRows 68 = .ok (.getfield 24, 3) := by decide +kernel
theorem dX5_countRows_71 : decode cX5_countRows 71 = .ok (.iload_n 1, 1) := by decide +kernel
theorem dX5_countRows_72 : decode cX5_countRows 72 = .ok (.iaload, 1) := by decide +kernel
theorem dX5_countRows_73 : decode cX5_countRows 73 = .ok (.iload_n 1, 1) := by decide +kernel
theorem dX5_countRows_74 : decode cX5_countRows 74 = .ok (.aload_n 0, 1) := by decide +kernel
theorem dX5_countRows_75 : decode cX5_countRows 75 = .ok (.getfield 37, 3) := by decide +kernel
theorem dX5_countRows_78 : decode cX5_countRows 78 = .ok (.iadd, 1) := by decide +kernel
theorem dX5_countRows_79 : decode cX5_countRows 79 = .ok (.iastore, 1) := by decide +kernel
theorem dX5_countRows_80 : decode cX5_countRows 80 = .ok (.iinc 1 1, 3) := by decide +kernel
theorem dX5_countRows_83 : decode cX5_countRows 83 = .ok (.goto (-65), 3) := by decide +kernel
theorem dX5_countRows_86 : decode cX5_countRows 86 = .ok (.return_, 1) := by decide +kernel
theorem dX5_placeOfMost_0 : decode cX5_placeOfMost 0 = .ok (.iconst (-1), 1) := by decide +kernel
theorem dX5_placeOfMost_1 : decode cX5_placeOfMost 1 = .ok (.istore_n 1, 1) := by decide +kernel
theorem dX5_placeOfMost_2 : decode cX5_placeOfMost 2 = .ok (.iconst 0, 1) := by decide +kernel
theorem dX5_placeOfMost_3 : decode cX5_placeOfMost 3 = .ok (.istore_n 2, 1) := by decide +kernel
theorem dX5_placeOfMost_4 : decode cX5_placeOfMost 4 = .ok (.iconst 0, 1) := by decide +kernel
theorem dX5_placeOfMost_5 : decode cX5_placeOfMost 5 = .ok (.istore_n 3, 1) := by decide +kernel
theorem dX5_placeOfMost_6 : decode cX5_placeOfMost 6 = .ok (.iload_n 3, 1) := by decide +kernel
theorem dX5_placeOfMost_7 : decode cX5_placeOfMost 7 = .ok (.sipush 320, 3) := by decide +kernel
theorem dX5_placeOfMost_10 : decode cX5_placeOfMost 10 = .ok (.if_icmp .ge 56, 3) := by decide +kernel
theorem dX5_placeOfMost_13 : decode cX5_placeOfMost 13 = .ok (.aload_n 0, 1) := by decide +kernel
theorem dX5_placeOfMost_14 : decode cX5_placeOfMost 14 = .ok (.getfield 24, 3) := by decide +kernel
theorem dX5_placeOfMost_17 : decode cX5_placeOfMost 17 = .ok (.iload_n 3, 1) := by decide +kernel
theorem dX5_placeOfMost_18 : decode cX5_placeOfMost 18 = .ok (.iaload, 1) := by decide +kernel
theorem dX5_placeOfMost_19 : decode cX5_placeOfMost 19 = .ok (.iconst (-1), 1) := by decide +kernel
theorem dX5_placeOfMost_20 : decode cX5_placeOfMost 20 = .ok (.if_icmp .eq 40, 3) := by decide +kernel
theorem dX5_placeOfMost_23 : decode cX5_placeOfMost 23 = .ok (.aload_n 0, 1) := by decide +kernel
theorem dX5_placeOfMost_24 : decode cX5_placeOfMost 24 = .ok (.getfield 28, 3) := by decide +kernel
theorem dX5_placeOfMost_27 : decode cX5_placeOfMost 27 = .ok (.aload_n 0, 1) := by decide +kernel
theorem dX5_placeOfMost_28 : decode cX5_placeOfMost 28 = .ok (.getfield 24, 3) := by decide +kernel
theorem dX5_placeOfMost_31 : decode cX5_placeOfMost 31 = .ok (.iload_n 3, 1) := by decide +kernel
theorem dX5_placeOfMost_32 : decode cX5_placeOfMost 32 = .ok (.iaload, 1) := by decide +kernel
theorem dX5_placeOfMost_33 : decode cX5_placeOfMost 33 = .ok (.iaload, 1) := by decide +kernel
theorem dX5_placeOfMost_34 : decode cX5_placeOfMost 34 = .ok (.iload_n 2, 1) := by decide +kernel
theorem dX5_placeOfMost_35 : decode cX5_placeOfMost 35 = .ok (.if_icmp .le 25, 3) := by decide +kernel
theorem dX5_placeOfMost_38 : decode cX5_placeOfMost 38 = .ok (.aload_n 0, 1) := by decide +kernel
theorem dX5_placeOfMost_39 : decode cX5_placeOfMost 39 = .ok (.iload_n 3, 1) := by decide +kernel
theorem dX5_placeOfMost_40 : decode cX5_placeOfMost 40 = .ok (.invokevirtual 96, 3) := by decide +kernel
theorem dX5_placeOfMost_43 : decode cX5_placeOfMost 43 = .ok (.ifCond .eq 17, 3) := by decide +kernel
theorem dX5_placeOfMost_46 : decode cX5_placeOfMost 46 = .ok (.iload_n 3, 1) := by decide +kernel
theorem dX5_placeOfMost_47 : decode cX5_placeOfMost 47 = .ok (.istore_n 1, 1) := by decide +kernel
theorem dX5_placeOfMost_48 : decode cX5_placeOfMost 48 = .ok (.aload_n 0, 1) := by decide +kernel
theorem dX5_placeOfMost_49 : decode cX5_placeOfMost 49 = .ok (.getfield 28, 3) := by decide +kernel
theorem dX5_placeOfMost_52 : decode cX5_placeOfMost 52 = .ok (.aload_n 0, 1) := by decide +kernel
theorem dX5_placeOfMost_53 : decode cX5_placeOfMost 53 = .ok (.getfield 24, 3) := by decide +kernel
theorem dX5_placeOfMost_56 : decode cX5_placeOfMost 56 = .ok (.iload_n 3, 1) := by decide +kernel
theorem dX5_placeOfMost_57 : decode cX5_placeOfMost 57 = .ok (.iaload, 1) := by decide +kernel
theorem dX5_placeOfMost_58 : decode cX5_placeOfMost 58 = .ok (.iaload, 1) := by decide +kernel
theorem dX5_placeOfMost_59 : decode cX5_placeOfMost 59 = .ok (.istore_n 2, 1) := by decide +kernel
theorem dX5_placeOfMost_60 : decode cX5_placeOfMost 60 = .ok (.iinc 3 1, 3) := by decide +kernel
theorem dX5_placeOfMost_63 : decode cX5_placeOfMost 63 = .ok (.goto (-57), 3) := by decide +kernel
theorem dX5_placeOfMost_66 : decode cX5_placeOfMost 66 = .ok (.iload_n 1, 1) := by decide +kernel
theorem dX5_placeOfMost_67 : decode cX5_placeOfMost 67 = .ok (.ireturn, 1) := by decide +kernel
theorem dX5_cover_0 : decode cX5_cover 0 = .ok (.iconst 0, 1) := by decide +kernel
theorem dX5_cover_1 : decode cX5_cover 1 = .ok (.istore_n 2, 1) := by decide +kernel
theorem dX5_cover_2 : decode cX5_cover 2 = .ok (.iload_n 2, 1) := by decide +kernel
theorem dX5_cover_3 : decode cX5_cover 3 = .ok (.sipush 320, 3) := by decide +kernel
theorem dX5_cover_6 : decode cX5_cover 6 = .ok (.if_icmp .ge 39, 3) := by decide +kernel
theorem dX5_cover_9 : decode cX5_cover 9 = .ok (.aload_n 0, 1) := by decide +kernel
theorem dX5_cover_10 : decode cX5_cover 10 = .ok (.getfield 24, 3) := by decide +kernel
theorem dX5_cover_13 : decode cX5_cover 13 = .ok (.iload_n 2, 1) := by decide +kernel
theorem dX5_cover_14 : decode cX5_cover 14 = .ok (.iaload, 1) := by decide +kernel
theorem dX5_cover_15 : decode cX5_cover 15 = .ok (.iload_n 1, 1) := by decide +kernel
theorem dX5_cover_16 : decode cX5_cover 16 = .ok (.if_icmp .ne 23, 3) := by decide +kernel
theorem dX5_cover_19 : decode cX5_cover 19 = .ok (.aload_n 0, 1) := by decide +kernel
theorem dX5_cover_20 : decode cX5_cover 20 = .ok (.iload_n 2, 1) := by decide +kernel
theorem dX5_cover_21 : decode cX5_cover 21 = .ok (.invokevirtual 96, 3) := by decide +kernel
theorem dX5_cover_24 : decode cX5_cover 24 = .ok (.ifCond .eq 15, 3) := by decide +kernel
theorem dX5_cover_27 : decode cX5_cover 27 = .ok (.aload_n 0, 1) := by decide +kernel
theorem dX5_cover_28 : decode cX5_cover 28 = .ok (.iload_n 2, 1) := by decide +kernel
theorem dX5_cover_29 : decode cX5_cover 29 = .ok (.iload_n 2, 1) := by decide +kernel
theorem dX5_cover_30 : decode cX5_cover 30 = .ok (.aload_n 0, 1) := by decide +kernel
theorem dX5_cover_31 : decode cX5_cover 31 = .ok (.getfield 37, 3) := by decide +kernel
theorem dX5_cover_34 : decode cX5_cover 34 = .ok (.iadd, 1) := by decide +kernel
theorem dX5_cover_35 : decode cX5_cover 35 = .ok (.iconst 1, 1) := by decide +kernel
theorem dX5_cover_36 : decode cX5_cover 36 = .ok (.invokevirtual 47, 3) := by decide +kernel
theorem dX5_cover_39 : decode cX5_cover 39 = .ok (.iinc 2 1, 3) := by decide +kernel
theorem dX5_cover_42 : decode cX5_cover 42 = .ok (.goto (-40), 3) := by decide +kernel
theorem dX5_cover_45 : decode cX5_cover 45 = .ok (.return_, 1) := by decide +kernel
theorem dX5_coverFrom_0 : decode cX5_coverFrom 0 = .ok (.iload_n 1, 1) := by decide +kernel
theorem dX5_coverFrom_1 : decode cX5_coverFrom 1 = .ok (.istore 4, 2) := by decide +kernel
theorem dX5_coverFrom_3 : decode cX5_coverFrom 3 = .ok (.iload 4, 2) := by decide +kernel
theorem dX5_coverFrom_5 : decode cX5_coverFrom 5 = .ok (.iload_n 2, 1) := by decide +kernel
theorem dX5_coverFrom_6 : decode cX5_coverFrom 6 = .ok (.if_icmp .ge 25, 3) := by decide +kernel
theorem dX5_coverFrom_9 : decode cX5_coverFrom 9 = .ok (.iload 4, 2) := by decide +kernel
theorem dX5_coverFrom_11 : decode cX5_coverFrom 11 = .ok (.sipush 320, 3) := by decide +kernel
theorem dX5_coverFrom_14 : decode cX5_coverFrom 14 = .ok (.if_icmp .ge 17, 3) := by decide +kernel
theorem dX5_coverFrom_17 : decode cX5_coverFrom 17 = .ok (.aload_n 0, 1) := by decide +kernel
theorem dX5_coverFrom_18 : decode cX5_coverFrom 18 = .ok (.getfield 20, 3) := by decide +kernel
theorem dX5_coverFrom_21 : decode cX5_coverFrom 21 = .ok (.iload 4, 2) := by decide +kernel
theorem dX5_coverFrom_23 : decode cX5_coverFrom 23 = .ok (.iload_n 3, 1) := by decide +kernel
theorem dX5_coverFrom_24 : decode cX5_coverFrom 24 = .ok (.bastore, 1) := by decide +kernel
theorem dX5_coverFrom_25 : decode cX5_coverFrom 25 = .ok (.iinc 4 1, 3) := by decide +kernel
theorem dX5_coverFrom_28 : decode cX5_coverFrom 28 = .ok (.goto (-25), 3) := by decide +kernel
theorem dX5_coverFrom_31 : decode cX5_coverFrom 31 = .ok (.return_, 1) := by decide +kernel
