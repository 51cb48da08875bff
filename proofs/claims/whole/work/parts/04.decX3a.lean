theorem dX3_init_0 : decode cX3_init 0 = .ok (.aload_n 0, 1) := by decide +kernel
theorem dX3_init_1 : decode cX3_init 1 = .ok (.invokespecial 3, 3) := by decide +kernel
theorem dX3_init_4 : decode cX3_init 4 = .ok (.aload_n 0, 1) := by decide +kernel
theorem dX3_init_5 : decode cX3_init 5 = .ok (.sipush 280, 3) := by decide +kernel
theorem dX3_init_8 : decode cX3_init 8 = .ok (.newarray .byte, 2) := by decide +kernel
theorem dX3_init_10 : decode cX3_init 10 = .ok (.putfield 9, 3) := by decide +kernel
theorem dX3_init_13 : decode cX3_init 13 = .ok (.aload_n 0, 1) := by decide +kernel
theorem dX3_init_14 : decode cX3_init 14 = .ok (.sipush 280, 3) := by decide +kernel
theorem dX3_init_17 : decode cX3_init 17 = .ok (.newarray .int, 2) := by decide +kernel
theorem dX3_init_19 : decode cX3_init 19 = .ok (.putfield 15, 3) := by decide +kernel
theorem dX3_init_22 : decode cX3_init 22 = .ok (.aload_n 0, 1) := by decide +kernel
theorem dX3_init_23 : decode cX3_init 23 = .ok (.sipush 256, 3) := by decide +kernel
theorem dX3_init_26 : decode cX3_init 26 = .ok (.newarray .int, 2) := by decide +kernel
theorem dX3_init_28 : decode cX3_init 28 = .ok (.putfield 19, 3) := by decide +kernel
theorem dX3_init_31 : decode cX3_init 31 = .ok (.aload_n 0, 1) := by decide +kernel
theorem dX3_init_32 : decode cX3_init 32 = .ok (.sipush 201, 3) := by decide +kernel
theorem dX3_init_35 : decode cX3_init 35 = .ok (.newarray .int, 2) := by decide +kernel
theorem dX3_init_37 : decode cX3_init 37 = .ok (.putfield 22, 3) := by decide +kernel
theorem dX3_init_40 : decode cX3_init 40 = .ok (.aload_n 0, 1) := by decide +kernel
theorem dX3_init_41 : decode cX3_init 41 = .ok (.sipush 200, 3) := by decide +kernel
theorem dX3_init_44 : decode cX3_init 44 = .ok (.newarray .int, 2) := by decide +kernel
theorem dX3_init_46 : decode cX3_init 46 = .ok (.putfield 25, 3) := by decide +kernel
theorem dX3_init_49 : decode cX3_init 49 = .ok (.return_, 1) := by decide +kernel
theorem dX3_measure_0 : decode cX3_measure 0 = .ok (.aload_n 0, 1) := by decide +kernel
theorem dX3_measure_1 : decode cX3_measure 1 = .ok (.aload_n 2, 1) := by decide +kernel
theorem dX3_measure_2 : decode cX3_measure 2 = .ok (.aload_n 0, 1) := by decide +kernel
theorem dX3_measure_3 : decode cX3_measure 3 = .ok (.getfield 9, 3) := by decide +kernel
theorem dX3_measure_6 : decode cX3_measure 6 = .ok (.iconst 0, 1) := by decide +kernel
theorem dX3_measure_7 : decode cX3_measure 7 = .ok (.invokevirtual 28, 3) := by decide +kernel
theorem dX3_measure_10 : decode cX3_measure 10 = .ok (.putfield 34, 3) := by decide +kernel
theorem dX3_measure_13 : decode cX3_measure 13 = .ok (.aload_n 0, 1) := by decide +kernel
theorem dX3_measure_14 : decode cX3_measure 14 = .ok (.aload_n 1, 1) := by decide +kernel
theorem dX3_measure_15 : decode cX3_measure 15 = .ok (.aload_n 0, 1) := by decide +kernel
theorem dX3_measure_16 : decode cX3_measure 16 = .ok (.getfield 9, 3) := by decide +kernel
theorem dX3_measure_19 : decode cX3_measure 19 = .ok (.aload_n 0, 1) := by decide +kernel
theorem dX3_measure_20 : decode cX3_measure 20 = .ok (.getfield 34, 3) := by decide +kernel
theorem dX3_measure_23 : decode cX3_measure 23 = .ok (.invokevirtual 28, 3) := by decide +kernel
theorem dX3_measure_26 : decode cX3_measure 26 = .ok (.aload_n 0, 1) := by decide +kernel
theorem dX3_measure_27 : decode cX3_measure 27 = .ok (.getfield 34, 3) := by decide +kernel
theorem dX3_measure_30 : decode cX3_measure 30 = .ok (.isub, 1) := by decide +kernel
theorem dX3_measure_31 : decode cX3_measure 31 = .ok (.sipush 200, 3) := by decide +kernel
theorem dX3_measure_34 : decode cX3_measure 34 = .ok (.invokestatic 38, 3) := by decide +kernel
theorem dX3_measure_37 : decode cX3_measure 37 = .ok (.putfield 44, 3) := by decide +kernel
theorem dX3_measure_40 : decode cX3_measure 40 = .ok (.aload_n 0, 1) := by decide +kernel
theorem dX3_measure_41 : decode cX3_measure 41 = .ok (.invokevirtual 47, 3) := by decide +kernel
theorem dX3_measure_44 : decode cX3_measure 44 = .ok (.aload_n 0, 1) := by decide +kernel
theorem dX3_measure_45 : decode cX3_measure 45 = .ok (.getfield 22, 3) := by decide +kernel
theorem dX3_measure_48 : decode cX3_measure 48 = .ok (.aload_n 0, 1) := by decide +kernel
theorem dX3_measure_49 : decode cX3_measure 49 = .ok (.getfield 44, 3) := by decide +kernel
theorem dX3_measure_52 : decode cX3_measure 52 = .ok (.iconst 0, 1) := by decide +kernel
theorem dX3_measure_53 : decode cX3_measure 53 = .ok (.iastore, 1) := by decide +kernel
theorem dX3_measure_54 : decode cX3_measure 54 = .ok (.aload_n 0, 1) := by decide +kernel
theorem dX3_measure_55 : decode cX3_measure 55 = .ok (.getfield 44, 3) := by decide +kernel
theorem dX3_measure_58 : decode cX3_measure 58 = .ok (.iconst 1, 1) := by decide +kernel
theorem dX3_measure_59 : decode cX3_measure 59 = .ok (.isub, 1) := by decide +kernel
theorem dX3_measure_60 : decode cX3_measure 60 = .ok (.istore_n 3, 1) := by decide +kernel
theorem dX3_measure_61 : decode cX3_measure 61 = .ok (.iload_n 3, 1) := by decide +kernel
theorem dX3_measure_62 : decode cX3_measure 62 = .ok (.ifCond .lt 27, 3) := by decide +kernel
theorem dX3_measure_65 : decode cX3_measure 65 = .ok (.aload_n 0, 1) := by decide +kernel
theorem dX3_measure_66 : decode cX3_measure 66 = .ok (.getfield 22, 3) := by decide +kernel
theorem dX3_measure_69 : decode cX3_measure 69 = .ok (.iload_n 3, 1) := by decide +kernel
theorem dX3_measure_70 : decode cX3_measure 70 = .ok (.ldc 52, 2) := by decide +kernel
theorem dX3_measure_72 : decode cX3_measure 72 = .ok (.iastore, 1) := by decide +kernel
theorem dX3_measure_73 : decode cX3_measure 73 = .ok (.aload_n 0, 1) := by decide +kernel
theorem dX3_measure_74 : decode cX3_measure 74 = .ok (.iload_n 3, 1) := by decide +kernel
theorem dX3_measure_75 : decode cX3_measure 75 = .ok (.invokevirtual 53, 3) := by decide +kernel
theorem dX3_measure_78 : decode cX3_measure 78 = .ok (.aload_n 0, 1) := by decide +kernel
theorem dX3_measure_79 : decode cX3_measure 79 = .ok (.iload_n 3, 1) := by decide +kernel
theorem dX3_measure_80 : decode cX3_measure 80 = .ok (.invokevirtual 57, 3) := by decide +kernel
theorem dX3_measure_83 : decode cX3_measure 83 = .ok (.iinc 3 (-1), 3) := by decide +kernel
theorem dX3_measure_86 : decode cX3_measure 86 = .ok (.goto (-25), 3) := by decide +kernel
theorem dX3_measure_89 : decode cX3_measure 89 = .ok (.iconst 4, 1) := by decide +kernel
theorem dX3_measure_90 : decode cX3_measure 90 = .ok (.aload_n 0, 1) := by decide +kernel
theorem dX3_measure_91 : decode cX3_measure 91 = .ok (.getfield 22, 3) := by decide +kernel
theorem dX3_measure_94 : decode cX3_measure 94 = .ok (.iconst 0, 1) := by decide +kernel
theorem dX3_measure_95 : decode cX3_measure 95 = .ok (.iaload, 1) := by decide +kernel
theorem dX3_measure_96 : decode cX3_measure 96 = .ok (.iadd, 1) := by decide +kernel
theorem dX3_measure_97 : decode cX3_measure 97 = .ok (.ireturn, 1) := by decide +kernel
theorem dX3_write_0 : decode cX3_write 0 = .ok (.iconst 0, 1) := by decide +kernel
theorem dX3_write_1 : decode cX3_write 1 = .ok (.istore_n 2, 1) := by decide +kernel
theorem dX3_write_2 : decode cX3_write 2 = .ok (.iconst 0, 1) := by decide +kernel
theorem dX3_write_3 : decode cX3_write 3 = .ok (.istore_n 3, 1) := by decide +kernel
theorem dX3_write_4 : decode cX3_write 4 = .ok (.iload_n 3, 1) := by decide +kernel
theorem dX3_write_5 : decode cX3_write 5 = .ok (.sipush 200, 3) := by decide +kernel
theorem dX3_write_8 : decode cX3_write 8 = .ok (.if_icmp .ge 76, 3) := by decide +kernel
theorem dX3_write_11 : decode cX3_write 11 = .ok (.iload_n 2, 1) := by decide +kernel
theorem dX3_write_12 : decode cX3_write 12 = .ok (.aload_n 0, 1) := by decide +kernel
theorem dX3_write_13 : decode cX3_write 13 = .ok (.getfield 44, 3) := by decide +kernel
theorem dX3_write_16 : decode cX3_write 16 = .ok (.if_icmp .ge 68, 3) := by decide +kernel
theorem dX3_write_19 : decode cX3_write 19 = .ok (.aload_n 0, 1) := by decide +kernel
theorem dX3_write_20 : decode cX3_write 20 = .ok (.getfield 25, 3) := by decide +kernel
theorem dX3_write_23 : decode cX3_write 23 = .ok (.iload_n 2, 1) := by decide +kernel
theorem dX3_write_24 : decode cX3_write 24 = .ok (.iaload, 1) := by decide +kernel
theorem dX3_write_25 : decode cX3_write 25 = .ok (.istore 4, 2) := by decide +kernel
theorem dX3_write_27 : decode cX3_write 27 = .ok (.iload 4, 2) := by decide +kernel
theorem dX3_write_29 : decode cX3_write 29 = .ok (.ifCond .le 24, 3) := by decide +kernel
theorem dX3_write_32 : decode cX3_write 32 = .ok (.aload_n 1, 1) := by decide +kernel
theorem dX3_write_33 : decode cX3_write 33 = .ok (.iload 4, 2) := by decide +kernel
theorem dX3_write_35 : decode cX3_write 35 = .ok (.aload_n 0, 1) := by decide +kernel
theorem dX3_write_36 : decode cX3_write 36 = .ok (.aload_n 0, 1) := by decide +kernel
theorem dX3_write_37 : decode cX3_write 37 = .ok (.getfield 34, 3) := by decide +kernel
theorem dX3_write_40 : decode cX3_write 40 = .ok (.iload_n 2, 1) := by decide +kernel
theorem dX3_write_41 : decode cX3_write 41 = .ok (.iadd, 1) := by decide +kernel
theorem dX3_write_42 : decode cX3_write 42 = .ok (.iload 4, 2) := by decide +kernel
theorem dX3_write_44 : decode cX3_write 44 = .ok (.invokevirtual 60, 3) := by decide +kernel
theorem dX3_write_47 : decode cX3_write 47 = .ok (.invokevirtual 63, 3) := by decide +kernel
theorem dX3_write_50 : decode cX3_write 50 = .ok (.goto 20, 3) := by decide +kernel
theorem dX3_write_53 : decode cX3_write 53 = .ok (.aload_n 1, 1) := by decide +kernel
theorem dX3_write_54 : decode cX3_write 54 = .ok (.aload_n 0, 1) := by decide +kernel
theorem dX3_write_55 : decode cX3_write 55 = .ok (.getfield 9, 3) := by decide +kernel
theorem dX3_write_58 : decode cX3_write 58 = .ok (.aload_n 0, 1) := by decide +kernel
theorem dX3_write_59 : decode cX3_write 59 = .ok (.getfield 34, 3) := by decide +kernel
theorem dX3_write_62 : decode cX3_write 62 = .ok (.iload_n 2, 1) := by decide +kernel
theorem dX3_write_63 : decode cX3_write 63 = .ok (.iadd, 1) := by decide +kernel
theorem dX3_write_64 : decode cX3_write 64 = .ok (.iload 4, 2) := by decide +kernel
theorem dX3_write_66 : decode cX3_write 66 = .ok (.ineg, 1) := by decide +kernel
theorem dX3_write_67 : decode cX3_write 67 = .ok (.invokevirtual 69, 3) := by decide +kernel
theorem dX3_write_70 : decode cX3_write 70 = .ok (.iload_n 2, 1) := by decide +kernel
theorem dX3_write_71 : decode cX3_write 71 = .ok (.iload 4, 2) := by decide +kernel
theorem dX3_write_73 : decode cX3_write 73 = .ok (.invokestatic 73, 3) := by decide +kernel
theorem dX3_write_76 : decode cX3_write 76 = .ok (.iadd, 1) := by decide +kernel
theorem dX3_write_77 : decode cX3_write 77 = .ok (.istore_n 2, 1) := by decide +kernel
theorem dX3_write_78 : decode cX3_write 78 = .ok (.iinc 3 1, 3) := by decide +kernel
theorem dX3_write_81 : decode cX3_write 81 = .ok (.goto (-77), 3) := by decide +kernel
theorem dX3_write_84 : decode cX3_write 84 = .ok (.return_, 1) := by decide +kernel
theorem dX3_linkSameBytes_0 : decode cX3_linkSameBytes 0 = .ok (.aload_n 0, 1) := by decide +kernel
theorem dX3_linkSameBytes_1 : decode cX3_linkSameBytes 1 = .ok (.getfield 19, 3) := by decide +kernel
theorem dX3_linkSameBytes_4 : decode cX3_linkSameBytes 4 = .ok (.iconst (-1), 1) := by decide +kernel
theorem dX3_linkSameBytes_5 : decode cX3_linkSameBytes 5 = .ok (.invokestatic 77, 3) := by decide +kernel
theorem dX3_linkSameBytes_8 : decode cX3_linkSameBytes 8 = .ok (.iconst 0, 1) := by decide +kernel
theorem dX3_linkSameBytes_9 : decode cX3_linkSameBytes 9 = .ok (.istore_n 1, 1) := by decide +kernel
theorem dX3_linkSameBytes_10 : decode cX3_linkSameBytes 10 = .ok (.iload_n 1, 1) := by decide +kernel
theorem dX3_linkSameBytes_11 : decode cX3_linkSameBytes 11 = .ok (.aload_n 0, 1) := by decide +kernel
theorem dX3_linkSameBytes_12 : decode cX3_linkSameBytes 12 = .ok (.getfield 34, 3) := by decide +kernel
theorem dX3_linkSameBytes_15 : decode cX3_linkSameBytes 15 = .ok (.aload_n 0, 1) := by decide +kernel
theorem dX3_linkSameBytes_16 : decode cX3_linkSameBytes 16 = .ok (.getfield 44, 3) := by decide +kernel
theorem dX3_linkSameBytes_19 : decode cX3_linkSameBytes 19 = .ok (.iadd, 1) := by decide +kernel
theorem dX3_linkSameBytes_20 : decode cX3_linkSameBytes 20 = .ok (.if_icmp .ge 39, 3) := by decide +kernel
theorem dX3_linkSameBytes_23 : decode cX3_linkSameBytes 23 = .ok (.aload_n 0, 1) := by decide +kernel
theorem dX3_linkSameBytes_24 : decode cX3_linkSameBytes 24 = .ok (.getfield 9, 3) := by decide +kernel
theorem dX3_linkSameBytes_27 : decode cX3_linkSameBytes 27 = .ok (.iload_n 1, 1) := by decide +kernel
theorem dX3_linkSameBytes_28 : decode cX3_linkSameBytes 28 = .ok (.baload, 1) := by decide +kernel
theorem dX3_linkSameBytes_29 : decode cX3_linkSameBytes 29 = .ok (.sipush 255, 3) := by decide +kernel
theorem dX3_linkSameBytes_32 : decode cX3_linkSameBytes 32 = .ok (.iand, 1) := by decide +kernel
theorem dX3_linkSameBytes_33 : decode cX3_linkSameBytes 33 = .ok (.istore_n 2, 1) := by decide +kernel
theorem dX3_linkSameBytes_34 : decode cX3_linkSameBytes 34 = .ok (.aload_n 0, 1) := by decide +kernel
theorem dX3_linkSameBytes_35 : decode cX3_linkSameBytes 35 = .ok (.getfield 15, 3) := by decide +kernel
theorem dX3_linkSameBytes_38 : decode cX3_linkSameBytes 38 = .ok (.iload_n 1, 1) := by decide +kernel
theorem dX3_linkSameBytes_39 : decode cX3_linkSameBytes 39 = .ok (.aload_n 0, 1) := by decide +kernel
theorem dX3_linkSameBytes_40 : decode cX3_linkSameBytes 40 = .ok (.getfield 19, 3) := by decide +kernel
theorem dX3_linkSameBytes_43 : decode cX3_linkSameBytes 43 = .ok (.iload_n 2, 1) := by decide +kernel
theorem dX3_linkSameBytes_44 : decode cX3_linkSameBytes 44 = .ok (.iaload, 1) := by decide +kernel
theorem dX3_linkSameBytes_45 : decode cX3_linkSameBytes 45 = .ok (.iastore, 1) := by decide +kernel
theorem dX3_linkSameBytes_46 : decode cX3_linkSameBytes 46 = .ok (.aload_n 0, 1) := by decide +kernel
theorem dX3_linkSameBytes_47 : decode cX3_linkSameBytes 47 = .ok (.getfield 19, 3) := by decide +kernel
theorem dX3_linkSameBytes_50 : decode cX3_linkSameBytes 50 = .ok (.iload_n 2, 1) := by decide +kernel
theorem dX3_linkSameBytes_51 : decode cX3_linkSameBytes 51 = .ok (.iload_n 1, 1) := by decide +kernel
theorem dX3_linkSameBytes_52 : decode cX3_linkSameBytes 52 = .ok (.iastore, 1) := by decide +kernel
theorem dX3_linkSameBytes_53 : decode cX3_linkSameBytes 53 = .ok (.iinc 1 1, 3) := by decide +kernel
theorem dX3_linkSameBytes_56 : decode cX3_linkSameBytes 56 = .ok (.goto (-46), 3) := by decide +kernel
theorem dX3_linkSameBytes_59 : decode cX3_linkSameBytes 59 = .ok (.return_, 1) := by decide +kernel
theorem dX3_tryMatches_0 : decode cX3_tryMatches 0 = .ok (.aload_n 0, 1) := by decide +kernel
theorem dX3_tryMatches_1 : decode cX3_tryMatches 1 = .ok (.iload_n 1, 1) := by decide +kernel
theorem dX3_tryMatches_2 : decode cX3_tryMatches 2 = .ok (.invokevirtual 83, 3) := by decide +kernel
theorem dX3_tryMatches_5 : decode cX3_tryMatches 5 = .ok (.istore_n 2, 1) := by decide +kernel
theorem dX3_tryMatches_6 : decode cX3_tryMatches 6 = .ok (.iload_n 2, 1) := by decide +kernel
theorem dX3_tryMatches_7 : decode cX3_tryMatches 7 = .ok (.iconst 3, 1) := by decide +kernel
theorem dX3_tryMatches_8 : decode cX3_tryMatches 8 = .ok (.if_icmp .lt 51, 3) := by decide +kernel
theorem dX3_tryMatches_11 : decode cX3_tryMatches 11 = .ok (.iconst 2, 1) := by decide +kernel
theorem dX3_tryMatches_12 : decode cX3_tryMatches 12 = .ok (.aload_n 0, 1) := by decide +kernel
theorem dX3_tryMatches_13 : decode cX3_tryMatches 13 = .ok (.getfield 22, 3) := by decide +kernel
theorem dX3_tryMatches_16 : decode cX3_tryMatches 16 = .ok (.iload_n 1, 1) := by decide +kernel
theorem dX3_tryMatches_17 : decode cX3_tryMatches 17 = .ok (.iload_n 2, 1) := by decide +kernel
theorem dX3_tryMatches_18 : decode cX3_tryMatches 18 = .ok (.iadd, 1) := by decide +kernel
theorem dX3_tryMatches_19 : decode cX3_tryMatches 19 = .ok (.iaload, 1) := by decide +kernel
theorem dX3_tryMatches_20 : decode cX3_tryMatches 20 = .ok (.iadd, 1) := by decide +kernel
theorem dX3_tryMatches_21 : decode cX3_tryMatches 21 = .ok (.aload_n 0, 1) := by decide +kernel
theorem dX3_tryMatches_22 : decode cX3_tryMatches 22 = .ok (.getfield 22, 3) := by decide +kernel
theorem dX3_tryMatches_25 : decode cX3_tryMatches 25 = .ok (.iload_n 1, 1) := by decide +kernel
theorem dX3_tryMatches_26 : decode cX3_tryMatches 26 = .ok (.iaload, 1) := by decide +kernel
theorem dX3_tryMatches_27 : decode cX3_tryMatches 27 = .ok (.if_icmp .ge 26, 3) := by decide +kernel
theorem dX3_tryMatches_30 : decode cX3_tryMatches 30 = .ok (.aload_n 0, 1) := by decide +kernel
theorem dX3_tryMatches_31 : decode cX3_tryMatches 31 = .ok (.getfield 22, 3) := by decide +kernel
theorem dX3_tryMatches_34 : decode cX3_tryMatches 34 = .ok (.iload_n 1, 1) := by decide +kernel
theorem dX3_tryMatches_35 : decode cX3_tryMatches 35 = .ok (.iconst 2, 1) := by decide +kernel
theorem dX3_tryMatches_36 : decode cX3_tryMatches 36 = .ok (.aload_n 0, 1) := by decide +kernel
theorem dX3_tryMatches_37 : decode cX3_tryMatches 37 = .ok (.getfield 22, 3) := by decide +kernel
theorem dX3_tryMatches_40 : decode cX3_tryMatches 40 = .ok (.iload_n 1, 1) := by decide +kernel
theorem dX3_tryMatches_41 : decode cX3_tryMatches 41 = .ok (.iload_n 2, 1) := by decide +kernel
theorem dX3_tryMatches_42 : decode cX3_tryMatches 42 = .ok (.iadd, 1) := by decide +kernel
theorem dX3_tryMatches_43 : decode cX3_tryMatches 43 = .ok (.iaload, 1) := by decide +kernel
theorem dX3_tryMatches_44 : decode cX3_tryMatches 44 = .ok (.iadd, 1) := by decide +kernel
theorem dX3_tryMatches_45 : decode cX3_tryMatches 45 = .ok (.iastore, 1) := by decide +kernel
theorem dX3_tryMatches_46 : decode cX3_tryMatches 46 = .ok (.aload_n 0, 1) := by decide +kernel
theorem dX3_tryMatches_47 : decode cX3_tryMatches 47 = .ok (.getfield 25, 3) := by decide +kernel
theorem dX3_tryMatches_50 : decode cX3_tryMatches 50 = .ok (.iload_n 1, 1) := by decide +kernel
theorem dX3_tryMatches_51 : decode cX3_tryMatches 51 = .ok (.iload_n 2, 1) := by decide +kernel
theorem dX3_tryMatches_52 : decode cX3_tryMatches 52 = .ok (.iastore, 1) := by decide +kernel
theorem dX3_tryMatches_53 : decode cX3_tryMatches 53 = .ok (.iinc 2 (-1), 3) := by decide +kernel
theorem dX3_tryMatches_56 : decode cX3_tryMatches 56 = .ok (.goto (-50), 3) := by decide +kernel
theorem dX3_tryMatches_59 : decode cX3_tryMatches 59 = .ok (.return_, 1) := by decide +kernel
theorem dX3_tryPlain_0 : decode cX3_tryPlain 0 = .ok (.bipush 32, 2) := by decide +kernel
theorem dX3_tryPlain_2 : decode cX3_tryPlain 2 = .ok (.aload_n 0, 1) := by decide +kernel
theorem dX3_tryPlain_3 : decode cX3_tryPlain 3 = .ok (.getfield 44, 3) := by decide +kernel
theorem dX3_tryPlain_6 : decode cX3_tryPlain 6 = .ok (.iload_n 1, 1) := by decide +kernel
theorem dX3_tryPlain_7 : decode cX3_tryPlain 7 = .ok (.isub, 1) := by decide +kernel
theorem dX3_tryPlain_8 : decode cX3_tryPlain 8 = .ok (.invokestatic 38, 3) := by decide +kernel
theorem dX3_tryPlain_11 : decode cX3_tryPlain 11 = .ok (.istore_n 2, 1) := by decide +kernel
theorem dX3_tryPlain_12 : decode cX3_tryPlain 12 = .ok (.iload_n 2, 1) := by decide +kernel
theorem dX3_tryPlain_13 : decode cX3_tryPlain 13 = .ok (.iconst 1, 1) := by decide +kernel
theorem dX3_tryPlain_14 : decode cX3_tryPlain 14 = .ok (.if_icmp .lt 56, 3) := by decide +kernel
theorem dX3_tryPlain_17 : decode cX3_tryPlain 17 = .ok (.iconst 1, 1) := by decide +kernel
theorem dX3_tryPlain_18 : decode cX3_tryPlain 18 = .ok (.iload_n 2, 1) := by decide +kernel
theorem dX3_tryPlain_19 : decode cX3_tryPlain 19 = .ok (.iadd, 1) := by decide +kernel
theorem dX3_tryPlain_20 : decode cX3_tryPlain 20 = .ok (.aload_n 0, 1) := by decide +kernel
theorem dX3_tryPlain_21 : decode cX3_tryPlain 21 = .ok (.getfield 22, 3) := by decide +kernel
theorem dX3_tryPlain_24 : decode cX3_tryPlain 24 = .ok (.iload_n 1, 1) := by decide +kernel
theorem dX3_tryPlain_25 : decode cX3_tryPlain 25 = .ok (.iload_n 2, 1) := by decide +kernel
theorem dX3_tryPlain_26 : decode cX3_tryPlain 26 = .ok (.iadd, 1) := by decide +kernel
theorem dX3_tryPlain_27 : decode cX3_tryPlain 27 = .ok (.iaload, 1) := by decide +kernel
theorem dX3_tryPlain_28 : decode cX3_tryPlain 28 = .ok (.iadd, 1) := by decide +kernel
theorem dX3_tryPlain_29 : decode cX3_tryPlain 29 = .ok (.aload_n 0, 1) := by decide +kernel
theorem dX3_tryPlain_30 : decode cX3_tryPlain 30 = .ok (.getfield 22, 3) := by decide +kernel
theorem dX3_tryPlain_33 : decode cX3_tryPlain 33 = .ok (.iload_n 1, 1) := by decide +kernel
theorem dX3_tryPlain_34 : decode cX3_tryPlain 34 = .ok (.iaload, 1) := by decide +kernel
theorem dX3_tryPlain_35 : decode cX3_tryPlain 35 = .ok (.if_icmp .ge 29, 3) := by decide +kernel
theorem dX3_tryPlain_38 : decode cX3_tryPlain 38 = .ok (.aload_n 0, 1) := by decide +kernel
theorem dX3_tryPlain_39 : decode cX3_tryPlain 39 = .ok (.getfield 22, 3) := by decide +kernel
theorem dX3_tryPlain_42 : decode cX3_tryPlain 42 = .ok (.iload_n 1, 1) := by decide +kernel
theorem dX3_tryPlain_43 : decode cX3_tryPlain 43 = .ok (.iconst 1, 1) := by decide +kernel
theorem dX3_tryPlain_44 : decode cX3_tryPlain 44 = .ok (.iload_n 2, 1) := by decide +kernel
theorem dX3_tryPlain_45 : decode cX3_tryPlain 45 = .ok (.iadd, 1) := by decide +kernel
theorem dX3_tryPlain_46 : decode cX3_tryPlain 46 = .ok (.aload_n 0, 1) := by decide +kernel
theorem dX3_tryPlain_47 : decode cX3_tryPlain 47 = .ok (.getfield 22, 3) := by decide +kernel
theorem dX3_tryPlain_50 : decode cX3_tryPlain 50 = .ok (.iload_n 1, 1) := by decide +kernel
theorem dX3_tryPlain_51 : decode cX3_tryPlain 51 = .ok (.iload_n 2, 1) := by decide +kernel
theorem dX3_tryPlain_52 : decode cX3_tryPlain 52 = .ok (.iadd, 1) := by decide +kernel
theorem dX3_tryPlain_53 : decode cX3_tryPlain 53 = .ok (.iaload, 1) := by decide +kernel
theorem dX3_tryPlain_54 : decode cX3_tryPlain 54 = .ok (.iadd, 1) := by decide +kernel
theorem dX3_tryPlain_55 : decode cX3_tryPlain 55 = .ok (.iastore, 1) := by decide +kernel
theorem dX3_tryPlain_56 : decode cX3_tryPlain 56 = .ok (.aload_n 0, 1) := by decide +kernel
theorem dX3_tryPlain_57 : decode cX3_tryPlain 57 = .ok (.getfield 25, 3) := by decide +kernel
theorem dX3_tryPlain_60 : decode cX3_tryPlain 60 = .ok (.iload_n 1, 1) := by decide +kernel
theorem dX3_tryPlain_61 : decode cX3_tryPlain 61 = .ok (.iload_n 2, 1) := by decide +kernel
theorem dX3_tryPlain_62 : decode cX3_tryPlain 62 = .ok (.ineg, 1) := by decide +kernel
theorem dX3_tryPlain_63 : decode cX3_tryPlain 63 = .ok (.iastore, 1) := by decide +kernel
theorem dX3_tryPlain_64 : decode cX3_tryPlain 64 = .ok (.iinc 2 (-1), 3) := by decide +kernel
theorem dX3_tryPlain_67 : decode cX3_tryPlain 67 = .ok (.goto (-55), 3) := by decide +kernel
theorem dX3_tryPlain_70 : decode cX3_tryPlain 70 = .ok (.return_, 1) := by decide +kernel
theorem dX3_longestMatch_0 : decode cX3_longestMatch 0 = .ok (.bipush 9, 2) := by decide +kernel
theorem dX3_longestMatch_2 : decode cX3_longestMatch 2 = .ok (.aload_n 0, 1) := by decide +kernel
theorem dX3_longestMatch_3 : decode cX3_longestMatch 3 = .ok (.getfield 44, 3) := by decide +kernel
theorem dX3_longestMatch_6 : decode cX3_longestMatch 6 = .ok (.iload_n 1, 1) := by decide +kernel
theorem dX3_longestMatch_7 : decode cX3_longestMatch 7 = .ok (.isub, 1) := by decide +kernel
theorem dX3_longestMatch_8 : decode cX3_longestMatch 8 = .ok (.invokestatic 38, 3) := by decide +kernel
theorem dX3_longestMatch_11 : decode cX3_longestMatch 11 = .ok (.istore_n 2, 1) := by decide +kernel
theorem dX3_longestMatch_12 : decode cX3_longestMatch 12 = .ok (.iconst 0, 1) := by decide +kernel
theorem dX3_longestMatch_13 : decode cX3_longestMatch 13 = .ok (.istore_n 3, 1) := by decide +kernel
theorem dX3_longestMatch_14 : decode cX3_longestMatch 14 = .ok (.aload_n 0, 1) := by decide +kernel
theorem dX3_longestMatch_15 : decode cX3_longestMatch 15 = .ok (.getfield 15, 3) := by decide +kernel
theorem dX3_longestMatch_18 : decode cX3_longestMatch 18 = .ok (.aload_n 0, 1) := by decide +kernel
theorem dX3_longestMatch_19 : decode cX3_longestMatch 19 = .ok (.getfield 34, 3) := by decide +kernel
theorem dX3_longestMatch_22 : decode cX3_longestMatch 22 = .ok (.iload_n 1, 1) := by decide +kernel
theorem dX3_longestMatch_23 : decode cX3_longestMatch 23 = .ok (.iadd, 1) := by decide +kernel
theorem dX3_longestMatch_24 : decode cX3_longestMatch 24 = .ok (.iaload, 1) := by decide +kernel
theorem dX3_longestMatch_25 : decode cX3_longestMatch 25 = .ok (.istore 4, 2) := by decide +kernel
theorem dX3_longestMatch_27 : decode cX3_longestMatch 27 = .ok (.iconst 0, 1) := by decide +kernel
theorem dX3_longestMatch_28 : decode cX3_longestMatch 28 = .ok (.istore 5, 2) := by decide +kernel
theorem dX3_longestMatch_30 : decode cX3_longestMatch 30 = .ok (.iload 5, 2) := by decide +kernel
theorem dX3_longestMatch_32 : decode cX3_longestMatch 32 = .ok (.aload_n 0, 1) := by decide +kernel
theorem dX3_longestMatch_33 : decode cX3_longestMatch 33 = .ok (.getfield 9, 3) := by decide +kernel
theorem dX3_longestMatch_36 : decode cX3_longestMatch 36 = .ok (.arraylength, 1) := by decide +kernel
theorem dX3_longestMatch_37 : decode cX3_longestMatch 37 = .ok (.if_icmp .ge 47, 3) := by decide +kernel
theorem dX3_longestMatch_40 : decode cX3_longestMatch 40 = .ok (.iload 4, 2) := by decide +kernel
theorem dX3_longestMatch_42 : decode cX3_longestMatch 42 = .ok (.iconst (-1), 1) := by decide +kernel
theorem dX3_longestMatch_43 : decode cX3_longestMatch 43 = .ok (.if_icmp .eq 41, 3) := by decide +kernel
theorem dX3_longestMatch_46 : decode cX3_longestMatch 46 = .ok (.iload_n 3, 1) := by decide +kernel
theorem dX3_longestMatch_47 : decode cX3_longestMatch 47 = .ok (.iload_n 2, 1) := by decide +kernel
theorem dX3_longestMatch_48 : decode cX3_longestMatch 48 = .ok (.if_icmp .ge 36, 3) := by decide +kernel
theorem dX3_longestMatch_51 : decode cX3_longestMatch 51 = .ok (.iload_n 3, 1) := by decide +kernel
theorem dX3_longestMatch_52 : decode cX3_longestMatch 52 = .ok (.aload_n 0, 1) := by decide +kernel
theorem dX3_longestMatch_53 : decode cX3_longestMatch 53 = .ok (.iload 4, 2) := by decide +kernel
theorem dX3_longestMatch_55 : decode cX3_longestMatch 55 = .ok (.aload_n 0, 1) := by decide +kernel
theorem dX3_longestMatch_56 : decode cX3_longestMatch 56 = .ok (.getfield 34, 3) := by decide +kernel
theorem dX3_longestMatch_59 : decode cX3_longestMatch 59 = .ok (.iload_n 1, 1) := by decide +kernel
theorem dX3_longestMatch_60 : decode cX3_longestMatch 60 = .ok (.iadd, 1) := by decide +kernel
theorem dX3_longestMatch_61 : decode cX3_longestMatch 61 = .ok (.iload_n 2, 1) := by decide +kernel
theorem dX3_longestMatch_62 : decode cX3_longestMatch 62 = .ok (.invokevirtual 86, 3) := by decide +kernel
theorem dX3_longestMatch_65 : decode cX3_longestMatch 65 = .ok (.invokestatic 90, 3) := by decide +kernel
theorem dX3_longestMatch_68 : decode cX3_longestMatch 68 = .ok (.istore_n 3, 1) := by decide +kernel
theorem dX3_longestMatch_69 : decode cX3_longestMatch 69 = .ok (.aload_n 0, 1) := by decide +kernel
theorem dX3_longestMatch_70 : decode cX3_longestMatch 70 = .ok (.getfield 15, 3) := by decide +kernel
theorem dX3_longestMatch_73 : decode cX3_longestMatch 73 = .ok (.iload 4, 2) := by decide +kernel
theorem dX3_longestMatch_75 : decode cX3_longestMatch 75 = .ok (.iaload, 1) := by decide +kernel
theorem dX3_longestMatch_76 : decode cX3_longestMatch 76 = .ok (.istore 4, 2) := by decide +kernel
theorem dX3_longestMatch_78 : decode cX3_longestMatch 78 = .ok (.iinc 5 1, 3) := by decide +kernel
theorem dX3_longestMatch_81 : decode cX3_longestMatch 81 = .ok (.goto (-51), 3) := by decide +kernel
theorem dX3_longestMatch_84 : decode cX3_longestMatch 84 = .ok (.iload_n 3, 1) := by decide +kernel
theorem dX3_longestMatch_85 : decode cX3_longestMatch 85 = .ok (.ireturn, 1) := by decide +kernel
theorem dX3_leastDistance_0 : decode cX3_leastDistance 0 = .ok (.aload_n 0, 1) := by decide +kernel
theorem dX3_leastDistance_1 : decode cX3_leastDistance 1 = .ok (.getfield 15, 3) := by decide +kernel
theorem dX3_leastDistance_4 : decode cX3_leastDistance 4 = .ok (.iload_n 1, 1) := by decide +kernel
theorem dX3_leastDistance_5 : decode cX3_leastDistance 5 = .ok (.iaload, 1) := by decide +kernel
theorem dX3_leastDistance_6 : decode cX3_leastDistance 6 = .ok (.istore_n 3, 1) := by decide +kernel
theorem dX3_leastDistance_7 : decode cX3_leastDistance 7 = .ok (.iconst 0, 1) := by decide +kernel
theorem dX3_leastDistance_8 : decode cX3_leastDistance 8 = .ok (.istore 4, 2) := by decide +kernel
theorem dX3_leastDistance_10 : decode cX3_leastDistance 10 = .ok (.iload 4, 2) := by decide +kernel
theorem dX3_leastDistance_12 : decode cX3_leastDistance 12 = .ok (.aload_n 0, 1) := by decide +kernel
theorem dX3_leastDistance_13 : decode cX3_leastDistance 13 = .ok (.getfield 9, 3) := by decide +kernel
theorem dX3_leastDistance_16 : decode cX3_leastDistance 16 = .ok (.arraylength, 1) := by decide +kernel
theorem dX3_leastDistance_17 : decode cX3_leastDistance 17 = .ok (.if_icmp .ge 36, 3) := by decide +kernel
theorem dX3_leastDistance_20 : decode cX3_leastDistance 20 = .ok (.iload_n 3, 1) := by decide +kernel
theorem dX3_leastDistance_21 : decode cX3_leastDistance 21 = .ok (.iconst (-1), 1) := by decide +kernel
theorem dX3_leastDistance_22 : decode cX3_leastDistance 22 = .ok (.if_icmp .eq 31, 3) := by decide +kernel
theorem dX3_leastDistance_25 : decode cX3_leastDistance 25 = .ok (.aload_n 0, 1) := by decide +kernel
theorem dX3_leastDistance_26 : decode cX3_leastDistance 26 = .ok (.iload_n 3, 1) := by decide +kernel
theorem dX3_leastDistance_27 : decode cX3_leastDistance 27 = .ok (.iload_n 1, 1) := by decide +kernel
theorem dX3_leastDistance_28 : decode cX3_leastDistance 28 = .ok (.iload_n 2, 1) := by decide +kernel
theorem dX3_leastDistance_29 : decode cX3_leastDistance 29 = .ok (.invokevirtual 86, 3) := by decide +kernel
theorem dX3_leastDistance_32 : decode cX3_leastDistance 32 = .ok (.iload_n 2, 1) := by decide +kernel
theorem dX3_leastDistance_33 : decode cX3_leastDistance 33 = .ok (.if_icmp .ne 7, 3) := by decide +kernel
theorem dX3_leastDistance_36 : decode cX3_leastDistance 36 = .ok (.iload_n 1, 1) := by decide +kernel
theorem dX3_leastDistance_37 : decode cX3_leastDistance 37 = .ok (.iload_n 3, 1) := by decide +kernel
theorem dX3_leastDistance_38 : decode cX3_leastDistance 38 = .ok (.isub, 1) := by decide +kernel
theorem dX3_leastDistance_39 : decode cX3_leastDistance 39 = .ok (.ireturn, 1) := by decide +kernel
theorem dX3_leastDistance_40 : decode cX3_leastDistance 40 = .ok (.aload_n 0, 1) := by decide +kernel
theorem dX3_leastDistance_41 : decode cX3_leastDistance 41 = .ok (.getfield 15, 3) := by decide +kernel
theorem dX3_leastDistance_44 : decode cX3_leastDistance 44 = .ok (.iload_n 3, 1) := by decide +kernel
theorem dX3_leastDistance_45 : decode cX3_leastDistance 45 = .ok (.iaload, 1) := by decide +kernel
theorem dX3_leastDistance_46 : decode cX3_leastDistance 46 = .ok (.istore_n 3, 1) := by decide +kernel
theorem dX3_leastDistance_47 : decode cX3_leastDistance 47 = .ok (.iinc 4 1, 3) := by decide +kernel
theorem dX3_leastDistance_50 : decode cX3_leastDistance 50 = .ok (.goto (-40), 3) := by decide +kernel
theorem dX3_leastDistance_53 : decode cX3_leastDistance 53 = .ok (.iconst 0, 1) := by decide +kernel
theorem dX3_leastDistance_54 : decode cX3_leastDistance 54 = .ok (.ireturn, 1) := by decide +kernel
theorem dX3_sameBytes_0 : decode cX3_sameBytes 0 = .ok (.iconst 0, 1) := by decide +kernel
theorem dX3_sameBytes_1 : decode cX3_sameBytes 1 = .ok (.istore 4, 2) := by decide +kernel
theorem dX3_sameBytes_3 : decode cX3_sameBytes 3 = .ok (.iload 4, 2) := by decide +kernel
theorem dX3_sameBytes_5 : decode cX3_sameBytes 5 = .ok (.iload_n 3, 1) := by decide +kernel
theorem dX3_sameBytes_6 : decode cX3_sameBytes 6 = .ok (.if_icmp .ge 30, 3) := by decide +kernel
theorem dX3_sameBytes_9 : decode cX3_sameBytes 9 = .ok (.aload_n 0, 1) := by decide +kernel
theorem dX3_sameBytes_10 : decode cX3_sameBytes 10 = .ok (.getfield 9, 3) := by decide +kernel
theorem dX3_sameBytes_13 : decode cX3_sameBytes 13 = .ok (.iload_n 1, 1) := by decide +kernel
theorem dX3_sameBytes_14 : decode cX3_sameBytes 14 = .ok (.iload 4, 2) := by decide +kernel
theorem dX3_sameBytes_16 : decode cX3_sameBytes 16 = .ok (.iadd, 1) := by decide +kernel
theorem dX3_sameBytes_17 : decode cX3_sameBytes 17 = .ok (.baload, 1) := by decide +kernel
theorem dX3_sameBytes_18 : decode cX3_sameBytes 18 = .ok (.aload_n 0, 1) := by decide +kernel
theorem dX3_sameBytes_19 : decode cX3_sameBytes 19 = .ok (.getfield 9, 3) := by decide +kernel
theorem dX3_sameBytes_22 : decode cX3_sameBytes 22 = .ok (.iload_n 2, 1) := by decide +kernel
theorem dX3_sameBytes_23 : decode cX3_sameBytes 23 = .ok (.iload 4, 2) := by decide +kernel
theorem dX3_sameBytes_25 : decode cX3_sameBytes 25 = .ok (.iadd, 1) := by decide +kernel
theorem dX3_sameBytes_26 : decode cX3_sameBytes 26 = .ok (.baload, 1) := by decide +kernel
theorem dX3_sameBytes_27 : decode cX3_sameBytes 27 = .ok (.if_icmp .ne 9, 3) := by decide +kernel
theorem dX3_sameBytes_30 : decode cX3_sameBytes 30 = .ok (.iinc 4 1, 3) := by decide +kernel
theorem dX3_sameBytes_33 : decode cX3_sameBytes 33 = .ok (.goto (-30), 3) := by decide +kernel
theorem dX3_sameBytes_36 : decode cX3_sameBytes 36 = .ok (.iload 4, 2) := by decide +kernel
theorem dX3_sameBytes_38 : decode cX3_sameBytes 38 = .ok (.ireturn, 1) := by decide +kernel
