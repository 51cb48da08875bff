theorem dX1_init_0 : decode cX1_init 0 = .ok (.aload_n 0, 1) := by decide +kernel
theorem dX1_init_1 : decode cX1_init 1 = .ok (.invokespecial 3, 3) := by decide +kernel
theorem dX1_init_4 : decode cX1_init 4 = .ok (.aload_n 0, 1) := by decide +kernel
theorem dX1_init_5 : decode cX1_init 5 = .ok (.new 9, 3) := by decide +kernel
theorem dX1_init_8 : decode cX1_init 8 = .ok (.dup, 1) := by decide +kernel
theorem dX1_init_9 : decode cX1_init 9 = .ok (.sipush 280, 3) := by decide +kernel
theorem dX1_init_12 : decode cX1_init 12 = .ok (.invokespecial 11, 3) := by decide +kernel
theorem dX1_init_15 : decode cX1_init 15 = .ok (.putfield 14, 3) := by decide +kernel
theorem dX1_init_18 : decode cX1_init 18 = .ok (.return_, 1) := by decide +kernel
theorem dX1_decode_0 : decode cX1_decode 0 = .ok (.aload_n 1, 1) := by decide +kernel
theorem dX1_decode_1 : decode cX1_decode 1 = .ok (.invokevirtual 20, 3) := by decide +kernel
theorem dX1_decode_4 : decode cX1_decode 4 = .ok (.ifCond .eq 7, 3) := by decide +kernel
theorem dX1_decode_7 : decode cX1_decode 7 = .ok (.aload_n 2, 1) := by decide +kernel
theorem dX1_decode_8 : decode cX1_decode 8 = .ok (.ifnonnull 5, 3) := by decide +kernel
theorem dX1_decode_11 : decode cX1_decode 11 = .ok (.iconst 0, 1) := by decide +kernel
theorem dX1_decode_12 : decode cX1_decode 12 = .ok (.ireturn, 1) := by decide +kernel
theorem dX1_decode_13 : decode cX1_decode 13 = .ok (.aload_n 0, 1) := by decide +kernel
theorem dX1_decode_14 : decode cX1_decode 14 = .ok (.aload_n 1, 1) := by decide +kernel
theorem dX1_decode_15 : decode cX1_decode 15 = .ok (.aload_n 2, 1) := by decide +kernel
theorem dX1_decode_16 : decode cX1_decode 16 = .ok (.invokevirtual 24, 3) := by decide +kernel
theorem dX1_decode_19 : decode cX1_decode 19 = .ok (.istore_n 3, 1) := by decide +kernel
theorem dX1_decode_20 : decode cX1_decode 20 = .ok (.iload_n 3, 1) := by decide +kernel
theorem dX1_decode_21 : decode cX1_decode 21 = .ok (.iconst (-1), 1) := by decide +kernel
theorem dX1_decode_22 : decode cX1_decode 22 = .ok (.if_icmp .eq 5, 3) := by decide +kernel
theorem dX1_decode_25 : decode cX1_decode 25 = .ok (.iload_n 3, 1) := by decide +kernel
theorem dX1_decode_26 : decode cX1_decode 26 = .ok (.ireturn, 1) := by decide +kernel
theorem dX1_decode_27 : decode cX1_decode 27 = .ok (.aload_n 0, 1) := by decide +kernel
theorem dX1_decode_28 : decode cX1_decode 28 = .ok (.getfield 14, 3) := by decide +kernel
theorem dX1_decode_31 : decode cX1_decode 31 = .ok (.aload_n 2, 1) := by decide +kernel
theorem dX1_decode_32 : decode cX1_decode 32 = .ok (.invokevirtual 28, 3) := by decide +kernel
theorem dX1_decode_35 : decode cX1_decode 35 = .ok (.invokevirtual 34, 3) := by decide +kernel
theorem dX1_decode_38 : decode cX1_decode 38 = .ok (.aload_n 0, 1) := by decide +kernel
theorem dX1_decode_39 : decode cX1_decode 39 = .ok (.aload_n 0, 1) := by decide +kernel
theorem dX1_decode_40 : decode cX1_decode 40 = .ok (.getfield 14, 3) := by decide +kernel
theorem dX1_decode_43 : decode cX1_decode 43 = .ok (.invokevirtual 20, 3) := by decide +kernel
theorem dX1_decode_46 : decode cX1_decode 46 = .ok (.putfield 38, 3) := by decide +kernel
theorem dX1_decode_49 : decode cX1_decode 49 = .ok (.aload_n 0, 1) := by decide +kernel
theorem dX1_decode_50 : decode cX1_decode 50 = .ok (.aload_n 1, 1) := by decide +kernel
theorem dX1_decode_51 : decode cX1_decode 51 = .ok (.iconst 3, 1) := by decide +kernel
theorem dX1_decode_52 : decode cX1_decode 52 = .ok (.invokevirtual 42, 3) := by decide +kernel
theorem dX1_decode_55 : decode cX1_decode 55 = .ok (.putfield 46, 3) := by decide +kernel
theorem dX1_decode_58 : decode cX1_decode 58 = .ok (.aload_n 0, 1) := by decide +kernel
theorem dX1_decode_59 : decode cX1_decode 59 = .ok (.iconst 4, 1) := by decide +kernel
theorem dX1_decode_60 : decode cX1_decode 60 = .ok (.putfield 49, 3) := by decide +kernel
theorem dX1_decode_63 : decode cX1_decode 63 = .ok (.iconst 0, 1) := by decide +kernel
theorem dX1_decode_64 : decode cX1_decode 64 = .ok (.istore 4, 2) := by decide +kernel
theorem dX1_decode_66 : decode cX1_decode 66 = .ok (.iload 4, 2) := by decide +kernel
theorem dX1_decode_68 : decode cX1_decode 68 = .ok (.sipush 200, 3) := by decide +kernel
theorem dX1_decode_71 : decode cX1_decode 71 = .ok (.if_icmp .ge 27, 3) := by decide +kernel
theorem dX1_decode_74 : decode cX1_decode 74 = .ok (.aload_n 0, 1) := by decide +kernel
theorem dX1_decode_75 : decode cX1_decode 75 = .ok (.getfield 46, 3) := by decide +kernel
theorem dX1_decode_78 : decode cX1_decode 78 = .ok (.ifCond .le 20, 3) := by decide +kernel
theorem dX1_decode_81 : decode cX1_decode 81 = .ok (.iload_n 3, 1) := by decide +kernel
theorem dX1_decode_82 : decode cX1_decode 82 = .ok (.iconst (-1), 1) := by decide +kernel
theorem dX1_decode_83 : decode cX1_decode 83 = .ok (.if_icmp .ne 15, 3) := by decide +kernel
theorem dX1_decode_86 : decode cX1_decode 86 = .ok (.aload_n 0, 1) := by decide +kernel
theorem dX1_decode_87 : decode cX1_decode 87 = .ok (.aload_n 1, 1) := by decide +kernel
theorem dX1_decode_88 : decode cX1_decode 88 = .ok (.invokevirtual 52, 3) := by decide +kernel
theorem dX1_decode_91 : decode cX1_decode 91 = .ok (.istore_n 3, 1) := by decide +kernel
theorem dX1_decode_92 : decode cX1_decode 92 = .ok (.iinc 4 1, 3) := by decide +kernel
theorem dX1_decode_95 : decode cX1_decode 95 = .ok (.goto (-29), 3) := by decide +kernel
theorem dX1_decode_98 : decode cX1_decode 98 = .ok (.iload_n 3, 1) := by decide +kernel
theorem dX1_decode_99 : decode cX1_decode 99 = .ok (.iconst (-1), 1) := by decide +kernel
theorem dX1_decode_100 : decode cX1_decode 100 = .ok (.if_icmp .ne 21, 3) := by decide +kernel
theorem dX1_decode_103 : decode cX1_decode 103 = .ok (.aload_n 0, 1) := by decide +kernel
theorem dX1_decode_104 : decode cX1_decode 104 = .ok (.getfield 49, 3) := by decide +kernel
theorem dX1_decode_107 : decode cX1_decode 107 = .ok (.aload_n 1, 1) := by decide +kernel
theorem dX1_decode_108 : decode cX1_decode 108 = .ok (.invokevirtual 20, 3) := by decide +kernel
theorem dX1_decode_111 : decode cX1_decode 111 = .ok (.if_icmp .ge 10, 3) := by decide +kernel
theorem dX1_decode_114 : decode cX1_decode 114 = .ok (.aload_n 0, 1) := by decide +kernel
theorem dX1_decode_115 : decode cX1_decode 115 = .ok (.getfield 49, 3) := by decide +kernel
theorem dX1_decode_118 : decode cX1_decode 118 = .ok (.goto 4, 3) := by decide +kernel
theorem dX1_decode_121 : decode cX1_decode 121 = .ok (.iload_n 3, 1) := by decide +kernel
theorem dX1_decode_122 : decode cX1_decode 122 = .ok (.ireturn, 1) := by decide +kernel
theorem dX1_handOver_0 : decode cX1_handOver 0 = .ok (.aload_n 1, 1) := by decide +kernel
theorem dX1_handOver_1 : decode cX1_handOver 1 = .ok (.invokevirtual 56, 3) := by decide +kernel
theorem dX1_handOver_4 : decode cX1_handOver 4 = .ok (.aload_n 1, 1) := by decide +kernel
theorem dX1_handOver_5 : decode cX1_handOver 5 = .ok (.aload_n 0, 1) := by decide +kernel
theorem dX1_handOver_6 : decode cX1_handOver 6 = .ok (.getfield 14, 3) := by decide +kernel
theorem dX1_handOver_9 : decode cX1_handOver 9 = .ok (.aload_n 0, 1) := by decide +kernel
theorem dX1_handOver_10 : decode cX1_handOver 10 = .ok (.getfield 38, 3) := by decide +kernel
theorem dX1_handOver_13 : decode cX1_handOver 13 = .ok (.aload_n 0, 1) := by decide +kernel
theorem dX1_handOver_14 : decode cX1_handOver 14 = .ok (.getfield 14, 3) := by decide +kernel
theorem dX1_handOver_17 : decode cX1_handOver 17 = .ok (.invokevirtual 20, 3) := by decide +kernel
theorem dX1_handOver_20 : decode cX1_handOver 20 = .ok (.aload_n 0, 1) := by decide +kernel
theorem dX1_handOver_21 : decode cX1_handOver 21 = .ok (.getfield 38, 3) := by decide +kernel
theorem dX1_handOver_24 : decode cX1_handOver 24 = .ok (.isub, 1) := by decide +kernel
theorem dX1_handOver_25 : decode cX1_handOver 25 = .ok (.invokevirtual 59, 3) := by decide +kernel
theorem dX1_handOver_28 : decode cX1_handOver 28 = .ok (.return_, 1) := by decide +kernel
theorem dX1_wrongInHeader_0 : decode cX1_wrongInHeader 0 = .ok (.aload_n 1, 1) := by decide +kernel
theorem dX1_wrongInHeader_1 : decode cX1_wrongInHeader 1 = .ok (.invokevirtual 20, 3) := by decide +kernel
theorem dX1_wrongInHeader_4 : decode cX1_wrongInHeader 4 = .ok (.iconst 3, 1) := by decide +kernel
theorem dX1_wrongInHeader_5 : decode cX1_wrongInHeader 5 = .ok (.if_icmp .ge 8, 3) := by decide +kernel
theorem dX1_wrongInHeader_8 : decode cX1_wrongInHeader 8 = .ok (.aload_n 1, 1) := by decide +kernel
theorem dX1_wrongInHeader_9 : decode cX1_wrongInHeader 9 = .ok (.invokevirtual 20, 3) := by decide +kernel
theorem dX1_wrongInHeader_12 : decode cX1_wrongInHeader 12 = .ok (.ireturn, 1) := by decide +kernel
theorem dX1_wrongInHeader_13 : decode cX1_wrongInHeader 13 = .ok (.sipush 256, 3) := by decide +kernel
theorem dX1_wrongInHeader_16 : decode cX1_wrongInHeader 16 = .ok (.aload_n 1, 1) := by decide +kernel
theorem dX1_wrongInHeader_17 : decode cX1_wrongInHeader 17 = .ok (.iconst 1, 1) := by decide +kernel
theorem dX1_wrongInHeader_18 : decode cX1_wrongInHeader 18 = .ok (.invokevirtual 42, 3) := by decide +kernel
theorem dX1_wrongInHeader_21 : decode cX1_wrongInHeader 21 = .ok (.imul, 1) := by decide +kernel
theorem dX1_wrongInHeader_22 : decode cX1_wrongInHeader 22 = .ok (.aload_n 1, 1) := by decide +kernel
theorem dX1_wrongInHeader_23 : decode cX1_wrongInHeader 23 = .ok (.iconst 2, 1) := by decide +kernel
theorem dX1_wrongInHeader_24 : decode cX1_wrongInHeader 24 = .ok (.invokevirtual 42, 3) := by decide +kernel
theorem dX1_wrongInHeader_27 : decode cX1_wrongInHeader 27 = .ok (.iadd, 1) := by decide +kernel
theorem dX1_wrongInHeader_28 : decode cX1_wrongInHeader 28 = .ok (.aload_n 2, 1) := by decide +kernel
theorem dX1_wrongInHeader_29 : decode cX1_wrongInHeader 29 = .ok (.invokevirtual 63, 3) := by decide +kernel
theorem dX1_wrongInHeader_32 : decode cX1_wrongInHeader 32 = .ok (.if_icmp .eq 5, 3) := by decide +kernel
theorem dX1_wrongInHeader_35 : decode cX1_wrongInHeader 35 = .ok (.iconst 1, 1) := by decide +kernel
theorem dX1_wrongInHeader_36 : decode cX1_wrongInHeader 36 = .ok (.ireturn, 1) := by decide +kernel
theorem dX1_wrongInHeader_37 : decode cX1_wrongInHeader 37 = .ok (.aload_n 1, 1) := by decide +kernel
theorem dX1_wrongInHeader_38 : decode cX1_wrongInHeader 38 = .ok (.invokevirtual 20, 3) := by decide +kernel
theorem dX1_wrongInHeader_41 : decode cX1_wrongInHeader 41 = .ok (.iconst 4, 1) := by decide +kernel
theorem dX1_wrongInHeader_42 : decode cX1_wrongInHeader 42 = .ok (.if_icmp .lt 14, 3) := by decide +kernel
theorem dX1_wrongInHeader_45 : decode cX1_wrongInHeader 45 = .ok (.aload_n 1, 1) := by decide +kernel
theorem dX1_wrongInHeader_46 : decode cX1_wrongInHeader 46 = .ok (.iconst 3, 1) := by decide +kernel
theorem dX1_wrongInHeader_47 : decode cX1_wrongInHeader 47 = .ok (.invokevirtual 42, 3) := by decide +kernel
theorem dX1_wrongInHeader_50 : decode cX1_wrongInHeader 50 = .ok (.sipush 200, 3) := by decide +kernel
theorem dX1_wrongInHeader_53 : decode cX1_wrongInHeader 53 = .ok (.if_icmp .le 7, 3) := by decide +kernel
theorem dX1_wrongInHeader_56 : decode cX1_wrongInHeader 56 = .ok (.iconst 3, 1) := by decide +kernel
theorem dX1_wrongInHeader_57 : decode cX1_wrongInHeader 57 = .ok (.goto 4, 3) := by decide +kernel
theorem dX1_wrongInHeader_60 : decode cX1_wrongInHeader 60 = .ok (.iconst (-1), 1) := by decide +kernel
theorem dX1_wrongInHeader_61 : decode cX1_wrongInHeader 61 = .ok (.ireturn, 1) := by decide +kernel
theorem dX1_readItem_0 : decode cX1_readItem 0 = .ok (.aload_n 0, 1) := by decide +kernel
theorem dX1_readItem_1 : decode cX1_readItem 1 = .ok (.getfield 49, 3) := by decide +kernel
theorem dX1_readItem_4 : decode cX1_readItem 4 = .ok (.aload_n 1, 1) := by decide +kernel
theorem dX1_readItem_5 : decode cX1_readItem 5 = .ok (.invokevirtual 20, 3) := by decide +kernel
theorem dX1_readItem_8 : decode cX1_readItem 8 = .ok (.if_icmp .lt 8, 3) := by decide +kernel
theorem dX1_readItem_11 : decode cX1_readItem 11 = .ok (.aload_n 1, 1) := by decide +kernel
theorem dX1_readItem_12 : decode cX1_readItem 12 = .ok (.invokevirtual 20, 3) := by decide +kernel
theorem dX1_readItem_15 : decode cX1_readItem 15 = .ok (.ireturn, 1) := by decide +kernel
theorem dX1_readItem_16 : decode cX1_readItem 16 = .ok (.aload_n 1, 1) := by decide +kernel
theorem dX1_readItem_17 : decode cX1_readItem 17 = .ok (.aload_n 0, 1) := by decide +kernel
theorem dX1_readItem_18 : decode cX1_readItem 18 = .ok (.getfield 49, 3) := by decide +kernel
theorem dX1_readItem_21 : decode cX1_readItem 21 = .ok (.invokevirtual 42, 3) := by decide +kernel
theorem dX1_readItem_24 : decode cX1_readItem 24 = .ok (.istore_n 2, 1) := by decide +kernel
theorem dX1_readItem_25 : decode cX1_readItem 25 = .ok (.iload_n 2, 1) := by decide +kernel
theorem dX1_readItem_26 : decode cX1_readItem 26 = .ok (.bipush 32, 2) := by decide +kernel
theorem dX1_readItem_28 : decode cX1_readItem 28 = .ok (.if_icmp .ge 9, 3) := by decide +kernel
theorem dX1_readItem_31 : decode cX1_readItem 31 = .ok (.iload_n 2, 1) := by decide +kernel
theorem dX1_readItem_32 : decode cX1_readItem 32 = .ok (.iconst 1, 1) := by decide +kernel
theorem dX1_readItem_33 : decode cX1_readItem 33 = .ok (.iadd, 1) := by decide +kernel
theorem dX1_readItem_34 : decode cX1_readItem 34 = .ok (.goto 9, 3) := by decide +kernel
theorem dX1_readItem_37 : decode cX1_readItem 37 = .ok (.iload_n 2, 1) := by decide +kernel
theorem dX1_readItem_38 : decode cX1_readItem 38 = .ok (.bipush 32, 2) := by decide +kernel
theorem dX1_readItem_40 : decode cX1_readItem 40 = .ok (.idiv, 1) := by decide +kernel
theorem dX1_readItem_41 : decode cX1_readItem 41 = .ok (.iconst 2, 1) := by decide +kernel
theorem dX1_readItem_42 : decode cX1_readItem 42 = .ok (.iadd, 1) := by decide +kernel
theorem dX1_readItem_43 : decode cX1_readItem 43 = .ok (.istore_n 3, 1) := by decide +kernel
theorem dX1_readItem_44 : decode cX1_readItem 44 = .ok (.iload_n 3, 1) := by decide +kernel
theorem dX1_readItem_45 : decode cX1_readItem 45 = .ok (.aload_n 0, 1) := by decide +kernel
theorem dX1_readItem_46 : decode cX1_readItem 46 = .ok (.getfield 46, 3) := by decide +kernel
theorem dX1_readItem_49 : decode cX1_readItem 49 = .ok (.if_icmp .le 8, 3) := by decide +kernel
theorem dX1_readItem_52 : decode cX1_readItem 52 = .ok (.aload_n 0, 1) := by decide +kernel
theorem dX1_readItem_53 : decode cX1_readItem 53 = .ok (.getfield 49, 3) := by decide +kernel
theorem dX1_readItem_56 : decode cX1_readItem 56 = .ok (.ireturn, 1) := by decide +kernel
theorem dX1_readItem_57 : decode cX1_readItem 57 = .ok (.aload_n 0, 1) := by decide +kernel
theorem dX1_readItem_58 : decode cX1_readItem 58 = .ok (.dup, 1) := by decide +kernel
theorem dX1_readItem_59 : decode cX1_readItem 59 = .ok (.getfield 46, 3) := by decide +kernel
theorem dX1_readItem_62 : decode cX1_readItem 62 = .ok (.iload_n 3, 1) := by decide +kernel
theorem dX1_readItem_63 : decode cX1_readItem 63 = .ok (.isub, 1) := by decide +kernel
theorem dX1_readItem_64 : decode cX1_readItem 64 = .ok (.putfield 46, 3) := by decide +kernel
theorem dX1_readItem_67 : decode cX1_readItem 67 = .ok (.iload_n 2, 1) := by decide +kernel
theorem dX1_readItem_68 : decode cX1_readItem 68 = .ok (.bipush 32, 2) := by decide +kernel
theorem dX1_readItem_70 : decode cX1_readItem 70 = .ok (.if_icmp .ge 12, 3) := by decide +kernel
theorem dX1_readItem_73 : decode cX1_readItem 73 = .ok (.aload_n 0, 1) := by decide +kernel
theorem dX1_readItem_74 : decode cX1_readItem 74 = .ok (.aload_n 1, 1) := by decide +kernel
theorem dX1_readItem_75 : decode cX1_readItem 75 = .ok (.iload_n 3, 1) := by decide +kernel
theorem dX1_readItem_76 : decode cX1_readItem 76 = .ok (.invokevirtual 66, 3) := by decide +kernel
theorem dX1_readItem_79 : decode cX1_readItem 79 = .ok (.goto 10, 3) := by decide +kernel
theorem dX1_readItem_82 : decode cX1_readItem 82 = .ok (.aload_n 0, 1) := by decide +kernel
theorem dX1_readItem_83 : decode cX1_readItem 83 = .ok (.aload_n 1, 1) := by decide +kernel
theorem dX1_readItem_84 : decode cX1_readItem 84 = .ok (.iload_n 2, 1) := by decide +kernel
theorem dX1_readItem_85 : decode cX1_readItem 85 = .ok (.iload_n 3, 1) := by decide +kernel
theorem dX1_readItem_86 : decode cX1_readItem 86 = .ok (.invokevirtual 70, 3) := by decide +kernel
theorem dX1_readItem_89 : decode cX1_readItem 89 = .ok (.ireturn, 1) := by decide +kernel
theorem dX1_readPlain_0 : decode cX1_readPlain 0 = .ok (.aload_n 0, 1) := by decide +kernel
theorem dX1_readPlain_1 : decode cX1_readPlain 1 = .ok (.getfield 49, 3) := by decide +kernel
theorem dX1_readPlain_4 : decode cX1_readPlain 4 = .ok (.iload_n 2, 1) := by decide +kernel
theorem dX1_readPlain_5 : decode cX1_readPlain 5 = .ok (.iadd, 1) := by decide +kernel
theorem dX1_readPlain_6 : decode cX1_readPlain 6 = .ok (.aload_n 1, 1) := by decide +kernel
theorem dX1_readPlain_7 : decode cX1_readPlain 7 = .ok (.invokevirtual 20, 3) := by decide +kernel
theorem dX1_readPlain_10 : decode cX1_readPlain 10 = .ok (.if_icmp .lt 8, 3) := by decide +kernel
theorem dX1_readPlain_13 : decode cX1_readPlain 13 = .ok (.aload_n 1, 1) := by decide +kernel
theorem dX1_readPlain_14 : decode cX1_readPlain 14 = .ok (.invokevirtual 20, 3) := by decide +kernel
theorem dX1_readPlain_17 : decode cX1_readPlain 17 = .ok (.ireturn, 1) := by decide +kernel
theorem dX1_readPlain_18 : decode cX1_readPlain 18 = .ok (.aload_n 0, 1) := by decide +kernel
theorem dX1_readPlain_19 : decode cX1_readPlain 19 = .ok (.getfield 14, 3) := by decide +kernel
theorem dX1_readPlain_22 : decode cX1_readPlain 22 = .ok (.aload_n 1, 1) := by decide +kernel
theorem dX1_readPlain_23 : decode cX1_readPlain 23 = .ok (.aload_n 0, 1) := by decide +kernel
theorem dX1_readPlain_24 : decode cX1_readPlain 24 = .ok (.getfield 49, 3) := by decide +kernel
theorem dX1_readPlain_27 : decode cX1_readPlain 27 = .ok (.iconst 1, 1) := by decide +kernel
theorem dX1_readPlain_28 : decode cX1_readPlain 28 = .ok (.iadd, 1) := by decide +kernel
theorem dX1_readPlain_29 : decode cX1_readPlain 29 = .ok (.iload_n 2, 1) := by decide +kernel
theorem dX1_readPlain_30 : decode cX1_readPlain 30 = .ok (.invokevirtual 59, 3) := by decide +kernel
theorem dX1_readPlain_33 : decode cX1_readPlain 33 = .ok (.aload_n 0, 1) := by decide +kernel
theorem dX1_readPlain_34 : decode cX1_readPlain 34 = .ok (.dup, 1) := by decide +kernel
theorem dX1_readPlain_35 : decode cX1_readPlain 35 = .ok (.getfield 49, 3) := by decide +kernel
theorem dX1_readPlain_38 : decode cX1_readPlain 38 = .ok (.iload_n 2, 1) := by decide +kernel
theorem dX1_readPlain_39 : decode cX1_readPlain 39 = .ok (.iconst 1, 1) := by decide +kernel
theorem dX1_readPlain_40 : decode cX1_readPlain 40 = .ok (.iadd, 1) := by decide +kernel
theorem dX1_readPlain_41 : decode cX1_readPlain 41 = .ok (.iadd, 1) := by decide +kernel
theorem dX1_readPlain_42 : decode cX1_readPlain 42 = .ok (.putfield 49, 3) := by decide +kernel
theorem dX1_readPlain_45 : decode cX1_readPlain 45 = .ok (.iconst (-1), 1) := by decide +kernel
theorem dX1_readPlain_46 : decode cX1_readPlain 46 = .ok (.ireturn, 1) := by decide +kernel
theorem dX1_readMatch_0 : decode cX1_readMatch 0 = .ok (.aload_n 0, 1) := by decide +kernel
theorem dX1_readMatch_1 : decode cX1_readMatch 1 = .ok (.getfield 49, 3) := by decide +kernel
theorem dX1_readMatch_4 : decode cX1_readMatch 4 = .ok (.iconst 1, 1) := by decide +kernel
theorem dX1_readMatch_5 : decode cX1_readMatch 5 = .ok (.iadd, 1) := by decide +kernel
theorem dX1_readMatch_6 : decode cX1_readMatch 6 = .ok (.aload_n 1, 1) := by decide +kernel
theorem dX1_readMatch_7 : decode cX1_readMatch 7 = .ok (.invokevirtual 20, 3) := by decide +kernel
theorem dX1_readMatch_10 : decode cX1_readMatch 10 = .ok (.if_icmp .lt 8, 3) := by decide +kernel
theorem dX1_readMatch_13 : decode cX1_readMatch 13 = .ok (.aload_n 1, 1) := by decide +kernel
theorem dX1_readMatch_14 : decode cX1_readMatch 14 = .ok (.invokevirtual 20, 3) := by decide +kernel
theorem dX1_readMatch_17 : decode cX1_readMatch 17 = .ok (.ireturn, 1) := by decide +kernel
theorem dX1_readMatch_18 : decode cX1_readMatch 18 = .ok (.sipush 256, 3) := by decide +kernel
theorem dX1_readMatch_21 : decode cX1_readMatch 21 = .ok (.iload_n 2, 1) := by decide +kernel
theorem dX1_readMatch_22 : decode cX1_readMatch 22 = .ok (.bipush 32, 2) := by decide +kernel
theorem dX1_readMatch_24 : decode cX1_readMatch 24 = .ok (.irem, 1) := by decide +kernel
theorem dX1_readMatch_25 : decode cX1_readMatch 25 = .ok (.imul, 1) := by decide +kernel
theorem dX1_readMatch_26 : decode cX1_readMatch 26 = .ok (.aload_n 1, 1) := by decide +kernel
theorem dX1_readMatch_27 : decode cX1_readMatch 27 = .ok (.aload_n 0, 1) := by decide +kernel
theorem dX1_readMatch_28 : decode cX1_readMatch 28 = .ok (.getfield 49, 3) := by decide +kernel
theorem dX1_readMatch_31 : decode cX1_readMatch 31 = .ok (.iconst 1, 1) := by decide +kernel
theorem dX1_readMatch_32 : decode cX1_readMatch 32 = .ok (.iadd, 1) := by decide +kernel
theorem dX1_readMatch_33 : decode cX1_readMatch 33 = .ok (.invokevirtual 42, 3) := by decide +kernel
theorem dX1_readMatch_36 : decode cX1_readMatch 36 = .ok (.iadd, 1) := by decide +kernel
theorem dX1_readMatch_37 : decode cX1_readMatch 37 = .ok (.iconst 1, 1) := by decide +kernel
theorem dX1_readMatch_38 : decode cX1_readMatch 38 = .ok (.iadd, 1) := by decide +kernel
theorem dX1_readMatch_39 : decode cX1_readMatch 39 = .ok (.istore 4, 2) := by decide +kernel
theorem dX1_readMatch_41 : decode cX1_readMatch 41 = .ok (.iload 4, 2) := by decide +kernel
theorem dX1_readMatch_43 : decode cX1_readMatch 43 = .ok (.aload_n 0, 1) := by decide +kernel
theorem dX1_readMatch_44 : decode cX1_readMatch 44 = .ok (.getfield 14, 3) := by decide +kernel
theorem dX1_readMatch_47 : decode cX1_readMatch 47 = .ok (.invokevirtual 20, 3) := by decide +kernel
theorem dX1_readMatch_50 : decode cX1_readMatch 50 = .ok (.if_icmp .le 10, 3) := by decide +kernel
theorem dX1_readMatch_53 : decode cX1_readMatch 53 = .ok (.aload_n 0, 1) := by decide +kernel
theorem dX1_readMatch_54 : decode cX1_readMatch 54 = .ok (.getfield 49, 3) := by decide +kernel
theorem dX1_readMatch_57 : decode cX1_readMatch 57 = .ok (.iconst 1, 1) := by decide +kernel
theorem dX1_readMatch_58 : decode cX1_readMatch 58 = .ok (.iadd, 1) := by decide +kernel
theorem dX1_readMatch_59 : decode cX1_readMatch 59 = .ok (.ireturn, 1) := by decide +kernel
theorem dX1_readMatch_60 : decode cX1_readMatch 60 = .ok (.iconst 0, 1) := by decide +kernel
theorem dX1_readMatch_61 : decode cX1_readMatch 61 = .ok (.istore 5, 2) := by decide +kernel
theorem dX1_readMatch_63 : decode cX1_readMatch 63 = .ok (.iload 5, 2) := by decide +kernel
theorem dX1_readMatch_65 : decode cX1_readMatch 65 = .ok (.iload_n 3, 1) := by decide +kernel
theorem dX1_readMatch_66 : decode cX1_readMatch 66 = .ok (.if_icmp .ge 33, 3) := by decide +kernel
theorem dX1_readMatch_69 : decode cX1_readMatch 69 = .ok (.aload_n 0, 1) := by decide +kernel
theorem dX1_readMatch_70 : decode cX1_readMatch 70 = .ok (.getfield 14, 3) := by decide +kernel
theorem dX1_readMatch_73 : decode cX1_readMatch 73 = .ok (.aload_n 0, 1) := by decide +kernel
theorem dX1_readMatch_74 : decode cX1_readMatch 74 = .ok (.getfield 14, 3) := by decide +kernel
theorem dX1_readMatch_77 : decode cX1_readMatch 77 = .ok (.aload_n 0, 1) := by decide +kernel
theorem dX1_readMatch_78 : decode cX1_readMatch 78 = .ok (.getfield 14, 3) := by decide +kernel
theorem dX1_readMatch_81 : decode cX1_readMatch 81 = .ok (.invokevirtual 20, 3) := by decide +kernel
theorem dX1_readMatch_84 : decode cX1_readMatch 84 = .ok (.iload 4, 2) := by decide +kernel
theorem dX1_readMatch_86 : decode cX1_readMatch 86 = .ok (.isub, 1) := by decide +kernel
theorem dX1_readMatch_87 : decode cX1_readMatch 87 = .ok (.invokevirtual 42, 3) := by decide +kernel
theorem dX1_readMatch_90 : decode cX1_readMatch 90 = .ok (.invokevirtual 74, 3) := by decide +kernel
theorem dX1_readMatch_93 : decode cX1_readMatch 93 = .ok (.iinc 5 1, 3) := by decide +kernel
theorem dX1_readMatch_96 : decode cX1_readMatch 96 = .ok (.goto (-33), 3) := by decide +kernel
theorem dX1_readMatch_99 : decode cX1_readMatch 99 = .ok (.aload_n 0, 1) := by decide +kernel
theorem dX1_readMatch_100 : decode cX1_readMatch 100 = .ok (.dup, 1) := by decide +kernel
theorem dX1_readMatch_101 : decode cX1_readMatch 101 = .ok (.getfield 49, 3) := by decide +kernel
theorem dX1_readMatch_104 : decode cX1_readMatch 104 = .ok (.iconst 2, 1) := by decide +kernel
theorem dX1_readMatch_105 : decode cX1_readMatch 105 = .ok (.iadd, 1) := by decide +kernel
theorem dX1_readMatch_106 : decode cX1_readMatch 106 = .ok (.putfield 49, 3) := by decide +kernel
theorem dX1_readMatch_109 : decode cX1_readMatch 109 = .ok (.iconst (-1), 1) := by decide +kernel
theorem dX1_readMatch_110 : decode cX1_readMatch 110 = .ok (.ireturn, 1) := by decide +kernel
