theorem dX7_findMatches_14 : decode cX7_findMatches 14 = .ok (.iload_n 1, 1) := by decide +kernel
theorem dX7_findMatches_15 : decode cX7_findMatches 15 = .ok (.imul, 1) := by decide +kernel
theorem dX7_findMatches_16 : decode cX7_findMatches 16 = .ok (.iload_n 2, 1) := by decide +kernel
theorem dX7_findMatches_17 : decode cX7_findMatches 17 = .ok (.iadd, 1) := by decide +kernel
theorem dX7_findMatches_18 : decode cX7_findMatches 18 = .ok (.iconst 0, 1) := by decide +kernel
theorem dX7_findMatches_19 : decode cX7_findMatches 19 = .ok (.iastore, 1) := by decide +kernel
theorem dX7_findMatches_20 : decode cX7_findMatches 20 = .ok (.iinc 2 1, 3) := by decide +kernel
theorem dX7_findMatches_23 : decode cX7_findMatches 23 = .ok (.goto (-21), 3) := by decide +kernel
theorem dX7_findMatches_26 : decode cX7_findMatches 26 = .ok (.aload_n 0, 1) := by decide +kernel
theorem dX7_findMatches_27 : decode cX7_findMatches 27 = .ok (.getfield 96, 3) := by decide +kernel
theorem dX7_findMatches_30 : decode cX7_findMatches 30 = .ok (.iload_n 1, 1) := by decide +kernel
theorem dX7_findMatches_31 : decode cX7_findMatches 31 = .ok (.iadd, 1) := by decide +kernel
theorem dX7_findMatches_32 : decode cX7_findMatches 32 = .ok (.istore_n 2, 1) := by decide +kernel
theorem dX7_findMatches_33 : decode cX7_findMatches 33 = .ok (.iconst 1, 1) := by decide +kernel
theorem dX7_findMatches_34 : decode cX7_findMatches 34 = .ok (.istore_n 3, 1) := by decide +kernel
theorem dX7_findMatches_35 : decode cX7_findMatches 35 = .ok (.iload_n 3, 1) := by decide +kernel
theorem dX7_findMatches_36 : decode cX7_findMatches 36 = .ok (.iload_n 2, 1) := by decide +kernel
theorem dX7_findMatches_37 : decode cX7_findMatches 37 = .ok (.if_icmp .gt 87, 3) := by decide +kernel
theorem dX7_findMatches_40 : decode cX7_findMatches 40 = .ok (.iconst 0, 1) := by decide +kernel
theorem dX7_findMatches_41 : decode cX7_findMatches 41 = .ok (.istore 4, 2) := by decide +kernel
theorem dX7_findMatches_43 : decode cX7_findMatches 43 = .ok (.iload 4, 2) := by decide +kernel
theorem dX7_findMatches_45 : decode cX7_findMatches 45 = .ok (.bipush 9, 2) := by decide +kernel
theorem dX7_findMatches_47 : decode cX7_findMatches 47 = .ok (.if_icmp .ge 71, 3) := by decide +kernel
theorem dX7_findMatches_50 : decode cX7_findMatches 50 = .ok (.iload_n 1, 1) := by decide +kernel
theorem dX7_findMatches_51 : decode cX7_findMatches 51 = .ok (.iload 4, 2) := by decide +kernel
theorem dX7_findMatches_53 : decode cX7_findMatches 53 = .ok (.iadd, 1) := by decide +kernel
theorem dX7_findMatches_54 : decode cX7_findMatches 54 = .ok (.aload_n 0, 1) := by decide +kernel
theorem dX7_findMatches_55 : decode cX7_findMatches 55 = .ok (.getfield 103, 3) := by decide +kernel
theorem dX7_findMatches_58 : decode cX7_findMatches 58 = .ok (.if_icmp .ge 60, 3) := by decide +kernel
theorem dX7_findMatches_61 : decode cX7_findMatches 61 = .ok (.aload_n 0, 1) := by decide +kernel
theorem dX7_findMatches_62 : decode cX7_findMatches 62 = .ok (.getfield 41, 3) := by decide +kernel
theorem dX7_findMatches_65 : decode cX7_findMatches 65 = .ok (.iload_n 2, 1) := by decide +kernel
theorem dX7_findMatches_66 : decode cX7_findMatches 66 = .ok (.iload 4, 2) := by decide +kernel
theorem dX7_findMatches_68 : decode cX7_findMatches 68 = .ok (.iadd, 1) := by decide +kernel
theorem dX7_findMatches_69 : decode cX7_findMatches 69 = .ok (.iaload, 1) := by decide +kernel
theorem dX7_findMatches_70 : decode cX7_findMatches 70 = .ok (.aload_n 0, 1) := by decide +kernel
theorem dX7_findMatches_71 : decode cX7_findMatches 71 = .ok (.getfield 41, 3) := by decide +kernel
theorem dX7_findMatches_74 : decode cX7_findMatches 74 = .ok (.iload_n 2, 1) := by decide +kernel
theorem dX7_findMatches_75 : decode cX7_findMatches 75 = .ok (.iload 4, 2) := by decide +kernel
theorem dX7_findMatches_77 : decode cX7_findMatches 77 = .ok (.iadd, 1) := by decide +kernel
theorem dX7_findMatches_78 : decode cX7_findMatches 78 = .ok (.iload_n 3, 1) := by decide +kernel
theorem dX7_findMatches_79 : decode cX7_findMatches 79 = .ok (.isub, 1) := by decide +kernel
theorem dX7_findMatches_80 : decode cX7_findMatches 80 = .ok (.iaload, 1) := by decide +kernel
theorem dX7_findMatches_81 : decode cX7_findMatches 81 = .ok (.if_icmp .ne 37, 3) := by decide +kernel
theorem dX7_findMatches_84 : decode cX7_findMatches 84 = .ok (.iinc 4 1, 3) := by decide +kernel
theorem dX7_findMatches_87 : decode cX7_findMatches 87 = .ok (.aload_n 0, 1) := by decide +kernel
theorem dX7_findMatches_88 : decode cX7_findMatches 88 = .ok (.getfield 47, 3) := by decide +kernel
theorem dX7_findMatches_91 : decode cX7_findMatches 91 = .ok (.bipush 10, 2) := by decide +kernel
theorem dX7_findMatches_93 : decode cX7_findMatches 93 = .ok (.iload_n 1, 1) := by decide +kernel
theorem dX7_findMatches_94 : decode cX7_findMatches 94 = .ok (.imul, 1) := by decide +kernel
theorem dX7_findMatches_95 : decode cX7_findMatches 95 = .ok (.iload 4, 2) := by decide +kernel
theorem dX7_findMatches_97 : decode cX7_findMatches 97 = .ok (.iadd, 1) := by decide +kernel
theorem dX7_findMatches_98 : decode cX7_findMatches 98 = .ok (.iaload, 1) := by decide +kernel
theorem dX7_findMatches_99 : decode cX7_findMatches 99 = .ok (.ifCond .ne (-56), 3) := by decide +kernel
theorem dX7_findMatches_102 : decode cX7_findMatches 102 = .ok (.aload_n 0, 1) := by decide +kernel
theorem dX7_findMatches_103 : decode cX7_findMatches 103 = .ok (.getfield 47, 3) := by decide +kernel
theorem dX7_findMatches_106 : decode cX7_findMatches 106 = .ok (.bipush 10, 2) := by decide +kernel
theorem dX7_findMatches_108 : decode cX7_findMatches 108 = .ok (.iload_n 1, 1) := by decide +kernel
theorem dX7_findMatches_109 : decode cX7_findMatches 109 = .ok (.imul, 1) := by decide +kernel
theorem dX7_findMatches_110 : decode cX7_findMatches 110 = .ok (.iload 4, 2) := by decide +kernel
theorem dX7_findMatches_112 : decode cX7_findMatches 112 = .ok (.iadd, 1) := by decide +kernel
theorem dX7_findMatches_113 : decode cX7_findMatches 113 = .ok (.iload_n 3, 1) := by decide +kernel
theorem dX7_findMatches_114 : decode cX7_findMatches 114 = .ok (.iastore, 1) := by decide +kernel
theorem dX7_findMatches_115 : decode cX7_findMatches 115 = .ok (.goto (-72), 3) := by decide +kernel
theorem dX7_findMatches_118 : decode cX7_findMatches 118 = .ok (.iinc 3 1, 3) := by decide +kernel
theorem dX7_findMatches_121 : decode cX7_findMatches 121 = .ok (.goto (-86), 3) := by decide +kernel
theorem dX7_findMatches_124 : decode cX7_findMatches 124 = .ok (.return_, 1) := by decide +kernel
theorem dX7_packedLong_0 : decode cX7_packedLong 0 = .ok (.aload_n 0, 1) := by decide +kernel
theorem dX7_packedLong_1 : decode cX7_packedLong 1 = .ok (.getfield 44, 3) := by decide +kernel
theorem dX7_packedLong_4 : decode cX7_packedLong 4 = .ok (.aload_n 0, 1) := by decide +kernel
theorem dX7_packedLong_5 : decode cX7_packedLong 5 = .ok (.getfield 103, 3) := by decide +kernel
theorem dX7_packedLong_8 : decode cX7_packedLong 8 = .ok (.iconst 0, 1) := by decide +kernel
theorem dX7_packedLong_9 : decode cX7_packedLong 9 = .ok (.iastore, 1) := by decide +kernel
theorem dX7_packedLong_10 : decode cX7_packedLong 10 = .ok (.aload_n 0, 1) := by decide +kernel
theorem dX7_packedLong_11 : decode cX7_packedLong 11 = .ok (.getfield 103, 3) := by decide +kernel
theorem dX7_packedLong_14 : decode cX7_packedLong 14 = .ok (.iconst 1, 1) := by decide +kernel
theorem dX7_packedLong_15 : decode cX7_packedLong 15 = .ok (.isub, 1) := by decide +kernel
theorem dX7_packedLong_16 : decode cX7_packedLong 16 = .ok (.istore_n 1, 1) := by decide +kernel
theorem dX7_packedLong_17 : decode cX7_packedLong 17 = .ok (.iload_n 1, 1) := by decide +kernel
theorem dX7_packedLong_18 : decode cX7_packedLong 18 = .ok (.ifCond .lt 129, 3) := by decide +kernel
theorem dX7_packedLong_21 : decode cX7_packedLong 21 = .ok (.aload_n 0, 1) := by decide +kernel
theorem dX7_packedLong_22 : decode cX7_packedLong 22 = .ok (.iload_n 1, 1) := by decide +kernel
theorem dX7_packedLong_23 : decode cX7_packedLong 23 = .ok (.invokevirtual 106, 3) := by decide +kernel
theorem dX7_packedLong_26 : decode cX7_packedLong 26 = .ok (.sipush 1000, 3) := by decide +kernel
theorem dX7_packedLong_29 : decode cX7_packedLong 29 = .ok (.istore_n 2, 1) := by decide +kernel
theorem dX7_packedLong_30 : decode cX7_packedLong 30 = .ok (.iconst 1, 1) := by decide +kernel
theorem dX7_packedLong_31 : decode cX7_packedLong 31 = .ok (.istore_n 3, 1) := by decide +kernel
theorem dX7_packedLong_32 : decode cX7_packedLong 32 = .ok (.iload_n 3, 1) := by decide +kernel
theorem dX7_packedLong_33 : decode cX7_packedLong 33 = .ok (.bipush 32, 2) := by decide +kernel
theorem dX7_packedLong_35 : decode cX7_packedLong 35 = .ok (.if_icmp .gt 46, 3) := by decide +kernel
theorem dX7_packedLong_38 : decode cX7_packedLong 38 = .ok (.iload_n 1, 1) := by decide +kernel
theorem dX7_packedLong_39 : decode cX7_packedLong 39 = .ok (.iload_n 3, 1) := by decide +kernel
theorem dX7_packedLong_40 : decode cX7_packedLong 40 = .ok (.iadd, 1) := by decide +kernel
theorem dX7_packedLong_41 : decode cX7_packedLong 41 = .ok (.aload_n 0, 1) := by decide +kernel
theorem dX7_packedLong_42 : decode cX7_packedLong 42 = .ok (.getfield 103, 3) := by decide +kernel
theorem dX7_packedLong_45 : decode cX7_packedLong 45 = .ok (.if_icmp .gt 36, 3) := by decide +kernel
theorem dX7_packedLong_48 : decode cX7_packedLong 48 = .ok (.iconst 1, 1) := by decide +kernel
theorem dX7_packedLong_49 : decode cX7_packedLong 49 = .ok (.iload_n 3, 1) := by decide +kernel
theorem dX7_packedLong_50 : decode cX7_packedLong 50 = .ok (.iadd, 1) := by decide +kernel
theorem dX7_packedLong_51 : decode cX7_packedLong 51 = .ok (.aload_n 0, 1) := by decide +kernel
theorem dX7_packedLong_52 : decode cX7_packedLong 52 = .ok (.getfield 44, 3) := by decide +kernel
theorem dX7_packedLong_55 : decode cX7_packedLong 55 = .ok (.iload_n 1, 1) := by decide +kernel
theorem dX7_packedLong_56 : decode cX7_packedLong 56 = .ok (.iload_n 3, 1) := by decide +kernel
theorem dX7_packedLong_57 : decode cX7_packedLong 57 = .ok (.iadd, 1) := by decide +kernel
theorem dX7_packedLong_58 : decode cX7_packedLong 58 = .ok (.iaload, 1) := by decide +kernel
theorem dX7_packedLong_59 : decode cX7_packedLong 59 = .ok (.iadd, 1) := by decide +kernel
theorem dX7_packedLong_60 : decode cX7_packedLong 60 = .ok (.istore 4, 2) := by decide +kernel
theorem dX7_packedLong_62 : decode cX7_packedLong 62 = .ok (.iload 4, 2) := by decide +kernel
theorem dX7_packedLong_64 : decode cX7_packedLong 64 = .ok (.iload_n 2, 1) := by decide +kernel
theorem dX7_packedLong_65 : decode cX7_packedLong 65 = .ok (.if_icmp .ge 8, 3) := by decide +kernel
theorem dX7_packedLong_68 : decode cX7_packedLong 68 = .ok (.iload 4, 2) := by decide +kernel
theorem dX7_packedLong_70 : decode cX7_packedLong 70 = .ok (.goto 4, 3) := by decide +kernel
theorem dX7_packedLong_73 : decode cX7_packedLong 73 = .ok (.iload_n 2, 1) := by decide +kernel
theorem dX7_packedLong_74 : decode cX7_packedLong 74 = .ok (.istore_n 2, 1) := by decide +kernel
theorem dX7_packedLong_75 : decode cX7_packedLong 75 = .ok (.iinc 3 1, 3) := by decide +kernel
theorem dX7_packedLong_78 : decode cX7_packedLong 78 = .ok (.goto (-46), 3) := by decide +kernel
theorem dX7_packedLong_81 : decode cX7_packedLong 81 = .ok (.iconst 3, 1) := by decide +kernel
theorem dX7_packedLong_82 : decode cX7_packedLong 82 = .ok (.istore_n 3, 1) := by decide +kernel
theorem dX7_packedLong_83 : decode cX7_packedLong 83 = .ok (.iload_n 3, 1) := by decide +kernel
theorem dX7_packedLong_84 : decode cX7_packedLong 84 = .ok (.bipush 9, 2) := by decide +kernel
theorem dX7_packedLong_86 : decode cX7_packedLong 86 = .ok (.if_icmp .gt 48, 3) := by decide +kernel
theorem dX7_packedLong_89 : decode cX7_packedLong 89 = .ok (.aload_n 0, 1) := by decide +kernel
theorem dX7_packedLong_90 : decode cX7_packedLong 90 = .ok (.getfield 47, 3) := by decide +kernel
theorem dX7_packedLong_93 : decode cX7_packedLong 93 = .ok (.bipush 10, 2) := by decide +kernel
theorem dX7_packedLong_95 : decode cX7_packedLong 95 = .ok (.iload_n 1, 1) := by decide +kernel
theorem dX7_packedLong_96 : decode cX7_packedLong 96 = .ok (.imul, 1) := by decide +kernel
theorem dX7_packedLong_97 : decode cX7_packedLong 97 = .ok (.iload_n 3, 1) := by decide +kernel
theorem dX7_packedLong_98 : decode cX7_packedLong 98 = .ok (.iadd, 1) := by decide +kernel
theorem dX7_packedLong_99 : decode cX7_packedLong 99 = .ok (.iaload, 1) := by decide +kernel
theorem dX7_packedLong_100 : decode cX7_packedLong 100 = .ok (.ifCond .le 28, 3) := by decide +kernel
theorem dX7_packedLong_103 : decode cX7_packedLong 103 = .ok (.iconst 2, 1) := by decide +kernel
theorem dX7_packedLong_104 : decode cX7_packedLong 104 = .ok (.aload_n 0, 1) := by decide +kernel
theorem dX7_packedLong_105 : decode cX7_packedLong 105 = .ok (.getfield 44, 3) := by decide +kernel
theorem dX7_packedLong_108 : decode cX7_packedLong 108 = .ok (.iload_n 1, 1) := by decide +kernel
theorem dX7_packedLong_109 : decode cX7_packedLong 109 = .ok (.iload_n 3, 1) := by decide +kernel
theorem dX7_packedLong_110 : decode cX7_packedLong 110 = .ok (.iadd, 1) := by decide +kernel
theorem dX7_packedLong_111 : decode cX7_packedLong 111 = .ok (.iaload, 1) := by decide +kernel
theorem dX7_packedLong_112 : decode cX7_packedLong 112 = .ok (.iadd, 1) := by decide +kernel
theorem dX7_packedLong_113 : decode cX7_packedLong 113 = .ok (.iload_n 2, 1) := by decide +kernel
theorem dX7_packedLong_114 : decode cX7_packedLong 114 = .ok (.if_icmp .ge 14, 3) := by decide +kernel
theorem dX7_packedLong_117 : decode cX7_packedLong 117 = .ok (.iconst 2, 1) := by decide +kernel
theorem dX7_packedLong_118 : decode cX7_packedLong 118 = .ok (.aload_n 0, 1) := by decide +kernel
theorem dX7_packedLong_119 : decode cX7_packedLong 119 = .ok (.getfield 44, 3) := by decide +kernel
theorem dX7_packedLong_122 : decode cX7_packedLong 122 = .ok (.iload_n 1, 1) := by decide +kernel
theorem dX7_packedLong_123 : decode cX7_packedLong 123 = .ok (.iload_n 3, 1) := by decide +kernel
theorem dX7_packedLong_124 : decode cX7_packedLong 124 = .ok (.iadd, 1) := by decide +kernel
theorem dX7_packedLong_125 : decode cX7_packedLong 125 = .ok (.iaload, 1) := by decide +kernel
theorem dX7_packedLong_126 : decode cX7_packedLong 126 = .ok (.iadd, 1) := by decide +kernel
theorem dX7_packedLong_127 : decode cX7_packedLong 127 = .ok (.istore_n 2, 1) := by decide +kernel
theorem dX7_packedLong_128 : decode cX7_packedLong 128 = .ok (.iinc 3 1, 3) := by decide +kernel
theorem dX7_packedLong_131 : decode cX7_packedLong 131 = .ok (.goto (-48), 3) := by decide +kernel
theorem dX7_packedLong_134 : decode cX7_packedLong 134 = .ok (.aload_n 0, 1) := by decide +kernel
theorem dX7_packedLong_135 : decode cX7_packedLong 135 = .ok (.getfield 44, 3) := by decide +kernel
theorem dX7_packedLong_138 : decode cX7_packedLong 138 = .ok (.iload_n 1, 1) := by decide +kernel
theorem dX7_packedLong_139 : decode cX7_packedLong 139 = .ok (.iload_n 2, 1) := by decide +kernel
theorem dX7_packedLong_140 : decode cX7_packedLong 140 = .ok (.iastore, 1) := by decide +kernel
theorem dX7_packedLong_141 : decode cX7_packedLong 141 = .ok (.iinc 1 (-1), 3) := by decide +kernel
theorem dX7_packedLong_144 : decode cX7_packedLong 144 = .ok (.goto (-127), 3) := by decide +kernel
theorem dX7_packedLong_147 : decode cX7_packedLong 147 = .ok (.iconst 4, 1) := by decide +kernel
theorem dX7_packedLong_148 : decode cX7_packedLong 148 = .ok (.aload_n 0, 1) := by decide +kernel
theorem dX7_packedLong_149 : decode cX7_packedLong 149 = .ok (.getfield 44, 3) := by decide +kernel
theorem dX7_packedLong_152 : decode cX7_packedLong 152 = .ok (.iconst 0, 1) := by decide +kernel
theorem dX7_packedLong_153 : decode cX7_packedLong 153 = .ok (.iaload, 1) := by decide +kernel
theorem dX7_packedLong_154 : decode cX7_packedLong 154 = .ok (.iadd, 1) := by decide +kernel
theorem dX7_packedLong_155 : decode cX7_packedLong 155 = .ok (.ireturn, 1) := by decide +kernel
theorem dX7_sizeOf_0 : decode cX7_sizeOf 0 = .ok (.aload_n 0, 1) := by decide +kernel
theorem dX7_sizeOf_1 : decode cX7_sizeOf 1 = .ok (.iload_n 2, 1) := by decide +kernel
theorem dX7_sizeOf_2 : decode cX7_sizeOf 2 = .ok (.iload_n 3, 1) := by decide +kernel
theorem dX7_sizeOf_3 : decode cX7_sizeOf 3 = .ok (.invokevirtual 110, 3) := by decide +kernel
theorem dX7_sizeOf_6 : decode cX7_sizeOf 6 = .ok (.aload_n 0, 1) := by decide +kernel
theorem dX7_sizeOf_7 : decode cX7_sizeOf 7 = .ok (.iload_n 1, 1) := by decide +kernel
theorem dX7_sizeOf_8 : decode cX7_sizeOf 8 = .ok (.invokevirtual 114, 3) := by decide +kernel
theorem dX7_sizeOf_11 : decode cX7_sizeOf 11 = .ok (.aload_n 0, 1) := by decide +kernel
theorem dX7_sizeOf_12 : decode cX7_sizeOf 12 = .ok (.invokevirtual 117, 3) := by decide +kernel
theorem dX7_sizeOf_15 : decode cX7_sizeOf 15 = .ok (.ireturn, 1) := by decide +kernel
theorem dX7_sizeOfAll_0 : decode cX7_sizeOfAll 0 = .ok (.iconst 0, 1) := by decide +kernel
theorem dX7_sizeOfAll_1 : decode cX7_sizeOfAll 1 = .ok (.istore_n 3, 1) := by decide +kernel
theorem dX7_sizeOfAll_2 : decode cX7_sizeOfAll 2 = .ok (.iconst 0, 1) := by decide +kernel
theorem dX7_sizeOfAll_3 : decode cX7_sizeOfAll 3 = .ok (.istore 4, 2) := by decide +kernel
theorem dX7_sizeOfAll_5 : decode cX7_sizeOfAll 5 = .ok (.iload 4, 2) := by decide +kernel
theorem dX7_sizeOfAll_7 : decode cX7_sizeOfAll 7 = .ok (.aload_n 0, 1) := by decide +kernel
theorem dX7_sizeOfAll_8 : decode cX7_sizeOfAll 8 = .ok (.getfield 71, 3) := by decide +kernel
theorem dX7_sizeOfAll_11 : decode cX7_sizeOfAll 11 = .ok (.if_icmp .ge 20, 3) := by decide +kernel
theorem dX7_sizeOfAll_14 : decode cX7_sizeOfAll 14 = .ok (.iload_n 3, 1) := by decide +kernel
theorem dX7_sizeOfAll_15 : decode cX7_sizeOfAll 15 = .ok (.aload_n 0, 1) := by decide +kernel
theorem dX7_sizeOfAll_16 : decode cX7_sizeOfAll 16 = .ok (.iload 4, 2) := by decide +kernel
theorem dX7_sizeOfAll_18 : decode cX7_sizeOfAll 18 = .ok (.iload_n 1, 1) := by decide +kernel
theorem dX7_sizeOfAll_19 : decode cX7_sizeOfAll 19 = .ok (.iload_n 2, 1) := by decide +kernel
theorem dX7_sizeOfAll_20 : decode cX7_sizeOfAll 20 = .ok (.invokevirtual 121, 3) := by decide +kernel
theorem dX7_sizeOfAll_23 : decode cX7_sizeOfAll 23 = .ok (.iadd, 1) := by decide +kernel
theorem dX7_sizeOfAll_24 : decode cX7_sizeOfAll 24 = .ok (.istore_n 3, 1) := by decide +kernel
theorem dX7_sizeOfAll_25 : decode cX7_sizeOfAll 25 = .ok (.iinc 4 1, 3) := by decide +kernel
theorem dX7_sizeOfAll_28 : decode cX7_sizeOfAll 28 = .ok (.goto (-23), 3) := by decide +kernel
theorem dX7_sizeOfAll_31 : decode cX7_sizeOfAll 31 = .ok (.iload_n 3, 1) := by decide +kernel
theorem dX7_sizeOfAll_32 : decode cX7_sizeOfAll 32 = .ok (.ireturn, 1) := by decide +kernel
theorem dX7_trim_0 : decode cX7_trim 0 = .ok (.aload_n 0, 1) := by decide +kernel
theorem dX7_trim_1 : decode cX7_trim 1 = .ok (.iconst 0, 1) := by decide +kernel
theorem dX7_trim_2 : decode cX7_trim 2 = .ok (.putfield 60, 3) := by decide +kernel
theorem dX7_trim_5 : decode cX7_trim 5 = .ok (.aload_n 0, 1) := by decide +kernel
theorem dX7_trim_6 : decode cX7_trim 6 = .ok (.iload_n 1, 1) := by decide +kernel
theorem dX7_trim_7 : decode cX7_trim 7 = .ok (.invokevirtual 125, 3) := by decide +kernel
theorem dX7_trim_10 : decode cX7_trim 10 = .ok (.ifCond .ne 6, 3) := by decide +kernel
theorem dX7_trim_13 : decode cX7_trim 13 = .ok (.bipush (-101), 2) := by decide +kernel
theorem dX7_trim_15 : decode cX7_trim 15 = .ok (.ireturn, 1) := by decide +kernel
theorem dX7_trim_16 : decode cX7_trim 16 = .ok (.aload_n 0, 1) := by decide +kernel
theorem dX7_trim_17 : decode cX7_trim 17 = .ok (.getfield 71, 3) := by decide +kernel
theorem dX7_trim_20 : decode cX7_trim 20 = .ok (.ifCond .ne 6, 3) := by decide +kernel
theorem dX7_trim_23 : decode cX7_trim 23 = .ok (.bipush (-104), 2) := by decide +kernel
theorem dX7_trim_25 : decode cX7_trim 25 = .ok (.ireturn, 1) := by decide +kernel
theorem dX7_trim_26 : decode cX7_trim 26 = .ok (.iconst 0, 1) := by decide +kernel
theorem dX7_trim_27 : decode cX7_trim 27 = .ok (.istore_n 2, 1) := by decide +kernel
theorem dX7_trim_28 : decode cX7_trim 28 = .ok (.iconst 0, 1) := by decide +kernel
theorem dX7_trim_29 : decode cX7_trim 29 = .ok (.istore_n 3, 1) := by decide +kernel
theorem dX7_trim_30 : decode cX7_trim 30 = .ok (.iload_n 3, 1) := by decide +kernel
theorem dX7_trim_31 : decode cX7_trim 31 = .ok (.aload_n 0, 1) := by decide +kernel
theorem dX7_trim_32 : decode cX7_trim 32 = .ok (.getfield 22, 3) := by decide +kernel
theorem dX7_trim_35 : decode cX7_trim 35 = .ok (.iload_n 1, 1) := by decide +kernel
theorem dX7_trim_36 : decode cX7_trim 36 = .ok (.iaload, 1) := by decide +kernel
theorem dX7_trim_37 : decode cX7_trim 37 = .ok (.if_icmp .ge 36, 3) := by decide +kernel
theorem dX7_trim_40 : decode cX7_trim 40 = .ok (.aload_n 0, 1) := by decide +kernel
theorem dX7_trim_41 : decode cX7_trim 41 = .ok (.iload_n 1, 1) := by decide +kernel
theorem dX7_trim_42 : decode cX7_trim 42 = .ok (.iload_n 3, 1) := by decide +kernel
theorem dX7_trim_43 : decode cX7_trim 43 = .ok (.invokevirtual 129, 3) := by decide +kernel
theorem dX7_trim_46 : decode cX7_trim 46 = .ok (.aload_n 0, 1) := by decide +kernel
theorem dX7_trim_47 : decode cX7_trim 47 = .ok (.iload_n 1, 1) := by decide +kernel
theorem dX7_trim_48 : decode cX7_trim 48 = .ok (.iconst (-1), 1) := by decide +kernel
theorem dX7_trim_49 : decode cX7_trim 49 = .ok (.invokevirtual 129, 3) := by decide +kernel
theorem dX7_trim_52 : decode cX7_trim 52 = .ok (.if_icmp .gt 15, 3) := by decide +kernel
theorem dX7_trim_55 : decode cX7_trim 55 = .ok (.aload_n 0, 1) := by decide +kernel
theorem dX7_trim_56 : decode cX7_trim 56 = .ok (.iload_n 1, 1) := by decide +kernel
theorem dX7_trim_57 : decode cX7_trim 57 = .ok (.iload_n 3, 1) := by decide +kernel
theorem dX7_trim_58 : decode cX7_trim 58 = .ok (.invokevirtual 132, 3) := by decide +kernel
theorem dX7_trim_61 : decode cX7_trim 61 = .ok (.iinc 2 1, 3) := by decide +kernel
theorem dX7_trim_64 : decode cX7_trim 64 = .ok (.goto (-34), 3) := by decide +kernel
theorem dX7_trim_67 : decode cX7_trim 67 = .ok (.iinc 3 1, 3) := by decide +kernel
theorem dX7_trim_70 : decode cX7_trim 70 = .ok (.goto (-40), 3) := by decide +kernel
theorem dX7_trim_73 : decode cX7_trim 73 = .ok (.iload_n 2, 1) := by decide +kernel
theorem dX7_trim_74 : decode cX7_trim 74 = .ok (.ireturn, 1) := by decide +kernel
theorem dX7_goes_0 : decode cX7_goes 0 = .ok (.aload_n 0, 1) := by decide +kernel
theorem dX7_goes_1 : decode cX7_goes 1 = .ok (.iload_n 1, 1) := by decide +kernel
theorem dX7_goes_2 : decode cX7_goes 2 = .ok (.iload_n 2, 1) := by decide +kernel
theorem dX7_goes_3 : decode cX7_goes 3 = .ok (.invokevirtual 99, 3) := by decide +kernel
theorem dX7_goes_6 : decode cX7_goes 6 = .ok (.istore_n 3, 1) := by decide +kernel
theorem dX7_goes_7 : decode cX7_goes 7 = .ok (.aload_n 0, 1) := by decide +kernel
theorem dX7_goes_8 : decode cX7_goes 8 = .ok (.getfield 25, 3) := by decide +kernel
theorem dX7_goes_11 : decode cX7_goes 11 = .ok (.bipush 80, 2) := by decide +kernel
theorem dX7_goes_13 : decode cX7_goes 13 = .ok (.iload_n 1, 1) := by decide +kernel
theorem dX7_goes_14 : decode cX7_goes 14 = .ok (.imul, 1) := by decide +kernel
theorem dX7_goes_15 : decode cX7_goes 15 = .ok (.iload_n 2, 1) := by decide +kernel
theorem dX7_goes_16 : decode cX7_goes 16 = .ok (.iadd, 1) := by decide +kernel
theorem dX7_goes_17 : decode cX7_goes 17 = .ok (.iaload, 1) := by decide +kernel
theorem dX7_goes_18 : decode cX7_goes 18 = .ok (.istore 4, 2) := by decide +kernel
theorem dX7_goes_20 : decode cX7_goes 20 = .ok (.iload_n 3, 1) := by decide +kernel
theorem dX7_goes_21 : decode cX7_goes 21 = .ok (.istore 5, 2) := by decide +kernel
theorem dX7_goes_23 : decode cX7_goes 23 = .ok (.iload 5, 2) := by decide +kernel
theorem dX7_goes_25 : decode cX7_goes 25 = .ok (.iload 4, 2) := by decide +kernel
theorem dX7_goes_27 : decode cX7_goes 27 = .ok (.iadd, 1) := by decide +kernel
theorem dX7_goes_28 : decode cX7_goes 28 = .ok (.aload_n 0, 1) := by decide +kernel
theorem dX7_goes_29 : decode cX7_goes 29 = .ok (.getfield 28, 3) := by decide +kernel
theorem dX7_goes_32 : decode cX7_goes 32 = .ok (.iload_n 1, 1) := by decide +kernel
theorem dX7_goes_33 : decode cX7_goes 33 = .ok (.iaload, 1) := by decide +kernel
theorem dX7_goes_34 : decode cX7_goes 34 = .ok (.if_icmp .ge 36, 3) := by decide +kernel
theorem dX7_goes_37 : decode cX7_goes 37 = .ok (.aload_n 0, 1) := by decide +kernel
theorem dX7_goes_38 : decode cX7_goes 38 = .ok (.getfield 31, 3) := by decide +kernel
theorem dX7_goes_41 : decode cX7_goes 41 = .ok (.bipush 80, 2) := by decide +kernel
theorem dX7_goes_43 : decode cX7_goes 43 = .ok (.iload_n 1, 1) := by decide +kernel
theorem dX7_goes_44 : decode cX7_goes 44 = .ok (.imul, 1) := by decide +kernel
theorem dX7_goes_45 : decode cX7_goes 45 = .ok (.iload 5, 2) := by decide +kernel
theorem dX7_goes_47 : decode cX7_goes 47 = .ok (.iadd, 1) := by decide +kernel
theorem dX7_goes_48 : decode cX7_goes 48 = .ok (.aload_n 0, 1) := by decide +kernel
theorem dX7_goes_49 : decode cX7_goes 49 = .ok (.getfield 31, 3) := by decide +kernel
theorem dX7_goes_52 : decode cX7_goes 52 = .ok (.bipush 80, 2) := by decide +kernel
theorem dX7_goes_54 : decode cX7_goes 54 = .ok (.iload_n 1, 1) := by decide +kernel
theorem dX7_goes_55 : decode cX7_goes 55 = .ok (.imul, 1) := by decide +kernel
theorem dX7_goes_56 : decode cX7_goes 56 = .ok (.iload 5, 2) := by decide +kernel
theorem dX7_goes_58 : decode cX7_goes 58 = .ok (.iadd, 1) := by decide +kernel
theorem dX7_goes_59 : decode cX7_goes 59 = .ok (.iload 4, 2) := by decide +kernel
theorem dX7_goes_61 : decode cX7_goes 61 = .ok (.iadd, 1) := by decide +kernel
theorem dX7_goes_62 : decode cX7_goes 62 = .ok (.iaload, 1) := by decide +kernel
theorem dX7_goes_63 : decode cX7_goes 63 = .ok (.iastore, 1) := by decide +kernel
theorem dX7_goes_64 : decode cX7_goes 64 = .ok (.iinc 5 1, 3) := by decide +kernel
theorem dX7_goes_67 : decode cX7_goes 67 = .ok (.goto (-44), 3) := by decide +kernel
theorem dX7_goes_70 : decode cX7_goes 70 = .ok (.aload_n 0, 1) := by decide +kernel
theorem dX7_goes_71 : decode cX7_goes 71 = .ok (.getfield 28, 3) := by decide +kernel
theorem dX7_goes_74 : decode cX7_goes 74 = .ok (.iload_n 1, 1) := by decide +kernel
theorem dX7_goes_75 : decode cX7_goes 75 = .ok (.dup2, 1) := by decide +kernel
theorem dX7_goes_76 : decode cX7_goes 76 = .ok (.iaload, 1) := by decide +kernel
theorem dX7_goes_77 : decode cX7_goes 77 = .ok (.iload 4, 2) := by decide +kernel
theorem dX7_goes_79 : decode cX7_goes 79 = .ok (.isub, 1) := by decide +kernel
theorem dX7_goes_80 : decode cX7_goes 80 = .ok (.iastore, 1) := by decide +kernel
theorem dX7_goes_81 : decode cX7_goes 81 = .ok (.aload_n 0, 1) := by decide +kernel
theorem dX7_goes_82 : decode cX7_goes 82 = .ok (.getfield 22, 3) := by decide +kernel
theorem dX7_goes_85 : decode cX7_goes 85 = .ok (.iload_n 1, 1) := by decide +kernel
theorem dX7_goes_86 : decode cX7_goes 86 = .ok (.dup2, 1) := by decide +kernel
theorem dX7_goes_87 : decode cX7_goes 87 = .ok (.iaload, 1) := by decide +kernel
theorem dX7_goes_88 : decode cX7_goes 88 = .ok (.iconst 1, 1) := by decide +kernel
theorem dX7_goes_89 : decode cX7_goes 89 = .ok (.isub, 1) := by decide +kernel
theorem dX7_goes_90 : decode cX7_goes 90 = .ok (.iastore, 1) := by decide +kernel
theorem dX7_goes_91 : decode cX7_goes 91 = .ok (.iload_n 2, 1) := by decide +kernel
theorem dX7_goes_92 : decode cX7_goes 92 = .ok (.istore 5, 2) := by decide +kernel
theorem dX7_goes_94 : decode cX7_goes 94 = .ok (.iload 5, 2) := by decide +kernel
theorem dX7_goes_96 : decode cX7_goes 96 = .ok (.aload_n 0, 1) := by decide +kernel
theorem dX7_goes_97 : decode cX7_goes 97 = .ok (.getfield 22, 3) := by decide +kernel
theorem dX7_goes_100 : decode cX7_goes 100 = .ok (.iload_n 1, 1) := by decide +kernel
theorem dX7_goes_101 : decode cX7_goes 101 = .ok (.iaload, 1) := by decide +kernel
theorem dX7_goes_102 : decode cX7_goes 102 = .ok (.if_icmp .ge 35, 3) := by decide +kernel
theorem dX7_goes_105 : decode cX7_goes 105 = .ok (.aload_n 0, 1) := by decide +kernel
theorem dX7_goes_106 : decode cX7_goes 106 = .ok (.getfield 25, 3) := by decide +kernel
theorem dX7_goes_109 : decode cX7_goes 109 = .ok (.bipush 80, 2) := by decide +kernel
theorem dX7_goes_111 : decode cX7_goes 111 = .ok (.iload_n 1, 1) := by decide +kernel
theorem dX7_goes_112 : decode cX7_goes 112 = .ok (.imul, 1) := by decide +kernel
theorem dX7_goes_113 : decode cX7_goes 113 = .ok (.iload 5, 2) := by decide +kernel
theorem dX7_goes_115 : decode cX7_goes 115 = .ok (.iadd, 1) := by decide +kernel
theorem dX7_goes_116 : decode cX7_goes 116 = .ok (.aload_n 0, 1) := by decide +kernel
theorem dX7_goes_117 : decode cX7_goes 117 = .ok (.getfield 25, 3) := by decide +kernel
theorem dX7_goes_120 : decode cX7_goes 120 = .ok (.bipush 80, 2) := by decide +kernel
theorem dX7_goes_122 : decode cX7_goes 122 = .ok (.iload_n 1, 1) := by decide +kernel
theorem dX7_goes_123 : decode cX7_goes 123 = .ok (.imul, 1) := by decide +kernel
theorem dX7_goes_124 : decode cX7_goes 124 = .ok (.iload 5, 2) := by decide +kernel
theorem dX7_goes_126 : decode cX7_goes 126 = .ok (.iadd, 1) := by decide +kernel
theorem dX7_goes_127 : decode cX7_goes 127 = .ok (.iconst 1, 1) := by decide +kernel
theorem dX7_goes_128 : decode cX7_goes 128 = .ok (.iadd, 1) := by decide +kernel
theorem dX7_goes_129 : decode cX7_goes 129 = .ok (.iaload, 1) := by decide +kernel
theorem dX7_goes_130 : decode cX7_goes 130 = .ok (.iastore, 1) := by decide +kernel
theorem dX7_goes_131 : decode cX7_goes 131 = .ok (.iinc 5 1, 3) := by decide +kernel
theorem dX7_goes_134 : decode cX7_goes 134 = .ok (.goto (-40), 3) := by decide +kernel
theorem dX7_goes_137 : decode cX7_goes 137 = .ok (.return_, 1) := by decide +kernel
theorem dX7_drop_0 : decode cX7_drop 0 = .ok (.aload_n 0, 1) := by decide +kernel
theorem dX7_drop_1 : decode cX7_drop 1 = .ok (.iconst 0, 1) := by decide +kernel
theorem dX7_drop_2 : decode cX7_drop 2 = .ok (.putfield 60, 3) := by decide +kernel
theorem dX7_drop_5 : decode cX7_drop 5 = .ok (.aload_n 0, 1) := by decide +kernel
theorem dX7_drop_6 : decode cX7_drop 6 = .ok (.iload_n 1, 1) := by decide +kernel
theorem dX7_drop_7 : decode cX7_drop 7 = .ok (.invokevirtual 125, 3) := by decide +kernel
theorem dX7_drop_10 : decode cX7_drop 10 = .ok (.ifCond .ne 6, 3) := by decide +kernel
theorem dX7_drop_13 : decode cX7_drop 13 = .ok (.bipush (-101), 2) := by decide +kernel
theorem dX7_drop_15 : decode cX7_drop 15 = .ok (.ireturn, 1) := by decide +kernel
theorem dX7_drop_16 : decode cX7_drop 16 = .ok (.aload_n 0, 1) := by decide +kernel
theorem dX7_drop_17 : decode cX7_drop 17 = .ok (.getfield 19, 3) := by decide +kernel
theorem dX7_drop_20 : decode cX7_drop 20 = .ok (.iload_n 1, 1) := by decide +kernel
theorem dX7_drop_21 : decode cX7_drop 21 = .ok (.iconst 0, 1) := by decide +kernel
theorem dX7_drop_22 : decode cX7_drop 22 = .ok (.iastore, 1) := by decide +kernel
theorem dX7_drop_23 : decode cX7_drop 23 = .ok (.aload_n 0, 1) := by decide +kernel
theorem dX7_drop_24 : decode cX7_drop 24 = .ok (.getfield 22, 3) := by decide +kernel
theorem dX7_drop_27 : decode cX7_drop 27 = .ok (.iload_n 1, 1) := by decide +kernel
theorem dX7_drop_28 : decode cX7_drop 28 = .ok (.iaload, 1) := by decide +kernel
theorem dX7_drop_29 : decode cX7_drop 29 = .ok (.ireturn, 1) := by decide +kernel
theorem dX7_sumOf_0 : decode cX7_sumOf 0 = .ok (.iconst 1, 1) := by decide +kernel
theorem dX7_sumOf_1 : decode cX7_sumOf 1 = .ok (.istore_n 2, 1) := by decide +kernel
theorem dX7_sumOf_2 : decode cX7_sumOf 2 = .ok (.iconst 0, 1) := by decide +kernel
theorem dX7_sumOf_3 : decode cX7_sumOf 3 = .ok (.istore_n 3, 1) := by decide +kernel
theorem dX7_sumOf_4 : decode cX7_sumOf 4 = .ok (.iconst 0, 1) := by decide +kernel
theorem dX7_sumOf_5 : decode cX7_sumOf 5 = .ok (.istore 4, 2) := by decide +kernel
theorem dX7_sumOf_7 : decode cX7_sumOf 7 = .ok (.iload 4, 2) := by decide +kernel
theorem dX7_sumOf_9 : decode cX7_sumOf 9 = .ok (.aload_n 0, 1) := by decide +kernel
theorem dX7_sumOf_10 : decode cX7_sumOf 10 = .ok (.getfield 28, 3) := by decide +kernel
theorem dX7_sumOf_13 : decode cX7_sumOf 13 = .ok (.iload_n 1, 1) := by decide +kernel
theorem dX7_sumOf_14 : decode cX7_sumOf 14 = .ok (.iaload, 1) := by decide +kernel
theorem dX7_sumOf_15 : decode cX7_sumOf 15 = .ok (.if_icmp .ge 36, 3) := by decide +kernel
theorem dX7_sumOf_18 : decode cX7_sumOf 18 = .ok (.iload_n 2, 1) := by decide +kernel
theorem dX7_sumOf_19 : decode cX7_sumOf 19 = .ok (.aload_n 0, 1) := by decide +kernel
theorem dX7_sumOf_20 : decode cX7_sumOf 20 = .ok (.getfield 31, 3) := by decide +kernel
theorem dX7_sumOf_23 : decode cX7_sumOf 23 = .ok (.bipush 80, 2) := by decide +kernel
theorem dX7_sumOf_25 : decode cX7_sumOf 25 = .ok (.iload_n 1, 1) := by decide +kernel
theorem dX7_sumOf_26 : decode cX7_sumOf 26 = .ok (.imul, 1) := by decide +kernel
theorem dX7_sumOf_27 : decode cX7_sumOf 27 = .ok (.iload 4, 2) := by decide +kernel
theorem dX7_sumOf_29 : decode cX7_sumOf 29 = .ok (.iadd, 1) := by decide +kernel
theorem dX7_sumOf_30 : decode cX7_sumOf 30 = .ok (.iaload, 1) := by decide +kernel
theorem dX7_sumOf_31 : decode cX7_sumOf 31 = .ok (.iadd, 1) := by decide +kernel
theorem dX7_sumOf_32 : decode cX7_sumOf 32 = .ok (.sipush 251, 3) := by decide +kernel
theorem dX7_sumOf_35 : decode cX7_sumOf 35 = .ok (.irem, 1) := by decide +kernel
theorem dX7_sumOf_36 : decode cX7_sumOf 36 = .ok (.istore_n 2, 1) := by decide +kernel
theorem dX7_sumOf_37 : decode cX7_sumOf 37 = .ok (.iload_n 3, 1) := by decide +kernel
theorem dX7_sumOf_38 : decode cX7_sumOf 38 = .ok (.iload_n 2, 1) := by decide +kernel
theorem dX7_sumOf_39 : decode cX7_sumOf 39 = .ok (.iadd, 1) := by decide +kernel
theorem dX7_sumOf_40 : decode cX7_sumOf 40 = .ok (.sipush 251, 3) := by decide +kernel
theorem dX7_sumOf_43 : decode cX7_sumOf 43 = .ok (.irem, 1) := by decide +kernel
theorem dX7_sumOf_44 : decode cX7_sumOf 44 = .ok (.istore_n 3, 1) := by decide +kernel
theorem dX7_sumOf_45 : decode cX7_sumOf 45 = .ok (.iinc 4 1, 3) := by decide +kernel
theorem dX7_sumOf_48 : decode cX7_sumOf 48 = .ok (.goto (-41), 3) := by decide +kernel
theorem dX7_sumOf_51 : decode cX7_sumOf 51 = .ok (.sipush 256, 3) := by decide +kernel
theorem dX7_sumOf_54 : decode cX7_sumOf 54 = .ok (.iload_n 3, 1) := by decide +kernel
theorem dX7_sumOf_55 : decode cX7_sumOf 55 = .ok (.imul, 1) := by decide +kernel
theorem dX7_sumOf_56 : decode cX7_sumOf 56 = .ok (.iload_n 2, 1) := by decide +kernel
theorem dX7_sumOf_57 : decode cX7_sumOf 57 = .ok (.iadd, 1) := by decide +kernel
theorem dX7_sumOf_58 : decode cX7_sumOf 58 = .ok (.ireturn, 1) := by decide +kernel
theorem dX7_told_0 : decode cX7_told 0 = .ok (.aload_n 0, 1) := by decide +kernel
theorem dX7_told_1 : decode cX7_told 1 = .ok (.iconst 0, 1) := by decide +kernel
theorem dX7_told_2 : decode cX7_told 2 = .ok (.putfield 60, 3) := by decide +kernel
theorem dX7_told_5 : decode cX7_told 5 = .ok (.aload_n 0, 1) := by decide +kernel
theorem dX7_told_6 : decode cX7_told 6 = .ok (.iload_n 1, 1) := by decide +kernel
theorem dX7_told_7 : decode cX7_told 7 = .ok (.invokevirtual 125, 3) := by decide +kernel
theorem dX7_told_10 : decode cX7_told 10 = .ok (.ifCond .ne 6, 3) := by decide +kernel
theorem dX7_told_13 : decode cX7_told 13 = .ok (.bipush (-101), 2) := by decide +kernel
theorem dX7_told_15 : decode cX7_told 15 = .ok (.ireturn, 1) := by decide +kernel
theorem dX7_told_16 : decode cX7_told 16 = .ok (.iload_n 2, 1) := by decide +kernel
theorem dX7_told_17 : decode cX7_told 17 = .ok (.tableswitch 58 0 3 #[31, 38, 45, 52], 31) := by decide +kernel
theorem dX7_told_48 : decode cX7_told 48 = .ok (.aload_n 0, 1) := by decide +kernel
theorem dX7_told_49 : decode cX7_told 49 = .ok (.getfield 19, 3) := by decide +kernel
theorem dX7_told_52 : decode cX7_told 52 = .ok (.iload_n 1, 1) := by decide +kernel
theorem dX7_told_53 : decode cX7_told 53 = .ok (.iaload, 1) := by decide +kernel
