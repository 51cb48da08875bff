theorem dX7_told_54 : decode cX7_told 54 = .ok (.ireturn, 1) := by decide +kernel
theorem dX7_told_55 : decode cX7_told 55 = .ok (.aload_n 0, 1) := by decide +kernel
theorem dX7_told_56 : decode cX7_told 56 = .ok (.getfield 22, 3) := by decide +kernel
theorem dX7_told_59 : decode cX7_told 59 = .ok (.iload_n 1, 1) := by decide +kernel
theorem dX7_told_60 : decode cX7_told 60 = .ok (.iaload, 1) := by decide +kernel
theorem dX7_told_61 : decode cX7_told 61 = .ok (.ireturn, 1) := by decide +kernel
theorem dX7_told_62 : decode cX7_told 62 = .ok (.aload_n 0, 1) := by decide +kernel
theorem dX7_told_63 : decode cX7_told 63 = .ok (.getfield 28, 3) := by decide +kernel
theorem dX7_told_66 : decode cX7_told 66 = .ok (.iload_n 1, 1) := by decide +kernel
theorem dX7_told_67 : decode cX7_told 67 = .ok (.iaload, 1) := by decide +kernel
theorem dX7_told_68 : decode cX7_told 68 = .ok (.ireturn, 1) := by decide +kernel
theorem dX7_told_69 : decode cX7_told 69 = .ok (.aload_n 0, 1) := by decide +kernel
theorem dX7_told_70 : decode cX7_told 70 = .ok (.iload_n 1, 1) := by decide +kernel
theorem dX7_told_71 : decode cX7_told 71 = .ok (.invokevirtual 135, 3) := by decide +kernel
theorem dX7_told_74 : decode cX7_told 74 = .ok (.ireturn, 1) := by decide +kernel
theorem dX7_told_75 : decode cX7_told 75 = .ok (.iload_n 2, 1) := by decide +kernel
theorem dX7_told_76 : decode cX7_told 76 = .ok (.i2l, 1) := by decide +kernel
theorem dX7_told_77 : decode cX7_told 77 = .ok (.ldc2_w 139, 3) := by decide +kernel
theorem dX7_told_80 : decode cX7_told 80 = .ok (.bipush 9, 2) := by decide +kernel
theorem dX7_told_82 : decode cX7_told 82 = .ok (.aload_n 0, 1) := by decide +kernel
theorem dX7_told_83 : decode cX7_told 83 = .ok (.getfield 22, 3) := by decide +kernel
theorem dX7_told_86 : decode cX7_told 86 = .ok (.iload_n 1, 1) := by decide +kernel
theorem dX7_told_87 : decode cX7_told 87 = .ok (.iaload, 1) := by decide +kernel
theorem dX7_told_88 : decode cX7_told 88 = .ok (.iadd, 1) := by decide +kernel
theorem dX7_told_89 : decode cX7_told 89 = .ok (.i2l, 1) := by decide +kernel
theorem dX7_told_90 : decode cX7_told 90 = .ok (.invokestatic 65, 3) := by decide +kernel
theorem dX7_told_93 : decode cX7_told 93 = .ok (.ifCond .eq 20, 3) := by decide +kernel
theorem dX7_told_96 : decode cX7_told 96 = .ok (.aload_n 0, 1) := by decide +kernel
theorem dX7_told_97 : decode cX7_told 97 = .ok (.getfield 25, 3) := by decide +kernel
theorem dX7_told_100 : decode cX7_told 100 = .ok (.bipush 80, 2) := by decide +kernel
theorem dX7_told_102 : decode cX7_told 102 = .ok (.iload_n 1, 1) := by decide +kernel
theorem dX7_told_103 : decode cX7_told 103 = .ok (.imul, 1) := by decide +kernel
theorem dX7_told_104 : decode cX7_told 104 = .ok (.iload_n 2, 1) := by decide +kernel
theorem dX7_told_105 : decode cX7_told 105 = .ok (.iadd, 1) := by decide +kernel
theorem dX7_told_106 : decode cX7_told 106 = .ok (.bipush 10, 2) := by decide +kernel
theorem dX7_told_108 : decode cX7_told 108 = .ok (.isub, 1) := by decide +kernel
theorem dX7_told_109 : decode cX7_told 109 = .ok (.iaload, 1) := by decide +kernel
theorem dX7_told_110 : decode cX7_told 110 = .ok (.goto 5, 3) := by decide +kernel
theorem dX7_told_113 : decode cX7_told 113 = .ok (.bipush (-102), 2) := by decide +kernel
theorem dX7_told_115 : decode cX7_told 115 = .ok (.ireturn, 1) := by decide +kernel
theorem dX7_content_0 : decode cX7_content 0 = .ok (.aload_n 0, 1) := by decide +kernel
theorem dX7_content_1 : decode cX7_content 1 = .ok (.iload_n 1, 1) := by decide +kernel
theorem dX7_content_2 : decode cX7_content 2 = .ok (.i2l, 1) := by decide +kernel
theorem dX7_content_3 : decode cX7_content 3 = .ok (.lconst 0, 1) := by decide +kernel
theorem dX7_content_4 : decode cX7_content 4 = .ok (.ldc2_w 81, 3) := by decide +kernel
theorem dX7_content_7 : decode cX7_content 7 = .ok (.invokestatic 65, 3) := by decide +kernel
theorem dX7_content_10 : decode cX7_content 10 = .ok (.ifCond .ne 7, 3) := by decide +kernel
theorem dX7_content_13 : decode cX7_content 13 = .ok (.iconst 2, 1) := by decide +kernel
theorem dX7_content_14 : decode cX7_content 14 = .ok (.goto 39, 3) := by decide +kernel
theorem dX7_content_17 : decode cX7_content 17 = .ok (.aload_n 0, 1) := by decide +kernel
theorem dX7_content_18 : decode cX7_content 18 = .ok (.getfield 19, 3) := by decide +kernel
theorem dX7_content_21 : decode cX7_content 21 = .ok (.iload_n 1, 1) := by decide +kernel
theorem dX7_content_22 : decode cX7_content 22 = .ok (.iaload, 1) := by decide +kernel
theorem dX7_content_23 : decode cX7_content 23 = .ok (.ifCond .ne 7, 3) := by decide +kernel
theorem dX7_content_26 : decode cX7_content 26 = .ok (.iconst 1, 1) := by decide +kernel
theorem dX7_content_27 : decode cX7_content 27 = .ok (.goto 26, 3) := by decide +kernel
theorem dX7_content_30 : decode cX7_content 30 = .ok (.iload_n 2, 1) := by decide +kernel
theorem dX7_content_31 : decode cX7_content 31 = .ok (.i2l, 1) := by decide +kernel
theorem dX7_content_32 : decode cX7_content 32 = .ok (.lconst 0, 1) := by decide +kernel
theorem dX7_content_33 : decode cX7_content 33 = .ok (.aload_n 0, 1) := by decide +kernel
theorem dX7_content_34 : decode cX7_content 34 = .ok (.getfield 28, 3) := by decide +kernel
theorem dX7_content_37 : decode cX7_content 37 = .ok (.iload_n 1, 1) := by decide +kernel
theorem dX7_content_38 : decode cX7_content 38 = .ok (.iaload, 1) := by decide +kernel
theorem dX7_content_39 : decode cX7_content 39 = .ok (.iconst 1, 1) := by decide +kernel
theorem dX7_content_40 : decode cX7_content 40 = .ok (.isub, 1) := by decide +kernel
theorem dX7_content_41 : decode cX7_content 41 = .ok (.i2l, 1) := by decide +kernel
theorem dX7_content_42 : decode cX7_content 42 = .ok (.invokestatic 65, 3) := by decide +kernel
theorem dX7_content_45 : decode cX7_content 45 = .ok (.ifCond .eq 7, 3) := by decide +kernel
theorem dX7_content_48 : decode cX7_content 48 = .ok (.iconst 0, 1) := by decide +kernel
theorem dX7_content_49 : decode cX7_content 49 = .ok (.goto 4, 3) := by decide +kernel
theorem dX7_content_52 : decode cX7_content 52 = .ok (.iconst 2, 1) := by decide +kernel
theorem dX7_content_53 : decode cX7_content 53 = .ok (.putfield 60, 3) := by decide +kernel
theorem dX7_content_56 : decode cX7_content 56 = .ok (.aload_n 0, 1) := by decide +kernel
theorem dX7_content_57 : decode cX7_content 57 = .ok (.getfield 60, 3) := by decide +kernel
theorem dX7_content_60 : decode cX7_content 60 = .ok (.ifCond .le 7, 3) := by decide +kernel
theorem dX7_content_63 : decode cX7_content 63 = .ok (.iconst 0, 1) := by decide +kernel
theorem dX7_content_64 : decode cX7_content 64 = .ok (.goto 15, 3) := by decide +kernel
theorem dX7_content_67 : decode cX7_content 67 = .ok (.aload_n 0, 1) := by decide +kernel
theorem dX7_content_68 : decode cX7_content 68 = .ok (.getfield 31, 3) := by decide +kernel
theorem dX7_content_71 : decode cX7_content 71 = .ok (.bipush 80, 2) := by decide +kernel
theorem dX7_content_73 : decode cX7_content 73 = .ok (.iload_n 1, 1) := by decide +kernel
theorem dX7_content_74 : decode cX7_content 74 = .ok (.imul, 1) := by decide +kernel
theorem dX7_content_75 : decode cX7_content 75 = .ok (.iload_n 2, 1) := by decide +kernel
theorem dX7_content_76 : decode cX7_content 76 = .ok (.iadd, 1) := by decide +kernel
theorem dX7_content_77 : decode cX7_content 77 = .ok (.iaload, 1) := by decide +kernel
theorem dX7_content_78 : decode cX7_content 78 = .ok (.i2b, 1) := by decide +kernel
theorem dX7_content_79 : decode cX7_content 79 = .ok (.ireturn, 1) := by decide +kernel
theorem dX7_put_0 : decode cX7_put 0 = .ok (.aload_n 0, 1) := by decide +kernel
theorem dX7_put_1 : decode cX7_put 1 = .ok (.getfield 50, 3) := by decide +kernel
theorem dX7_put_4 : decode cX7_put 4 = .ok (.aload_n 0, 1) := by decide +kernel
theorem dX7_put_5 : decode cX7_put 5 = .ok (.getfield 141, 3) := by decide +kernel
theorem dX7_put_8 : decode cX7_put 8 = .ok (.iload_n 1, 1) := by decide +kernel
theorem dX7_put_9 : decode cX7_put 9 = .ok (.iastore, 1) := by decide +kernel
theorem dX7_put_10 : decode cX7_put 10 = .ok (.aload_n 0, 1) := by decide +kernel
theorem dX7_put_11 : decode cX7_put 11 = .ok (.dup, 1) := by decide +kernel
theorem dX7_put_12 : decode cX7_put 12 = .ok (.getfield 141, 3) := by decide +kernel
theorem dX7_put_15 : decode cX7_put 15 = .ok (.iconst 1, 1) := by decide +kernel
theorem dX7_put_16 : decode cX7_put 16 = .ok (.iadd, 1) := by decide +kernel
theorem dX7_put_17 : decode cX7_put 17 = .ok (.putfield 141, 3) := by decide +kernel
theorem dX7_put_20 : decode cX7_put 20 = .ok (.return_, 1) := by decide +kernel
theorem dX7_putItem_0 : decode cX7_putItem 0 = .ok (.bipush 9, 2) := by decide +kernel
theorem dX7_putItem_2 : decode cX7_putItem 2 = .ok (.istore_n 2, 1) := by decide +kernel
theorem dX7_putItem_3 : decode cX7_putItem 3 = .ok (.iload_n 2, 1) := by decide +kernel
theorem dX7_putItem_4 : decode cX7_putItem 4 = .ok (.iconst 3, 1) := by decide +kernel
theorem dX7_putItem_5 : decode cX7_putItem 5 = .ok (.if_icmp .lt 83, 3) := by decide +kernel
theorem dX7_putItem_8 : decode cX7_putItem 8 = .ok (.aload_n 0, 1) := by decide +kernel
theorem dX7_putItem_9 : decode cX7_putItem 9 = .ok (.getfield 47, 3) := by decide +kernel
theorem dX7_putItem_12 : decode cX7_putItem 12 = .ok (.bipush 10, 2) := by decide +kernel
theorem dX7_putItem_14 : decode cX7_putItem 14 = .ok (.iload_n 1, 1) := by decide +kernel
theorem dX7_putItem_15 : decode cX7_putItem 15 = .ok (.imul, 1) := by decide +kernel
theorem dX7_putItem_16 : decode cX7_putItem 16 = .ok (.iload_n 2, 1) := by decide +kernel
theorem dX7_putItem_17 : decode cX7_putItem 17 = .ok (.iadd, 1) := by decide +kernel
theorem dX7_putItem_18 : decode cX7_putItem 18 = .ok (.iaload, 1) := by decide +kernel
theorem dX7_putItem_19 : decode cX7_putItem 19 = .ok (.iconst 1, 1) := by decide +kernel
theorem dX7_putItem_20 : decode cX7_putItem 20 = .ok (.isub, 1) := by decide +kernel
theorem dX7_putItem_21 : decode cX7_putItem 21 = .ok (.istore_n 3, 1) := by decide +kernel
theorem dX7_putItem_22 : decode cX7_putItem 22 = .ok (.iload_n 3, 1) := by decide +kernel
theorem dX7_putItem_23 : decode cX7_putItem 23 = .ok (.ifCond .lt 59, 3) := by decide +kernel
theorem dX7_putItem_26 : decode cX7_putItem 26 = .ok (.iconst 2, 1) := by decide +kernel
theorem dX7_putItem_27 : decode cX7_putItem 27 = .ok (.aload_n 0, 1) := by decide +kernel
theorem dX7_putItem_28 : decode cX7_putItem 28 = .ok (.getfield 44, 3) := by decide +kernel
theorem dX7_putItem_31 : decode cX7_putItem 31 = .ok (.iload_n 1, 1) := by decide +kernel
theorem dX7_putItem_32 : decode cX7_putItem 32 = .ok (.iload_n 2, 1) := by decide +kernel
theorem dX7_putItem_33 : decode cX7_putItem 33 = .ok (.iadd, 1) := by decide +kernel
theorem dX7_putItem_34 : decode cX7_putItem 34 = .ok (.iaload, 1) := by decide +kernel
theorem dX7_putItem_35 : decode cX7_putItem 35 = .ok (.iadd, 1) := by decide +kernel
theorem dX7_putItem_36 : decode cX7_putItem 36 = .ok (.aload_n 0, 1) := by decide +kernel
theorem dX7_putItem_37 : decode cX7_putItem 37 = .ok (.getfield 44, 3) := by decide +kernel
theorem dX7_putItem_40 : decode cX7_putItem 40 = .ok (.iload_n 1, 1) := by decide +kernel
theorem dX7_putItem_41 : decode cX7_putItem 41 = .ok (.iaload, 1) := by decide +kernel
theorem dX7_putItem_42 : decode cX7_putItem 42 = .ok (.if_icmp .ne 40, 3) := by decide +kernel
theorem dX7_putItem_45 : decode cX7_putItem 45 = .ok (.aload_n 0, 1) := by decide +kernel
theorem dX7_putItem_46 : decode cX7_putItem 46 = .ok (.bipush 32, 2) := by decide +kernel
theorem dX7_putItem_48 : decode cX7_putItem 48 = .ok (.iload_n 2, 1) := by decide +kernel
theorem dX7_putItem_49 : decode cX7_putItem 49 = .ok (.iconst 2, 1) := by decide +kernel
theorem dX7_putItem_50 : decode cX7_putItem 50 = .ok (.isub, 1) := by decide +kernel
theorem dX7_putItem_51 : decode cX7_putItem 51 = .ok (.imul, 1) := by decide +kernel
theorem dX7_putItem_52 : decode cX7_putItem 52 = .ok (.iload_n 3, 1) := by decide +kernel
theorem dX7_putItem_53 : decode cX7_putItem 53 = .ok (.sipush 256, 3) := by decide +kernel
theorem dX7_putItem_56 : decode cX7_putItem 56 = .ok (.idiv, 1) := by decide +kernel
theorem dX7_putItem_57 : decode cX7_putItem 57 = .ok (.iadd, 1) := by decide +kernel
theorem dX7_putItem_58 : decode cX7_putItem 58 = .ok (.invokevirtual 144, 3) := by decide +kernel
theorem dX7_putItem_61 : decode cX7_putItem 61 = .ok (.aload_n 0, 1) := by decide +kernel
theorem dX7_putItem_62 : decode cX7_putItem 62 = .ok (.iload_n 3, 1) := by decide +kernel
theorem dX7_putItem_63 : decode cX7_putItem 63 = .ok (.sipush 256, 3) := by decide +kernel
theorem dX7_putItem_66 : decode cX7_putItem 66 = .ok (.irem, 1) := by decide +kernel
theorem dX7_putItem_67 : decode cX7_putItem 67 = .ok (.invokevirtual 144, 3) := by decide +kernel
theorem dX7_putItem_70 : decode cX7_putItem 70 = .ok (.aload_n 0, 1) := by decide +kernel
theorem dX7_putItem_71 : decode cX7_putItem 71 = .ok (.dup, 1) := by decide +kernel
theorem dX7_putItem_72 : decode cX7_putItem 72 = .ok (.getfield 147, 3) := by decide +kernel
theorem dX7_putItem_75 : decode cX7_putItem 75 = .ok (.iconst 1, 1) := by decide +kernel
theorem dX7_putItem_76 : decode cX7_putItem 76 = .ok (.iadd, 1) := by decide +kernel
theorem dX7_putItem_77 : decode cX7_putItem 77 = .ok (.putfield 147, 3) := by decide +kernel
theorem dX7_putItem_80 : decode cX7_putItem 80 = .ok (.iload_n 2, 1) := by decide +kernel
theorem dX7_putItem_81 : decode cX7_putItem 81 = .ok (.ireturn, 1) := by decide +kernel
theorem dX7_putItem_82 : decode cX7_putItem 82 = .ok (.iinc 2 (-1), 3) := by decide +kernel
theorem dX7_putItem_85 : decode cX7_putItem 85 = .ok (.goto (-82), 3) := by decide +kernel
theorem dX7_putItem_88 : decode cX7_putItem 88 = .ok (.aload_n 0, 1) := by decide +kernel
theorem dX7_putItem_89 : decode cX7_putItem 89 = .ok (.getfield 103, 3) := by decide +kernel
theorem dX7_putItem_92 : decode cX7_putItem 92 = .ok (.iload_n 1, 1) := by decide +kernel
theorem dX7_putItem_93 : decode cX7_putItem 93 = .ok (.isub, 1) := by decide +kernel
theorem dX7_putItem_94 : decode cX7_putItem 94 = .ok (.bipush 32, 2) := by decide +kernel
theorem dX7_putItem_96 : decode cX7_putItem 96 = .ok (.if_icmp .ge 12, 3) := by decide +kernel
theorem dX7_putItem_99 : decode cX7_putItem 99 = .ok (.aload_n 0, 1) := by decide +kernel
theorem dX7_putItem_100 : decode cX7_putItem 100 = .ok (.getfield 103, 3) := by decide +kernel
theorem dX7_putItem_103 : decode cX7_putItem 103 = .ok (.iload_n 1, 1) := by decide +kernel
theorem dX7_putItem_104 : decode cX7_putItem 104 = .ok (.isub, 1) := by decide +kernel
theorem dX7_putItem_105 : decode cX7_putItem 105 = .ok (.goto 5, 3) := by decide +kernel
theorem dX7_putItem_108 : decode cX7_putItem 108 = .ok (.bipush 32, 2) := by decide +kernel
theorem dX7_putItem_110 : decode cX7_putItem 110 = .ok (.istore_n 2, 1) := by decide +kernel
theorem dX7_putItem_111 : decode cX7_putItem 111 = .ok (.iconst 1, 1) := by decide +kernel
theorem dX7_putItem_112 : decode cX7_putItem 112 = .ok (.iload_n 2, 1) := by decide +kernel
theorem dX7_putItem_113 : decode cX7_putItem 113 = .ok (.iadd, 1) := by decide +kernel
theorem dX7_putItem_114 : decode cX7_putItem 114 = .ok (.aload_n 0, 1) := by decide +kernel
theorem dX7_putItem_115 : decode cX7_putItem 115 = .ok (.getfield 44, 3) := by decide +kernel
theorem dX7_putItem_118 : decode cX7_putItem 118 = .ok (.iload_n 1, 1) := by decide +kernel
theorem dX7_putItem_119 : decode cX7_putItem 119 = .ok (.iload_n 2, 1) := by decide +kernel
theorem dX7_putItem_120 : decode cX7_putItem 120 = .ok (.iadd, 1) := by decide +kernel
theorem dX7_putItem_121 : decode cX7_putItem 121 = .ok (.iaload, 1) := by decide +kernel
theorem dX7_putItem_122 : decode cX7_putItem 122 = .ok (.iadd, 1) := by decide +kernel
theorem dX7_putItem_123 : decode cX7_putItem 123 = .ok (.aload_n 0, 1) := by decide +kernel
theorem dX7_putItem_124 : decode cX7_putItem 124 = .ok (.getfield 44, 3) := by decide +kernel
theorem dX7_putItem_127 : decode cX7_putItem 127 = .ok (.iload_n 1, 1) := by decide +kernel
theorem dX7_putItem_128 : decode cX7_putItem 128 = .ok (.iaload, 1) := by decide +kernel
theorem dX7_putItem_129 : decode cX7_putItem 129 = .ok (.if_icmp .eq 9, 3) := by decide +kernel
theorem dX7_putItem_132 : decode cX7_putItem 132 = .ok (.iinc 2 (-1), 3) := by decide +kernel
theorem dX7_putItem_135 : decode cX7_putItem 135 = .ok (.goto (-24), 3) := by decide +kernel
theorem dX7_putItem_138 : decode cX7_putItem 138 = .ok (.aload_n 0, 1) := by decide +kernel
theorem dX7_putItem_139 : decode cX7_putItem 139 = .ok (.iload_n 2, 1) := by decide +kernel
theorem dX7_putItem_140 : decode cX7_putItem 140 = .ok (.iconst 1, 1) := by decide +kernel
theorem dX7_putItem_141 : decode cX7_putItem 141 = .ok (.isub, 1) := by decide +kernel
theorem dX7_putItem_142 : decode cX7_putItem 142 = .ok (.invokevirtual 144, 3) := by decide +kernel
theorem dX7_putItem_145 : decode cX7_putItem 145 = .ok (.iconst 0, 1) := by decide +kernel
theorem dX7_putItem_146 : decode cX7_putItem 146 = .ok (.istore_n 3, 1) := by decide +kernel
theorem dX7_putItem_147 : decode cX7_putItem 147 = .ok (.iload_n 3, 1) := by decide +kernel
theorem dX7_putItem_148 : decode cX7_putItem 148 = .ok (.iload_n 2, 1) := by decide +kernel
theorem dX7_putItem_149 : decode cX7_putItem 149 = .ok (.if_icmp .ge 26, 3) := by decide +kernel
theorem dX7_putItem_152 : decode cX7_putItem 152 = .ok (.aload_n 0, 1) := by decide +kernel
theorem dX7_putItem_153 : decode cX7_putItem 153 = .ok (.aload_n 0, 1) := by decide +kernel
theorem dX7_putItem_154 : decode cX7_putItem 154 = .ok (.getfield 41, 3) := by decide +kernel
theorem dX7_putItem_157 : decode cX7_putItem 157 = .ok (.aload_n 0, 1) := by decide +kernel
theorem dX7_putItem_158 : decode cX7_putItem 158 = .ok (.getfield 96, 3) := by decide +kernel
theorem dX7_putItem_161 : decode cX7_putItem 161 = .ok (.iload_n 1, 1) := by decide +kernel
theorem dX7_putItem_162 : decode cX7_putItem 162 = .ok (.iadd, 1) := by decide +kernel
theorem dX7_putItem_163 : decode cX7_putItem 163 = .ok (.iload_n 3, 1) := by decide +kernel
theorem dX7_putItem_164 : decode cX7_putItem 164 = .ok (.iadd, 1) := by decide +kernel
theorem dX7_putItem_165 : decode cX7_putItem 165 = .ok (.iaload, 1) := by decide +kernel
theorem dX7_putItem_166 : decode cX7_putItem 166 = .ok (.invokevirtual 144, 3) := by decide +kernel
theorem dX7_putItem_169 : decode cX7_putItem 169 = .ok (.iinc 3 1, 3) := by decide +kernel
theorem dX7_putItem_172 : decode cX7_putItem 172 = .ok (.goto (-25), 3) := by decide +kernel
theorem dX7_putItem_175 : decode cX7_putItem 175 = .ok (.iload_n 2, 1) := by decide +kernel
theorem dX7_putItem_176 : decode cX7_putItem 176 = .ok (.ireturn, 1) := by decide +kernel
theorem dX7_pack_0 : decode cX7_pack 0 = .ok (.aload_n 0, 1) := by decide +kernel
theorem dX7_pack_1 : decode cX7_pack 1 = .ok (.iconst 0, 1) := by decide +kernel
theorem dX7_pack_2 : decode cX7_pack 2 = .ok (.putfield 60, 3) := by decide +kernel
theorem dX7_pack_5 : decode cX7_pack 5 = .ok (.iload_n 1, 1) := by decide +kernel
theorem dX7_pack_6 : decode cX7_pack 6 = .ok (.iconst (-1), 1) := by decide +kernel
theorem dX7_pack_7 : decode cX7_pack 7 = .ok (.if_icmp .eq 14, 3) := by decide +kernel
theorem dX7_pack_10 : decode cX7_pack 10 = .ok (.aload_n 0, 1) := by decide +kernel
theorem dX7_pack_11 : decode cX7_pack 11 = .ok (.iload_n 1, 1) := by decide +kernel
theorem dX7_pack_12 : decode cX7_pack 12 = .ok (.invokevirtual 125, 3) := by decide +kernel
theorem dX7_pack_15 : decode cX7_pack 15 = .ok (.ifCond .ne 6, 3) := by decide +kernel
theorem dX7_pack_18 : decode cX7_pack 18 = .ok (.bipush (-101), 2) := by decide +kernel
theorem dX7_pack_20 : decode cX7_pack 20 = .ok (.ireturn, 1) := by decide +kernel
theorem dX7_pack_21 : decode cX7_pack 21 = .ok (.aload_n 0, 1) := by decide +kernel
theorem dX7_pack_22 : decode cX7_pack 22 = .ok (.iload_n 1, 1) := by decide +kernel
theorem dX7_pack_23 : decode cX7_pack 23 = .ok (.iconst (-1), 1) := by decide +kernel
theorem dX7_pack_24 : decode cX7_pack 24 = .ok (.invokevirtual 110, 3) := by decide +kernel
theorem dX7_pack_27 : decode cX7_pack 27 = .ok (.aload_n 0, 1) := by decide +kernel
theorem dX7_pack_28 : decode cX7_pack 28 = .ok (.aload_n 0, 1) := by decide +kernel
theorem dX7_pack_29 : decode cX7_pack 29 = .ok (.getfield 56, 3) := by decide +kernel
theorem dX7_pack_32 : decode cX7_pack 32 = .ok (.putfield 103, 3) := by decide +kernel
theorem dX7_pack_35 : decode cX7_pack 35 = .ok (.iconst 0, 1) := by decide +kernel
theorem dX7_pack_36 : decode cX7_pack 36 = .ok (.istore_n 2, 1) := by decide +kernel
theorem dX7_pack_37 : decode cX7_pack 37 = .ok (.iload_n 2, 1) := by decide +kernel
theorem dX7_pack_38 : decode cX7_pack 38 = .ok (.aload_n 0, 1) := by decide +kernel
theorem dX7_pack_39 : decode cX7_pack 39 = .ok (.getfield 56, 3) := by decide +kernel
theorem dX7_pack_42 : decode cX7_pack 42 = .ok (.if_icmp .ge 26, 3) := by decide +kernel
theorem dX7_pack_45 : decode cX7_pack 45 = .ok (.aload_n 0, 1) := by decide +kernel
theorem dX7_pack_46 : decode cX7_pack 46 = .ok (.getfield 41, 3) := by decide +kernel
theorem dX7_pack_49 : decode cX7_pack 49 = .ok (.aload_n 0, 1) := by decide +kernel
theorem dX7_pack_50 : decode cX7_pack 50 = .ok (.getfield 96, 3) := by decide +kernel
theorem dX7_pack_53 : decode cX7_pack 53 = .ok (.iload_n 2, 1) := by decide +kernel
theorem dX7_pack_54 : decode cX7_pack 54 = .ok (.iadd, 1) := by decide +kernel
theorem dX7_pack_55 : decode cX7_pack 55 = .ok (.aload_n 0, 1) := by decide +kernel
theorem dX7_pack_56 : decode cX7_pack 56 = .ok (.getfield 7, 3) := by decide +kernel
theorem dX7_pack_59 : decode cX7_pack 59 = .ok (.iload_n 2, 1) := by decide +kernel
theorem dX7_pack_60 : decode cX7_pack 60 = .ok (.iaload, 1) := by decide +kernel
theorem dX7_pack_61 : decode cX7_pack 61 = .ok (.iastore, 1) := by decide +kernel
theorem dX7_pack_62 : decode cX7_pack 62 = .ok (.iinc 2 1, 3) := by decide +kernel
theorem dX7_pack_65 : decode cX7_pack 65 = .ok (.goto (-28), 3) := by decide +kernel
theorem dX7_pack_68 : decode cX7_pack 68 = .ok (.aload_n 0, 1) := by decide +kernel
theorem dX7_pack_69 : decode cX7_pack 69 = .ok (.invokevirtual 117, 3) := by decide +kernel
theorem dX7_pack_72 : decode cX7_pack 72 = .ok (.istore_n 2, 1) := by decide +kernel
theorem dX7_pack_73 : decode cX7_pack 73 = .ok (.aload_n 0, 1) := by decide +kernel
theorem dX7_pack_74 : decode cX7_pack 74 = .ok (.iconst 0, 1) := by decide +kernel
theorem dX7_pack_75 : decode cX7_pack 75 = .ok (.putfield 141, 3) := by decide +kernel
theorem dX7_pack_78 : decode cX7_pack 78 = .ok (.aload_n 0, 1) := by decide +kernel
theorem dX7_pack_79 : decode cX7_pack 79 = .ok (.iconst 0, 1) := by decide +kernel
theorem dX7_pack_80 : decode cX7_pack 80 = .ok (.putfield 150, 3) := by decide +kernel
theorem dX7_pack_83 : decode cX7_pack 83 = .ok (.aload_n 0, 1) := by decide +kernel
theorem dX7_pack_84 : decode cX7_pack 84 = .ok (.iconst 0, 1) := by decide +kernel
theorem dX7_pack_85 : decode cX7_pack 85 = .ok (.putfield 147, 3) := by decide +kernel
theorem dX7_pack_88 : decode cX7_pack 88 = .ok (.iload_n 1, 1) := by decide +kernel
theorem dX7_pack_89 : decode cX7_pack 89 = .ok (.iconst (-1), 1) := by decide +kernel
theorem dX7_pack_90 : decode cX7_pack 90 = .ok (.if_icmp .ne 7, 3) := by decide +kernel
theorem dX7_pack_93 : decode cX7_pack 93 = .ok (.iconst 0, 1) := by decide +kernel
theorem dX7_pack_94 : decode cX7_pack 94 = .ok (.goto 8, 3) := by decide +kernel
theorem dX7_pack_97 : decode cX7_pack 97 = .ok (.aload_n 0, 1) := by decide +kernel
theorem dX7_pack_98 : decode cX7_pack 98 = .ok (.iload_n 1, 1) := by decide +kernel
theorem dX7_pack_99 : decode cX7_pack 99 = .ok (.invokevirtual 135, 3) := by decide +kernel
theorem dX7_pack_102 : decode cX7_pack 102 = .ok (.istore_n 3, 1) := by decide +kernel
theorem dX7_pack_103 : decode cX7_pack 103 = .ok (.aload_n 0, 1) := by decide +kernel
theorem dX7_pack_104 : decode cX7_pack 104 = .ok (.iload_n 1, 1) := by decide +kernel
theorem dX7_pack_105 : decode cX7_pack 105 = .ok (.iconst (-1), 1) := by decide +kernel
theorem dX7_pack_106 : decode cX7_pack 106 = .ok (.if_icmp .ne 7, 3) := by decide +kernel
theorem dX7_pack_109 : decode cX7_pack 109 = .ok (.iconst 0, 1) := by decide +kernel
theorem dX7_pack_110 : decode cX7_pack 110 = .ok (.goto 9, 3) := by decide +kernel
theorem dX7_pack_113 : decode cX7_pack 113 = .ok (.aload_n 0, 1) := by decide +kernel
theorem dX7_pack_114 : decode cX7_pack 114 = .ok (.getfield 19, 3) := by decide +kernel
theorem dX7_pack_117 : decode cX7_pack 117 = .ok (.iload_n 1, 1) := by decide +kernel
theorem dX7_pack_118 : decode cX7_pack 118 = .ok (.iaload, 1) := by decide +kernel
theorem dX7_pack_119 : decode cX7_pack 119 = .ok (.invokevirtual 144, 3) := by decide +kernel
theorem dX7_pack_122 : decode cX7_pack 122 = .ok (.aload_n 0, 1) := by decide +kernel
theorem dX7_pack_123 : decode cX7_pack 123 = .ok (.iload_n 3, 1) := by decide +kernel
theorem dX7_pack_124 : decode cX7_pack 124 = .ok (.sipush 256, 3) := by decide +kernel
theorem dX7_pack_127 : decode cX7_pack 127 = .ok (.idiv, 1) := by decide +kernel
theorem dX7_pack_128 : decode cX7_pack 128 = .ok (.invokevirtual 144, 3) := by decide +kernel
theorem dX7_pack_131 : decode cX7_pack 131 = .ok (.aload_n 0, 1) := by decide +kernel
theorem dX7_pack_132 : decode cX7_pack 132 = .ok (.iload_n 3, 1) := by decide +kernel
theorem dX7_pack_133 : decode cX7_pack 133 = .ok (.sipush 256, 3) := by decide +kernel
theorem dX7_pack_136 : decode cX7_pack 136 = .ok (.irem, 1) := by decide +kernel
theorem dX7_pack_137 : decode cX7_pack 137 = .ok (.invokevirtual 144, 3) := by decide +kernel
theorem dX7_pack_140 : decode cX7_pack 140 = .ok (.aload_n 0, 1) := by decide +kernel
theorem dX7_pack_141 : decode cX7_pack 141 = .ok (.aload_n 0, 1) := by decide +kernel
theorem dX7_pack_142 : decode cX7_pack 142 = .ok (.getfield 56, 3) := by decide +kernel
theorem dX7_pack_145 : decode cX7_pack 145 = .ok (.invokevirtual 144, 3) := by decide +kernel
theorem dX7_pack_148 : decode cX7_pack 148 = .ok (.iconst 0, 1) := by decide +kernel
theorem dX7_pack_149 : decode cX7_pack 149 = .ok (.istore 4, 2) := by decide +kernel
theorem dX7_pack_151 : decode cX7_pack 151 = .ok (.iload 4, 2) := by decide +kernel
theorem dX7_pack_153 : decode cX7_pack 153 = .ok (.aload_n 0, 1) := by decide +kernel
theorem dX7_pack_154 : decode cX7_pack 154 = .ok (.getfield 103, 3) := by decide +kernel
theorem dX7_pack_157 : decode cX7_pack 157 = .ok (.if_icmp .ge 27, 3) := by decide +kernel
theorem dX7_pack_160 : decode cX7_pack 160 = .ok (.aload_n 0, 1) := by decide +kernel
theorem dX7_pack_161 : decode cX7_pack 161 = .ok (.dup, 1) := by decide +kernel
theorem dX7_pack_162 : decode cX7_pack 162 = .ok (.getfield 150, 3) := by decide +kernel
theorem dX7_pack_165 : decode cX7_pack 165 = .ok (.iconst 1, 1) := by decide +kernel
theorem dX7_pack_166 : decode cX7_pack 166 = .ok (.iadd, 1) := by decide +kernel
theorem dX7_pack_167 : decode cX7_pack 167 = .ok (.putfield 150, 3) := by decide +kernel
theorem dX7_pack_170 : decode cX7_pack 170 = .ok (.iload 4, 2) := by decide +kernel
theorem dX7_pack_172 : decode cX7_pack 172 = .ok (.aload_n 0, 1) := by decide +kernel
theorem dX7_pack_173 : decode cX7_pack 173 = .ok (.iload 4, 2) := by decide +kernel
theorem dX7_pack_175 : decode cX7_pack 175 = .ok (.invokevirtual 153, 3) := by decide +kernel
theorem dX7_pack_178 : decode cX7_pack 178 = .ok (.iadd, 1) := by decide +kernel
theorem dX7_pack_179 : decode cX7_pack 179 = .ok (.istore 4, 2) := by decide +kernel
theorem dX7_pack_181 : decode cX7_pack 181 = .ok (.goto (-30), 3) := by decide +kernel
theorem dX7_pack_184 : decode cX7_pack 184 = .ok (.aload_n 0, 1) := by decide +kernel
theorem dX7_pack_185 : decode cX7_pack 185 = .ok (.iconst 0, 1) := by decide +kernel
theorem dX7_pack_186 : decode cX7_pack 186 = .ok (.putfield 56, 3) := by decide +kernel
theorem dX7_pack_189 : decode cX7_pack 189 = .ok (.iload_n 2, 1) := by decide +kernel
theorem dX7_pack_190 : decode cX7_pack 190 = .ok (.ireturn, 1) := by decide +kernel
theorem dX7_out_0 : decode cX7_out 0 = .ok (.aload_n 0, 1) := by decide +kernel
theorem dX7_out_1 : decode cX7_out 1 = .ok (.iload_n 1, 1) := by decide +kernel
theorem dX7_out_2 : decode cX7_out 2 = .ok (.i2l, 1) := by decide +kernel
theorem dX7_out_3 : decode cX7_out 3 = .ok (.lconst 0, 1) := by decide +kernel
theorem dX7_out_4 : decode cX7_out 4 = .ok (.aload_n 0, 1) := by decide +kernel
theorem dX7_out_5 : decode cX7_out 5 = .ok (.getfield 141, 3) := by decide +kernel
theorem dX7_out_8 : decode cX7_out 8 = .ok (.iconst 1, 1) := by decide +kernel
theorem dX7_out_9 : decode cX7_out 9 = .ok (.isub, 1) := by decide +kernel
theorem dX7_out_10 : decode cX7_out 10 = .ok (.i2l, 1) := by decide +kernel
theorem dX7_out_11 : decode cX7_out 11 = .ok (.invokestatic 65, 3) := by decide +kernel
theorem dX7_out_14 : decode cX7_out 14 = .ok (.ifCond .eq 7, 3) := by decide +kernel
theorem dX7_out_17 : decode cX7_out 17 = .ok (.iconst 0, 1) := by decide +kernel
theorem dX7_out_18 : decode cX7_out 18 = .ok (.goto 4, 3) := by decide +kernel
theorem dX7_out_21 : decode cX7_out 21 = .ok (.iconst 1, 1) := by decide +kernel
theorem dX7_out_22 : decode cX7_out 22 = .ok (.putfield 60, 3) := by decide +kernel
theorem dX7_out_25 : decode cX7_out 25 = .ok (.aload_n 0, 1) := by decide +kernel
theorem dX7_out_26 : decode cX7_out 26 = .ok (.getfield 60, 3) := by decide +kernel
theorem dX7_out_29 : decode cX7_out 29 = .ok (.ifCond .le 7, 3) := by decide +kernel
theorem dX7_out_32 : decode cX7_out 32 = .ok (.iconst 0, 1) := by decide +kernel
theorem dX7_out_33 : decode cX7_out 33 = .ok (.goto 9, 3) := by decide +kernel
theorem dX7_out_36 : decode cX7_out 36 = .ok (.aload_n 0, 1) := by decide +kernel
theorem dX7_out_37 : decode cX7_out 37 = .ok (.getfield 50, 3) := by decide +kernel
theorem dX7_out_40 : decode cX7_out 40 = .ok (.iload_n 1, 1) := by decide +kernel
theorem dX7_out_41 : decode cX7_out 41 = .ok (.iaload, 1) := by decide +kernel
theorem dX7_out_42 : decode cX7_out 42 = .ok (.ireturn, 1) := by decide +kernel
theorem dX7_firstWith_0 : decode cX7_firstWith 0 = .ok (.iconst 0, 1) := by decide +kernel
theorem dX7_firstWith_1 : decode cX7_firstWith 1 = .ok (.istore_n 2, 1) := by decide +kernel
theorem dX7_firstWith_2 : decode cX7_firstWith 2 = .ok (.iload_n 2, 1) := by decide +kernel
theorem dX7_firstWith_3 : decode cX7_firstWith 3 = .ok (.bipush 6, 2) := by decide +kernel
theorem dX7_firstWith_5 : decode cX7_firstWith 5 = .ok (.if_icmp .ge 21, 3) := by decide +kernel
theorem dX7_firstWith_8 : decode cX7_firstWith 8 = .ok (.aload_n 0, 1) := by decide +kernel
theorem dX7_firstWith_9 : decode cX7_firstWith 9 = .ok (.getfield 19, 3) := by decide +kernel
theorem dX7_firstWith_12 : decode cX7_firstWith 12 = .ok (.iload_n 2, 1) := by decide +kernel
theorem dX7_firstWith_13 : decode cX7_firstWith 13 = .ok (.iaload, 1) := by decide +kernel
theorem dX7_firstWith_14 : decode cX7_firstWith 14 = .ok (.iload_n 1, 1) := by decide +kernel
theorem dX7_firstWith_15 : decode cX7_firstWith 15 = .ok (.if_icmp .ne 5, 3) := by decide +kernel
theorem dX7_firstWith_18 : decode cX7_firstWith 18 = .ok (.iload_n 2, 1) := by decide +kernel
theorem dX7_firstWith_19 : decode cX7_firstWith 19 = .ok (.ireturn, 1) := by decide +kernel
theorem dX7_firstWith_20 : decode cX7_firstWith 20 = .ok (.iinc 2 1, 3) := by decide +kernel
theorem dX7_firstWith_23 : decode cX7_firstWith 23 = .ok (.goto (-21), 3) := by decide +kernel
theorem dX7_firstWith_26 : decode cX7_firstWith 26 = .ok (.iconst (-1), 1) := by decide +kernel
theorem dX7_firstWith_27 : decode cX7_firstWith 27 = .ok (.ireturn, 1) := by decide +kernel
theorem dX7_wrong_0 : decode cX7_wrong 0 = .ok (.aload_n 0, 1) := by decide +kernel
theorem dX7_wrong_1 : decode cX7_wrong 1 = .ok (.getfield 56, 3) := by decide +kernel
theorem dX7_wrong_4 : decode cX7_wrong 4 = .ok (.ifCond .le 12, 3) := by decide +kernel
theorem dX7_wrong_7 : decode cX7_wrong 7 = .ok (.aload_n 0, 1) := by decide +kernel
theorem dX7_wrong_8 : decode cX7_wrong 8 = .ok (.getfield 7, 3) := by decide +kernel
theorem dX7_wrong_11 : decode cX7_wrong 11 = .ok (.iconst 0, 1) := by decide +kernel
theorem dX7_wrong_12 : decode cX7_wrong 12 = .ok (.iaload, 1) := by decide +kernel
theorem dX7_wrong_13 : decode cX7_wrong 13 = .ok (.goto 4, 3) := by decide +kernel
theorem dX7_wrong_16 : decode cX7_wrong 16 = .ok (.iconst 0, 1) := by decide +kernel
theorem dX7_wrong_17 : decode cX7_wrong 17 = .ok (.istore_n 1, 1) := by decide +kernel
theorem dX7_wrong_18 : decode cX7_wrong 18 = .ok (.iload_n 1, 1) := by decide +kernel
theorem dX7_wrong_19 : decode cX7_wrong 19 = .ok (.ifCond .ne 7, 3) := by decide +kernel
theorem dX7_wrong_22 : decode cX7_wrong 22 = .ok (.iconst (-1), 1) := by decide +kernel
theorem dX7_wrong_23 : decode cX7_wrong 23 = .ok (.goto 8, 3) := by decide +kernel
theorem dX7_wrong_26 : decode cX7_wrong 26 = .ok (.aload_n 0, 1) := by decide +kernel
theorem dX7_wrong_27 : decode cX7_wrong 27 = .ok (.iload_n 1, 1) := by decide +kernel
theorem dX7_wrong_28 : decode cX7_wrong 28 = .ok (.invokevirtual 156, 3) := by decide +kernel
theorem dX7_wrong_31 : decode cX7_wrong 31 = .ok (.istore_n 2, 1) := by decide +kernel
theorem dX7_wrong_32 : decode cX7_wrong 32 = .ok (.aload_n 0, 1) := by decide +kernel
theorem dX7_wrong_33 : decode cX7_wrong 33 = .ok (.getfield 56, 3) := by decide +kernel
theorem dX7_wrong_36 : decode cX7_wrong 36 = .ok (.ifCond .eq 12, 3) := by decide +kernel
theorem dX7_wrong_39 : decode cX7_wrong 39 = .ok (.iload_n 1, 1) := by decide +kernel
theorem dX7_wrong_40 : decode cX7_wrong 40 = .ok (.ifCond .le 10, 3) := by decide +kernel
theorem dX7_wrong_43 : decode cX7_wrong 43 = .ok (.iload_n 2, 1) := by decide +kernel
theorem dX7_wrong_44 : decode cX7_wrong 44 = .ok (.iconst (-1), 1) := by decide +kernel
theorem dX7_wrong_45 : decode cX7_wrong 45 = .ok (.if_icmp .ne 5, 3) := by decide +kernel
theorem dX7_wrong_48 : decode cX7_wrong 48 = .ok (.iconst 0, 1) := by decide +kernel
theorem dX7_wrong_49 : decode cX7_wrong 49 = .ok (.ireturn, 1) := by decide +kernel
theorem dX7_wrong_50 : decode cX7_wrong 50 = .ok (.aload_n 0, 1) := by decide +kernel
theorem dX7_wrong_51 : decode cX7_wrong 51 = .ok (.getfield 56, 3) := by decide +kernel
theorem dX7_wrong_54 : decode cX7_wrong 54 = .ok (.iconst 3, 1) := by decide +kernel
theorem dX7_wrong_55 : decode cX7_wrong 55 = .ok (.if_icmp .ge 8, 3) := by decide +kernel
theorem dX7_wrong_58 : decode cX7_wrong 58 = .ok (.aload_n 0, 1) := by decide +kernel
theorem dX7_wrong_59 : decode cX7_wrong 59 = .ok (.getfield 56, 3) := by decide +kernel
theorem dX7_wrong_62 : decode cX7_wrong 62 = .ok (.ireturn, 1) := by decide +kernel
theorem dX7_wrong_63 : decode cX7_wrong 63 = .ok (.sipush 256, 3) := by decide +kernel
theorem dX7_wrong_66 : decode cX7_wrong 66 = .ok (.aload_n 0, 1) := by decide +kernel
