theorem dX6_init_0 : decode cX6_init 0 = .ok (.aload_n 0, 1) := by decide +kernel
theorem dX6_init_1 : decode cX6_init 1 = .ok (.invokespecial 3, 3) := by decide +kernel
theorem dX6_init_4 : decode cX6_init 4 = .ok (.aload_n 0, 1) := by decide +kernel
theorem dX6_init_5 : decode cX6_init 5 = .ok (.new 9, 3) := by decide +kernel
theorem dX6_init_8 : decode cX6_init 8 = .ok (.dup, 1) := by decide +kernel
theorem dX6_init_9 : decode cX6_init 9 = .ok (.sipush 200, 3) := by decide +kernel
theorem dX6_init_12 : decode cX6_init 12 = .ok (.invokespecial 11, 3) := by decide +kernel
theorem dX6_init_15 : decode cX6_init 15 = .ok (.putfield 14, 3) := by decide +kernel
theorem dX6_init_18 : decode cX6_init 18 = .ok (.aload_n 0, 1) := by decide +kernel
theorem dX6_init_19 : decode cX6_init 19 = .ok (.bipush 8, 2) := by decide +kernel
theorem dX6_init_21 : decode cX6_init 21 = .ok (.anewarray 9, 3) := by decide +kernel
theorem dX6_init_24 : decode cX6_init 24 = .ok (.putfield 18, 3) := by decide +kernel
theorem dX6_init_27 : decode cX6_init 27 = .ok (.aload_n 0, 1) := by decide +kernel
theorem dX6_init_28 : decode cX6_init 28 = .ok (.bipush 6, 2) := by decide +kernel
theorem dX6_init_30 : decode cX6_init 30 = .ok (.anewarray 22, 3) := by decide +kernel
theorem dX6_init_33 : decode cX6_init 33 = .ok (.putfield 24, 3) := by decide +kernel
theorem dX6_init_36 : decode cX6_init 36 = .ok (.aload_n 0, 1) := by decide +kernel
theorem dX6_init_37 : decode cX6_init 37 = .ok (.new 22, 3) := by decide +kernel
theorem dX6_init_40 : decode cX6_init 40 = .ok (.dup, 1) := by decide +kernel
theorem dX6_init_41 : decode cX6_init 41 = .ok (.invokespecial 28, 3) := by decide +kernel
theorem dX6_init_44 : decode cX6_init 44 = .ok (.putfield 29, 3) := by decide +kernel
theorem dX6_init_47 : decode cX6_init 47 = .ok (.aload_n 0, 1) := by decide +kernel
theorem dX6_init_48 : decode cX6_init 48 = .ok (.new 9, 3) := by decide +kernel
theorem dX6_init_51 : decode cX6_init 51 = .ok (.dup, 1) := by decide +kernel
theorem dX6_init_52 : decode cX6_init 52 = .ok (.bipush 80, 2) := by decide +kernel
theorem dX6_init_54 : decode cX6_init 54 = .ok (.invokespecial 11, 3) := by decide +kernel
theorem dX6_init_57 : decode cX6_init 57 = .ok (.putfield 33, 3) := by decide +kernel
theorem dX6_init_60 : decode cX6_init 60 = .ok (.aload_n 0, 1) := by decide +kernel
theorem dX6_init_61 : decode cX6_init 61 = .ok (.new 9, 3) := by decide +kernel
theorem dX6_init_64 : decode cX6_init 64 = .ok (.dup, 1) := by decide +kernel
theorem dX6_init_65 : decode cX6_init 65 = .ok (.sipush 200, 3) := by decide +kernel
theorem dX6_init_68 : decode cX6_init 68 = .ok (.invokespecial 11, 3) := by decide +kernel
theorem dX6_init_71 : decode cX6_init 71 = .ok (.putfield 36, 3) := by decide +kernel
theorem dX6_init_74 : decode cX6_init 74 = .ok (.aload_n 0, 1) := by decide +kernel
theorem dX6_init_75 : decode cX6_init 75 = .ok (.new 39, 3) := by decide +kernel
theorem dX6_init_78 : decode cX6_init 78 = .ok (.dup, 1) := by decide +kernel
theorem dX6_init_79 : decode cX6_init 79 = .ok (.invokespecial 41, 3) := by decide +kernel
theorem dX6_init_82 : decode cX6_init 82 = .ok (.putfield 42, 3) := by decide +kernel
theorem dX6_init_85 : decode cX6_init 85 = .ok (.aload_n 0, 1) := by decide +kernel
theorem dX6_init_86 : decode cX6_init 86 = .ok (.new 46, 3) := by decide +kernel
theorem dX6_init_89 : decode cX6_init 89 = .ok (.dup, 1) := by decide +kernel
theorem dX6_init_90 : decode cX6_init 90 = .ok (.invokespecial 48, 3) := by decide +kernel
theorem dX6_init_93 : decode cX6_init 93 = .ok (.putfield 49, 3) := by decide +kernel
theorem dX6_init_96 : decode cX6_init 96 = .ok (.aload_n 0, 1) := by decide +kernel
theorem dX6_init_97 : decode cX6_init 97 = .ok (.new 53, 3) := by decide +kernel
theorem dX6_init_100 : decode cX6_init 100 = .ok (.dup, 1) := by decide +kernel
theorem dX6_init_101 : decode cX6_init 101 = .ok (.invokespecial 55, 3) := by decide +kernel
theorem dX6_init_104 : decode cX6_init 104 = .ok (.putfield 56, 3) := by decide +kernel
theorem dX6_init_107 : decode cX6_init 107 = .ok (.aload_n 0, 1) := by decide +kernel
theorem dX6_init_108 : decode cX6_init 108 = .ok (.new 60, 3) := by decide +kernel
theorem dX6_init_111 : decode cX6_init 111 = .ok (.dup, 1) := by decide +kernel
theorem dX6_init_112 : decode cX6_init 112 = .ok (.invokespecial 62, 3) := by decide +kernel
theorem dX6_init_115 : decode cX6_init 115 = .ok (.putfield 63, 3) := by decide +kernel
theorem dX6_init_118 : decode cX6_init 118 = .ok (.iconst 0, 1) := by decide +kernel
theorem dX6_init_119 : decode cX6_init 119 = .ok (.istore_n 1, 1) := by decide +kernel
theorem dX6_init_120 : decode cX6_init 120 = .ok (.iload_n 1, 1) := by decide +kernel
theorem dX6_init_121 : decode cX6_init 121 = .ok (.bipush 8, 2) := by decide +kernel
theorem dX6_init_123 : decode cX6_init 123 = .ok (.if_icmp .ge 24, 3) := by decide +kernel
theorem dX6_init_126 : decode cX6_init 126 = .ok (.aload_n 0, 1) := by decide +kernel
theorem dX6_init_127 : decode cX6_init 127 = .ok (.getfield 18, 3) := by decide +kernel
theorem dX6_init_130 : decode cX6_init 130 = .ok (.iload_n 1, 1) := by decide +kernel
theorem dX6_init_131 : decode cX6_init 131 = .ok (.new 9, 3) := by decide +kernel
theorem dX6_init_134 : decode cX6_init 134 = .ok (.dup, 1) := by decide +kernel
theorem dX6_init_135 : decode cX6_init 135 = .ok (.bipush 40, 2) := by decide +kernel
theorem dX6_init_137 : decode cX6_init 137 = .ok (.invokespecial 11, 3) := by decide +kernel
theorem dX6_init_140 : decode cX6_init 140 = .ok (.aastore, 1) := by decide +kernel
theorem dX6_init_141 : decode cX6_init 141 = .ok (.iinc 1 1, 3) := by decide +kernel
theorem dX6_init_144 : decode cX6_init 144 = .ok (.goto (-24), 3) := by decide +kernel
theorem dX6_init_147 : decode cX6_init 147 = .ok (.iconst 0, 1) := by decide +kernel
theorem dX6_init_148 : decode cX6_init 148 = .ok (.istore_n 1, 1) := by decide +kernel
theorem dX6_init_149 : decode cX6_init 149 = .ok (.iload_n 1, 1) := by decide +kernel
theorem dX6_init_150 : decode cX6_init 150 = .ok (.bipush 6, 2) := by decide +kernel
theorem dX6_init_152 : decode cX6_init 152 = .ok (.if_icmp .ge 22, 3) := by decide +kernel
theorem dX6_init_155 : decode cX6_init 155 = .ok (.aload_n 0, 1) := by decide +kernel
theorem dX6_init_156 : decode cX6_init 156 = .ok (.getfield 24, 3) := by decide +kernel
theorem dX6_init_159 : decode cX6_init 159 = .ok (.iload_n 1, 1) := by decide +kernel
theorem dX6_init_160 : decode cX6_init 160 = .ok (.new 22, 3) := by decide +kernel
theorem dX6_init_163 : decode cX6_init 163 = .ok (.dup, 1) := by decide +kernel
theorem dX6_init_164 : decode cX6_init 164 = .ok (.invokespecial 28, 3) := by decide +kernel
theorem dX6_init_167 : decode cX6_init 167 = .ok (.aastore, 1) := by decide +kernel
theorem dX6_init_168 : decode cX6_init 168 = .ok (.iinc 1 1, 3) := by decide +kernel
theorem dX6_init_171 : decode cX6_init 171 = .ok (.goto (-22), 3) := by decide +kernel
theorem dX6_init_174 : decode cX6_init 174 = .ok (.return_, 1) := by decide +kernel
theorem dX6_feed_0 : decode cX6_feed 0 = .ok (.iload_n 1, 1) := by decide +kernel
theorem dX6_feed_1 : decode cX6_feed 1 = .ok (.iconst 1, 1) := by decide +kernel
theorem dX6_feed_2 : decode cX6_feed 2 = .ok (.if_icmp .lt 9, 3) := by decide +kernel
theorem dX6_feed_5 : decode cX6_feed 5 = .ok (.iload_n 1, 1) := by decide +kernel
theorem dX6_feed_6 : decode cX6_feed 6 = .ok (.bipush 8, 2) := by decide +kernel
theorem dX6_feed_8 : decode cX6_feed 8 = .ok (.if_icmp .le 6, 3) := by decide +kernel
theorem dX6_feed_11 : decode cX6_feed 11 = .ok (.bipush (-102), 2) := by decide +kernel
theorem dX6_feed_13 : decode cX6_feed 13 = .ok (.ireturn, 1) := by decide +kernel
theorem dX6_feed_14 : decode cX6_feed 14 = .ok (.aload_n 0, 1) := by decide +kernel
theorem dX6_feed_15 : decode cX6_feed 15 = .ok (.getfield 14, 3) := by decide +kernel
theorem dX6_feed_18 : decode cX6_feed 18 = .ok (.iload_n 1, 1) := by decide +kernel
theorem dX6_feed_19 : decode cX6_feed 19 = .ok (.invokevirtual 67, 3) := by decide +kernel
theorem dX6_feed_22 : decode cX6_feed 22 = .ok (.ifCond .ne 6, 3) := by decide +kernel
theorem dX6_feed_25 : decode cX6_feed 25 = .ok (.bipush (-103), 2) := by decide +kernel
theorem dX6_feed_27 : decode cX6_feed 27 = .ok (.ireturn, 1) := by decide +kernel
theorem dX6_feed_28 : decode cX6_feed 28 = .ok (.iload_n 1, 1) := by decide +kernel
theorem dX6_feed_29 : decode cX6_feed 29 = .ok (.iconst 1, 1) := by decide +kernel
theorem dX6_feed_30 : decode cX6_feed 30 = .ok (.isub, 1) := by decide +kernel
theorem dX6_feed_31 : decode cX6_feed 31 = .ok (.istore 4, 2) := by decide +kernel
theorem dX6_feed_33 : decode cX6_feed 33 = .ok (.iload 4, 2) := by decide +kernel
theorem dX6_feed_35 : decode cX6_feed 35 = .ok (.ifCond .lt 24, 3) := by decide +kernel
theorem dX6_feed_38 : decode cX6_feed 38 = .ok (.aload_n 0, 1) := by decide +kernel
theorem dX6_feed_39 : decode cX6_feed 39 = .ok (.getfield 14, 3) := by decide +kernel
theorem dX6_feed_42 : decode cX6_feed 42 = .ok (.lload_n 2, 1) := by decide +kernel
theorem dX6_feed_43 : decode cX6_feed 43 = .ok (.bipush 8, 2) := by decide +kernel
theorem dX6_feed_45 : decode cX6_feed 45 = .ok (.iload 4, 2) := by decide +kernel
theorem dX6_feed_47 : decode cX6_feed 47 = .ok (.imul, 1) := by decide +kernel
theorem dX6_feed_48 : decode cX6_feed 48 = .ok (.lushr, 1) := by decide +kernel
theorem dX6_feed_49 : decode cX6_feed 49 = .ok (.l2i, 1) := by decide +kernel
theorem dX6_feed_50 : decode cX6_feed 50 = .ok (.invokevirtual 71, 3) := by decide +kernel
theorem dX6_feed_53 : decode cX6_feed 53 = .ok (.iinc 4 (-1), 3) := by decide +kernel
theorem dX6_feed_56 : decode cX6_feed 56 = .ok (.goto (-23), 3) := by decide +kernel
theorem dX6_feed_59 : decode cX6_feed 59 = .ok (.aload_n 0, 1) := by decide +kernel
theorem dX6_feed_60 : decode cX6_feed 60 = .ok (.getfield 14, 3) := by decide +kernel
theorem dX6_feed_63 : decode cX6_feed 63 = .ok (.invokevirtual 74, 3) := by decide +kernel
theorem dX6_feed_66 : decode cX6_feed 66 = .ok (.ireturn, 1) := by decide +kernel
theorem dX6_sample_0 : decode cX6_sample 0 = .ok (.aload_n 0, 1) := by decide +kernel
theorem dX6_sample_1 : decode cX6_sample 1 = .ok (.getfield 14, 3) := by decide +kernel
theorem dX6_sample_4 : decode cX6_sample 4 = .ok (.invokevirtual 74, 3) := by decide +kernel
theorem dX6_sample_7 : decode cX6_sample 7 = .ok (.iconst 1, 1) := by decide +kernel
theorem dX6_sample_8 : decode cX6_sample 8 = .ok (.if_icmp .lt 15, 3) := by decide +kernel
theorem dX6_sample_11 : decode cX6_sample 11 = .ok (.aload_n 0, 1) := by decide +kernel
theorem dX6_sample_12 : decode cX6_sample 12 = .ok (.getfield 14, 3) := by decide +kernel
theorem dX6_sample_15 : decode cX6_sample 15 = .ok (.invokevirtual 74, 3) := by decide +kernel
theorem dX6_sample_18 : decode cX6_sample 18 = .ok (.bipush 40, 2) := by decide +kernel
theorem dX6_sample_20 : decode cX6_sample 20 = .ok (.if_icmp .le 6, 3) := by decide +kernel
theorem dX6_sample_23 : decode cX6_sample 23 = .ok (.bipush (-102), 2) := by decide +kernel
theorem dX6_sample_25 : decode cX6_sample 25 = .ok (.ireturn, 1) := by decide +kernel
theorem dX6_sample_26 : decode cX6_sample 26 = .ok (.aload_n 0, 1) := by decide +kernel
theorem dX6_sample_27 : decode cX6_sample 27 = .ok (.getfield 78, 3) := by decide +kernel
theorem dX6_sample_30 : decode cX6_sample 30 = .ok (.bipush 8, 2) := by decide +kernel
theorem dX6_sample_32 : decode cX6_sample 32 = .ok (.if_icmp .lt 6, 3) := by decide +kernel
theorem dX6_sample_35 : decode cX6_sample 35 = .ok (.bipush (-103), 2) := by decide +kernel
theorem dX6_sample_37 : decode cX6_sample 37 = .ok (.ireturn, 1) := by decide +kernel
theorem dX6_sample_38 : decode cX6_sample 38 = .ok (.aload_n 0, 1) := by decide +kernel
theorem dX6_sample_39 : decode cX6_sample 39 = .ok (.getfield 78, 3) := by decide +kernel
theorem dX6_sample_42 : decode cX6_sample 42 = .ok (.istore_n 1, 1) := by decide +kernel
theorem dX6_sample_43 : decode cX6_sample 43 = .ok (.aload_n 0, 1) := by decide +kernel
theorem dX6_sample_44 : decode cX6_sample 44 = .ok (.getfield 18, 3) := by decide +kernel
theorem dX6_sample_47 : decode cX6_sample 47 = .ok (.iload_n 1, 1) := by decide +kernel
theorem dX6_sample_48 : decode cX6_sample 48 = .ok (.aaload, 1) := by decide +kernel
theorem dX6_sample_49 : decode cX6_sample 49 = .ok (.aload_n 0, 1) := by decide +kernel
theorem dX6_sample_50 : decode cX6_sample 50 = .ok (.getfield 14, 3) := by decide +kernel
theorem dX6_sample_53 : decode cX6_sample 53 = .ok (.invokevirtual 82, 3) := by decide +kernel
theorem dX6_sample_56 : decode cX6_sample 56 = .ok (.aload_n 0, 1) := by decide +kernel
theorem dX6_sample_57 : decode cX6_sample 57 = .ok (.getfield 14, 3) := by decide +kernel
theorem dX6_sample_60 : decode cX6_sample 60 = .ok (.invokevirtual 86, 3) := by decide +kernel
theorem dX6_sample_63 : decode cX6_sample 63 = .ok (.aload_n 0, 1) := by decide +kernel
theorem dX6_sample_64 : decode cX6_sample 64 = .ok (.dup, 1) := by decide +kernel
theorem dX6_sample_65 : decode cX6_sample 65 = .ok (.getfield 78, 3) := by decide +kernel
theorem dX6_sample_68 : decode cX6_sample 68 = .ok (.iconst 1, 1) := by decide +kernel
theorem dX6_sample_69 : decode cX6_sample 69 = .ok (.iadd, 1) := by decide +kernel
theorem dX6_sample_70 : decode cX6_sample 70 = .ok (.putfield 78, 3) := by decide +kernel
theorem dX6_sample_73 : decode cX6_sample 73 = .ok (.iload_n 1, 1) := by decide +kernel
theorem dX6_sample_74 : decode cX6_sample 74 = .ok (.ireturn, 1) := by decide +kernel
theorem dX6_forget_0 : decode cX6_forget 0 = .ok (.aload_n 0, 1) := by decide +kernel
theorem dX6_forget_1 : decode cX6_forget 1 = .ok (.getfield 78, 3) := by decide +kernel
theorem dX6_forget_4 : decode cX6_forget 4 = .ok (.istore_n 1, 1) := by decide +kernel
theorem dX6_forget_5 : decode cX6_forget 5 = .ok (.aload_n 0, 1) := by decide +kernel
theorem dX6_forget_6 : decode cX6_forget 6 = .ok (.iconst 0, 1) := by decide +kernel
theorem dX6_forget_7 : decode cX6_forget 7 = .ok (.putfield 78, 3) := by decide +kernel
theorem dX6_forget_10 : decode cX6_forget 10 = .ok (.iload_n 1, 1) := by decide +kernel
theorem dX6_forget_11 : decode cX6_forget 11 = .ok (.ireturn, 1) := by decide +kernel
theorem dX6_train_0 : decode cX6_train 0 = .ok (.iload_n 1, 1) := by decide +kernel
theorem dX6_train_1 : decode cX6_train 1 = .ok (.invokestatic 89, 3) := by decide +kernel
theorem dX6_train_4 : decode cX6_train 4 = .ok (.ifCond .ne 6, 3) := by decide +kernel
theorem dX6_train_7 : decode cX6_train 7 = .ok (.bipush (-101), 2) := by decide +kernel
theorem dX6_train_9 : decode cX6_train 9 = .ok (.ireturn, 1) := by decide +kernel
theorem dX6_train_10 : decode cX6_train 10 = .ok (.iload_n 2, 1) := by decide +kernel
theorem dX6_train_11 : decode cX6_train 11 = .ok (.invokestatic 92, 3) := by decide +kernel
theorem dX6_train_14 : decode cX6_train 14 = .ok (.ifCond .eq 26, 3) := by decide +kernel
theorem dX6_train_17 : decode cX6_train 17 = .ok (.iload_n 3, 1) := by decide +kernel
theorem dX6_train_18 : decode cX6_train 18 = .ok (.iconst 2, 1) := by decide +kernel
theorem dX6_train_19 : decode cX6_train 19 = .ok (.if_icmp .lt 21, 3) := by decide +kernel
theorem dX6_train_22 : decode cX6_train 22 = .ok (.iload_n 3, 1) := by decide +kernel
theorem dX6_train_23 : decode cX6_train 23 = .ok (.bipush 8, 2) := by decide +kernel
theorem dX6_train_25 : decode cX6_train 25 = .ok (.if_icmp .gt 15, 3) := by decide +kernel
theorem dX6_train_28 : decode cX6_train 28 = .ok (.iload 4, 2) := by decide +kernel
theorem dX6_train_30 : decode cX6_train 30 = .ok (.ifCond .lt 10, 3) := by decide +kernel
theorem dX6_train_33 : decode cX6_train 33 = .ok (.iload 4, 2) := by decide +kernel
theorem dX6_train_35 : decode cX6_train 35 = .ok (.bipush 80, 2) := by decide +kernel
theorem dX6_train_37 : decode cX6_train 37 = .ok (.if_icmp .le 6, 3) := by decide +kernel
theorem dX6_train_40 : decode cX6_train 40 = .ok (.bipush (-102), 2) := by decide +kernel
theorem dX6_train_42 : decode cX6_train 42 = .ok (.ireturn, 1) := by decide +kernel
theorem dX6_train_43 : decode cX6_train 43 = .ok (.aload_n 0, 1) := by decide +kernel
theorem dX6_train_44 : decode cX6_train 44 = .ok (.getfield 78, 3) := by decide +kernel
theorem dX6_train_47 : decode cX6_train 47 = .ok (.ifCond .ne 6, 3) := by decide +kernel
theorem dX6_train_50 : decode cX6_train 50 = .ok (.bipush (-104), 2) := by decide +kernel
theorem dX6_train_52 : decode cX6_train 52 = .ok (.ireturn, 1) := by decide +kernel
theorem dX6_train_53 : decode cX6_train 53 = .ok (.aload_n 0, 1) := by decide +kernel
theorem dX6_train_54 : decode cX6_train 54 = .ok (.getfield 56, 3) := by decide +kernel
theorem dX6_train_57 : decode cX6_train 57 = .ok (.aload_n 0, 1) := by decide +kernel
theorem dX6_train_58 : decode cX6_train 58 = .ok (.getfield 18, 3) := by decide +kernel
theorem dX6_train_61 : decode cX6_train 61 = .ok (.aload_n 0, 1) := by decide +kernel
theorem dX6_train_62 : decode cX6_train 62 = .ok (.getfield 78, 3) := by decide +kernel
theorem dX6_train_65 : decode cX6_train 65 = .ok (.iload_n 3, 1) := by decide +kernel
theorem dX6_train_66 : decode cX6_train 66 = .ok (.invokevirtual 95, 3) := by decide +kernel
theorem dX6_train_69 : decode cX6_train 69 = .ok (.aload_n 0, 1) := by decide +kernel
theorem dX6_train_70 : decode cX6_train 70 = .ok (.getfield 56, 3) := by decide +kernel
theorem dX6_train_73 : decode cX6_train 73 = .ok (.iload 4, 2) := by decide +kernel
theorem dX6_train_75 : decode cX6_train 75 = .ok (.invokevirtual 99, 3) := by decide +kernel
theorem dX6_train_78 : decode cX6_train 78 = .ok (.aload_n 0, 1) := by decide +kernel
theorem dX6_train_79 : decode cX6_train 79 = .ok (.getfield 24, 3) := by decide +kernel
theorem dX6_train_82 : decode cX6_train 82 = .ok (.iload_n 1, 1) := by decide +kernel
theorem dX6_train_83 : decode cX6_train 83 = .ok (.aaload, 1) := by decide +kernel
theorem dX6_train_84 : decode cX6_train 84 = .ok (.astore 5, 2) := by decide +kernel
theorem dX6_train_86 : decode cX6_train 86 = .ok (.aload 5, 2) := by decide +kernel
theorem dX6_train_88 : decode cX6_train 88 = .ok (.iload_n 2, 1) := by decide +kernel
theorem dX6_train_89 : decode cX6_train 89 = .ok (.iload_n 3, 1) := by decide +kernel
theorem dX6_train_90 : decode cX6_train 90 = .ok (.invokevirtual 102, 3) := by decide +kernel
theorem dX6_train_93 : decode cX6_train 93 = .ok (.aload_n 0, 1) := by decide +kernel
theorem dX6_train_94 : decode cX6_train 94 = .ok (.getfield 56, 3) := by decide +kernel
theorem dX6_train_97 : decode cX6_train 97 = .ok (.aload 5, 2) := by decide +kernel
theorem dX6_train_99 : decode cX6_train 99 = .ok (.invokevirtual 106, 3) := by decide +kernel
theorem dX6_train_102 : decode cX6_train 102 = .ok (.aload 5, 2) := by decide +kernel
theorem dX6_train_104 : decode cX6_train 104 = .ok (.invokevirtual 110, 3) := by decide +kernel
theorem dX6_train_107 : decode cX6_train 107 = .ok (.ireturn, 1) := by decide +kernel
theorem dX6_give_0 : decode cX6_give 0 = .ok (.iload_n 1, 1) := by decide +kernel
theorem dX6_give_1 : decode cX6_give 1 = .ok (.invokestatic 89, 3) := by decide +kernel
theorem dX6_give_4 : decode cX6_give 4 = .ok (.ifCond .ne 6, 3) := by decide +kernel
theorem dX6_give_7 : decode cX6_give 7 = .ok (.bipush (-101), 2) := by decide +kernel
theorem dX6_give_9 : decode cX6_give 9 = .ok (.ireturn, 1) := by decide +kernel
theorem dX6_give_10 : decode cX6_give 10 = .ok (.iload_n 2, 1) := by decide +kernel
theorem dX6_give_11 : decode cX6_give 11 = .ok (.invokestatic 92, 3) := by decide +kernel
theorem dX6_give_14 : decode cX6_give 14 = .ok (.ifCond .eq 15, 3) := by decide +kernel
theorem dX6_give_17 : decode cX6_give 17 = .ok (.aload_n 0, 1) := by decide +kernel
theorem dX6_give_18 : decode cX6_give 18 = .ok (.getfield 14, 3) := by decide +kernel
theorem dX6_give_21 : decode cX6_give 21 = .ok (.invokevirtual 74, 3) := by decide +kernel
theorem dX6_give_24 : decode cX6_give 24 = .ok (.bipush 80, 2) := by decide +kernel
theorem dX6_give_26 : decode cX6_give 26 = .ok (.if_icmp .le 6, 3) := by decide +kernel
theorem dX6_give_29 : decode cX6_give 29 = .ok (.bipush (-102), 2) := by decide +kernel
theorem dX6_give_31 : decode cX6_give 31 = .ok (.ireturn, 1) := by decide +kernel
theorem dX6_give_32 : decode cX6_give 32 = .ok (.aload_n 0, 1) := by decide +kernel
theorem dX6_give_33 : decode cX6_give 33 = .ok (.getfield 24, 3) := by decide +kernel
theorem dX6_give_36 : decode cX6_give 36 = .ok (.iload_n 1, 1) := by decide +kernel
theorem dX6_give_37 : decode cX6_give 37 = .ok (.aaload, 1) := by decide +kernel
theorem dX6_give_38 : decode cX6_give 38 = .ok (.astore_n 3, 1) := by decide +kernel
theorem dX6_give_39 : decode cX6_give 39 = .ok (.aload_n 3, 1) := by decide +kernel
theorem dX6_give_40 : decode cX6_give 40 = .ok (.iload_n 2, 1) := by decide +kernel
theorem dX6_give_41 : decode cX6_give 41 = .ok (.aload_n 0, 1) := by decide +kernel
theorem dX6_give_42 : decode cX6_give 42 = .ok (.getfield 14, 3) := by decide +kernel
theorem dX6_give_45 : decode cX6_give 45 = .ok (.invokevirtual 74, 3) := by decide +kernel
theorem dX6_give_48 : decode cX6_give 48 = .ok (.invokevirtual 102, 3) := by decide +kernel
theorem dX6_give_51 : decode cX6_give 51 = .ok (.aload_n 3, 1) := by decide +kernel
theorem dX6_give_52 : decode cX6_give 52 = .ok (.aload_n 0, 1) := by decide +kernel
theorem dX6_give_53 : decode cX6_give 53 = .ok (.getfield 14, 3) := by decide +kernel
theorem dX6_give_56 : decode cX6_give 56 = .ok (.iconst 0, 1) := by decide +kernel
theorem dX6_give_57 : decode cX6_give 57 = .ok (.invokevirtual 113, 3) := by decide +kernel
theorem dX6_give_60 : decode cX6_give 60 = .ok (.aload_n 0, 1) := by decide +kernel
theorem dX6_give_61 : decode cX6_give 61 = .ok (.getfield 14, 3) := by decide +kernel
theorem dX6_give_64 : decode cX6_give 64 = .ok (.invokevirtual 86, 3) := by decide +kernel
theorem dX6_give_67 : decode cX6_give 67 = .ok (.aload_n 3, 1) := by decide +kernel
theorem dX6_give_68 : decode cX6_give 68 = .ok (.invokevirtual 117, 3) := by decide +kernel
theorem dX6_give_71 : decode cX6_give 71 = .ok (.invokevirtual 74, 3) := by decide +kernel
theorem dX6_give_74 : decode cX6_give 74 = .ok (.ireturn, 1) := by decide +kernel
theorem dX6_trim_0 : decode cX6_trim 0 = .ok (.aload_n 0, 1) := by decide +kernel
theorem dX6_trim_1 : decode cX6_trim 1 = .ok (.iload_n 1, 1) := by decide +kernel
theorem dX6_trim_2 : decode cX6_trim 2 = .ok (.invokevirtual 121, 3) := by decide +kernel
theorem dX6_trim_5 : decode cX6_trim 5 = .ok (.astore_n 2, 1) := by decide +kernel
theorem dX6_trim_6 : decode cX6_trim 6 = .ok (.aload_n 2, 1) := by decide +kernel
theorem dX6_trim_7 : decode cX6_trim 7 = .ok (.ifnonnull 6, 3) := by decide +kernel
theorem dX6_trim_10 : decode cX6_trim 10 = .ok (.bipush (-101), 2) := by decide +kernel
theorem dX6_trim_12 : decode cX6_trim 12 = .ok (.ireturn, 1) := by decide +kernel
theorem dX6_trim_13 : decode cX6_trim 13 = .ok (.aload_n 0, 1) := by decide +kernel
theorem dX6_trim_14 : decode cX6_trim 14 = .ok (.getfield 78, 3) := by decide +kernel
theorem dX6_trim_17 : decode cX6_trim 17 = .ok (.ifCond .ne 6, 3) := by decide +kernel
theorem dX6_trim_20 : decode cX6_trim 20 = .ok (.bipush (-104), 2) := by decide +kernel
theorem dX6_trim_22 : decode cX6_trim 22 = .ok (.ireturn, 1) := by decide +kernel
theorem dX6_trim_23 : decode cX6_trim 23 = .ok (.aload_n 0, 1) := by decide +kernel
theorem dX6_trim_24 : decode cX6_trim 24 = .ok (.aload_n 2, 1) := by decide +kernel
theorem dX6_trim_25 : decode cX6_trim 25 = .ok (.invokevirtual 125, 3) := by decide +kernel
theorem dX6_trim_28 : decode cX6_trim 28 = .ok (.ireturn, 1) := by decide +kernel
theorem dX6_drop_0 : decode cX6_drop 0 = .ok (.aload_n 0, 1) := by decide +kernel
theorem dX6_drop_1 : decode cX6_drop 1 = .ok (.iload_n 1, 1) := by decide +kernel
theorem dX6_drop_2 : decode cX6_drop 2 = .ok (.invokevirtual 121, 3) := by decide +kernel
theorem dX6_drop_5 : decode cX6_drop 5 = .ok (.astore_n 2, 1) := by decide +kernel
theorem dX6_drop_6 : decode cX6_drop 6 = .ok (.aload_n 2, 1) := by decide +kernel
theorem dX6_drop_7 : decode cX6_drop 7 = .ok (.ifnonnull 6, 3) := by decide +kernel
theorem dX6_drop_10 : decode cX6_drop 10 = .ok (.bipush (-101), 2) := by decide +kernel
theorem dX6_drop_12 : decode cX6_drop 12 = .ok (.ireturn, 1) := by decide +kernel
theorem dX6_drop_13 : decode cX6_drop 13 = .ok (.aload_n 2, 1) := by decide +kernel
theorem dX6_drop_14 : decode cX6_drop 14 = .ok (.invokevirtual 110, 3) := by decide +kernel
theorem dX6_drop_17 : decode cX6_drop 17 = .ok (.istore_n 3, 1) := by decide +kernel
theorem dX6_drop_18 : decode cX6_drop 18 = .ok (.aload_n 2, 1) := by decide +kernel
theorem dX6_drop_19 : decode cX6_drop 19 = .ok (.iconst 0, 1) := by decide +kernel
theorem dX6_drop_20 : decode cX6_drop 20 = .ok (.iconst 0, 1) := by decide +kernel
theorem dX6_drop_21 : decode cX6_drop 21 = .ok (.invokevirtual 102, 3) := by decide +kernel
theorem dX6_drop_24 : decode cX6_drop 24 = .ok (.iload_n 3, 1) := by decide +kernel
theorem dX6_drop_25 : decode cX6_drop 25 = .ok (.ireturn, 1) := by decide +kernel
theorem dX6_told_0 : decode cX6_told 0 = .ok (.aload_n 0, 1) := by decide +kernel
theorem dX6_told_1 : decode cX6_told 1 = .ok (.iload_n 1, 1) := by decide +kernel
theorem dX6_told_2 : decode cX6_told 2 = .ok (.invokevirtual 121, 3) := by decide +kernel
theorem dX6_told_5 : decode cX6_told 5 = .ok (.astore_n 3, 1) := by decide +kernel
theorem dX6_told_6 : decode cX6_told 6 = .ok (.aload_n 3, 1) := by decide +kernel
theorem dX6_told_7 : decode cX6_told 7 = .ok (.ifnonnull 6, 3) := by decide +kernel
theorem dX6_told_10 : decode cX6_told 10 = .ok (.bipush (-101), 2) := by decide +kernel
theorem dX6_told_12 : decode cX6_told 12 = .ok (.ireturn, 1) := by decide +kernel
theorem dX6_told_13 : decode cX6_told 13 = .ok (.iload_n 2, 1) := by decide +kernel
theorem dX6_told_14 : decode cX6_told 14 = .ok (.tableswitch 53 0 3 #[30, 35, 40, 48], 30) := by decide +kernel
theorem dX6_told_44 : decode cX6_told 44 = .ok (.aload_n 3, 1) := by decide +kernel
theorem dX6_told_45 : decode cX6_told 45 = .ok (.invokevirtual 129, 3) := by decide +kernel
theorem dX6_told_48 : decode cX6_told 48 = .ok (.ireturn, 1) := by decide +kernel
theorem dX6_told_49 : decode cX6_told 49 = .ok (.aload_n 3, 1) := by decide +kernel
theorem dX6_told_50 : decode cX6_told 50 = .ok (.invokevirtual 110, 3) := by decide +kernel
theorem dX6_told_53 : decode cX6_told 53 = .ok (.ireturn, 1) := by decide +kernel
theorem dX6_told_54 : decode cX6_told 54 = .ok (.aload_n 3, 1) := by decide +kernel
theorem dX6_told_55 : decode cX6_told 55 = .ok (.invokevirtual 117, 3) := by decide +kernel
theorem dX6_told_58 : decode cX6_told 58 = .ok (.invokevirtual 74, 3) := by decide +kernel
theorem dX6_told_61 : decode cX6_told 61 = .ok (.ireturn, 1) := by decide +kernel
theorem dX6_told_62 : decode cX6_told 62 = .ok (.aload_n 3, 1) := by decide +kernel
theorem dX6_told_63 : decode cX6_told 63 = .ok (.invokevirtual 132, 3) := by decide +kernel
theorem dX6_told_66 : decode cX6_told 66 = .ok (.ireturn, 1) := by decide +kernel
theorem dX6_told_67 : decode cX6_told 67 = .ok (.iload_n 2, 1) := by decide +kernel
theorem dX6_told_68 : decode cX6_told 68 = .ok (.bipush 10, 2) := by decide +kernel
theorem dX6_told_70 : decode cX6_told 70 = .ok (.if_icmp .lt 21, 3) := by decide +kernel
theorem dX6_told_73 : decode cX6_told 73 = .ok (.iload_n 2, 1) := by decide +kernel
theorem dX6_told_74 : decode cX6_told 74 = .ok (.bipush 10, 2) := by decide +kernel
theorem dX6_told_76 : decode cX6_told 76 = .ok (.isub, 1) := by decide +kernel
theorem dX6_told_77 : decode cX6_told 77 = .ok (.aload_n 3, 1) := by decide +kernel
theorem dX6_told_78 : decode cX6_told 78 = .ok (.invokevirtual 110, 3) := by decide +kernel
theorem dX6_told_81 : decode cX6_told 81 = .ok (.if_icmp .ge 10, 3) := by decide +kernel
theorem dX6_told_84 : decode cX6_told 84 = .ok (.aload_n 3, 1) := by decide +kernel
theorem dX6_told_85 : decode cX6_told 85 = .ok (.invokevirtual 135, 3) := by decide +kernel
theorem dX6_told_88 : decode cX6_told 88 = .ok (.goto 5, 3) := by decide +kernel
theorem dX6_told_91 : decode cX6_told 91 = .ok (.bipush (-102), 2) := by decide +kernel
theorem dX6_told_93 : decode cX6_told 93 = .ok (.ireturn, 1) := by decide +kernel
theorem dX6_content_0 : decode cX6_content 0 = .ok (.iload_n 1, 1) := by decide +kernel
theorem dX6_content_1 : decode cX6_content 1 = .ok (.invokestatic 89, 3) := by decide +kernel
theorem dX6_content_4 : decode cX6_content 4 = .ok (.ifCond .ne 13, 3) := by decide +kernel
theorem dX6_content_7 : decode cX6_content 7 = .ok (.new 138, 3) := by decide +kernel
theorem dX6_content_10 : decode cX6_content 10 = .ok (.dup, 1) := by decide +kernel
theorem dX6_content_11 : decode cX6_content 11 = .ok (.ldc 140, 2) := by decide +kernel
theorem dX6_content_13 : decode cX6_content 13 = .ok (.invokespecial 142, 3) := by decide +kernel
theorem dX6_content_16 : decode cX6_content 16 = .ok (.athrow, 1) := by decide +kernel
theorem dX6_content_17 : decode cX6_content 17 = .ok (.aload_n 0, 1) := by decide +kernel
theorem dX6_content_18 : decode cX6_content 18 = .ok (.iload_n 1, 1) := by decide +kernel
theorem dX6_content_19 : decode cX6_content 19 = .ok (.invokevirtual 121, 3) := by decide +kernel
theorem dX6_content_22 : decode cX6_content 22 = .ok (.astore_n 3, 1) := by decide +kernel
theorem dX6_content_23 : decode cX6_content 23 = .ok (.aload_n 3, 1) := by decide +kernel
theorem dX6_content_24 : decode cX6_content 24 = .ok (.ifnonnull 13, 3) := by decide +kernel
theorem dX6_content_27 : decode cX6_content 27 = .ok (.new 145, 3) := by decide +kernel
theorem dX6_content_30 : decode cX6_content 30 = .ok (.dup, 1) := by decide +kernel
theorem dX6_content_31 : decode cX6_content 31 = .ok (.ldc 147, 2) := by decide +kernel
theorem dX6_content_33 : decode cX6_content 33 = .ok (.invokespecial 149, 3) := by decide +kernel
theorem dX6_content_36 : decode cX6_content 36 = .ok (.athrow, 1) := by decide +kernel
theorem dX6_content_37 : decode cX6_content 37 = .ok (.aload_n 3, 1) := by decide +kernel
theorem dX6_content_38 : decode cX6_content 38 = .ok (.invokevirtual 117, 3) := by decide +kernel
theorem dX6_content_41 : decode cX6_content 41 = .ok (.iload_n 2, 1) := by decide +kernel
theorem dX6_content_42 : decode cX6_content 42 = .ok (.invokevirtual 150, 3) := by decide +kernel
theorem dX6_content_45 : decode cX6_content 45 = .ok (.ifCond .ne 13, 3) := by decide +kernel
theorem dX6_content_48 : decode cX6_content 48 = .ok (.new 138, 3) := by decide +kernel
theorem dX6_content_51 : decode cX6_content 51 = .ok (.dup, 1) := by decide +kernel
theorem dX6_content_52 : decode cX6_content 52 = .ok (.ldc 153, 2) := by decide +kernel
theorem dX6_content_54 : decode cX6_content 54 = .ok (.invokespecial 142, 3) := by decide +kernel
theorem dX6_content_57 : decode cX6_content 57 = .ok (.athrow, 1) := by decide +kernel
theorem dX6_content_58 : decode cX6_content 58 = .ok (.aload_n 3, 1) := by decide +kernel
theorem dX6_content_59 : decode cX6_content 59 = .ok (.invokevirtual 117, 3) := by decide +kernel
theorem dX6_content_62 : decode cX6_content 62 = .ok (.iload_n 2, 1) := by decide +kernel
theorem dX6_content_63 : decode cX6_content 63 = .ok (.invokevirtual 155, 3) := by decide +kernel
theorem dX6_content_66 : decode cX6_content 66 = .ok (.ireturn, 1) := by decide +kernel
theorem dX6_pack_0 : decode cX6_pack 0 = .ok (.aload_n 0, 1) := by decide +kernel
theorem dX6_pack_1 : decode cX6_pack 1 = .ok (.iload_n 1, 1) := by decide +kernel
theorem dX6_pack_2 : decode cX6_pack 2 = .ok (.invokevirtual 159, 3) := by decide +kernel
theorem dX6_pack_5 : decode cX6_pack 5 = .ok (.astore_n 2, 1) := by decide +kernel
theorem dX6_pack_6 : decode cX6_pack 6 = .ok (.aload_n 2, 1) := by decide +kernel
theorem dX6_pack_7 : decode cX6_pack 7 = .ok (.ifnonnull 6, 3) := by decide +kernel
theorem dX6_pack_10 : decode cX6_pack 10 = .ok (.bipush (-101), 2) := by decide +kernel
theorem dX6_pack_12 : decode cX6_pack 12 = .ok (.ireturn, 1) := by decide +kernel
theorem dX6_pack_13 : decode cX6_pack 13 = .ok (.aload_n 0, 1) := by decide +kernel
theorem dX6_pack_14 : decode cX6_pack 14 = .ok (.getfield 49, 3) := by decide +kernel
theorem dX6_pack_17 : decode cX6_pack 17 = .ok (.aload_n 0, 1) := by decide +kernel
theorem dX6_pack_18 : decode cX6_pack 18 = .ok (.getfield 14, 3) := by decide +kernel
theorem dX6_pack_21 : decode cX6_pack 21 = .ok (.aload_n 2, 1) := by decide +kernel
theorem dX6_pack_22 : decode cX6_pack 22 = .ok (.invokevirtual 117, 3) := by decide +kernel
theorem dX6_pack_25 : decode cX6_pack 25 = .ok (.invokevirtual 162, 3) := by decide +kernel
theorem dX6_pack_28 : decode cX6_pack 28 = .ok (.pop, 1) := by decide +kernel
theorem dX6_pack_29 : decode cX6_pack 29 = .ok (.aload_n 0, 1) := by decide +kernel
theorem dX6_pack_30 : decode cX6_pack 30 = .ok (.getfield 42, 3) := by decide +kernel
theorem dX6_pack_33 : decode cX6_pack 33 = .ok (.aload_n 2, 1) := by decide +kernel
theorem dX6_pack_34 : decode cX6_pack 34 = .ok (.aload_n 0, 1) := by decide +kernel
theorem dX6_pack_35 : decode cX6_pack 35 = .ok (.getfield 14, 3) := by decide +kernel
theorem dX6_pack_38 : decode cX6_pack 38 = .ok (.invokevirtual 74, 3) := by decide +kernel
theorem dX6_pack_41 : decode cX6_pack 41 = .ok (.invokevirtual 166, 3) := by decide +kernel
theorem dX6_pack_44 : decode cX6_pack 44 = .ok (.aload_n 0, 1) := by decide +kernel
theorem dX6_pack_45 : decode cX6_pack 45 = .ok (.getfield 49, 3) := by decide +kernel
theorem dX6_pack_48 : decode cX6_pack 48 = .ok (.aload_n 0, 1) := by decide +kernel
theorem dX6_pack_49 : decode cX6_pack 49 = .ok (.getfield 42, 3) := by decide +kernel
theorem dX6_pack_52 : decode cX6_pack 52 = .ok (.invokevirtual 169, 3) := by decide +kernel
theorem dX6_pack_55 : decode cX6_pack 55 = .ok (.aload_n 0, 1) := by decide +kernel
theorem dX6_pack_56 : decode cX6_pack 56 = .ok (.getfield 14, 3) := by decide +kernel
theorem dX6_pack_59 : decode cX6_pack 59 = .ok (.invokevirtual 86, 3) := by decide +kernel
theorem dX6_pack_62 : decode cX6_pack 62 = .ok (.aload_n 0, 1) := by decide +kernel
theorem dX6_pack_63 : decode cX6_pack 63 = .ok (.getfield 42, 3) := by decide +kernel
theorem dX6_pack_66 : decode cX6_pack 66 = .ok (.invokevirtual 173, 3) := by decide +kernel
theorem dX6_pack_69 : decode cX6_pack 69 = .ok (.invokevirtual 74, 3) := by decide +kernel
theorem dX6_pack_72 : decode cX6_pack 72 = .ok (.ireturn, 1) := by decide +kernel
theorem dX6_out_0 : decode cX6_out 0 = .ok (.aload_n 0, 1) := by decide +kernel
