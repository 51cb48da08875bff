theorem dX7_init_0 : decode cX7_init 0 = .ok (.aload_n 0, 1) := by decide +kernel
theorem dX7_init_1 : decode cX7_init 1 = .ok (.invokespecial 1, 3) := by decide +kernel
theorem dX7_init_4 : decode cX7_init 4 = .ok (.aload_n 0, 1) := by decide +kernel
theorem dX7_init_5 : decode cX7_init 5 = .ok (.sipush 200, 3) := by decide +kernel
theorem dX7_init_8 : decode cX7_init 8 = .ok (.newarray .int, 2) := by decide +kernel
theorem dX7_init_10 : decode cX7_init 10 = .ok (.putfield 7, 3) := by decide +kernel
theorem dX7_init_13 : decode cX7_init 13 = .ok (.aload_n 0, 1) := by decide +kernel
theorem dX7_init_14 : decode cX7_init 14 = .ok (.bipush 8, 2) := by decide +kernel
theorem dX7_init_16 : decode cX7_init 16 = .ok (.newarray .int, 2) := by decide +kernel
theorem dX7_init_18 : decode cX7_init 18 = .ok (.putfield 13, 3) := by decide +kernel
theorem dX7_init_21 : decode cX7_init 21 = .ok (.aload_n 0, 1) := by decide +kernel
theorem dX7_init_22 : decode cX7_init 22 = .ok (.sipush 320, 3) := by decide +kernel
theorem dX7_init_25 : decode cX7_init 25 = .ok (.newarray .int, 2) := by decide +kernel
theorem dX7_init_27 : decode cX7_init 27 = .ok (.putfield 16, 3) := by decide +kernel
theorem dX7_init_30 : decode cX7_init 30 = .ok (.aload_n 0, 1) := by decide +kernel
theorem dX7_init_31 : decode cX7_init 31 = .ok (.bipush 6, 2) := by decide +kernel
theorem dX7_init_33 : decode cX7_init 33 = .ok (.newarray .int, 2) := by decide +kernel
theorem dX7_init_35 : decode cX7_init 35 = .ok (.putfield 19, 3) := by decide +kernel
theorem dX7_init_38 : decode cX7_init 38 = .ok (.aload_n 0, 1) := by decide +kernel
theorem dX7_init_39 : decode cX7_init 39 = .ok (.bipush 6, 2) := by decide +kernel
theorem dX7_init_41 : decode cX7_init 41 = .ok (.newarray .int, 2) := by decide +kernel
theorem dX7_init_43 : decode cX7_init 43 = .ok (.putfield 22, 3) := by decide +kernel
theorem dX7_init_46 : decode cX7_init 46 = .ok (.aload_n 0, 1) := by decide +kernel
theorem dX7_init_47 : decode cX7_init 47 = .ok (.sipush 480, 3) := by decide +kernel
theorem dX7_init_50 : decode cX7_init 50 = .ok (.newarray .int, 2) := by decide +kernel
theorem dX7_init_52 : decode cX7_init 52 = .ok (.putfield 25, 3) := by decide +kernel
theorem dX7_init_55 : decode cX7_init 55 = .ok (.aload_n 0, 1) := by decide +kernel
theorem dX7_init_56 : decode cX7_init 56 = .ok (.bipush 6, 2) := by decide +kernel
theorem dX7_init_58 : decode cX7_init 58 = .ok (.newarray .int, 2) := by decide +kernel
theorem dX7_init_60 : decode cX7_init 60 = .ok (.putfield 28, 3) := by decide +kernel
theorem dX7_init_63 : decode cX7_init 63 = .ok (.aload_n 0, 1) := by decide +kernel
theorem dX7_init_64 : decode cX7_init 64 = .ok (.sipush 480, 3) := by decide +kernel
theorem dX7_init_67 : decode cX7_init 67 = .ok (.newarray .int, 2) := by decide +kernel
theorem dX7_init_69 : decode cX7_init 69 = .ok (.putfield 31, 3) := by decide +kernel
theorem dX7_init_72 : decode cX7_init 72 = .ok (.aload_n 0, 1) := by decide +kernel
theorem dX7_init_73 : decode cX7_init 73 = .ok (.sipush 320, 3) := by decide +kernel
theorem dX7_init_76 : decode cX7_init 76 = .ok (.newarray .boolean, 2) := by decide +kernel
theorem dX7_init_78 : decode cX7_init 78 = .ok (.putfield 34, 3) := by decide +kernel
theorem dX7_init_81 : decode cX7_init 81 = .ok (.aload_n 0, 1) := by decide +kernel
theorem dX7_init_82 : decode cX7_init 82 = .ok (.bipush 80, 2) := by decide +kernel
theorem dX7_init_84 : decode cX7_init 84 = .ok (.newarray .int, 2) := by decide +kernel
theorem dX7_init_86 : decode cX7_init 86 = .ok (.putfield 38, 3) := by decide +kernel
theorem dX7_init_89 : decode cX7_init 89 = .ok (.aload_n 0, 1) := by decide +kernel
theorem dX7_init_90 : decode cX7_init 90 = .ok (.sipush 280, 3) := by decide +kernel
theorem dX7_init_93 : decode cX7_init 93 = .ok (.newarray .int, 2) := by decide +kernel
theorem dX7_init_95 : decode cX7_init 95 = .ok (.putfield 41, 3) := by decide +kernel
theorem dX7_init_98 : decode cX7_init 98 = .ok (.aload_n 0, 1) := by decide +kernel
theorem dX7_init_99 : decode cX7_init 99 = .ok (.sipush 201, 3) := by decide +kernel
theorem dX7_init_102 : decode cX7_init 102 = .ok (.newarray .int, 2) := by decide +kernel
theorem dX7_init_104 : decode cX7_init 104 = .ok (.putfield 44, 3) := by decide +kernel
theorem dX7_init_107 : decode cX7_init 107 = .ok (.aload_n 0, 1) := by decide +kernel
theorem dX7_init_108 : decode cX7_init 108 = .ok (.sipush 2010, 3) := by decide +kernel
theorem dX7_init_111 : decode cX7_init 111 = .ok (.newarray .int, 2) := by decide +kernel
theorem dX7_init_113 : decode cX7_init 113 = .ok (.putfield 47, 3) := by decide +kernel
theorem dX7_init_116 : decode cX7_init 116 = .ok (.aload_n 0, 1) := by decide +kernel
theorem dX7_init_117 : decode cX7_init 117 = .ok (.sipush 400, 3) := by decide +kernel
theorem dX7_init_120 : decode cX7_init 120 = .ok (.newarray .int, 2) := by decide +kernel
theorem dX7_init_122 : decode cX7_init 122 = .ok (.putfield 50, 3) := by decide +kernel
theorem dX7_init_125 : decode cX7_init 125 = .ok (.aload_n 0, 1) := by decide +kernel
theorem dX7_init_126 : decode cX7_init 126 = .ok (.sipush 200, 3) := by decide +kernel
theorem dX7_init_129 : decode cX7_init 129 = .ok (.newarray .int, 2) := by decide +kernel
theorem dX7_init_131 : decode cX7_init 131 = .ok (.putfield 53, 3) := by decide +kernel
theorem dX7_init_134 : decode cX7_init 134 = .ok (.aload_n 0, 1) := by decide +kernel
theorem dX7_init_135 : decode cX7_init 135 = .ok (.iconst 0, 1) := by decide +kernel
theorem dX7_init_136 : decode cX7_init 136 = .ok (.putfield 56, 3) := by decide +kernel
theorem dX7_init_139 : decode cX7_init 139 = .ok (.return_, 1) := by decide +kernel
theorem dX7_thrown_0 : decode cX7_thrown 0 = .ok (.aload_n 0, 1) := by decide +kernel
theorem dX7_thrown_1 : decode cX7_thrown 1 = .ok (.getfield 60, 3) := by decide +kernel
theorem dX7_thrown_4 : decode cX7_thrown 4 = .ok (.ireturn, 1) := by decide +kernel
theorem dX7_in_0 : decode cX7_in 0 = .ok (.lload_n 0, 1) := by decide +kernel
theorem dX7_in_1 : decode cX7_in 1 = .ok (.lload_n 2, 1) := by decide +kernel
theorem dX7_in_2 : decode cX7_in 2 = .ok (.lcmp, 1) := by decide +kernel
theorem dX7_in_3 : decode cX7_in 3 = .ok (.ifCond .lt 14, 3) := by decide +kernel
theorem dX7_in_6 : decode cX7_in 6 = .ok (.lload_n 0, 1) := by decide +kernel
theorem dX7_in_7 : decode cX7_in 7 = .ok (.lload 4, 2) := by decide +kernel
theorem dX7_in_9 : decode cX7_in 9 = .ok (.lcmp, 1) := by decide +kernel
theorem dX7_in_10 : decode cX7_in 10 = .ok (.ifCond .gt 7, 3) := by decide +kernel
theorem dX7_in_13 : decode cX7_in 13 = .ok (.iconst 1, 1) := by decide +kernel
theorem dX7_in_14 : decode cX7_in 14 = .ok (.goto 4, 3) := by decide +kernel
theorem dX7_in_17 : decode cX7_in 17 = .ok (.iconst 0, 1) := by decide +kernel
theorem dX7_in_18 : decode cX7_in 18 = .ok (.ireturn, 1) := by decide +kernel
theorem dX7_feed_0 : decode cX7_feed 0 = .ok (.aload_n 0, 1) := by decide +kernel
theorem dX7_feed_1 : decode cX7_feed 1 = .ok (.iconst 0, 1) := by decide +kernel
theorem dX7_feed_2 : decode cX7_feed 2 = .ok (.putfield 60, 3) := by decide +kernel
theorem dX7_feed_5 : decode cX7_feed 5 = .ok (.iload_n 1, 1) := by decide +kernel
theorem dX7_feed_6 : decode cX7_feed 6 = .ok (.i2l, 1) := by decide +kernel
theorem dX7_feed_7 : decode cX7_feed 7 = .ok (.lconst 1, 1) := by decide +kernel
theorem dX7_feed_8 : decode cX7_feed 8 = .ok (.ldc2_w 63, 3) := by decide +kernel
theorem dX7_feed_11 : decode cX7_feed 11 = .ok (.invokestatic 65, 3) := by decide +kernel
theorem dX7_feed_14 : decode cX7_feed 14 = .ok (.ifCond .ne 6, 3) := by decide +kernel
theorem dX7_feed_17 : decode cX7_feed 17 = .ok (.bipush (-102), 2) := by decide +kernel
theorem dX7_feed_19 : decode cX7_feed 19 = .ok (.ireturn, 1) := by decide +kernel
theorem dX7_feed_20 : decode cX7_feed 20 = .ok (.aload_n 0, 1) := by decide +kernel
theorem dX7_feed_21 : decode cX7_feed 21 = .ok (.getfield 56, 3) := by decide +kernel
theorem dX7_feed_24 : decode cX7_feed 24 = .ok (.iload_n 1, 1) := by decide +kernel
theorem dX7_feed_25 : decode cX7_feed 25 = .ok (.iadd, 1) := by decide +kernel
theorem dX7_feed_26 : decode cX7_feed 26 = .ok (.sipush 200, 3) := by decide +kernel
theorem dX7_feed_29 : decode cX7_feed 29 = .ok (.if_icmp .le 6, 3) := by decide +kernel
theorem dX7_feed_32 : decode cX7_feed 32 = .ok (.bipush (-103), 2) := by decide +kernel
theorem dX7_feed_34 : decode cX7_feed 34 = .ok (.ireturn, 1) := by decide +kernel
theorem dX7_feed_35 : decode cX7_feed 35 = .ok (.iload_n 1, 1) := by decide +kernel
theorem dX7_feed_36 : decode cX7_feed 36 = .ok (.iconst 1, 1) := by decide +kernel
theorem dX7_feed_37 : decode cX7_feed 37 = .ok (.isub, 1) := by decide +kernel
theorem dX7_feed_38 : decode cX7_feed 38 = .ok (.istore 4, 2) := by decide +kernel
theorem dX7_feed_40 : decode cX7_feed 40 = .ok (.iload 4, 2) := by decide +kernel
theorem dX7_feed_42 : decode cX7_feed 42 = .ok (.ifCond .lt 40, 3) := by decide +kernel
theorem dX7_feed_45 : decode cX7_feed 45 = .ok (.aload_n 0, 1) := by decide +kernel
theorem dX7_feed_46 : decode cX7_feed 46 = .ok (.getfield 7, 3) := by decide +kernel
theorem dX7_feed_49 : decode cX7_feed 49 = .ok (.aload_n 0, 1) := by decide +kernel
theorem dX7_feed_50 : decode cX7_feed 50 = .ok (.getfield 56, 3) := by decide +kernel
theorem dX7_feed_53 : decode cX7_feed 53 = .ok (.lload_n 2, 1) := by decide +kernel
theorem dX7_feed_54 : decode cX7_feed 54 = .ok (.bipush 8, 2) := by decide +kernel
theorem dX7_feed_56 : decode cX7_feed 56 = .ok (.iload 4, 2) := by decide +kernel
theorem dX7_feed_58 : decode cX7_feed 58 = .ok (.imul, 1) := by decide +kernel
theorem dX7_feed_59 : decode cX7_feed 59 = .ok (.lshr, 1) := by decide +kernel
theorem dX7_feed_60 : decode cX7_feed 60 = .ok (.l2i, 1) := by decide +kernel
theorem dX7_feed_61 : decode cX7_feed 61 = .ok (.sipush 255, 3) := by decide +kernel
theorem dX7_feed_64 : decode cX7_feed 64 = .ok (.iand, 1) := by decide +kernel
theorem dX7_feed_65 : decode cX7_feed 65 = .ok (.iastore, 1) := by decide +kernel
theorem dX7_feed_66 : decode cX7_feed 66 = .ok (.aload_n 0, 1) := by decide +kernel
theorem dX7_feed_67 : decode cX7_feed 67 = .ok (.dup, 1) := by decide +kernel
theorem dX7_feed_68 : decode cX7_feed 68 = .ok (.getfield 56, 3) := by decide +kernel
theorem dX7_feed_71 : decode cX7_feed 71 = .ok (.iconst 1, 1) := by decide +kernel
theorem dX7_feed_72 : decode cX7_feed 72 = .ok (.iadd, 1) := by decide +kernel
theorem dX7_feed_73 : decode cX7_feed 73 = .ok (.putfield 56, 3) := by decide +kernel
theorem dX7_feed_76 : decode cX7_feed 76 = .ok (.iinc 4 (-1), 3) := by decide +kernel
theorem dX7_feed_79 : decode cX7_feed 79 = .ok (.goto (-39), 3) := by decide +kernel
theorem dX7_feed_82 : decode cX7_feed 82 = .ok (.aload_n 0, 1) := by decide +kernel
theorem dX7_feed_83 : decode cX7_feed 83 = .ok (.getfield 56, 3) := by decide +kernel
theorem dX7_feed_86 : decode cX7_feed 86 = .ok (.ireturn, 1) := by decide +kernel
theorem dX7_sample_0 : decode cX7_sample 0 = .ok (.aload_n 0, 1) := by decide +kernel
theorem dX7_sample_1 : decode cX7_sample 1 = .ok (.iconst 0, 1) := by decide +kernel
theorem dX7_sample_2 : decode cX7_sample 2 = .ok (.putfield 60, 3) := by decide +kernel
theorem dX7_sample_5 : decode cX7_sample 5 = .ok (.aload_n 0, 1) := by decide +kernel
theorem dX7_sample_6 : decode cX7_sample 6 = .ok (.getfield 56, 3) := by decide +kernel
theorem dX7_sample_9 : decode cX7_sample 9 = .ok (.i2l, 1) := by decide +kernel
theorem dX7_sample_10 : decode cX7_sample 10 = .ok (.lconst 1, 1) := by decide +kernel
theorem dX7_sample_11 : decode cX7_sample 11 = .ok (.ldc2_w 69, 3) := by decide +kernel
theorem dX7_sample_14 : decode cX7_sample 14 = .ok (.invokestatic 65, 3) := by decide +kernel
theorem dX7_sample_17 : decode cX7_sample 17 = .ok (.ifCond .ne 6, 3) := by decide +kernel
theorem dX7_sample_20 : decode cX7_sample 20 = .ok (.bipush (-102), 2) := by decide +kernel
theorem dX7_sample_22 : decode cX7_sample 22 = .ok (.ireturn, 1) := by decide +kernel
theorem dX7_sample_23 : decode cX7_sample 23 = .ok (.aload_n 0, 1) := by decide +kernel
theorem dX7_sample_24 : decode cX7_sample 24 = .ok (.getfield 71, 3) := by decide +kernel
theorem dX7_sample_27 : decode cX7_sample 27 = .ok (.bipush 8, 2) := by decide +kernel
theorem dX7_sample_29 : decode cX7_sample 29 = .ok (.if_icmp .ne 6, 3) := by decide +kernel
theorem dX7_sample_32 : decode cX7_sample 32 = .ok (.bipush (-103), 2) := by decide +kernel
theorem dX7_sample_34 : decode cX7_sample 34 = .ok (.ireturn, 1) := by decide +kernel
theorem dX7_sample_35 : decode cX7_sample 35 = .ok (.iconst 0, 1) := by decide +kernel
theorem dX7_sample_36 : decode cX7_sample 36 = .ok (.istore_n 1, 1) := by decide +kernel
theorem dX7_sample_37 : decode cX7_sample 37 = .ok (.iload_n 1, 1) := by decide +kernel
theorem dX7_sample_38 : decode cX7_sample 38 = .ok (.aload_n 0, 1) := by decide +kernel
theorem dX7_sample_39 : decode cX7_sample 39 = .ok (.getfield 56, 3) := by decide +kernel
theorem dX7_sample_42 : decode cX7_sample 42 = .ok (.if_icmp .ge 29, 3) := by decide +kernel
theorem dX7_sample_45 : decode cX7_sample 45 = .ok (.aload_n 0, 1) := by decide +kernel
theorem dX7_sample_46 : decode cX7_sample 46 = .ok (.getfield 16, 3) := by decide +kernel
theorem dX7_sample_49 : decode cX7_sample 49 = .ok (.bipush 40, 2) := by decide +kernel
theorem dX7_sample_51 : decode cX7_sample 51 = .ok (.aload_n 0, 1) := by decide +kernel
theorem dX7_sample_52 : decode cX7_sample 52 = .ok (.getfield 71, 3) := by decide +kernel
theorem dX7_sample_55 : decode cX7_sample 55 = .ok (.imul, 1) := by decide +kernel
theorem dX7_sample_56 : decode cX7_sample 56 = .ok (.iload_n 1, 1) := by decide +kernel
theorem dX7_sample_57 : decode cX7_sample 57 = .ok (.iadd, 1) := by decide +kernel
theorem dX7_sample_58 : decode cX7_sample 58 = .ok (.aload_n 0, 1) := by decide +kernel
theorem dX7_sample_59 : decode cX7_sample 59 = .ok (.getfield 7, 3) := by decide +kernel
theorem dX7_sample_62 : decode cX7_sample 62 = .ok (.iload_n 1, 1) := by decide +kernel
theorem dX7_sample_63 : decode cX7_sample 63 = .ok (.iaload, 1) := by decide +kernel
theorem dX7_sample_64 : decode cX7_sample 64 = .ok (.iastore, 1) := by decide +kernel
theorem dX7_sample_65 : decode cX7_sample 65 = .ok (.iinc 1 1, 3) := by decide +kernel
theorem dX7_sample_68 : decode cX7_sample 68 = .ok (.goto (-31), 3) := by decide +kernel
theorem dX7_sample_71 : decode cX7_sample 71 = .ok (.aload_n 0, 1) := by decide +kernel
theorem dX7_sample_72 : decode cX7_sample 72 = .ok (.getfield 13, 3) := by decide +kernel
theorem dX7_sample_75 : decode cX7_sample 75 = .ok (.aload_n 0, 1) := by decide +kernel
theorem dX7_sample_76 : decode cX7_sample 76 = .ok (.getfield 71, 3) := by decide +kernel
theorem dX7_sample_79 : decode cX7_sample 79 = .ok (.aload_n 0, 1) := by decide +kernel
theorem dX7_sample_80 : decode cX7_sample 80 = .ok (.getfield 56, 3) := by decide +kernel
theorem dX7_sample_83 : decode cX7_sample 83 = .ok (.iastore, 1) := by decide +kernel
theorem dX7_sample_84 : decode cX7_sample 84 = .ok (.aload_n 0, 1) := by decide +kernel
theorem dX7_sample_85 : decode cX7_sample 85 = .ok (.iconst 0, 1) := by decide +kernel
theorem dX7_sample_86 : decode cX7_sample 86 = .ok (.putfield 56, 3) := by decide +kernel
theorem dX7_sample_89 : decode cX7_sample 89 = .ok (.aload_n 0, 1) := by decide +kernel
theorem dX7_sample_90 : decode cX7_sample 90 = .ok (.dup, 1) := by decide +kernel
theorem dX7_sample_91 : decode cX7_sample 91 = .ok (.getfield 71, 3) := by decide +kernel
theorem dX7_sample_94 : decode cX7_sample 94 = .ok (.iconst 1, 1) := by decide +kernel
theorem dX7_sample_95 : decode cX7_sample 95 = .ok (.iadd, 1) := by decide +kernel
theorem dX7_sample_96 : decode cX7_sample 96 = .ok (.putfield 71, 3) := by decide +kernel
theorem dX7_sample_99 : decode cX7_sample 99 = .ok (.aload_n 0, 1) := by decide +kernel
theorem dX7_sample_100 : decode cX7_sample 100 = .ok (.getfield 71, 3) := by decide +kernel
theorem dX7_sample_103 : decode cX7_sample 103 = .ok (.iconst 1, 1) := by decide +kernel
theorem dX7_sample_104 : decode cX7_sample 104 = .ok (.isub, 1) := by decide +kernel
theorem dX7_sample_105 : decode cX7_sample 105 = .ok (.ireturn, 1) := by decide +kernel
theorem dX7_forget_0 : decode cX7_forget 0 = .ok (.aload_n 0, 1) := by decide +kernel
theorem dX7_forget_1 : decode cX7_forget 1 = .ok (.iconst 0, 1) := by decide +kernel
theorem dX7_forget_2 : decode cX7_forget 2 = .ok (.putfield 60, 3) := by decide +kernel
theorem dX7_forget_5 : decode cX7_forget 5 = .ok (.aload_n 0, 1) := by decide +kernel
theorem dX7_forget_6 : decode cX7_forget 6 = .ok (.getfield 71, 3) := by decide +kernel
theorem dX7_forget_9 : decode cX7_forget 9 = .ok (.istore_n 1, 1) := by decide +kernel
theorem dX7_forget_10 : decode cX7_forget 10 = .ok (.aload_n 0, 1) := by decide +kernel
theorem dX7_forget_11 : decode cX7_forget 11 = .ok (.iconst 0, 1) := by decide +kernel
theorem dX7_forget_12 : decode cX7_forget 12 = .ok (.putfield 71, 3) := by decide +kernel
theorem dX7_forget_15 : decode cX7_forget 15 = .ok (.iload_n 1, 1) := by decide +kernel
theorem dX7_forget_16 : decode cX7_forget 16 = .ok (.ireturn, 1) := by decide +kernel
theorem dX7_isOpen_0 : decode cX7_isOpen 0 = .ok (.iload_n 2, 1) := by decide +kernel
theorem dX7_isOpen_1 : decode cX7_isOpen 1 = .ok (.iload_n 3, 1) := by decide +kernel
theorem dX7_isOpen_2 : decode cX7_isOpen 2 = .ok (.iadd, 1) := by decide +kernel
theorem dX7_isOpen_3 : decode cX7_isOpen 3 = .ok (.aload_n 0, 1) := by decide +kernel
theorem dX7_isOpen_4 : decode cX7_isOpen 4 = .ok (.getfield 13, 3) := by decide +kernel
theorem dX7_isOpen_7 : decode cX7_isOpen 7 = .ok (.iload_n 1, 1) := by decide +kernel
theorem dX7_isOpen_8 : decode cX7_isOpen 8 = .ok (.iaload, 1) := by decide +kernel
theorem dX7_isOpen_9 : decode cX7_isOpen 9 = .ok (.if_icmp .gt 7, 3) := by decide +kernel
theorem dX7_isOpen_12 : decode cX7_isOpen 12 = .ok (.iconst 1, 1) := by decide +kernel
theorem dX7_isOpen_13 : decode cX7_isOpen 13 = .ok (.goto 4, 3) := by decide +kernel
theorem dX7_isOpen_16 : decode cX7_isOpen 16 = .ok (.iconst 0, 1) := by decide +kernel
theorem dX7_isOpen_17 : decode cX7_isOpen 17 = .ok (.istore 4, 2) := by decide +kernel
theorem dX7_isOpen_19 : decode cX7_isOpen 19 = .ok (.iconst 0, 1) := by decide +kernel
theorem dX7_isOpen_20 : decode cX7_isOpen 20 = .ok (.istore 5, 2) := by decide +kernel
theorem dX7_isOpen_22 : decode cX7_isOpen 22 = .ok (.iload 5, 2) := by decide +kernel
theorem dX7_isOpen_24 : decode cX7_isOpen 24 = .ok (.iload_n 3, 1) := by decide +kernel
theorem dX7_isOpen_25 : decode cX7_isOpen 25 = .ok (.if_icmp .ge 38, 3) := by decide +kernel
theorem dX7_isOpen_28 : decode cX7_isOpen 28 = .ok (.iload 4, 2) := by decide +kernel
theorem dX7_isOpen_30 : decode cX7_isOpen 30 = .ok (.ifCond .eq 33, 3) := by decide +kernel
theorem dX7_isOpen_33 : decode cX7_isOpen 33 = .ok (.aload_n 0, 1) := by decide +kernel
theorem dX7_isOpen_34 : decode cX7_isOpen 34 = .ok (.getfield 34, 3) := by decide +kernel
theorem dX7_isOpen_37 : decode cX7_isOpen 37 = .ok (.bipush 40, 2) := by decide +kernel
theorem dX7_isOpen_39 : decode cX7_isOpen 39 = .ok (.iload_n 1, 1) := by decide +kernel
theorem dX7_isOpen_40 : decode cX7_isOpen 40 = .ok (.imul, 1) := by decide +kernel
theorem dX7_isOpen_41 : decode cX7_isOpen 41 = .ok (.iload_n 2, 1) := by decide +kernel
theorem dX7_isOpen_42 : decode cX7_isOpen 42 = .ok (.iadd, 1) := by decide +kernel
theorem dX7_isOpen_43 : decode cX7_isOpen 43 = .ok (.iload 5, 2) := by decide +kernel
theorem dX7_isOpen_45 : decode cX7_isOpen 45 = .ok (.iadd, 1) := by decide +kernel
theorem dX7_isOpen_46 : decode cX7_isOpen 46 = .ok (.baload, 1) := by decide +kernel
theorem dX7_isOpen_47 : decode cX7_isOpen 47 = .ok (.ifCond .ne 7, 3) := by decide +kernel
theorem dX7_isOpen_50 : decode cX7_isOpen 50 = .ok (.iconst 1, 1) := by decide +kernel
theorem dX7_isOpen_51 : decode cX7_isOpen 51 = .ok (.goto 4, 3) := by decide +kernel
theorem dX7_isOpen_54 : decode cX7_isOpen 54 = .ok (.iconst 0, 1) := by decide +kernel
theorem dX7_isOpen_55 : decode cX7_isOpen 55 = .ok (.istore 4, 2) := by decide +kernel
theorem dX7_isOpen_57 : decode cX7_isOpen 57 = .ok (.iinc 5 1, 3) := by decide +kernel
theorem dX7_isOpen_60 : decode cX7_isOpen 60 = .ok (.goto (-38), 3) := by decide +kernel
theorem dX7_isOpen_63 : decode cX7_isOpen 63 = .ok (.iload 4, 2) := by decide +kernel
theorem dX7_isOpen_65 : decode cX7_isOpen 65 = .ok (.ireturn, 1) := by decide +kernel
theorem dX7_areAlike_0 : decode cX7_areAlike 0 = .ok (.iconst 1, 1) := by decide +kernel
theorem dX7_areAlike_1 : decode cX7_areAlike 1 = .ok (.istore 4, 2) := by decide +kernel
theorem dX7_areAlike_3 : decode cX7_areAlike 3 = .ok (.iconst 0, 1) := by decide +kernel
theorem dX7_areAlike_4 : decode cX7_areAlike 4 = .ok (.istore 5, 2) := by decide +kernel
theorem dX7_areAlike_6 : decode cX7_areAlike 6 = .ok (.iload 5, 2) := by decide +kernel
theorem dX7_areAlike_8 : decode cX7_areAlike 8 = .ok (.iload_n 3, 1) := by decide +kernel
theorem dX7_areAlike_9 : decode cX7_areAlike 9 = .ok (.if_icmp .ge 42, 3) := by decide +kernel
theorem dX7_areAlike_12 : decode cX7_areAlike 12 = .ok (.iload 4, 2) := by decide +kernel
theorem dX7_areAlike_14 : decode cX7_areAlike 14 = .ok (.ifCond .eq 37, 3) := by decide +kernel
theorem dX7_areAlike_17 : decode cX7_areAlike 17 = .ok (.aload_n 0, 1) := by decide +kernel
theorem dX7_areAlike_18 : decode cX7_areAlike 18 = .ok (.getfield 16, 3) := by decide +kernel
theorem dX7_areAlike_21 : decode cX7_areAlike 21 = .ok (.iload_n 1, 1) := by decide +kernel
theorem dX7_areAlike_22 : decode cX7_areAlike 22 = .ok (.iload 5, 2) := by decide +kernel
theorem dX7_areAlike_24 : decode cX7_areAlike 24 = .ok (.iadd, 1) := by decide +kernel
theorem dX7_areAlike_25 : decode cX7_areAlike 25 = .ok (.iaload, 1) := by decide +kernel
theorem dX7_areAlike_26 : decode cX7_areAlike 26 = .ok (.aload_n 0, 1) := by decide +kernel
theorem dX7_areAlike_27 : decode cX7_areAlike 27 = .ok (.getfield 16, 3) := by decide +kernel
theorem dX7_areAlike_30 : decode cX7_areAlike 30 = .ok (.iload_n 2, 1) := by decide +kernel
theorem dX7_areAlike_31 : decode cX7_areAlike 31 = .ok (.iload 5, 2) := by decide +kernel
theorem dX7_areAlike_33 : decode cX7_areAlike 33 = .ok (.iadd, 1) := by decide +kernel
theorem dX7_areAlike_34 : decode cX7_areAlike 34 = .ok (.iaload, 1) := by decide +kernel
theorem dX7_areAlike_35 : decode cX7_areAlike 35 = .ok (.if_icmp .ne 7, 3) := by decide +kernel
theorem dX7_areAlike_38 : decode cX7_areAlike 38 = .ok (.iconst 1, 1) := by decide +kernel
theorem dX7_areAlike_39 : decode cX7_areAlike 39 = .ok (.goto 4, 3) := by decide +kernel
theorem dX7_areAlike_42 : decode cX7_areAlike 42 = .ok (.iconst 0, 1) := by decide +kernel
theorem dX7_areAlike_43 : decode cX7_areAlike 43 = .ok (.istore 4, 2) := by decide +kernel
theorem dX7_areAlike_45 : decode cX7_areAlike 45 = .ok (.iinc 5 1, 3) := by decide +kernel
theorem dX7_areAlike_48 : decode cX7_areAlike 48 = .ok (.goto (-42), 3) := by decide +kernel
theorem dX7_areAlike_51 : decode cX7_areAlike 51 = .ok (.iload 4, 2) := by decide +kernel
theorem dX7_areAlike_53 : decode cX7_areAlike 53 = .ok (.ireturn, 1) := by decide +kernel
theorem dX7_counted_0 : decode cX7_counted 0 = .ok (.iconst 0, 1) := by decide +kernel
theorem dX7_counted_1 : decode cX7_counted 1 = .ok (.istore 4, 2) := by decide +kernel
theorem dX7_counted_3 : decode cX7_counted 3 = .ok (.iconst 0, 1) := by decide +kernel
theorem dX7_counted_4 : decode cX7_counted 4 = .ok (.istore 5, 2) := by decide +kernel
theorem dX7_counted_6 : decode cX7_counted 6 = .ok (.iload 5, 2) := by decide +kernel
theorem dX7_counted_8 : decode cX7_counted 8 = .ok (.aload_n 0, 1) := by decide +kernel
theorem dX7_counted_9 : decode cX7_counted 9 = .ok (.getfield 71, 3) := by decide +kernel
theorem dX7_counted_12 : decode cX7_counted 12 = .ok (.if_icmp .ge 109, 3) := by decide +kernel
theorem dX7_counted_15 : decode cX7_counted 15 = .ok (.iconst 0, 1) := by decide +kernel
theorem dX7_counted_16 : decode cX7_counted 16 = .ok (.istore 6, 2) := by decide +kernel
theorem dX7_counted_18 : decode cX7_counted 18 = .ok (.iload 6, 2) := by decide +kernel
theorem dX7_counted_20 : decode cX7_counted 20 = .ok (.iload_n 2, 1) := by decide +kernel
theorem dX7_counted_21 : decode cX7_counted 21 = .ok (.iadd, 1) := by decide +kernel
theorem dX7_counted_22 : decode cX7_counted 22 = .ok (.aload_n 0, 1) := by decide +kernel
theorem dX7_counted_23 : decode cX7_counted 23 = .ok (.getfield 13, 3) := by decide +kernel
theorem dX7_counted_26 : decode cX7_counted 26 = .ok (.iload 5, 2) := by decide +kernel
theorem dX7_counted_28 : decode cX7_counted 28 = .ok (.iaload, 1) := by decide +kernel
theorem dX7_counted_29 : decode cX7_counted 29 = .ok (.if_icmp .gt 86, 3) := by decide +kernel
theorem dX7_counted_32 : decode cX7_counted 32 = .ok (.aload_n 0, 1) := by decide +kernel
theorem dX7_counted_33 : decode cX7_counted 33 = .ok (.iload_n 1, 1) := by decide +kernel
theorem dX7_counted_34 : decode cX7_counted 34 = .ok (.bipush 40, 2) := by decide +kernel
theorem dX7_counted_36 : decode cX7_counted 36 = .ok (.iload 5, 2) := by decide +kernel
theorem dX7_counted_38 : decode cX7_counted 38 = .ok (.imul, 1) := by decide +kernel
theorem dX7_counted_39 : decode cX7_counted 39 = .ok (.iload 6, 2) := by decide +kernel
theorem dX7_counted_41 : decode cX7_counted 41 = .ok (.iadd, 1) := by decide +kernel
theorem dX7_counted_42 : decode cX7_counted 42 = .ok (.iload_n 2, 1) := by decide +kernel
theorem dX7_counted_43 : decode cX7_counted 43 = .ok (.invokevirtual 74, 3) := by decide +kernel
theorem dX7_counted_46 : decode cX7_counted 46 = .ok (.ifCond .eq 63, 3) := by decide +kernel
theorem dX7_counted_49 : decode cX7_counted 49 = .ok (.aload_n 0, 1) := by decide +kernel
theorem dX7_counted_50 : decode cX7_counted 50 = .ok (.iload 5, 2) := by decide +kernel
theorem dX7_counted_52 : decode cX7_counted 52 = .ok (.iload 6, 2) := by decide +kernel
theorem dX7_counted_54 : decode cX7_counted 54 = .ok (.iload_n 2, 1) := by decide +kernel
theorem dX7_counted_55 : decode cX7_counted 55 = .ok (.invokevirtual 78, 3) := by decide +kernel
theorem dX7_counted_58 : decode cX7_counted 58 = .ok (.ifCond .eq 51, 3) := by decide +kernel
theorem dX7_counted_61 : decode cX7_counted 61 = .ok (.iinc 4 1, 3) := by decide +kernel
theorem dX7_counted_64 : decode cX7_counted 64 = .ok (.iconst 0, 1) := by decide +kernel
theorem dX7_counted_65 : decode cX7_counted 65 = .ok (.istore 7, 2) := by decide +kernel
theorem dX7_counted_67 : decode cX7_counted 67 = .ok (.iload 7, 2) := by decide +kernel
theorem dX7_counted_69 : decode cX7_counted 69 = .ok (.iload_n 2, 1) := by decide +kernel
theorem dX7_counted_70 : decode cX7_counted 70 = .ok (.if_icmp .ge 30, 3) := by decide +kernel
theorem dX7_counted_73 : decode cX7_counted 73 = .ok (.iload_n 3, 1) := by decide +kernel
theorem dX7_counted_74 : decode cX7_counted 74 = .ok (.ifCond .eq 26, 3) := by decide +kernel
theorem dX7_counted_77 : decode cX7_counted 77 = .ok (.aload_n 0, 1) := by decide +kernel
theorem dX7_counted_78 : decode cX7_counted 78 = .ok (.getfield 34, 3) := by decide +kernel
theorem dX7_counted_81 : decode cX7_counted 81 = .ok (.bipush 40, 2) := by decide +kernel
theorem dX7_counted_83 : decode cX7_counted 83 = .ok (.iload 5, 2) := by decide +kernel
theorem dX7_counted_85 : decode cX7_counted 85 = .ok (.imul, 1) := by decide +kernel
theorem dX7_counted_86 : decode cX7_counted 86 = .ok (.iload 6, 2) := by decide +kernel
theorem dX7_counted_88 : decode cX7_counted 88 = .ok (.iadd, 1) := by decide +kernel
theorem dX7_counted_89 : decode cX7_counted 89 = .ok (.iload 7, 2) := by decide +kernel
theorem dX7_counted_91 : decode cX7_counted 91 = .ok (.iadd, 1) := by decide +kernel
theorem dX7_counted_92 : decode cX7_counted 92 = .ok (.iconst 1, 1) := by decide +kernel
theorem dX7_counted_93 : decode cX7_counted 93 = .ok (.bastore, 1) := by decide +kernel
theorem dX7_counted_94 : decode cX7_counted 94 = .ok (.iinc 7 1, 3) := by decide +kernel
theorem dX7_counted_97 : decode cX7_counted 97 = .ok (.goto (-30), 3) := by decide +kernel
theorem dX7_counted_100 : decode cX7_counted 100 = .ok (.iload 6, 2) := by decide +kernel
theorem dX7_counted_102 : decode cX7_counted 102 = .ok (.iload_n 2, 1) := by decide +kernel
theorem dX7_counted_103 : decode cX7_counted 103 = .ok (.iadd, 1) := by decide +kernel
theorem dX7_counted_104 : decode cX7_counted 104 = .ok (.istore 6, 2) := by decide +kernel
theorem dX7_counted_106 : decode cX7_counted 106 = .ok (.goto (-88), 3) := by decide +kernel
theorem dX7_counted_109 : decode cX7_counted 109 = .ok (.iinc 6 1, 3) := by decide +kernel
theorem dX7_counted_112 : decode cX7_counted 112 = .ok (.goto (-94), 3) := by decide +kernel
theorem dX7_counted_115 : decode cX7_counted 115 = .ok (.iinc 5 1, 3) := by decide +kernel
theorem dX7_counted_118 : decode cX7_counted 118 = .ok (.goto (-112), 3) := by decide +kernel
theorem dX7_counted_121 : decode cX7_counted 121 = .ok (.iload 4, 2) := by decide +kernel
theorem dX7_counted_123 : decode cX7_counted 123 = .ok (.ireturn, 1) := by decide +kernel
theorem dX7_train_0 : decode cX7_train 0 = .ok (.aload_n 0, 1) := by decide +kernel
theorem dX7_train_1 : decode cX7_train 1 = .ok (.iconst 0, 1) := by decide +kernel
theorem dX7_train_2 : decode cX7_train 2 = .ok (.putfield 60, 3) := by decide +kernel
theorem dX7_train_5 : decode cX7_train 5 = .ok (.iload_n 1, 1) := by decide +kernel
theorem dX7_train_6 : decode cX7_train 6 = .ok (.i2l, 1) := by decide +kernel
theorem dX7_train_7 : decode cX7_train 7 = .ok (.lconst 0, 1) := by decide +kernel
theorem dX7_train_8 : decode cX7_train 8 = .ok (.ldc2_w 81, 3) := by decide +kernel
theorem dX7_train_11 : decode cX7_train 11 = .ok (.invokestatic 65, 3) := by decide +kernel
theorem dX7_train_14 : decode cX7_train 14 = .ok (.ifCond .ne 6, 3) := by decide +kernel
theorem dX7_train_17 : decode cX7_train 17 = .ok (.bipush (-101), 2) := by decide +kernel
theorem dX7_train_19 : decode cX7_train 19 = .ok (.ireturn, 1) := by decide +kernel
theorem dX7_train_20 : decode cX7_train 20 = .ok (.iload_n 2, 1) := by decide +kernel
theorem dX7_train_21 : decode cX7_train 21 = .ok (.i2l, 1) := by decide +kernel
theorem dX7_train_22 : decode cX7_train 22 = .ok (.lconst 1, 1) := by decide +kernel
theorem dX7_train_23 : decode cX7_train 23 = .ok (.ldc2_w 83, 3) := by decide +kernel
theorem dX7_train_26 : decode cX7_train 26 = .ok (.invokestatic 65, 3) := by decide +kernel
theorem dX7_train_29 : decode cX7_train 29 = .ok (.ifCond .eq 30, 3) := by decide +kernel
theorem dX7_train_32 : decode cX7_train 32 = .ok (.iload_n 3, 1) := by decide +kernel
theorem dX7_train_33 : decode cX7_train 33 = .ok (.i2l, 1) := by decide +kernel
theorem dX7_train_34 : decode cX7_train 34 = .ok (.ldc2_w 85, 3) := by decide +kernel
theorem dX7_train_37 : decode cX7_train 37 = .ok (.ldc2_w 63, 3) := by decide +kernel
theorem dX7_train_40 : decode cX7_train 40 = .ok (.invokestatic 65, 3) := by decide +kernel
theorem dX7_train_43 : decode cX7_train 43 = .ok (.ifCond .eq 16, 3) := by decide +kernel
theorem dX7_train_46 : decode cX7_train 46 = .ok (.iload 4, 2) := by decide +kernel
theorem dX7_train_48 : decode cX7_train 48 = .ok (.i2l, 1) := by decide +kernel
theorem dX7_train_49 : decode cX7_train 49 = .ok (.lconst 0, 1) := by decide +kernel
theorem dX7_train_50 : decode cX7_train 50 = .ok (.ldc2_w 87, 3) := by decide +kernel
theorem dX7_train_53 : decode cX7_train 53 = .ok (.invokestatic 65, 3) := by decide +kernel
theorem dX7_train_56 : decode cX7_train 56 = .ok (.ifCond .ne 6, 3) := by decide +kernel
theorem dX7_train_59 : decode cX7_train 59 = .ok (.bipush (-102), 2) := by decide +kernel
theorem dX7_train_61 : decode cX7_train 61 = .ok (.ireturn, 1) := by decide +kernel
theorem dX7_train_62 : decode cX7_train 62 = .ok (.aload_n 0, 1) := by decide +kernel
theorem dX7_train_63 : decode cX7_train 63 = .ok (.getfield 71, 3) := by decide +kernel
theorem dX7_train_66 : decode cX7_train 66 = .ok (.ifCond .ne 6, 3) := by decide +kernel
theorem dX7_train_69 : decode cX7_train 69 = .ok (.bipush (-104), 2) := by decide +kernel
theorem dX7_train_71 : decode cX7_train 71 = .ok (.ireturn, 1) := by decide +kernel
theorem dX7_train_72 : decode cX7_train 72 = .ok (.iconst 0, 1) := by decide +kernel
theorem dX7_train_73 : decode cX7_train 73 = .ok (.istore 5, 2) := by decide +kernel
theorem dX7_train_75 : decode cX7_train 75 = .ok (.iload 5, 2) := by decide +kernel
theorem dX7_train_77 : decode cX7_train 77 = .ok (.sipush 320, 3) := by decide +kernel
theorem dX7_train_80 : decode cX7_train 80 = .ok (.if_icmp .ge 17, 3) := by decide +kernel
theorem dX7_train_83 : decode cX7_train 83 = .ok (.aload_n 0, 1) := by decide +kernel
theorem dX7_train_84 : decode cX7_train 84 = .ok (.getfield 34, 3) := by decide +kernel
theorem dX7_train_87 : decode cX7_train 87 = .ok (.iload 5, 2) := by decide +kernel
theorem dX7_train_89 : decode cX7_train 89 = .ok (.iconst 0, 1) := by decide +kernel
theorem dX7_train_90 : decode cX7_train 90 = .ok (.bastore, 1) := by decide +kernel
theorem dX7_train_91 : decode cX7_train 91 = .ok (.iinc 5 1, 3) := by decide +kernel
theorem dX7_train_94 : decode cX7_train 94 = .ok (.goto (-19), 3) := by decide +kernel
theorem dX7_train_97 : decode cX7_train 97 = .ok (.aload_n 0, 1) := by decide +kernel
theorem dX7_train_98 : decode cX7_train 98 = .ok (.iconst 0, 1) := by decide +kernel
theorem dX7_train_99 : decode cX7_train 99 = .ok (.putfield 89, 3) := by decide +kernel
theorem dX7_train_102 : decode cX7_train 102 = .ok (.iconst 1, 1) := by decide +kernel
theorem dX7_train_103 : decode cX7_train 103 = .ok (.istore 5, 2) := by decide +kernel
theorem dX7_train_105 : decode cX7_train 105 = .ok (.iload 5, 2) := by decide +kernel
theorem dX7_train_107 : decode cX7_train 107 = .ok (.ifCond .eq 211, 3) := by decide +kernel
theorem dX7_train_110 : decode cX7_train 110 = .ok (.iconst (-1), 1) := by decide +kernel
theorem dX7_train_111 : decode cX7_train 111 = .ok (.istore 6, 2) := by decide +kernel
theorem dX7_train_113 : decode cX7_train 113 = .ok (.iconst 0, 1) := by decide +kernel
theorem dX7_train_114 : decode cX7_train 114 = .ok (.istore 7, 2) := by decide +kernel
theorem dX7_train_116 : decode cX7_train 116 = .ok (.iconst 0, 1) := by decide +kernel
theorem dX7_train_117 : decode cX7_train 117 = .ok (.istore 8, 2) := by decide +kernel
theorem dX7_train_119 : decode cX7_train 119 = .ok (.iload 8, 2) := by decide +kernel
theorem dX7_train_121 : decode cX7_train 121 = .ok (.aload_n 0, 1) := by decide +kernel
theorem dX7_train_122 : decode cX7_train 122 = .ok (.getfield 71, 3) := by decide +kernel
theorem dX7_train_125 : decode cX7_train 125 = .ok (.if_icmp .ge 95, 3) := by decide +kernel
