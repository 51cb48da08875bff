theorem dX6_out_1 : decode cX6_out 1 = .ok (.getfield 42, 3) := by decide +kernel
theorem dX6_out_4 : decode cX6_out 4 = .ok (.invokevirtual 173, 3) := by decide +kernel
theorem dX6_out_7 : decode cX6_out 7 = .ok (.iload_n 1, 1) := by decide +kernel
theorem dX6_out_8 : decode cX6_out 8 = .ok (.invokevirtual 150, 3) := by decide +kernel
theorem dX6_out_11 : decode cX6_out 11 = .ok (.ifCond .ne 13, 3) := by decide +kernel
theorem dX6_out_14 : decode cX6_out 14 = .ok (.new 138, 3) := by decide +kernel
theorem dX6_out_17 : decode cX6_out 17 = .ok (.dup, 1) := by decide +kernel
theorem dX6_out_18 : decode cX6_out 18 = .ok (.ldc 176, 2) := by decide +kernel
theorem dX6_out_20 : decode cX6_out 20 = .ok (.invokespecial 142, 3) := by decide +kernel
theorem dX6_out_23 : decode cX6_out 23 = .ok (.athrow, 1) := by decide +kernel
theorem dX6_out_24 : decode cX6_out 24 = .ok (.aload_n 0, 1) := by decide +kernel
theorem dX6_out_25 : decode cX6_out 25 = .ok (.getfield 42, 3) := by decide +kernel
theorem dX6_out_28 : decode cX6_out 28 = .ok (.invokevirtual 173, 3) := by decide +kernel
theorem dX6_out_31 : decode cX6_out 31 = .ok (.iload_n 1, 1) := by decide +kernel
theorem dX6_out_32 : decode cX6_out 32 = .ok (.invokevirtual 178, 3) := by decide +kernel
theorem dX6_out_35 : decode cX6_out 35 = .ok (.ireturn, 1) := by decide +kernel
theorem dX6_open_0 : decode cX6_open 0 = .ok (.aload_n 0, 1) := by decide +kernel
theorem dX6_open_1 : decode cX6_open 1 = .ok (.getfield 63, 3) := by decide +kernel
theorem dX6_open_4 : decode cX6_open 4 = .ok (.aload_n 0, 1) := by decide +kernel
theorem dX6_open_5 : decode cX6_open 5 = .ok (.getfield 14, 3) := by decide +kernel
theorem dX6_open_8 : decode cX6_open 8 = .ok (.aload_n 0, 1) := by decide +kernel
theorem dX6_open_9 : decode cX6_open 9 = .ok (.aload_n 0, 1) := by decide +kernel
theorem dX6_open_10 : decode cX6_open 10 = .ok (.getfield 14, 3) := by decide +kernel
theorem dX6_open_13 : decode cX6_open 13 = .ok (.iconst 0, 1) := by decide +kernel
theorem dX6_open_14 : decode cX6_open 14 = .ok (.invokevirtual 178, 3) := by decide +kernel
theorem dX6_open_17 : decode cX6_open 17 = .ok (.invokevirtual 182, 3) := by decide +kernel
theorem dX6_open_20 : decode cX6_open 20 = .ok (.invokevirtual 185, 3) := by decide +kernel
theorem dX6_open_23 : decode cX6_open 23 = .ok (.istore_n 1, 1) := by decide +kernel
theorem dX6_open_24 : decode cX6_open 24 = .ok (.aload_n 0, 1) := by decide +kernel
theorem dX6_open_25 : decode cX6_open 25 = .ok (.getfield 14, 3) := by decide +kernel
theorem dX6_open_28 : decode cX6_open 28 = .ok (.invokevirtual 86, 3) := by decide +kernel
theorem dX6_open_31 : decode cX6_open 31 = .ok (.iload_n 1, 1) := by decide +kernel
theorem dX6_open_32 : decode cX6_open 32 = .ok (.iconst (-1), 1) := by decide +kernel
theorem dX6_open_33 : decode cX6_open 33 = .ok (.if_icmp .eq 9, 3) := by decide +kernel
theorem dX6_open_36 : decode cX6_open 36 = .ok (.sipush (-200), 3) := by decide +kernel
theorem dX6_open_39 : decode cX6_open 39 = .ok (.iload_n 1, 1) := by decide +kernel
theorem dX6_open_40 : decode cX6_open 40 = .ok (.isub, 1) := by decide +kernel
theorem dX6_open_41 : decode cX6_open 41 = .ok (.ireturn, 1) := by decide +kernel
theorem dX6_open_42 : decode cX6_open 42 = .ok (.aload_n 0, 1) := by decide +kernel
theorem dX6_open_43 : decode cX6_open 43 = .ok (.getfield 63, 3) := by decide +kernel
theorem dX6_open_46 : decode cX6_open 46 = .ok (.aload_n 0, 1) := by decide +kernel
theorem dX6_open_47 : decode cX6_open 47 = .ok (.getfield 36, 3) := by decide +kernel
theorem dX6_open_50 : decode cX6_open 50 = .ok (.invokevirtual 189, 3) := by decide +kernel
theorem dX6_open_53 : decode cX6_open 53 = .ok (.aload_n 0, 1) := by decide +kernel
theorem dX6_open_54 : decode cX6_open 54 = .ok (.getfield 36, 3) := by decide +kernel
theorem dX6_open_57 : decode cX6_open 57 = .ok (.invokevirtual 74, 3) := by decide +kernel
theorem dX6_open_60 : decode cX6_open 60 = .ok (.ireturn, 1) := by decide +kernel
theorem dX6_text_0 : decode cX6_text 0 = .ok (.aload_n 0, 1) := by decide +kernel
theorem dX6_text_1 : decode cX6_text 1 = .ok (.getfield 36, 3) := by decide +kernel
theorem dX6_text_4 : decode cX6_text 4 = .ok (.iload_n 1, 1) := by decide +kernel
theorem dX6_text_5 : decode cX6_text 5 = .ok (.invokevirtual 150, 3) := by decide +kernel
theorem dX6_text_8 : decode cX6_text 8 = .ok (.ifCond .ne 13, 3) := by decide +kernel
theorem dX6_text_11 : decode cX6_text 11 = .ok (.new 138, 3) := by decide +kernel
theorem dX6_text_14 : decode cX6_text 14 = .ok (.dup, 1) := by decide +kernel
theorem dX6_text_15 : decode cX6_text 15 = .ok (.ldc 191, 2) := by decide +kernel
theorem dX6_text_17 : decode cX6_text 17 = .ok (.invokespecial 142, 3) := by decide +kernel
theorem dX6_text_20 : decode cX6_text 20 = .ok (.athrow, 1) := by decide +kernel
theorem dX6_text_21 : decode cX6_text 21 = .ok (.aload_n 0, 1) := by decide +kernel
theorem dX6_text_22 : decode cX6_text 22 = .ok (.getfield 36, 3) := by decide +kernel
theorem dX6_text_25 : decode cX6_text 25 = .ok (.iload_n 1, 1) := by decide +kernel
theorem dX6_text_26 : decode cX6_text 26 = .ok (.invokevirtual 178, 3) := by decide +kernel
theorem dX6_text_29 : decode cX6_text 29 = .ok (.ireturn, 1) := by decide +kernel
theorem dX6_size_0 : decode cX6_size 0 = .ok (.aload_n 0, 1) := by decide +kernel
theorem dX6_size_1 : decode cX6_size 1 = .ok (.iload_n 2, 1) := by decide +kernel
theorem dX6_size_2 : decode cX6_size 2 = .ok (.invokevirtual 159, 3) := by decide +kernel
theorem dX6_size_5 : decode cX6_size 5 = .ok (.astore_n 3, 1) := by decide +kernel
theorem dX6_size_6 : decode cX6_size 6 = .ok (.aload_n 0, 1) := by decide +kernel
theorem dX6_size_7 : decode cX6_size 7 = .ok (.iload_n 1, 1) := by decide +kernel
theorem dX6_size_8 : decode cX6_size 8 = .ok (.invokevirtual 193, 3) := by decide +kernel
theorem dX6_size_11 : decode cX6_size 11 = .ok (.ifCond .eq 7, 3) := by decide +kernel
theorem dX6_size_14 : decode cX6_size 14 = .ok (.aload_n 3, 1) := by decide +kernel
theorem dX6_size_15 : decode cX6_size 15 = .ok (.ifnonnull 6, 3) := by decide +kernel
theorem dX6_size_18 : decode cX6_size 18 = .ok (.bipush (-101), 2) := by decide +kernel
theorem dX6_size_20 : decode cX6_size 20 = .ok (.ireturn, 1) := by decide +kernel
theorem dX6_size_21 : decode cX6_size 21 = .ok (.aload_n 0, 1) := by decide +kernel
theorem dX6_size_22 : decode cX6_size 22 = .ok (.getfield 49, 3) := by decide +kernel
theorem dX6_size_25 : decode cX6_size 25 = .ok (.aload_n 0, 1) := by decide +kernel
theorem dX6_size_26 : decode cX6_size 26 = .ok (.getfield 18, 3) := by decide +kernel
theorem dX6_size_29 : decode cX6_size 29 = .ok (.iload_n 1, 1) := by decide +kernel
theorem dX6_size_30 : decode cX6_size 30 = .ok (.aaload, 1) := by decide +kernel
theorem dX6_size_31 : decode cX6_size 31 = .ok (.aload_n 3, 1) := by decide +kernel
theorem dX6_size_32 : decode cX6_size 32 = .ok (.invokevirtual 117, 3) := by decide +kernel
theorem dX6_size_35 : decode cX6_size 35 = .ok (.invokevirtual 162, 3) := by decide +kernel
theorem dX6_size_38 : decode cX6_size 38 = .ok (.ireturn, 1) := by decide +kernel
theorem dX6_best_0 : decode cX6_best 0 = .ok (.aload_n 0, 1) := by decide +kernel
theorem dX6_best_1 : decode cX6_best 1 = .ok (.iload_n 1, 1) := by decide +kernel
theorem dX6_best_2 : decode cX6_best 2 = .ok (.invokevirtual 193, 3) := by decide +kernel
theorem dX6_best_5 : decode cX6_best 5 = .ok (.ifCond .ne 6, 3) := by decide +kernel
theorem dX6_best_8 : decode cX6_best 8 = .ok (.bipush (-101), 2) := by decide +kernel
theorem dX6_best_10 : decode cX6_best 10 = .ok (.ireturn, 1) := by decide +kernel
theorem dX6_best_11 : decode cX6_best 11 = .ok (.iconst (-1), 1) := by decide +kernel
theorem dX6_best_12 : decode cX6_best 12 = .ok (.istore_n 2, 1) := by decide +kernel
theorem dX6_best_13 : decode cX6_best 13 = .ok (.aload_n 0, 1) := by decide +kernel
theorem dX6_best_14 : decode cX6_best 14 = .ok (.getfield 49, 3) := by decide +kernel
theorem dX6_best_17 : decode cX6_best 17 = .ok (.aload_n 0, 1) := by decide +kernel
theorem dX6_best_18 : decode cX6_best 18 = .ok (.getfield 18, 3) := by decide +kernel
theorem dX6_best_21 : decode cX6_best 21 = .ok (.iload_n 1, 1) := by decide +kernel
theorem dX6_best_22 : decode cX6_best 22 = .ok (.aaload, 1) := by decide +kernel
theorem dX6_best_23 : decode cX6_best 23 = .ok (.aload_n 0, 1) := by decide +kernel
theorem dX6_best_24 : decode cX6_best 24 = .ok (.getfield 29, 3) := by decide +kernel
theorem dX6_best_27 : decode cX6_best 27 = .ok (.invokevirtual 117, 3) := by decide +kernel
theorem dX6_best_30 : decode cX6_best 30 = .ok (.invokevirtual 162, 3) := by decide +kernel
theorem dX6_best_33 : decode cX6_best 33 = .ok (.istore_n 3, 1) := by decide +kernel
theorem dX6_best_34 : decode cX6_best 34 = .ok (.iconst 0, 1) := by decide +kernel
theorem dX6_best_35 : decode cX6_best 35 = .ok (.istore 4, 2) := by decide +kernel
theorem dX6_best_37 : decode cX6_best 37 = .ok (.iload 4, 2) := by decide +kernel
theorem dX6_best_39 : decode cX6_best 39 = .ok (.bipush 6, 2) := by decide +kernel
theorem dX6_best_41 : decode cX6_best 41 = .ok (.if_icmp .ge 59, 3) := by decide +kernel
theorem dX6_best_44 : decode cX6_best 44 = .ok (.aload_n 0, 1) := by decide +kernel
theorem dX6_best_45 : decode cX6_best 45 = .ok (.getfield 24, 3) := by decide +kernel
theorem dX6_best_48 : decode cX6_best 48 = .ok (.iload 4, 2) := by decide +kernel
theorem dX6_best_50 : decode cX6_best 50 = .ok (.aaload, 1) := by decide +kernel
theorem dX6_best_51 : decode cX6_best 51 = .ok (.invokevirtual 196, 3) := by decide +kernel
theorem dX6_best_54 : decode cX6_best 54 = .ok (.ifCond .eq 40, 3) := by decide +kernel
theorem dX6_best_57 : decode cX6_best 57 = .ok (.aload_n 0, 1) := by decide +kernel
theorem dX6_best_58 : decode cX6_best 58 = .ok (.getfield 49, 3) := by decide +kernel
theorem dX6_best_61 : decode cX6_best 61 = .ok (.aload_n 0, 1) := by decide +kernel
theorem dX6_best_62 : decode cX6_best 62 = .ok (.getfield 18, 3) := by decide +kernel
theorem dX6_best_65 : decode cX6_best 65 = .ok (.iload_n 1, 1) := by decide +kernel
theorem dX6_best_66 : decode cX6_best 66 = .ok (.aaload, 1) := by decide +kernel
theorem dX6_best_67 : decode cX6_best 67 = .ok (.aload_n 0, 1) := by decide +kernel
theorem dX6_best_68 : decode cX6_best 68 = .ok (.getfield 24, 3) := by decide +kernel
theorem dX6_best_71 : decode cX6_best 71 = .ok (.iload 4, 2) := by decide +kernel
theorem dX6_best_73 : decode cX6_best 73 = .ok (.aaload, 1) := by decide +kernel
theorem dX6_best_74 : decode cX6_best 74 = .ok (.invokevirtual 117, 3) := by decide +kernel
theorem dX6_best_77 : decode cX6_best 77 = .ok (.invokevirtual 162, 3) := by decide +kernel
theorem dX6_best_80 : decode cX6_best 80 = .ok (.istore 5, 2) := by decide +kernel
theorem dX6_best_82 : decode cX6_best 82 = .ok (.iload 5, 2) := by decide +kernel
theorem dX6_best_84 : decode cX6_best 84 = .ok (.iload_n 3, 1) := by decide +kernel
theorem dX6_best_85 : decode cX6_best 85 = .ok (.if_icmp .ge 9, 3) := by decide +kernel
theorem dX6_best_88 : decode cX6_best 88 = .ok (.iload 5, 2) := by decide +kernel
theorem dX6_best_90 : decode cX6_best 90 = .ok (.istore_n 3, 1) := by decide +kernel
theorem dX6_best_91 : decode cX6_best 91 = .ok (.iload 4, 2) := by decide +kernel
theorem dX6_best_93 : decode cX6_best 93 = .ok (.istore_n 2, 1) := by decide +kernel
theorem dX6_best_94 : decode cX6_best 94 = .ok (.iinc 4 1, 3) := by decide +kernel
theorem dX6_best_97 : decode cX6_best 97 = .ok (.goto (-60), 3) := by decide +kernel
theorem dX6_best_100 : decode cX6_best 100 = .ok (.iload_n 2, 1) := by decide +kernel
theorem dX6_best_101 : decode cX6_best 101 = .ok (.ireturn, 1) := by decide +kernel
theorem dX6_share_0 : decode cX6_share 0 = .ok (.aload_n 0, 1) := by decide +kernel
theorem dX6_share_1 : decode cX6_share 1 = .ok (.iload_n 1, 1) := by decide +kernel
theorem dX6_share_2 : decode cX6_share 2 = .ok (.invokevirtual 121, 3) := by decide +kernel
theorem dX6_share_5 : decode cX6_share 5 = .ok (.astore_n 2, 1) := by decide +kernel
theorem dX6_share_6 : decode cX6_share 6 = .ok (.aload_n 2, 1) := by decide +kernel
theorem dX6_share_7 : decode cX6_share 7 = .ok (.ifnonnull 6, 3) := by decide +kernel
theorem dX6_share_10 : decode cX6_share 10 = .ok (.bipush (-101), 2) := by decide +kernel
theorem dX6_share_12 : decode cX6_share 12 = .ok (.ireturn, 1) := by decide +kernel
theorem dX6_share_13 : decode cX6_share 13 = .ok (.aload_n 0, 1) := by decide +kernel
theorem dX6_share_14 : decode cX6_share 14 = .ok (.aload_n 0, 1) := by decide +kernel
theorem dX6_share_15 : decode cX6_share 15 = .ok (.getfield 29, 3) := by decide +kernel
theorem dX6_share_18 : decode cX6_share 18 = .ok (.invokevirtual 117, 3) := by decide +kernel
theorem dX6_share_21 : decode cX6_share 21 = .ok (.invokevirtual 200, 3) := by decide +kernel
theorem dX6_share_24 : decode cX6_share 24 = .ok (.istore_n 3, 1) := by decide +kernel
theorem dX6_share_25 : decode cX6_share 25 = .ok (.iload_n 3, 1) := by decide +kernel
theorem dX6_share_26 : decode cX6_share 26 = .ok (.ifCond .ne 13, 3) := by decide +kernel
theorem dX6_share_29 : decode cX6_share 29 = .ok (.new 204, 3) := by decide +kernel
theorem dX6_share_32 : decode cX6_share 32 = .ok (.dup, 1) := by decide +kernel
theorem dX6_share_33 : decode cX6_share 33 = .ok (.ldc 206, 2) := by decide +kernel
theorem dX6_share_35 : decode cX6_share 35 = .ok (.invokespecial 208, 3) := by decide +kernel
theorem dX6_share_38 : decode cX6_share 38 = .ok (.athrow, 1) := by decide +kernel
theorem dX6_share_39 : decode cX6_share 39 = .ok (.iload_n 3, 1) := by decide +kernel
theorem dX6_share_40 : decode cX6_share 40 = .ok (.aload_n 0, 1) := by decide +kernel
theorem dX6_share_41 : decode cX6_share 41 = .ok (.aload_n 2, 1) := by decide +kernel
theorem dX6_share_42 : decode cX6_share 42 = .ok (.invokevirtual 117, 3) := by decide +kernel
theorem dX6_share_45 : decode cX6_share 45 = .ok (.invokevirtual 200, 3) := by decide +kernel
theorem dX6_share_48 : decode cX6_share 48 = .ok (.isub, 1) := by decide +kernel
theorem dX6_share_49 : decode cX6_share 49 = .ok (.sipush 1000, 3) := by decide +kernel
theorem dX6_share_52 : decode cX6_share 52 = .ok (.imul, 1) := by decide +kernel
theorem dX6_share_53 : decode cX6_share 53 = .ok (.iload_n 3, 1) := by decide +kernel
theorem dX6_share_54 : decode cX6_share 54 = .ok (.idiv, 1) := by decide +kernel
theorem dX6_share_55 : decode cX6_share 55 = .ok (.ireturn, 1) := by decide +kernel
theorem dX6_about_0 : decode cX6_about 0 = .ok (.iload_n 1, 1) := by decide +kernel
theorem dX6_about_1 : decode cX6_about 1 = .ok (.tableswitch 96 0 6 #[43, 51, 56, 61, 72, 80, 88], 43) := by decide +kernel
theorem dX6_about_44 : decode cX6_about 44 = .ok (.aload_n 0, 1) := by decide +kernel
theorem dX6_about_45 : decode cX6_about 45 = .ok (.getfield 14, 3) := by decide +kernel
theorem dX6_about_48 : decode cX6_about 48 = .ok (.invokevirtual 74, 3) := by decide +kernel
theorem dX6_about_51 : decode cX6_about 51 = .ok (.ireturn, 1) := by decide +kernel
theorem dX6_about_52 : decode cX6_about 52 = .ok (.aload_n 0, 1) := by decide +kernel
theorem dX6_about_53 : decode cX6_about 53 = .ok (.getfield 78, 3) := by decide +kernel
theorem dX6_about_56 : decode cX6_about 56 = .ok (.ireturn, 1) := by decide +kernel
theorem dX6_about_57 : decode cX6_about 57 = .ok (.aload_n 0, 1) := by decide +kernel
theorem dX6_about_58 : decode cX6_about 58 = .ok (.invokevirtual 209, 3) := by decide +kernel
theorem dX6_about_61 : decode cX6_about 61 = .ok (.ireturn, 1) := by decide +kernel
theorem dX6_about_62 : decode cX6_about 62 = .ok (.aload_n 0, 1) := by decide +kernel
theorem dX6_about_63 : decode cX6_about 63 = .ok (.getfield 42, 3) := by decide +kernel
theorem dX6_about_66 : decode cX6_about 66 = .ok (.invokevirtual 173, 3) := by decide +kernel
theorem dX6_about_69 : decode cX6_about 69 = .ok (.invokevirtual 74, 3) := by decide +kernel
theorem dX6_about_72 : decode cX6_about 72 = .ok (.ireturn, 1) := by decide +kernel
theorem dX6_about_73 : decode cX6_about 73 = .ok (.aload_n 0, 1) := by decide +kernel
theorem dX6_about_74 : decode cX6_about 74 = .ok (.getfield 36, 3) := by decide +kernel
theorem dX6_about_77 : decode cX6_about 77 = .ok (.invokevirtual 74, 3) := by decide +kernel
theorem dX6_about_80 : decode cX6_about 80 = .ok (.ireturn, 1) := by decide +kernel
theorem dX6_about_81 : decode cX6_about 81 = .ok (.aload_n 0, 1) := by decide +kernel
theorem dX6_about_82 : decode cX6_about 82 = .ok (.getfield 42, 3) := by decide +kernel
theorem dX6_about_85 : decode cX6_about 85 = .ok (.invokevirtual 212, 3) := by decide +kernel
theorem dX6_about_88 : decode cX6_about 88 = .ok (.ireturn, 1) := by decide +kernel
theorem dX6_about_89 : decode cX6_about 89 = .ok (.aload_n 0, 1) := by decide +kernel
theorem dX6_about_90 : decode cX6_about 90 = .ok (.getfield 42, 3) := by decide +kernel
theorem dX6_about_93 : decode cX6_about 93 = .ok (.invokevirtual 215, 3) := by decide +kernel
theorem dX6_about_96 : decode cX6_about 96 = .ok (.ireturn, 1) := by decide +kernel
theorem dX6_about_97 : decode cX6_about 97 = .ok (.bipush (-102), 2) := by decide +kernel
theorem dX6_about_99 : decode cX6_about 99 = .ok (.ireturn, 1) := by decide +kernel
theorem dX6_isNumber_0 : decode cX6_isNumber 0 = .ok (.iload_n 0, 1) := by decide +kernel
theorem dX6_isNumber_1 : decode cX6_isNumber 1 = .ok (.ifCond .lt 13, 3) := by decide +kernel
theorem dX6_isNumber_4 : decode cX6_isNumber 4 = .ok (.iload_n 0, 1) := by decide +kernel
theorem dX6_isNumber_5 : decode cX6_isNumber 5 = .ok (.bipush 6, 2) := by decide +kernel
theorem dX6_isNumber_7 : decode cX6_isNumber 7 = .ok (.if_icmp .ge 7, 3) := by decide +kernel
theorem dX6_isNumber_10 : decode cX6_isNumber 10 = .ok (.iconst 1, 1) := by decide +kernel
theorem dX6_isNumber_11 : decode cX6_isNumber 11 = .ok (.goto 4, 3) := by decide +kernel
theorem dX6_isNumber_14 : decode cX6_isNumber 14 = .ok (.iconst 0, 1) := by decide +kernel
theorem dX6_isNumber_15 : decode cX6_isNumber 15 = .ok (.ireturn, 1) := by decide +kernel
theorem dX6_isId_0 : decode cX6_isId 0 = .ok (.iload_n 0, 1) := by decide +kernel
theorem dX6_isId_1 : decode cX6_isId 1 = .ok (.iconst 1, 1) := by decide +kernel
theorem dX6_isId_2 : decode cX6_isId 2 = .ok (.if_icmp .lt 14, 3) := by decide +kernel
theorem dX6_isId_5 : decode cX6_isId 5 = .ok (.iload_n 0, 1) := by decide +kernel
theorem dX6_isId_6 : decode cX6_isId 6 = .ok (.sipush 255, 3) := by decide +kernel
theorem dX6_isId_9 : decode cX6_isId 9 = .ok (.if_icmp .gt 7, 3) := by decide +kernel
theorem dX6_isId_12 : decode cX6_isId 12 = .ok (.iconst 1, 1) := by decide +kernel
theorem dX6_isId_13 : decode cX6_isId 13 = .ok (.goto 4, 3) := by decide +kernel
theorem dX6_isId_16 : decode cX6_isId 16 = .ok (.iconst 0, 1) := by decide +kernel
theorem dX6_isId_17 : decode cX6_isId 17 = .ok (.ireturn, 1) := by decide +kernel
theorem dX6_isSample_0 : decode cX6_isSample 0 = .ok (.iload_n 1, 1) := by decide +kernel
theorem dX6_isSample_1 : decode cX6_isSample 1 = .ok (.ifCond .lt 15, 3) := by decide +kernel
theorem dX6_isSample_4 : decode cX6_isSample 4 = .ok (.iload_n 1, 1) := by decide +kernel
theorem dX6_isSample_5 : decode cX6_isSample 5 = .ok (.aload_n 0, 1) := by decide +kernel
theorem dX6_isSample_6 : decode cX6_isSample 6 = .ok (.getfield 78, 3) := by decide +kernel
theorem dX6_isSample_9 : decode cX6_isSample 9 = .ok (.if_icmp .ge 7, 3) := by decide +kernel
theorem dX6_isSample_12 : decode cX6_isSample 12 = .ok (.iconst 1, 1) := by decide +kernel
theorem dX6_isSample_13 : decode cX6_isSample 13 = .ok (.goto 4, 3) := by decide +kernel
theorem dX6_isSample_16 : decode cX6_isSample 16 = .ok (.iconst 0, 1) := by decide +kernel
theorem dX6_isSample_17 : decode cX6_isSample 17 = .ok (.ireturn, 1) := by decide +kernel
theorem dX6_thereAt_0 : decode cX6_thereAt 0 = .ok (.iload_n 1, 1) := by decide +kernel
theorem dX6_thereAt_1 : decode cX6_thereAt 1 = .ok (.invokestatic 89, 3) := by decide +kernel
theorem dX6_thereAt_4 : decode cX6_thereAt 4 = .ok (.ifCond .eq 24, 3) := by decide +kernel
theorem dX6_thereAt_7 : decode cX6_thereAt 7 = .ok (.aload_n 0, 1) := by decide +kernel
theorem dX6_thereAt_8 : decode cX6_thereAt 8 = .ok (.getfield 24, 3) := by decide +kernel
theorem dX6_thereAt_11 : decode cX6_thereAt 11 = .ok (.iload_n 1, 1) := by decide +kernel
theorem dX6_thereAt_12 : decode cX6_thereAt 12 = .ok (.aaload, 1) := by decide +kernel
theorem dX6_thereAt_13 : decode cX6_thereAt 13 = .ok (.invokevirtual 196, 3) := by decide +kernel
theorem dX6_thereAt_16 : decode cX6_thereAt 16 = .ok (.ifCond .eq 12, 3) := by decide +kernel
theorem dX6_thereAt_19 : decode cX6_thereAt 19 = .ok (.aload_n 0, 1) := by decide +kernel
theorem dX6_thereAt_20 : decode cX6_thereAt 20 = .ok (.getfield 24, 3) := by decide +kernel
theorem dX6_thereAt_23 : decode cX6_thereAt 23 = .ok (.iload_n 1, 1) := by decide +kernel
theorem dX6_thereAt_24 : decode cX6_thereAt 24 = .ok (.aaload, 1) := by decide +kernel
theorem dX6_thereAt_25 : decode cX6_thereAt 25 = .ok (.goto 4, 3) := by decide +kernel
theorem dX6_thereAt_28 : decode cX6_thereAt 28 = .ok (.aconst_null, 1) := by decide +kernel
theorem dX6_thereAt_29 : decode cX6_thereAt 29 = .ok (.areturn, 1) := by decide +kernel
theorem dX6_noneOrThereAt_0 : decode cX6_noneOrThereAt 0 = .ok (.iload_n 1, 1) := by decide +kernel
theorem dX6_noneOrThereAt_1 : decode cX6_noneOrThereAt 1 = .ok (.iconst (-1), 1) := by decide +kernel
theorem dX6_noneOrThereAt_2 : decode cX6_noneOrThereAt 2 = .ok (.if_icmp .ne 10, 3) := by decide +kernel
theorem dX6_noneOrThereAt_5 : decode cX6_noneOrThereAt 5 = .ok (.aload_n 0, 1) := by decide +kernel
theorem dX6_noneOrThereAt_6 : decode cX6_noneOrThereAt 6 = .ok (.getfield 29, 3) := by decide +kernel
theorem dX6_noneOrThereAt_9 : decode cX6_noneOrThereAt 9 = .ok (.goto 8, 3) := by decide +kernel
theorem dX6_noneOrThereAt_12 : decode cX6_noneOrThereAt 12 = .ok (.aload_n 0, 1) := by decide +kernel
theorem dX6_noneOrThereAt_13 : decode cX6_noneOrThereAt 13 = .ok (.iload_n 1, 1) := by decide +kernel
theorem dX6_noneOrThereAt_14 : decode cX6_noneOrThereAt 14 = .ok (.invokevirtual 121, 3) := by decide +kernel
theorem dX6_noneOrThereAt_17 : decode cX6_noneOrThereAt 17 = .ok (.areturn, 1) := by decide +kernel
theorem dX6_firstWithId_0 : decode cX6_firstWithId 0 = .ok (.iload_n 1, 1) := by decide +kernel
theorem dX6_firstWithId_1 : decode cX6_firstWithId 1 = .ok (.ifCond .ne 8, 3) := by decide +kernel
theorem dX6_firstWithId_4 : decode cX6_firstWithId 4 = .ok (.aload_n 0, 1) := by decide +kernel
theorem dX6_firstWithId_5 : decode cX6_firstWithId 5 = .ok (.getfield 29, 3) := by decide +kernel
theorem dX6_firstWithId_8 : decode cX6_firstWithId 8 = .ok (.areturn, 1) := by decide +kernel
theorem dX6_firstWithId_9 : decode cX6_firstWithId 9 = .ok (.iconst 0, 1) := by decide +kernel
theorem dX6_firstWithId_10 : decode cX6_firstWithId 10 = .ok (.istore_n 2, 1) := by decide +kernel
theorem dX6_firstWithId_11 : decode cX6_firstWithId 11 = .ok (.iload_n 2, 1) := by decide +kernel
theorem dX6_firstWithId_12 : decode cX6_firstWithId 12 = .ok (.bipush 6, 2) := by decide +kernel
theorem dX6_firstWithId_14 : decode cX6_firstWithId 14 = .ok (.if_icmp .ge 29, 3) := by decide +kernel
theorem dX6_firstWithId_17 : decode cX6_firstWithId 17 = .ok (.aload_n 0, 1) := by decide +kernel
theorem dX6_firstWithId_18 : decode cX6_firstWithId 18 = .ok (.getfield 24, 3) := by decide +kernel
theorem dX6_firstWithId_21 : decode cX6_firstWithId 21 = .ok (.iload_n 2, 1) := by decide +kernel
theorem dX6_firstWithId_22 : decode cX6_firstWithId 22 = .ok (.aaload, 1) := by decide +kernel
theorem dX6_firstWithId_23 : decode cX6_firstWithId 23 = .ok (.invokevirtual 129, 3) := by decide +kernel
theorem dX6_firstWithId_26 : decode cX6_firstWithId 26 = .ok (.iload_n 1, 1) := by decide +kernel
theorem dX6_firstWithId_27 : decode cX6_firstWithId 27 = .ok (.if_icmp .ne 10, 3) := by decide +kernel
theorem dX6_firstWithId_30 : decode cX6_firstWithId 30 = .ok (.aload_n 0, 1) := by decide +kernel
theorem dX6_firstWithId_31 : decode cX6_firstWithId 31 = .ok (.getfield 24, 3) := by decide +kernel
theorem dX6_firstWithId_34 : decode cX6_firstWithId 34 = .ok (.iload_n 2, 1) := by decide +kernel
theorem dX6_firstWithId_35 : decode cX6_firstWithId 35 = .ok (.aaload, 1) := by decide +kernel
theorem dX6_firstWithId_36 : decode cX6_firstWithId 36 = .ok (.areturn, 1) := by decide +kernel
theorem dX6_firstWithId_37 : decode cX6_firstWithId 37 = .ok (.iinc 2 1, 3) := by decide +kernel
theorem dX6_firstWithId_40 : decode cX6_firstWithId 40 = .ok (.goto (-29), 3) := by decide +kernel
theorem dX6_firstWithId_43 : decode cX6_firstWithId 43 = .ok (.aconst_null, 1) := by decide +kernel
theorem dX6_firstWithId_44 : decode cX6_firstWithId 44 = .ok (.areturn, 1) := by decide +kernel
theorem dX6_countThere_0 : decode cX6_countThere 0 = .ok (.iconst 0, 1) := by decide +kernel
theorem dX6_countThere_1 : decode cX6_countThere 1 = .ok (.istore_n 1, 1) := by decide +kernel
theorem dX6_countThere_2 : decode cX6_countThere 2 = .ok (.iconst 0, 1) := by decide +kernel
theorem dX6_countThere_3 : decode cX6_countThere 3 = .ok (.istore_n 2, 1) := by decide +kernel
theorem dX6_countThere_4 : decode cX6_countThere 4 = .ok (.iload_n 2, 1) := by decide +kernel
theorem dX6_countThere_5 : decode cX6_countThere 5 = .ok (.bipush 6, 2) := by decide +kernel
theorem dX6_countThere_7 : decode cX6_countThere 7 = .ok (.if_icmp .ge 24, 3) := by decide +kernel
theorem dX6_countThere_10 : decode cX6_countThere 10 = .ok (.aload_n 0, 1) := by decide +kernel
theorem dX6_countThere_11 : decode cX6_countThere 11 = .ok (.getfield 24, 3) := by decide +kernel
theorem dX6_countThere_14 : decode cX6_countThere 14 = .ok (.iload_n 2, 1) := by decide +kernel
theorem dX6_countThere_15 : decode cX6_countThere 15 = .ok (.aaload, 1) := by decide +kernel
theorem dX6_countThere_16 : decode cX6_countThere 16 = .ok (.invokevirtual 196, 3) := by decide +kernel
theorem dX6_countThere_19 : decode cX6_countThere 19 = .ok (.ifCond .eq 6, 3) := by decide +kernel
theorem dX6_countThere_22 : decode cX6_countThere 22 = .ok (.iinc 1 1, 3) := by decide +kernel
theorem dX6_countThere_25 : decode cX6_countThere 25 = .ok (.iinc 2 1, 3) := by decide +kernel
theorem dX6_countThere_28 : decode cX6_countThere 28 = .ok (.goto (-24), 3) := by decide +kernel
theorem dX6_countThere_31 : decode cX6_countThere 31 = .ok (.iload_n 1, 1) := by decide +kernel
theorem dX6_countThere_32 : decode cX6_countThere 32 = .ok (.ireturn, 1) := by decide +kernel
theorem dX6_bytesOfSamples_0 : decode cX6_bytesOfSamples 0 = .ok (.iconst 0, 1) := by decide +kernel
theorem dX6_bytesOfSamples_1 : decode cX6_bytesOfSamples 1 = .ok (.istore_n 2, 1) := by decide +kernel
theorem dX6_bytesOfSamples_2 : decode cX6_bytesOfSamples 2 = .ok (.iconst 0, 1) := by decide +kernel
theorem dX6_bytesOfSamples_3 : decode cX6_bytesOfSamples 3 = .ok (.istore_n 3, 1) := by decide +kernel
theorem dX6_bytesOfSamples_4 : decode cX6_bytesOfSamples 4 = .ok (.iload_n 3, 1) := by decide +kernel
theorem dX6_bytesOfSamples_5 : decode cX6_bytesOfSamples 5 = .ok (.aload_n 0, 1) := by decide +kernel
theorem dX6_bytesOfSamples_6 : decode cX6_bytesOfSamples 6 = .ok (.getfield 78, 3) := by decide +kernel
theorem dX6_bytesOfSamples_9 : decode cX6_bytesOfSamples 9 = .ok (.if_icmp .ge 26, 3) := by decide +kernel
theorem dX6_bytesOfSamples_12 : decode cX6_bytesOfSamples 12 = .ok (.iload_n 2, 1) := by decide +kernel
theorem dX6_bytesOfSamples_13 : decode cX6_bytesOfSamples 13 = .ok (.aload_n 0, 1) := by decide +kernel
theorem dX6_bytesOfSamples_14 : decode cX6_bytesOfSamples 14 = .ok (.getfield 49, 3) := by decide +kernel
theorem dX6_bytesOfSamples_17 : decode cX6_bytesOfSamples 17 = .ok (.aload_n 0, 1) := by decide +kernel
theorem dX6_bytesOfSamples_18 : decode cX6_bytesOfSamples 18 = .ok (.getfield 18, 3) := by decide +kernel
theorem dX6_bytesOfSamples_21 : decode cX6_bytesOfSamples 21 = .ok (.iload_n 3, 1) := by decide +kernel
theorem dX6_bytesOfSamples_22 : decode cX6_bytesOfSamples 22 = .ok (.aaload, 1) := by decide +kernel
theorem dX6_bytesOfSamples_23 : decode cX6_bytesOfSamples 23 = .ok (.aload_n 1, 1) := by decide +kernel
theorem dX6_bytesOfSamples_24 : decode cX6_bytesOfSamples 24 = .ok (.invokevirtual 162, 3) := by decide +kernel
theorem dX6_bytesOfSamples_27 : decode cX6_bytesOfSamples 27 = .ok (.iadd, 1) := by decide +kernel
theorem dX6_bytesOfSamples_28 : decode cX6_bytesOfSamples 28 = .ok (.istore_n 2, 1) := by decide +kernel
theorem dX6_bytesOfSamples_29 : decode cX6_bytesOfSamples 29 = .ok (.iinc 3 1, 3) := by decide +kernel
theorem dX6_bytesOfSamples_32 : decode cX6_bytesOfSamples 32 = .ok (.goto (-28), 3) := by decide +kernel
theorem dX6_bytesOfSamples_35 : decode cX6_bytesOfSamples 35 = .ok (.iload_n 2, 1) := by decide +kernel
theorem dX6_bytesOfSamples_36 : decode cX6_bytesOfSamples 36 = .ok (.ireturn, 1) := by decide +kernel
theorem dX6_leaveOutIdlePieces_0 : decode cX6_leaveOutIdlePieces 0 = .ok (.aload_n 1, 1) := by decide +kernel
theorem dX6_leaveOutIdlePieces_1 : decode cX6_leaveOutIdlePieces 1 = .ok (.invokevirtual 110, 3) := by decide +kernel
theorem dX6_leaveOutIdlePieces_4 : decode cX6_leaveOutIdlePieces 4 = .ok (.istore_n 2, 1) := by decide +kernel
theorem dX6_leaveOutIdlePieces_5 : decode cX6_leaveOutIdlePieces 5 = .ok (.aload_n 0, 1) := by decide +kernel
theorem dX6_leaveOutIdlePieces_6 : decode cX6_leaveOutIdlePieces 6 = .ok (.aload_n 1, 1) := by decide +kernel
theorem dX6_leaveOutIdlePieces_7 : decode cX6_leaveOutIdlePieces 7 = .ok (.invokevirtual 117, 3) := by decide +kernel
theorem dX6_leaveOutIdlePieces_10 : decode cX6_leaveOutIdlePieces 10 = .ok (.invokevirtual 200, 3) := by decide +kernel
theorem dX6_leaveOutIdlePieces_13 : decode cX6_leaveOutIdlePieces 13 = .ok (.istore_n 3, 1) := by decide +kernel
theorem dX6_leaveOutIdlePieces_14 : decode cX6_leaveOutIdlePieces 14 = .ok (.iconst 0, 1) := by decide +kernel
theorem dX6_leaveOutIdlePieces_15 : decode cX6_leaveOutIdlePieces 15 = .ok (.istore 4, 2) := by decide +kernel
theorem dX6_leaveOutIdlePieces_17 : decode cX6_leaveOutIdlePieces 17 = .ok (.iconst 0, 1) := by decide +kernel
theorem dX6_leaveOutIdlePieces_18 : decode cX6_leaveOutIdlePieces 18 = .ok (.istore 5, 2) := by decide +kernel
theorem dX6_leaveOutIdlePieces_20 : decode cX6_leaveOutIdlePieces 20 = .ok (.iload 5, 2) := by decide +kernel
theorem dX6_leaveOutIdlePieces_22 : decode cX6_leaveOutIdlePieces 22 = .ok (.iload_n 2, 1) := by decide +kernel
theorem dX6_leaveOutIdlePieces_23 : decode cX6_leaveOutIdlePieces 23 = .ok (.if_icmp .ge 50, 3) := by decide +kernel
theorem dX6_leaveOutIdlePieces_26 : decode cX6_leaveOutIdlePieces 26 = .ok (.aload_n 1, 1) := by decide +kernel
theorem dX6_leaveOutIdlePieces_27 : decode cX6_leaveOutIdlePieces 27 = .ok (.iload 4, 2) := by decide +kernel
theorem dX6_leaveOutIdlePieces_29 : decode cX6_leaveOutIdlePieces 29 = .ok (.aload_n 0, 1) := by decide +kernel
theorem dX6_leaveOutIdlePieces_30 : decode cX6_leaveOutIdlePieces 30 = .ok (.getfield 33, 3) := by decide +kernel
theorem dX6_leaveOutIdlePieces_33 : decode cX6_leaveOutIdlePieces 33 = .ok (.invokevirtual 218, 3) := by decide +kernel
theorem dX6_leaveOutIdlePieces_36 : decode cX6_leaveOutIdlePieces 36 = .ok (.aload_n 0, 1) := by decide +kernel
theorem dX6_leaveOutIdlePieces_37 : decode cX6_leaveOutIdlePieces 37 = .ok (.aload_n 0, 1) := by decide +kernel
theorem dX6_leaveOutIdlePieces_38 : decode cX6_leaveOutIdlePieces 38 = .ok (.getfield 33, 3) := by decide +kernel
theorem dX6_leaveOutIdlePieces_41 : decode cX6_leaveOutIdlePieces 41 = .ok (.invokevirtual 200, 3) := by decide +kernel
theorem dX6_leaveOutIdlePieces_44 : decode cX6_leaveOutIdlePieces 44 = .ok (.istore 6, 2) := by decide +kernel
theorem dX6_leaveOutIdlePieces_46 : decode cX6_leaveOutIdlePieces 46 = .ok (.iload 6, 2) := by decide +kernel
theorem dX6_leaveOutIdlePieces_48 : decode cX6_leaveOutIdlePieces 48 = .ok (.iload_n 3, 1) := by decide +kernel
theorem dX6_leaveOutIdlePieces_49 : decode cX6_leaveOutIdlePieces 49 = .ok (.if_icmp .gt 15, 3) := by decide +kernel
theorem dX6_leaveOutIdlePieces_52 : decode cX6_leaveOutIdlePieces 52 = .ok (.aload_n 1, 1) := by decide +kernel
theorem dX6_leaveOutIdlePieces_53 : decode cX6_leaveOutIdlePieces 53 = .ok (.iload 4, 2) := by decide +kernel
theorem dX6_leaveOutIdlePieces_55 : decode cX6_leaveOutIdlePieces 55 = .ok (.invokevirtual 222, 3) := by decide +kernel
theorem dX6_leaveOutIdlePieces_58 : decode cX6_leaveOutIdlePieces 58 = .ok (.iload 6, 2) := by decide +kernel
theorem dX6_leaveOutIdlePieces_60 : decode cX6_leaveOutIdlePieces 60 = .ok (.istore_n 3, 1) := by decide +kernel
theorem dX6_leaveOutIdlePieces_61 : decode cX6_leaveOutIdlePieces 61 = .ok (.goto 6, 3) := by decide +kernel
theorem dX6_leaveOutIdlePieces_64 : decode cX6_leaveOutIdlePieces 64 = .ok (.iinc 4 1, 3) := by decide +kernel
theorem dX6_leaveOutIdlePieces_67 : decode cX6_leaveOutIdlePieces 67 = .ok (.iinc 5 1, 3) := by decide +kernel
theorem dX6_leaveOutIdlePieces_70 : decode cX6_leaveOutIdlePieces 70 = .ok (.goto (-50), 3) := by decide +kernel
theorem dX6_leaveOutIdlePieces_73 : decode cX6_leaveOutIdlePieces 73 = .ok (.iload_n 2, 1) := by decide +kernel
theorem dX6_leaveOutIdlePieces_74 : decode cX6_leaveOutIdlePieces 74 = .ok (.aload_n 1, 1) := by decide +kernel
theorem dX6_leaveOutIdlePieces_75 : decode cX6_leaveOutIdlePieces 75 = .ok (.invokevirtual 110, 3) := by decide +kernel
theorem dX6_leaveOutIdlePieces_78 : decode cX6_leaveOutIdlePieces 78 = .ok (.isub, 1) := by decide +kernel
theorem dX6_leaveOutIdlePieces_79 : decode cX6_leaveOutIdlePieces 79 = .ok (.ireturn, 1) := by decide +kernel
