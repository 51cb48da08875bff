theorem dX4_init_0 : decode cX4_init 0 = .ok (.aload_n 0, 1) := by decide +kernel
theorem dX4_init_1 : decode cX4_init 1 = .ok (.invokespecial 1, 3) := by decide +kernel
theorem dX4_init_4 : decode cX4_init 4 = .ok (.aload_n 0, 1) := by decide +kernel
theorem dX4_init_5 : decode cX4_init 5 = .ok (.iload_n 1, 1) := by decide +kernel
theorem dX4_init_6 : decode cX4_init 6 = .ok (.iconst 0, 1) := by decide +kernel
theorem dX4_init_7 : decode cX4_init 7 = .ok (.invokestatic 7, 3) := by decide +kernel
theorem dX4_init_10 : decode cX4_init 10 = .ok (.newarray .byte, 2) := by decide +kernel
theorem dX4_init_12 : decode cX4_init 12 = .ok (.putfield 13, 3) := by decide +kernel
theorem dX4_init_15 : decode cX4_init 15 = .ok (.return_, 1) := by decide +kernel
theorem dX4_length_0 : decode cX4_length 0 = .ok (.aload_n 0, 1) := by decide +kernel
theorem dX4_length_1 : decode cX4_length 1 = .ok (.getfield 19, 3) := by decide +kernel
theorem dX4_length_4 : decode cX4_length 4 = .ok (.ireturn, 1) := by decide +kernel
theorem dX4_has_0 : decode cX4_has 0 = .ok (.iload_n 1, 1) := by decide +kernel
theorem dX4_has_1 : decode cX4_has 1 = .ok (.ifCond .lt 15, 3) := by decide +kernel
theorem dX4_has_4 : decode cX4_has 4 = .ok (.iload_n 1, 1) := by decide +kernel
theorem dX4_has_5 : decode cX4_has 5 = .ok (.aload_n 0, 1) := by decide +kernel
theorem dX4_has_6 : decode cX4_has 6 = .ok (.getfield 19, 3) := by decide +kernel
theorem dX4_has_9 : decode cX4_has 9 = .ok (.if_icmp .ge 7, 3) := by decide +kernel
theorem dX4_has_12 : decode cX4_has 12 = .ok (.iconst 1, 1) := by decide +kernel
theorem dX4_has_13 : decode cX4_has 13 = .ok (.goto 4, 3) := by decide +kernel
theorem dX4_has_16 : decode cX4_has 16 = .ok (.iconst 0, 1) := by decide +kernel
theorem dX4_has_17 : decode cX4_has 17 = .ok (.ireturn, 1) := by decide +kernel
theorem dX4_hasRoom_0 : decode cX4_hasRoom 0 = .ok (.iload_n 1, 1) := by decide +kernel
theorem dX4_hasRoom_1 : decode cX4_hasRoom 1 = .ok (.aload_n 0, 1) := by decide +kernel
theorem dX4_hasRoom_2 : decode cX4_hasRoom 2 = .ok (.getfield 13, 3) := by decide +kernel
theorem dX4_hasRoom_5 : decode cX4_hasRoom 5 = .ok (.arraylength, 1) := by decide +kernel
theorem dX4_hasRoom_6 : decode cX4_hasRoom 6 = .ok (.aload_n 0, 1) := by decide +kernel
theorem dX4_hasRoom_7 : decode cX4_hasRoom 7 = .ok (.getfield 19, 3) := by decide +kernel
theorem dX4_hasRoom_10 : decode cX4_hasRoom 10 = .ok (.isub, 1) := by decide +kernel
theorem dX4_hasRoom_11 : decode cX4_hasRoom 11 = .ok (.if_icmp .gt 7, 3) := by decide +kernel
theorem dX4_hasRoom_14 : decode cX4_hasRoom 14 = .ok (.iconst 1, 1) := by decide +kernel
theorem dX4_hasRoom_15 : decode cX4_hasRoom 15 = .ok (.goto 4, 3) := by decide +kernel
theorem dX4_hasRoom_18 : decode cX4_hasRoom 18 = .ok (.iconst 0, 1) := by decide +kernel
theorem dX4_hasRoom_19 : decode cX4_hasRoom 19 = .ok (.ireturn, 1) := by decide +kernel
theorem dX4_signedAt_0 : decode cX4_signedAt 0 = .ok (.aload_n 0, 1) := by decide +kernel
theorem dX4_signedAt_1 : decode cX4_signedAt 1 = .ok (.iload_n 1, 1) := by decide +kernel
theorem dX4_signedAt_2 : decode cX4_signedAt 2 = .ok (.invokevirtual 23, 3) := by decide +kernel
theorem dX4_signedAt_5 : decode cX4_signedAt 5 = .ok (.ifCond .eq 12, 3) := by decide +kernel
theorem dX4_signedAt_8 : decode cX4_signedAt 8 = .ok (.aload_n 0, 1) := by decide +kernel
theorem dX4_signedAt_9 : decode cX4_signedAt 9 = .ok (.getfield 13, 3) := by decide +kernel
theorem dX4_signedAt_12 : decode cX4_signedAt 12 = .ok (.iload_n 1, 1) := by decide +kernel
theorem dX4_signedAt_13 : decode cX4_signedAt 13 = .ok (.baload, 1) := by decide +kernel
theorem dX4_signedAt_14 : decode cX4_signedAt 14 = .ok (.goto 4, 3) := by decide +kernel
theorem dX4_signedAt_17 : decode cX4_signedAt 17 = .ok (.iconst 0, 1) := by decide +kernel
theorem dX4_signedAt_18 : decode cX4_signedAt 18 = .ok (.ireturn, 1) := by decide +kernel
theorem dX4_at_0 : decode cX4_at 0 = .ok (.aload_n 0, 1) := by decide +kernel
theorem dX4_at_1 : decode cX4_at 1 = .ok (.iload_n 1, 1) := by decide +kernel
theorem dX4_at_2 : decode cX4_at 2 = .ok (.invokevirtual 27, 3) := by decide +kernel
theorem dX4_at_5 : decode cX4_at 5 = .ok (.sipush 255, 3) := by decide +kernel
theorem dX4_at_8 : decode cX4_at 8 = .ok (.iand, 1) := by decide +kernel
theorem dX4_at_9 : decode cX4_at 9 = .ok (.ireturn, 1) := by decide +kernel
theorem dX4_clear_0 : decode cX4_clear 0 = .ok (.aload_n 0, 1) := by decide +kernel
theorem dX4_clear_1 : decode cX4_clear 1 = .ok (.iconst 0, 1) := by decide +kernel
theorem dX4_clear_2 : decode cX4_clear 2 = .ok (.putfield 19, 3) := by decide +kernel
theorem dX4_clear_5 : decode cX4_clear 5 = .ok (.return_, 1) := by decide +kernel
theorem dX4_add_0 : decode cX4_add 0 = .ok (.aload_n 0, 1) := by decide +kernel
theorem dX4_add_1 : decode cX4_add 1 = .ok (.getfield 19, 3) := by decide +kernel
theorem dX4_add_4 : decode cX4_add 4 = .ok (.aload_n 0, 1) := by decide +kernel
theorem dX4_add_5 : decode cX4_add 5 = .ok (.getfield 13, 3) := by decide +kernel
theorem dX4_add_8 : decode cX4_add 8 = .ok (.arraylength, 1) := by decide +kernel
theorem dX4_add_9 : decode cX4_add 9 = .ok (.if_icmp .ge 24, 3) := by decide +kernel
theorem dX4_add_12 : decode cX4_add 12 = .ok (.aload_n 0, 1) := by decide +kernel
theorem dX4_add_13 : decode cX4_add 13 = .ok (.getfield 13, 3) := by decide +kernel
theorem dX4_add_16 : decode cX4_add 16 = .ok (.aload_n 0, 1) := by decide +kernel
theorem dX4_add_17 : decode cX4_add 17 = .ok (.getfield 19, 3) := by decide +kernel
theorem dX4_add_20 : decode cX4_add 20 = .ok (.iload_n 1, 1) := by decide +kernel
theorem dX4_add_21 : decode cX4_add 21 = .ok (.i2b, 1) := by decide +kernel
theorem dX4_add_22 : decode cX4_add 22 = .ok (.bastore, 1) := by decide +kernel
theorem dX4_add_23 : decode cX4_add 23 = .ok (.aload_n 0, 1) := by decide +kernel
theorem dX4_add_24 : decode cX4_add 24 = .ok (.dup, 1) := by decide +kernel
theorem dX4_add_25 : decode cX4_add 25 = .ok (.getfield 19, 3) := by decide +kernel
theorem dX4_add_28 : decode cX4_add 28 = .ok (.iconst 1, 1) := by decide +kernel
theorem dX4_add_29 : decode cX4_add 29 = .ok (.iadd, 1) := by decide +kernel
theorem dX4_add_30 : decode cX4_add 30 = .ok (.putfield 19, 3) := by decide +kernel
theorem dX4_add_33 : decode cX4_add 33 = .ok (.return_, 1) := by decide +kernel
theorem dX4_addFrom_0 : decode cX4_addFrom 0 = .ok (.iconst 0, 1) := by decide +kernel
theorem dX4_addFrom_1 : decode cX4_addFrom 1 = .ok (.istore 4, 2) := by decide +kernel
theorem dX4_addFrom_3 : decode cX4_addFrom 3 = .ok (.iload 4, 2) := by decide +kernel
theorem dX4_addFrom_5 : decode cX4_addFrom 5 = .ok (.iload_n 3, 1) := by decide +kernel
theorem dX4_addFrom_6 : decode cX4_addFrom 6 = .ok (.if_icmp .ge 21, 3) := by decide +kernel
theorem dX4_addFrom_9 : decode cX4_addFrom 9 = .ok (.aload_n 0, 1) := by decide +kernel
theorem dX4_addFrom_10 : decode cX4_addFrom 10 = .ok (.aload_n 1, 1) := by decide +kernel
theorem dX4_addFrom_11 : decode cX4_addFrom 11 = .ok (.iload_n 2, 1) := by decide +kernel
theorem dX4_addFrom_12 : decode cX4_addFrom 12 = .ok (.iload 4, 2) := by decide +kernel
theorem dX4_addFrom_14 : decode cX4_addFrom 14 = .ok (.iadd, 1) := by decide +kernel
theorem dX4_addFrom_15 : decode cX4_addFrom 15 = .ok (.invokevirtual 27, 3) := by decide +kernel
theorem dX4_addFrom_18 : decode cX4_addFrom 18 = .ok (.invokevirtual 31, 3) := by decide +kernel
theorem dX4_addFrom_21 : decode cX4_addFrom 21 = .ok (.iinc 4 1, 3) := by decide +kernel
theorem dX4_addFrom_24 : decode cX4_addFrom 24 = .ok (.goto (-21), 3) := by decide +kernel
theorem dX4_addFrom_27 : decode cX4_addFrom 27 = .ok (.return_, 1) := by decide +kernel
theorem dX4_become_0 : decode cX4_become 0 = .ok (.aload_n 0, 1) := by decide +kernel
theorem dX4_become_1 : decode cX4_become 1 = .ok (.invokevirtual 35, 3) := by decide +kernel
theorem dX4_become_4 : decode cX4_become 4 = .ok (.aload_n 0, 1) := by decide +kernel
theorem dX4_become_5 : decode cX4_become 5 = .ok (.aload_n 1, 1) := by decide +kernel
theorem dX4_become_6 : decode cX4_become 6 = .ok (.iconst 0, 1) := by decide +kernel
theorem dX4_become_7 : decode cX4_become 7 = .ok (.aload_n 1, 1) := by decide +kernel
theorem dX4_become_8 : decode cX4_become 8 = .ok (.getfield 19, 3) := by decide +kernel
theorem dX4_become_11 : decode cX4_become 11 = .ok (.invokevirtual 38, 3) := by decide +kernel
theorem dX4_become_14 : decode cX4_become 14 = .ok (.return_, 1) := by decide +kernel
theorem dX4_cutOut_0 : decode cX4_cutOut 0 = .ok (.iload_n 1, 1) := by decide +kernel
theorem dX4_cutOut_1 : decode cX4_cutOut 1 = .ok (.ifCond .lt 17, 3) := by decide +kernel
theorem dX4_cutOut_4 : decode cX4_cutOut 4 = .ok (.iload_n 2, 1) := by decide +kernel
theorem dX4_cutOut_5 : decode cX4_cutOut 5 = .ok (.ifCond .lt 13, 3) := by decide +kernel
theorem dX4_cutOut_8 : decode cX4_cutOut 8 = .ok (.iload_n 1, 1) := by decide +kernel
theorem dX4_cutOut_9 : decode cX4_cutOut 9 = .ok (.iload_n 2, 1) := by decide +kernel
theorem dX4_cutOut_10 : decode cX4_cutOut 10 = .ok (.iadd, 1) := by decide +kernel
theorem dX4_cutOut_11 : decode cX4_cutOut 11 = .ok (.aload_n 0, 1) := by decide +kernel
theorem dX4_cutOut_12 : decode cX4_cutOut 12 = .ok (.getfield 19, 3) := by decide +kernel
theorem dX4_cutOut_15 : decode cX4_cutOut 15 = .ok (.if_icmp .le 4, 3) := by decide +kernel
theorem dX4_cutOut_18 : decode cX4_cutOut 18 = .ok (.return_, 1) := by decide +kernel
theorem dX4_cutOut_19 : decode cX4_cutOut 19 = .ok (.aload_n 0, 1) := by decide +kernel
theorem dX4_cutOut_20 : decode cX4_cutOut 20 = .ok (.getfield 19, 3) := by decide +kernel
theorem dX4_cutOut_23 : decode cX4_cutOut 23 = .ok (.istore_n 3, 1) := by decide +kernel
theorem dX4_cutOut_24 : decode cX4_cutOut 24 = .ok (.aload_n 0, 1) := by decide +kernel
theorem dX4_cutOut_25 : decode cX4_cutOut 25 = .ok (.iload_n 1, 1) := by decide +kernel
theorem dX4_cutOut_26 : decode cX4_cutOut 26 = .ok (.putfield 19, 3) := by decide +kernel
theorem dX4_cutOut_29 : decode cX4_cutOut 29 = .ok (.iload_n 1, 1) := by decide +kernel
theorem dX4_cutOut_30 : decode cX4_cutOut 30 = .ok (.iload_n 2, 1) := by decide +kernel
theorem dX4_cutOut_31 : decode cX4_cutOut 31 = .ok (.iadd, 1) := by decide +kernel
theorem dX4_cutOut_32 : decode cX4_cutOut 32 = .ok (.istore 4, 2) := by decide +kernel
theorem dX4_cutOut_34 : decode cX4_cutOut 34 = .ok (.iload 4, 2) := by decide +kernel
theorem dX4_cutOut_36 : decode cX4_cutOut 36 = .ok (.iload_n 3, 1) := by decide +kernel
theorem dX4_cutOut_37 : decode cX4_cutOut 37 = .ok (.if_icmp .ge 20, 3) := by decide +kernel
theorem dX4_cutOut_40 : decode cX4_cutOut 40 = .ok (.aload_n 0, 1) := by decide +kernel
theorem dX4_cutOut_41 : decode cX4_cutOut 41 = .ok (.aload_n 0, 1) := by decide +kernel
theorem dX4_cutOut_42 : decode cX4_cutOut 42 = .ok (.getfield 13, 3) := by decide +kernel
theorem dX4_cutOut_45 : decode cX4_cutOut 45 = .ok (.iload 4, 2) := by decide +kernel
theorem dX4_cutOut_47 : decode cX4_cutOut 47 = .ok (.baload, 1) := by decide +kernel
theorem dX4_cutOut_48 : decode cX4_cutOut 48 = .ok (.invokevirtual 31, 3) := by decide +kernel
theorem dX4_cutOut_51 : decode cX4_cutOut 51 = .ok (.iinc 4 1, 3) := by decide +kernel
theorem dX4_cutOut_54 : decode cX4_cutOut 54 = .ok (.goto (-20), 3) := by decide +kernel
theorem dX4_cutOut_57 : decode cX4_cutOut 57 = .ok (.return_, 1) := by decide +kernel
theorem dX4_copyTo_0 : decode cX4_copyTo 0 = .ok (.aload_n 0, 1) := by decide +kernel
theorem dX4_copyTo_1 : decode cX4_copyTo 1 = .ok (.getfield 19, 3) := by decide +kernel
theorem dX4_copyTo_4 : decode cX4_copyTo 4 = .ok (.aload_n 1, 1) := by decide +kernel
theorem dX4_copyTo_5 : decode cX4_copyTo 5 = .ok (.arraylength, 1) := by decide +kernel
theorem dX4_copyTo_6 : decode cX4_copyTo 6 = .ok (.iload_n 2, 1) := by decide +kernel
theorem dX4_copyTo_7 : decode cX4_copyTo 7 = .ok (.isub, 1) := by decide +kernel
theorem dX4_copyTo_8 : decode cX4_copyTo 8 = .ok (.invokestatic 42, 3) := by decide +kernel
theorem dX4_copyTo_11 : decode cX4_copyTo 11 = .ok (.iconst 0, 1) := by decide +kernel
theorem dX4_copyTo_12 : decode cX4_copyTo 12 = .ok (.invokestatic 7, 3) := by decide +kernel
theorem dX4_copyTo_15 : decode cX4_copyTo 15 = .ok (.istore_n 3, 1) := by decide +kernel
theorem dX4_copyTo_16 : decode cX4_copyTo 16 = .ok (.iconst 0, 1) := by decide +kernel
theorem dX4_copyTo_17 : decode cX4_copyTo 17 = .ok (.istore 4, 2) := by decide +kernel
theorem dX4_copyTo_19 : decode cX4_copyTo 19 = .ok (.iload 4, 2) := by decide +kernel
theorem dX4_copyTo_21 : decode cX4_copyTo 21 = .ok (.iload_n 3, 1) := by decide +kernel
theorem dX4_copyTo_22 : decode cX4_copyTo 22 = .ok (.if_icmp .ge 22, 3) := by decide +kernel
theorem dX4_copyTo_25 : decode cX4_copyTo 25 = .ok (.aload_n 1, 1) := by decide +kernel
theorem dX4_copyTo_26 : decode cX4_copyTo 26 = .ok (.iload_n 2, 1) := by decide +kernel
theorem dX4_copyTo_27 : decode cX4_copyTo 27 = .ok (.iload 4, 2) := by decide +kernel
theorem dX4_copyTo_29 : decode cX4_copyTo 29 = .ok (.iadd, 1) := by decide +kernel
theorem dX4_copyTo_30 : decode cX4_copyTo 30 = .ok (.aload_n 0, 1) := by decide +kernel
theorem dX4_copyTo_31 : decode cX4_copyTo 31 = .ok (.getfield 13, 3) := by decide +kernel
theorem dX4_copyTo_34 : decode cX4_copyTo 34 = .ok (.iload 4, 2) := by decide +kernel
theorem dX4_copyTo_36 : decode cX4_copyTo 36 = .ok (.baload, 1) := by decide +kernel
theorem dX4_copyTo_37 : decode cX4_copyTo 37 = .ok (.bastore, 1) := by decide +kernel
theorem dX4_copyTo_38 : decode cX4_copyTo 38 = .ok (.iinc 4 1, 3) := by decide +kernel
theorem dX4_copyTo_41 : decode cX4_copyTo 41 = .ok (.goto (-22), 3) := by decide +kernel
theorem dX4_copyTo_44 : decode cX4_copyTo 44 = .ok (.iload_n 2, 1) := by decide +kernel
theorem dX4_copyTo_45 : decode cX4_copyTo 45 = .ok (.iload_n 3, 1) := by decide +kernel
theorem dX4_copyTo_46 : decode cX4_copyTo 46 = .ok (.iadd, 1) := by decide +kernel
theorem dX4_copyTo_47 : decode cX4_copyTo 47 = .ok (.ireturn, 1) := by decide +kernel
theorem dX4_sum_0 : decode cX4_sum 0 = .ok (.iconst 1, 1) := by decide +kernel
theorem dX4_sum_1 : decode cX4_sum 1 = .ok (.istore_n 1, 1) := by decide +kernel
theorem dX4_sum_2 : decode cX4_sum 2 = .ok (.iconst 0, 1) := by decide +kernel
theorem dX4_sum_3 : decode cX4_sum 3 = .ok (.istore_n 2, 1) := by decide +kernel
theorem dX4_sum_4 : decode cX4_sum 4 = .ok (.iconst 0, 1) := by decide +kernel
theorem dX4_sum_5 : decode cX4_sum 5 = .ok (.istore_n 3, 1) := by decide +kernel
theorem dX4_sum_6 : decode cX4_sum 6 = .ok (.iload_n 3, 1) := by decide +kernel
theorem dX4_sum_7 : decode cX4_sum 7 = .ok (.aload_n 0, 1) := by decide +kernel
theorem dX4_sum_8 : decode cX4_sum 8 = .ok (.getfield 19, 3) := by decide +kernel
theorem dX4_sum_11 : decode cX4_sum 11 = .ok (.if_icmp .ge 29, 3) := by decide +kernel
theorem dX4_sum_14 : decode cX4_sum 14 = .ok (.iload_n 1, 1) := by decide +kernel
theorem dX4_sum_15 : decode cX4_sum 15 = .ok (.aload_n 0, 1) := by decide +kernel
theorem dX4_sum_16 : decode cX4_sum 16 = .ok (.iload_n 3, 1) := by decide +kernel
theorem dX4_sum_17 : decode cX4_sum 17 = .ok (.invokevirtual 45, 3) := by decide +kernel
theorem dX4_sum_20 : decode cX4_sum 20 = .ok (.iadd, 1) := by decide +kernel
theorem dX4_sum_21 : decode cX4_sum 21 = .ok (.sipush 251, 3) := by decide +kernel
theorem dX4_sum_24 : decode cX4_sum 24 = .ok (.irem, 1) := by decide +kernel
theorem dX4_sum_25 : decode cX4_sum 25 = .ok (.istore_n 1, 1) := by decide +kernel
theorem dX4_sum_26 : decode cX4_sum 26 = .ok (.iload_n 2, 1) := by decide +kernel
theorem dX4_sum_27 : decode cX4_sum 27 = .ok (.iload_n 1, 1) := by decide +kernel
theorem dX4_sum_28 : decode cX4_sum 28 = .ok (.iadd, 1) := by decide +kernel
theorem dX4_sum_29 : decode cX4_sum 29 = .ok (.sipush 251, 3) := by decide +kernel
theorem dX4_sum_32 : decode cX4_sum 32 = .ok (.irem, 1) := by decide +kernel
theorem dX4_sum_33 : decode cX4_sum 33 = .ok (.istore_n 2, 1) := by decide +kernel
theorem dX4_sum_34 : decode cX4_sum 34 = .ok (.iinc 3 1, 3) := by decide +kernel
theorem dX4_sum_37 : decode cX4_sum 37 = .ok (.goto (-31), 3) := by decide +kernel
theorem dX4_sum_40 : decode cX4_sum 40 = .ok (.sipush 256, 3) := by decide +kernel
theorem dX4_sum_43 : decode cX4_sum 43 = .ok (.iload_n 2, 1) := by decide +kernel
theorem dX4_sum_44 : decode cX4_sum 44 = .ok (.imul, 1) := by decide +kernel
theorem dX4_sum_45 : decode cX4_sum 45 = .ok (.iload_n 1, 1) := by decide +kernel
theorem dX4_sum_46 : decode cX4_sum 46 = .ok (.iadd, 1) := by decide +kernel
theorem dX4_sum_47 : decode cX4_sum 47 = .ok (.ireturn, 1) := by decide +kernel
