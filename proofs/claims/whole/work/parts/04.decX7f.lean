theorem dX7_about_25 : decode cX7_about 25 = .ok (.iconst 1, 1) := by decide +kernel
theorem dX7_about_26 : decode cX7_about 26 = .ok (.goto 4, 3) := by decide +kernel
theorem dX7_about_29 : decode cX7_about 29 = .ok (.iconst 0, 1) := by decide +kernel
theorem dX7_about_30 : decode cX7_about 30 = .ok (.iadd, 1) := by decide +kernel
theorem dX7_about_31 : decode cX7_about 31 = .ok (.istore_n 2, 1) := by decide +kernel
theorem dX7_about_32 : decode cX7_about 32 = .ok (.iinc 3 1, 3) := by decide +kernel
theorem dX7_about_35 : decode cX7_about 35 = .ok (.goto (-26), 3) := by decide +kernel
theorem dX7_about_38 : decode cX7_about 38 = .ok (.iload_n 1, 1) := by decide +kernel
theorem dX7_about_39 : decode cX7_about 39 = .ok (.tableswitch 73 0 6 #[41, 46, 51, 53, 58, 63, 68], 41) := by decide +kernel
theorem dX7_about_80 : decode cX7_about 80 = .ok (.aload_n 0, 1) := by decide +kernel
theorem dX7_about_81 : decode cX7_about 81 = .ok (.getfield 56, 3) := by decide +kernel
theorem dX7_about_84 : decode cX7_about 84 = .ok (.ireturn, 1) := by decide +kernel
theorem dX7_about_85 : decode cX7_about 85 = .ok (.aload_n 0, 1) := by decide +kernel
theorem dX7_about_86 : decode cX7_about 86 = .ok (.getfield 71, 3) := by decide +kernel
theorem dX7_about_89 : decode cX7_about 89 = .ok (.ireturn, 1) := by decide +kernel
theorem dX7_about_90 : decode cX7_about 90 = .ok (.iload_n 2, 1) := by decide +kernel
theorem dX7_about_91 : decode cX7_about 91 = .ok (.ireturn, 1) := by decide +kernel
theorem dX7_about_92 : decode cX7_about 92 = .ok (.aload_n 0, 1) := by decide +kernel
theorem dX7_about_93 : decode cX7_about 93 = .ok (.getfield 141, 3) := by decide +kernel
theorem dX7_about_96 : decode cX7_about 96 = .ok (.ireturn, 1) := by decide +kernel
theorem dX7_about_97 : decode cX7_about 97 = .ok (.aload_n 0, 1) := by decide +kernel
theorem dX7_about_98 : decode cX7_about 98 = .ok (.getfield 162, 3) := by decide +kernel
theorem dX7_about_101 : decode cX7_about 101 = .ok (.ireturn, 1) := by decide +kernel
theorem dX7_about_102 : decode cX7_about 102 = .ok (.aload_n 0, 1) := by decide +kernel
theorem dX7_about_103 : decode cX7_about 103 = .ok (.getfield 150, 3) := by decide +kernel
theorem dX7_about_106 : decode cX7_about 106 = .ok (.ireturn, 1) := by decide +kernel
theorem dX7_about_107 : decode cX7_about 107 = .ok (.aload_n 0, 1) := by decide +kernel
theorem dX7_about_108 : decode cX7_about 108 = .ok (.getfield 147, 3) := by decide +kernel
theorem dX7_about_111 : decode cX7_about 111 = .ok (.ireturn, 1) := by decide +kernel
theorem dX7_about_112 : decode cX7_about 112 = .ok (.bipush (-102), 2) := by decide +kernel
theorem dX7_about_114 : decode cX7_about 114 = .ok (.ireturn, 1) := by decide +kernel
