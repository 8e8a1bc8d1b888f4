theorem edX8_check_0 : (decode cX8_check 0 = .ok (.aload_n 0, 1)) ∧ (decode cX8_check 1 = .ok (.getfield 266, 3)) ∧ (decode cX8_check 4 = .ok (.istore_n 2, 1)) ∧ (decode cX8_check 5 = .ok (.aload_n 0, 1)) ∧ (decode cX8_check 6 = .ok (.iconst 0, 1)) ∧ (decode cX8_check 7 = .ok (.putfield 266, 3)) ∧ (decode cX8_check 10 = .ok (.iload_n 1, 1)) ∧ (decode cX8_check 11 = .ok (.iconst 1, 1)) ∧ (decode cX8_check 12 = .ok (.bipush 30, 2)) ∧ (decode cX8_check 14 = .ok (.invokestatic 83, 3)) ∧ (decode cX8_check 17 = .ok (.ifCond .ne 6, 3)) ∧ (decode cX8_check 20 = .ok (.ldc 91, 2)) ∧ (decode cX8_check 22 = .ok (.ireturn, 1)) ∧ (decode cX8_check 23 = .ok (.aload_n 0, 1)) ∧ (decode cX8_check 24 = .ok (.getfield 269, 3)) ∧ (decode cX8_check 27 = .ok (.ifCond .ne 7, 3)) ∧ (decode cX8_check 30 = .ok (.ldc_w 265, 3)) ∧ (decode cX8_check 33 = .ok (.ireturn, 1)) ∧ (decode cX8_check 34 = .ok (.aload_n 0, 1)) ∧ (decode cX8_check 35 = .ok (.getfield 9, 3)) ∧ (decode cX8_check 38 = .ok (.aload_n 0, 1)) ∧ (decode cX8_check 39 = .ok (.getfield 16, 3)) ∧ (decode cX8_check 42 = .ok (.invokestatic 273, 3)) ∧ (decode cX8_check 45 = .ok (.aload_n 0, 1)) := by decide +kernel
theorem dX8_check_0 : decode cX8_check 0 = .ok (.aload_n 0, 1) := edX8_check_0.1
theorem dX8_check_1 : decode cX8_check 1 = .ok (.getfield 266, 3) := edX8_check_0.2.1
theorem dX8_check_4 : decode cX8_check 4 = .ok (.istore_n 2, 1) := edX8_check_0.2.2.1
theorem dX8_check_5 : decode cX8_check 5 = .ok (.aload_n 0, 1) := edX8_check_0.2.2.2.1
theorem dX8_check_6 : decode cX8_check 6 = .ok (.iconst 0, 1) := edX8_check_0.2.2.2.2.1
theorem dX8_check_7 : decode cX8_check 7 = .ok (.putfield 266, 3) := edX8_check_0.2.2.2.2.2.1
theorem dX8_check_10 : decode cX8_check 10 = .ok (.iload_n 1, 1) := edX8_check_0.2.2.2.2.2.2.1
theorem dX8_check_11 : decode cX8_check 11 = .ok (.iconst 1, 1) := edX8_check_0.2.2.2.2.2.2.2.1
theorem dX8_check_12 : decode cX8_check 12 = .ok (.bipush 30, 2) := edX8_check_0.2.2.2.2.2.2.2.2.1
theorem dX8_check_14 : decode cX8_check 14 = .ok (.invokestatic 83, 3) := edX8_check_0.2.2.2.2.2.2.2.2.2.1
theorem dX8_check_17 : decode cX8_check 17 = .ok (.ifCond .ne 6, 3) := edX8_check_0.2.2.2.2.2.2.2.2.2.2.1
theorem dX8_check_20 : decode cX8_check 20 = .ok (.ldc 91, 2) := edX8_check_0.2.2.2.2.2.2.2.2.2.2.2.1
theorem dX8_check_22 : decode cX8_check 22 = .ok (.ireturn, 1) := edX8_check_0.2.2.2.2.2.2.2.2.2.2.2.2.1
theorem dX8_check_23 : decode cX8_check 23 = .ok (.aload_n 0, 1) := edX8_check_0.2.2.2.2.2.2.2.2.2.2.2.2.2.1
theorem dX8_check_24 : decode cX8_check 24 = .ok (.getfield 269, 3) := edX8_check_0.2.2.2.2.2.2.2.2.2.2.2.2.2.2.1
theorem dX8_check_27 : decode cX8_check 27 = .ok (.ifCond .ne 7, 3) := edX8_check_0.2.2.2.2.2.2.2.2.2.2.2.2.2.2.2.1
theorem dX8_check_30 : decode cX8_check 30 = .ok (.ldc_w 265, 3) := edX8_check_0.2.2.2.2.2.2.2.2.2.2.2.2.2.2.2.2.1
theorem dX8_check_33 : decode cX8_check 33 = .ok (.ireturn, 1) := edX8_check_0.2.2.2.2.2.2.2.2.2.2.2.2.2.2.2.2.2.1
theorem dX8_check_34 : decode cX8_check 34 = .ok (.aload_n 0, 1) := edX8_check_0.2.2.2.2.2.2.2.2.2.2.2.2.2.2.2.2.2.2.1
theorem dX8_check_35 : decode cX8_check 35 = .ok (.getfield 9, 3) := edX8_check_0.2.2.2.2.2.2.2.2.2.2.2.2.2.2.2.2.2.2.2.1
theorem dX8_check_38 : decode cX8_check 38 = .ok (.aload_n 0, 1) := edX8_check_0.2.2.2.2.2.2.2.2.2.2.2.2.2.2.2.2.2.2.2.2.1
theorem dX8_check_39 : decode cX8_check 39 = .ok (.getfield 16, 3) := edX8_check_0.2.2.2.2.2.2.2.2.2.2.2.2.2.2.2.2.2.2.2.2.2.1
theorem dX8_check_42 : decode cX8_check 42 = .ok (.invokestatic 273, 3) := edX8_check_0.2.2.2.2.2.2.2.2.2.2.2.2.2.2.2.2.2.2.2.2.2.2.1
theorem dX8_check_45 : decode cX8_check 45 = .ok (.aload_n 0, 1) := edX8_check_0.2.2.2.2.2.2.2.2.2.2.2.2.2.2.2.2.2.2.2.2.2.2.2
theorem edX8_check_46 : (decode cX8_check 46 = .ok (.getfield 13, 3)) ∧ (decode cX8_check 49 = .ok (.aload_n 0, 1)) ∧ (decode cX8_check 50 = .ok (.getfield 9, 3)) ∧ (decode cX8_check 53 = .ok (.invokestatic 273, 3)) ∧ (decode cX8_check 56 = .ok (.iconst 2, 1)) ∧ (decode cX8_check 57 = .ok (.sipush 9999, 3)) ∧ (decode cX8_check 60 = .ok (.aload_n 0, 1)) ∧ (decode cX8_check 61 = .ok (.getfield 9, 3)) ∧ (decode cX8_check 64 = .ok (.iconst 2, 1)) ∧ (decode cX8_check 65 = .ok (.iaload, 1)) ∧ (decode cX8_check 66 = .ok (.isub, 1)) ∧ (decode cX8_check 67 = .ok (.iconst 0, 1)) ∧ (decode cX8_check 68 = .ok (.iload_n 1, 1)) ∧ (decode cX8_check 69 = .ok (.invokestatic 108, 3)) ∧ (decode cX8_check 72 = .ok (.imul, 1)) ∧ (decode cX8_check 73 = .ok (.istore_n 3, 1)) ∧ (decode cX8_check 74 = .ok (.iconst 0, 1)) ∧ (decode cX8_check 75 = .ok (.istore 4, 2)) ∧ (decode cX8_check 77 = .ok (.iconst 0, 1)) ∧ (decode cX8_check 78 = .ok (.istore 5, 2)) ∧ (decode cX8_check 80 = .ok (.iconst 2, 1)) ∧ (decode cX8_check 81 = .ok (.iload 5, 2)) ∧ (decode cX8_check 83 = .ok (.imul, 1)) ∧ (decode cX8_check 84 = .ok (.iload_n 3, 1)) := by decide +kernel
theorem dX8_check_46 : decode cX8_check 46 = .ok (.getfield 13, 3) := edX8_check_46.1
theorem dX8_check_49 : decode cX8_check 49 = .ok (.aload_n 0, 1) := edX8_check_46.2.1
theorem dX8_check_50 : decode cX8_check 50 = .ok (.getfield 9, 3) := edX8_check_46.2.2.1
theorem dX8_check_53 : decode cX8_check 53 = .ok (.invokestatic 273, 3) := edX8_check_46.2.2.2.1
theorem dX8_check_56 : decode cX8_check 56 = .ok (.iconst 2, 1) := edX8_check_46.2.2.2.2.1
theorem dX8_check_57 : decode cX8_check 57 = .ok (.sipush 9999, 3) := edX8_check_46.2.2.2.2.2.1
theorem dX8_check_60 : decode cX8_check 60 = .ok (.aload_n 0, 1) := edX8_check_46.2.2.2.2.2.2.1
theorem dX8_check_61 : decode cX8_check 61 = .ok (.getfield 9, 3) := edX8_check_46.2.2.2.2.2.2.2.1
theorem dX8_check_64 : decode cX8_check 64 = .ok (.iconst 2, 1) := edX8_check_46.2.2.2.2.2.2.2.2.1
theorem dX8_check_65 : decode cX8_check 65 = .ok (.iaload, 1) := edX8_check_46.2.2.2.2.2.2.2.2.2.1
theorem dX8_check_66 : decode cX8_check 66 = .ok (.isub, 1) := edX8_check_46.2.2.2.2.2.2.2.2.2.2.1
theorem dX8_check_67 : decode cX8_check 67 = .ok (.iconst 0, 1) := edX8_check_46.2.2.2.2.2.2.2.2.2.2.2.1
theorem dX8_check_68 : decode cX8_check 68 = .ok (.iload_n 1, 1) := edX8_check_46.2.2.2.2.2.2.2.2.2.2.2.2.1
theorem dX8_check_69 : decode cX8_check 69 = .ok (.invokestatic 108, 3) := edX8_check_46.2.2.2.2.2.2.2.2.2.2.2.2.2.1
theorem dX8_check_72 : decode cX8_check 72 = .ok (.imul, 1) := edX8_check_46.2.2.2.2.2.2.2.2.2.2.2.2.2.2.1
theorem dX8_check_73 : decode cX8_check 73 = .ok (.istore_n 3, 1) := edX8_check_46.2.2.2.2.2.2.2.2.2.2.2.2.2.2.2.1
theorem dX8_check_74 : decode cX8_check 74 = .ok (.iconst 0, 1) := edX8_check_46.2.2.2.2.2.2.2.2.2.2.2.2.2.2.2.2.1
theorem dX8_check_75 : decode cX8_check 75 = .ok (.istore 4, 2) := edX8_check_46.2.2.2.2.2.2.2.2.2.2.2.2.2.2.2.2.2.1
theorem dX8_check_77 : decode cX8_check 77 = .ok (.iconst 0, 1) := edX8_check_46.2.2.2.2.2.2.2.2.2.2.2.2.2.2.2.2.2.2.1
theorem dX8_check_78 : decode cX8_check 78 = .ok (.istore 5, 2) := edX8_check_46.2.2.2.2.2.2.2.2.2.2.2.2.2.2.2.2.2.2.2.1
theorem dX8_check_80 : decode cX8_check 80 = .ok (.iconst 2, 1) := edX8_check_46.2.2.2.2.2.2.2.2.2.2.2.2.2.2.2.2.2.2.2.2.1
theorem dX8_check_81 : decode cX8_check 81 = .ok (.iload 5, 2) := edX8_check_46.2.2.2.2.2.2.2.2.2.2.2.2.2.2.2.2.2.2.2.2.2.1
theorem dX8_check_83 : decode cX8_check 83 = .ok (.imul, 1) := edX8_check_46.2.2.2.2.2.2.2.2.2.2.2.2.2.2.2.2.2.2.2.2.2.2.1
theorem dX8_check_84 : decode cX8_check 84 = .ok (.iload_n 3, 1) := edX8_check_46.2.2.2.2.2.2.2.2.2.2.2.2.2.2.2.2.2.2.2.2.2.2.2
theorem edX8_check_85 : (decode cX8_check 85 = .ok (.if_icmp .ge 95, 3)) ∧ (decode cX8_check 88 = .ok (.iload 4, 2)) ∧ (decode cX8_check 90 = .ok (.iconst 2, 1)) ∧ (decode cX8_check 91 = .ok (.iload 5, 2)) ∧ (decode cX8_check 93 = .ok (.imul, 1)) ∧ (decode cX8_check 94 = .ok (.if_icmp .ne 86, 3)) ∧ (decode cX8_check 97 = .ok (.aload_n 0, 1)) ∧ (decode cX8_check 98 = .ok (.invokevirtual 157, 3)) ∧ (decode cX8_check 101 = .ok (.iload 4, 2)) ∧ (decode cX8_check 103 = .ok (.iload 4, 2)) ∧ (decode cX8_check 105 = .ok (.iload_n 2, 1)) ∧ (decode cX8_check 106 = .ok (.if_icmp .ge 21, 3)) ∧ (decode cX8_check 109 = .ok (.aload_n 0, 1)) ∧ (decode cX8_check 110 = .ok (.getfield 79, 3)) ∧ (decode cX8_check 113 = .ok (.iload 4, 2)) ∧ (decode cX8_check 115 = .ok (.iaload, 1)) ∧ (decode cX8_check 116 = .ok (.aload_n 0, 1)) ∧ (decode cX8_check 117 = .ok (.invokevirtual 166, 3)) ∧ (decode cX8_check 120 = .ok (.if_icmp .ne 7, 3)) ∧ (decode cX8_check 123 = .ok (.iconst 1, 1)) ∧ (decode cX8_check 124 = .ok (.goto 4, 3)) ∧ (decode cX8_check 127 = .ok (.iconst 0, 1)) ∧ (decode cX8_check 128 = .ok (.iadd, 1)) ∧ (decode cX8_check 129 = .ok (.istore 4, 2)) := by decide +kernel
theorem dX8_check_85 : decode cX8_check 85 = .ok (.if_icmp .ge 95, 3) := edX8_check_85.1
theorem dX8_check_88 : decode cX8_check 88 = .ok (.iload 4, 2) := edX8_check_85.2.1
theorem dX8_check_90 : decode cX8_check 90 = .ok (.iconst 2, 1) := edX8_check_85.2.2.1
theorem dX8_check_91 : decode cX8_check 91 = .ok (.iload 5, 2) := edX8_check_85.2.2.2.1
theorem dX8_check_93 : decode cX8_check 93 = .ok (.imul, 1) := edX8_check_85.2.2.2.2.1
theorem dX8_check_94 : decode cX8_check 94 = .ok (.if_icmp .ne 86, 3) := edX8_check_85.2.2.2.2.2.1
theorem dX8_check_97 : decode cX8_check 97 = .ok (.aload_n 0, 1) := edX8_check_85.2.2.2.2.2.2.1
theorem dX8_check_98 : decode cX8_check 98 = .ok (.invokevirtual 157, 3) := edX8_check_85.2.2.2.2.2.2.2.1
theorem dX8_check_101 : decode cX8_check 101 = .ok (.iload 4, 2) := edX8_check_85.2.2.2.2.2.2.2.2.1
theorem dX8_check_103 : decode cX8_check 103 = .ok (.iload 4, 2) := edX8_check_85.2.2.2.2.2.2.2.2.2.1
theorem dX8_check_105 : decode cX8_check 105 = .ok (.iload_n 2, 1) := edX8_check_85.2.2.2.2.2.2.2.2.2.2.1
theorem dX8_check_106 : decode cX8_check 106 = .ok (.if_icmp .ge 21, 3) := edX8_check_85.2.2.2.2.2.2.2.2.2.2.2.1
theorem dX8_check_109 : decode cX8_check 109 = .ok (.aload_n 0, 1) := edX8_check_85.2.2.2.2.2.2.2.2.2.2.2.2.1
theorem dX8_check_110 : decode cX8_check 110 = .ok (.getfield 79, 3) := edX8_check_85.2.2.2.2.2.2.2.2.2.2.2.2.2.1
theorem dX8_check_113 : decode cX8_check 113 = .ok (.iload 4, 2) := edX8_check_85.2.2.2.2.2.2.2.2.2.2.2.2.2.2.1
theorem dX8_check_115 : decode cX8_check 115 = .ok (.iaload, 1) := edX8_check_85.2.2.2.2.2.2.2.2.2.2.2.2.2.2.2.1
theorem dX8_check_116 : decode cX8_check 116 = .ok (.aload_n 0, 1) := edX8_check_85.2.2.2.2.2.2.2.2.2.2.2.2.2.2.2.2.1
theorem dX8_check_117 : decode cX8_check 117 = .ok (.invokevirtual 166, 3) := edX8_check_85.2.2.2.2.2.2.2.2.2.2.2.2.2.2.2.2.2.1
theorem dX8_check_120 : decode cX8_check 120 = .ok (.if_icmp .ne 7, 3) := edX8_check_85.2.2.2.2.2.2.2.2.2.2.2.2.2.2.2.2.2.2.1
theorem dX8_check_123 : decode cX8_check 123 = .ok (.iconst 1, 1) := edX8_check_85.2.2.2.2.2.2.2.2.2.2.2.2.2.2.2.2.2.2.2.1
theorem dX8_check_124 : decode cX8_check 124 = .ok (.goto 4, 3) := edX8_check_85.2.2.2.2.2.2.2.2.2.2.2.2.2.2.2.2.2.2.2.2.1
theorem dX8_check_127 : decode cX8_check 127 = .ok (.iconst 0, 1) := edX8_check_85.2.2.2.2.2.2.2.2.2.2.2.2.2.2.2.2.2.2.2.2.2.1
theorem dX8_check_128 : decode cX8_check 128 = .ok (.iadd, 1) := edX8_check_85.2.2.2.2.2.2.2.2.2.2.2.2.2.2.2.2.2.2.2.2.2.2.1
theorem dX8_check_129 : decode cX8_check 129 = .ok (.istore 4, 2) := edX8_check_85.2.2.2.2.2.2.2.2.2.2.2.2.2.2.2.2.2.2.2.2.2.2.2
theorem edX8_check_131 : (decode cX8_check 131 = .ok (.iload 4, 2)) ∧ (decode cX8_check 133 = .ok (.iload 4, 2)) ∧ (decode cX8_check 135 = .ok (.iconst 2, 1)) ∧ (decode cX8_check 136 = .ok (.iload 5, 2)) ∧ (decode cX8_check 138 = .ok (.imul, 1)) ∧ (decode cX8_check 139 = .ok (.iconst 1, 1)) ∧ (decode cX8_check 140 = .ok (.iadd, 1)) ∧ (decode cX8_check 141 = .ok (.if_icmp .ne 29, 3)) ∧ (decode cX8_check 144 = .ok (.iload 4, 2)) ∧ (decode cX8_check 146 = .ok (.iload_n 2, 1)) ∧ (decode cX8_check 147 = .ok (.if_icmp .ge 23, 3)) ∧ (decode cX8_check 150 = .ok (.aload_n 0, 1)) ∧ (decode cX8_check 151 = .ok (.getfield 79, 3)) ∧ (decode cX8_check 154 = .ok (.iload 4, 2)) ∧ (decode cX8_check 156 = .ok (.iaload, 1)) ∧ (decode cX8_check 157 = .ok (.aload_n 0, 1)) ∧ (decode cX8_check 158 = .ok (.getfield 9, 3)) ∧ (decode cX8_check 161 = .ok (.iconst 3, 1)) ∧ (decode cX8_check 162 = .ok (.iaload, 1)) ∧ (decode cX8_check 163 = .ok (.if_icmp .ne 7, 3)) ∧ (decode cX8_check 166 = .ok (.iconst 1, 1)) ∧ (decode cX8_check 167 = .ok (.goto 4, 3)) ∧ (decode cX8_check 170 = .ok (.iconst 0, 1)) ∧ (decode cX8_check 171 = .ok (.iadd, 1)) := by decide +kernel
theorem dX8_check_131 : decode cX8_check 131 = .ok (.iload 4, 2) := edX8_check_131.1
theorem dX8_check_133 : decode cX8_check 133 = .ok (.iload 4, 2) := edX8_check_131.2.1
theorem dX8_check_135 : decode cX8_check 135 = .ok (.iconst 2, 1) := edX8_check_131.2.2.1
theorem dX8_check_136 : decode cX8_check 136 = .ok (.iload 5, 2) := edX8_check_131.2.2.2.1
theorem dX8_check_138 : decode cX8_check 138 = .ok (.imul, 1) := edX8_check_131.2.2.2.2.1
theorem dX8_check_139 : decode cX8_check 139 = .ok (.iconst 1, 1) := edX8_check_131.2.2.2.2.2.1
theorem dX8_check_140 : decode cX8_check 140 = .ok (.iadd, 1) := edX8_check_131.2.2.2.2.2.2.1
theorem dX8_check_141 : decode cX8_check 141 = .ok (.if_icmp .ne 29, 3) := edX8_check_131.2.2.2.2.2.2.2.1
theorem dX8_check_144 : decode cX8_check 144 = .ok (.iload 4, 2) := edX8_check_131.2.2.2.2.2.2.2.2.1
theorem dX8_check_146 : decode cX8_check 146 = .ok (.iload_n 2, 1) := edX8_check_131.2.2.2.2.2.2.2.2.2.1
theorem dX8_check_147 : decode cX8_check 147 = .ok (.if_icmp .ge 23, 3) := edX8_check_131.2.2.2.2.2.2.2.2.2.2.1
theorem dX8_check_150 : decode cX8_check 150 = .ok (.aload_n 0, 1) := edX8_check_131.2.2.2.2.2.2.2.2.2.2.2.1
theorem dX8_check_151 : decode cX8_check 151 = .ok (.getfield 79, 3) := edX8_check_131.2.2.2.2.2.2.2.2.2.2.2.2.1
theorem dX8_check_154 : decode cX8_check 154 = .ok (.iload 4, 2) := edX8_check_131.2.2.2.2.2.2.2.2.2.2.2.2.2.1
theorem dX8_check_156 : decode cX8_check 156 = .ok (.iaload, 1) := edX8_check_131.2.2.2.2.2.2.2.2.2.2.2.2.2.2.1
theorem dX8_check_157 : decode cX8_check 157 = .ok (.aload_n 0, 1) := edX8_check_131.2.2.2.2.2.2.2.2.2.2.2.2.2.2.2.1
theorem dX8_check_158 : decode cX8_check 158 = .ok (.getfield 9, 3) := edX8_check_131.2.2.2.2.2.2.2.2.2.2.2.2.2.2.2.2.1
theorem dX8_check_161 : decode cX8_check 161 = .ok (.iconst 3, 1) := edX8_check_131.2.2.2.2.2.2.2.2.2.2.2.2.2.2.2.2.2.1
theorem dX8_check_162 : decode cX8_check 162 = .ok (.iaload, 1) := edX8_check_131.2.2.2.2.2.2.2.2.2.2.2.2.2.2.2.2.2.2.1
theorem dX8_check_163 : decode cX8_check 163 = .ok (.if_icmp .ne 7, 3) := edX8_check_131.2.2.2.2.2.2.2.2.2.2.2.2.2.2.2.2.2.2.2.1
theorem dX8_check_166 : decode cX8_check 166 = .ok (.iconst 1, 1) := edX8_check_131.2.2.2.2.2.2.2.2.2.2.2.2.2.2.2.2.2.2.2.2.1
theorem dX8_check_167 : decode cX8_check 167 = .ok (.goto 4, 3) := edX8_check_131.2.2.2.2.2.2.2.2.2.2.2.2.2.2.2.2.2.2.2.2.2.1
theorem dX8_check_170 : decode cX8_check 170 = .ok (.iconst 0, 1) := edX8_check_131.2.2.2.2.2.2.2.2.2.2.2.2.2.2.2.2.2.2.2.2.2.2.1
theorem dX8_check_171 : decode cX8_check 171 = .ok (.iadd, 1) := edX8_check_131.2.2.2.2.2.2.2.2.2.2.2.2.2.2.2.2.2.2.2.2.2.2.2
theorem edX8_check_172 : (decode cX8_check 172 = .ok (.istore 4, 2)) ∧ (decode cX8_check 174 = .ok (.iinc 5 1, 3)) ∧ (decode cX8_check 177 = .ok (.goto (-97), 3)) ∧ (decode cX8_check 180 = .ok (.aload_n 0, 1)) ∧ (decode cX8_check 181 = .ok (.getfield 16, 3)) ∧ (decode cX8_check 184 = .ok (.aload_n 0, 1)) ∧ (decode cX8_check 185 = .ok (.getfield 9, 3)) ∧ (decode cX8_check 188 = .ok (.invokestatic 273, 3)) ∧ (decode cX8_check 191 = .ok (.iload 4, 2)) ∧ (decode cX8_check 193 = .ok (.iload_n 2, 1)) ∧ (decode cX8_check 194 = .ok (.if_icmp .ne 13, 3)) ∧ (decode cX8_check 197 = .ok (.iload 4, 2)) ∧ (decode cX8_check 199 = .ok (.iload_n 3, 1)) ∧ (decode cX8_check 200 = .ok (.if_icmp .ne 7, 3)) ∧ (decode cX8_check 203 = .ok (.iconst 0, 1)) ∧ (decode cX8_check 204 = .ok (.goto 7, 3)) ∧ (decode cX8_check 207 = .ok (.iconst 1, 1)) ∧ (decode cX8_check 208 = .ok (.iload 4, 2)) ∧ (decode cX8_check 210 = .ok (.iadd, 1)) ∧ (decode cX8_check 211 = .ok (.ireturn, 1)) := by decide +kernel
theorem dX8_check_172 : decode cX8_check 172 = .ok (.istore 4, 2) := edX8_check_172.1
theorem dX8_check_174 : decode cX8_check 174 = .ok (.iinc 5 1, 3) := edX8_check_172.2.1
theorem dX8_check_177 : decode cX8_check 177 = .ok (.goto (-97), 3) := edX8_check_172.2.2.1
theorem dX8_check_180 : decode cX8_check 180 = .ok (.aload_n 0, 1) := edX8_check_172.2.2.2.1
theorem dX8_check_181 : decode cX8_check 181 = .ok (.getfield 16, 3) := edX8_check_172.2.2.2.2.1
theorem dX8_check_184 : decode cX8_check 184 = .ok (.aload_n 0, 1) := edX8_check_172.2.2.2.2.2.1
theorem dX8_check_185 : decode cX8_check 185 = .ok (.getfield 9, 3) := edX8_check_172.2.2.2.2.2.2.1
theorem dX8_check_188 : decode cX8_check 188 = .ok (.invokestatic 273, 3) := edX8_check_172.2.2.2.2.2.2.2.1
theorem dX8_check_191 : decode cX8_check 191 = .ok (.iload 4, 2) := edX8_check_172.2.2.2.2.2.2.2.2.1
theorem dX8_check_193 : decode cX8_check 193 = .ok (.iload_n 2, 1) := edX8_check_172.2.2.2.2.2.2.2.2.2.1
theorem dX8_check_194 : decode cX8_check 194 = .ok (.if_icmp .ne 13, 3) := edX8_check_172.2.2.2.2.2.2.2.2.2.2.1
theorem dX8_check_197 : decode cX8_check 197 = .ok (.iload 4, 2) := edX8_check_172.2.2.2.2.2.2.2.2.2.2.2.1
theorem dX8_check_199 : decode cX8_check 199 = .ok (.iload_n 3, 1) := edX8_check_172.2.2.2.2.2.2.2.2.2.2.2.2.1
theorem dX8_check_200 : decode cX8_check 200 = .ok (.if_icmp .ne 7, 3) := edX8_check_172.2.2.2.2.2.2.2.2.2.2.2.2.2.1
theorem dX8_check_203 : decode cX8_check 203 = .ok (.iconst 0, 1) := edX8_check_172.2.2.2.2.2.2.2.2.2.2.2.2.2.2.1
theorem dX8_check_204 : decode cX8_check 204 = .ok (.goto 7, 3) := edX8_check_172.2.2.2.2.2.2.2.2.2.2.2.2.2.2.2.1
theorem dX8_check_207 : decode cX8_check 207 = .ok (.iconst 1, 1) := edX8_check_172.2.2.2.2.2.2.2.2.2.2.2.2.2.2.2.2.1
theorem dX8_check_208 : decode cX8_check 208 = .ok (.iload 4, 2) := edX8_check_172.2.2.2.2.2.2.2.2.2.2.2.2.2.2.2.2.2.1
theorem dX8_check_210 : decode cX8_check 210 = .ok (.iadd, 1) := edX8_check_172.2.2.2.2.2.2.2.2.2.2.2.2.2.2.2.2.2.2.1
theorem dX8_check_211 : decode cX8_check 211 = .ok (.ireturn, 1) := edX8_check_172.2.2.2.2.2.2.2.2.2.2.2.2.2.2.2.2.2.2.2
theorem edX8_keep_0 : (decode cX8_keep 0 = .ok (.aload_n 0, 1)) ∧ (decode cX8_keep 1 = .ok (.getfield 9, 3)) ∧ (decode cX8_keep 4 = .ok (.aload_n 0, 1)) ∧ (decode cX8_keep 5 = .ok (.getfield 13, 3)) ∧ (decode cX8_keep 8 = .ok (.invokestatic 273, 3)) ∧ (decode cX8_keep 11 = .ok (.aload_n 0, 1)) ∧ (decode cX8_keep 12 = .ok (.iconst 1, 1)) ∧ (decode cX8_keep 13 = .ok (.putfield 269, 3)) ∧ (decode cX8_keep 16 = .ok (.aload_n 0, 1)) ∧ (decode cX8_keep 17 = .ok (.getfield 9, 3)) ∧ (decode cX8_keep 20 = .ok (.iconst 1, 1)) ∧ (decode cX8_keep 21 = .ok (.iaload, 1)) ∧ (decode cX8_keep 22 = .ok (.ireturn, 1)) := by decide +kernel
theorem dX8_keep_0 : decode cX8_keep 0 = .ok (.aload_n 0, 1) := edX8_keep_0.1
theorem dX8_keep_1 : decode cX8_keep 1 = .ok (.getfield 9, 3) := edX8_keep_0.2.1
theorem dX8_keep_4 : decode cX8_keep 4 = .ok (.aload_n 0, 1) := edX8_keep_0.2.2.1
theorem dX8_keep_5 : decode cX8_keep 5 = .ok (.getfield 13, 3) := edX8_keep_0.2.2.2.1
theorem dX8_keep_8 : decode cX8_keep 8 = .ok (.invokestatic 273, 3) := edX8_keep_0.2.2.2.2.1
theorem dX8_keep_11 : decode cX8_keep 11 = .ok (.aload_n 0, 1) := edX8_keep_0.2.2.2.2.2.1
theorem dX8_keep_12 : decode cX8_keep 12 = .ok (.iconst 1, 1) := edX8_keep_0.2.2.2.2.2.2.1
theorem dX8_keep_13 : decode cX8_keep 13 = .ok (.putfield 269, 3) := edX8_keep_0.2.2.2.2.2.2.2.1
theorem dX8_keep_16 : decode cX8_keep 16 = .ok (.aload_n 0, 1) := edX8_keep_0.2.2.2.2.2.2.2.2.1
theorem dX8_keep_17 : decode cX8_keep 17 = .ok (.getfield 9, 3) := edX8_keep_0.2.2.2.2.2.2.2.2.2.1
theorem dX8_keep_20 : decode cX8_keep 20 = .ok (.iconst 1, 1) := edX8_keep_0.2.2.2.2.2.2.2.2.2.2.1
theorem dX8_keep_21 : decode cX8_keep 21 = .ok (.iaload, 1) := edX8_keep_0.2.2.2.2.2.2.2.2.2.2.2.1
theorem dX8_keep_22 : decode cX8_keep 22 = .ok (.ireturn, 1) := edX8_keep_0.2.2.2.2.2.2.2.2.2.2.2.2
theorem edX8_back_0 : (decode cX8_back 0 = .ok (.aload_n 0, 1)) ∧ (decode cX8_back 1 = .ok (.getfield 269, 3)) ∧ (decode cX8_back 4 = .ok (.ifCond .ne 7, 3)) ∧ (decode cX8_back 7 = .ok (.ldc_w 265, 3)) ∧ (decode cX8_back 10 = .ok (.ireturn, 1)) ∧ (decode cX8_back 11 = .ok (.aload_n 0, 1)) ∧ (decode cX8_back 12 = .ok (.getfield 13, 3)) ∧ (decode cX8_back 15 = .ok (.aload_n 0, 1)) ∧ (decode cX8_back 16 = .ok (.getfield 9, 3)) ∧ (decode cX8_back 19 = .ok (.invokestatic 273, 3)) ∧ (decode cX8_back 22 = .ok (.aload_n 0, 1)) ∧ (decode cX8_back 23 = .ok (.getfield 9, 3)) ∧ (decode cX8_back 26 = .ok (.iconst 1, 1)) ∧ (decode cX8_back 27 = .ok (.iaload, 1)) ∧ (decode cX8_back 28 = .ok (.ireturn, 1)) := by decide +kernel
theorem dX8_back_0 : decode cX8_back 0 = .ok (.aload_n 0, 1) := edX8_back_0.1
theorem dX8_back_1 : decode cX8_back 1 = .ok (.getfield 269, 3) := edX8_back_0.2.1
theorem dX8_back_4 : decode cX8_back 4 = .ok (.ifCond .ne 7, 3) := edX8_back_0.2.2.1
theorem dX8_back_7 : decode cX8_back 7 = .ok (.ldc_w 265, 3) := edX8_back_0.2.2.2.1
theorem dX8_back_10 : decode cX8_back 10 = .ok (.ireturn, 1) := edX8_back_0.2.2.2.2.1
theorem dX8_back_11 : decode cX8_back 11 = .ok (.aload_n 0, 1) := edX8_back_0.2.2.2.2.2.1
theorem dX8_back_12 : decode cX8_back 12 = .ok (.getfield 13, 3) := edX8_back_0.2.2.2.2.2.2.1
theorem dX8_back_15 : decode cX8_back 15 = .ok (.aload_n 0, 1) := edX8_back_0.2.2.2.2.2.2.2.1
theorem dX8_back_16 : decode cX8_back 16 = .ok (.getfield 9, 3) := edX8_back_0.2.2.2.2.2.2.2.2.1
theorem dX8_back_19 : decode cX8_back 19 = .ok (.invokestatic 273, 3) := edX8_back_0.2.2.2.2.2.2.2.2.2.1
theorem dX8_back_22 : decode cX8_back 22 = .ok (.aload_n 0, 1) := edX8_back_0.2.2.2.2.2.2.2.2.2.2.1
theorem dX8_back_23 : decode cX8_back 23 = .ok (.getfield 9, 3) := edX8_back_0.2.2.2.2.2.2.2.2.2.2.2.1
theorem dX8_back_26 : decode cX8_back 26 = .ok (.iconst 1, 1) := edX8_back_0.2.2.2.2.2.2.2.2.2.2.2.2.1
theorem dX8_back_27 : decode cX8_back 27 = .ok (.iaload, 1) := edX8_back_0.2.2.2.2.2.2.2.2.2.2.2.2.2.1
theorem dX8_back_28 : decode cX8_back 28 = .ok (.ireturn, 1) := edX8_back_0.2.2.2.2.2.2.2.2.2.2.2.2.2.2
theorem edX8_count_0 : (decode cX8_count 0 = .ok (.iload_n 1, 1)) ∧ (decode cX8_count 1 = .ok (.tableswitch 99 0 8 #[51, 58, 65, 65, 65, 74, 82, 87, 92], 51)) ∧ (decode cX8_count 52 = .ok (.aload_n 0, 1)) ∧ (decode cX8_count 53 = .ok (.getfield 9, 3)) ∧ (decode cX8_count 56 = .ok (.iconst 1, 1)) ∧ (decode cX8_count 57 = .ok (.iaload, 1)) ∧ (decode cX8_count 58 = .ok (.ireturn, 1)) ∧ (decode cX8_count 59 = .ok (.aload_n 0, 1)) ∧ (decode cX8_count 60 = .ok (.getfield 9, 3)) ∧ (decode cX8_count 63 = .ok (.iconst 2, 1)) ∧ (decode cX8_count 64 = .ok (.iaload, 1)) ∧ (decode cX8_count 65 = .ok (.ireturn, 1)) ∧ (decode cX8_count 66 = .ok (.aload_n 0, 1)) ∧ (decode cX8_count 67 = .ok (.getfield 9, 3)) ∧ (decode cX8_count 70 = .ok (.iconst 1, 1)) ∧ (decode cX8_count 71 = .ok (.iload_n 1, 1)) ∧ (decode cX8_count 72 = .ok (.iadd, 1)) ∧ (decode cX8_count 73 = .ok (.iaload, 1)) ∧ (decode cX8_count 74 = .ok (.ireturn, 1)) ∧ (decode cX8_count 75 = .ok (.aload_n 0, 1)) ∧ (decode cX8_count 76 = .ok (.getfield 9, 3)) ∧ (decode cX8_count 79 = .ok (.bipush 7, 2)) ∧ (decode cX8_count 81 = .ok (.iaload, 1)) ∧ (decode cX8_count 82 = .ok (.ireturn, 1)) := by decide +kernel
theorem dX8_count_0 : decode cX8_count 0 = .ok (.iload_n 1, 1) := edX8_count_0.1
theorem dX8_count_1 : decode cX8_count 1 = .ok (.tableswitch 99 0 8 #[51, 58, 65, 65, 65, 74, 82, 87, 92], 51) := edX8_count_0.2.1
theorem dX8_count_52 : decode cX8_count 52 = .ok (.aload_n 0, 1) := edX8_count_0.2.2.1
theorem dX8_count_53 : decode cX8_count 53 = .ok (.getfield 9, 3) := edX8_count_0.2.2.2.1
theorem dX8_count_56 : decode cX8_count 56 = .ok (.iconst 1, 1) := edX8_count_0.2.2.2.2.1
theorem dX8_count_57 : decode cX8_count 57 = .ok (.iaload, 1) := edX8_count_0.2.2.2.2.2.1
theorem dX8_count_58 : decode cX8_count 58 = .ok (.ireturn, 1) := edX8_count_0.2.2.2.2.2.2.1
theorem dX8_count_59 : decode cX8_count 59 = .ok (.aload_n 0, 1) := edX8_count_0.2.2.2.2.2.2.2.1
theorem dX8_count_60 : decode cX8_count 60 = .ok (.getfield 9, 3) := edX8_count_0.2.2.2.2.2.2.2.2.1
theorem dX8_count_63 : decode cX8_count 63 = .ok (.iconst 2, 1) := edX8_count_0.2.2.2.2.2.2.2.2.2.1
theorem dX8_count_64 : decode cX8_count 64 = .ok (.iaload, 1) := edX8_count_0.2.2.2.2.2.2.2.2.2.2.1
theorem dX8_count_65 : decode cX8_count 65 = .ok (.ireturn, 1) := edX8_count_0.2.2.2.2.2.2.2.2.2.2.2.1
theorem dX8_count_66 : decode cX8_count 66 = .ok (.aload_n 0, 1) := edX8_count_0.2.2.2.2.2.2.2.2.2.2.2.2.1
theorem dX8_count_67 : decode cX8_count 67 = .ok (.getfield 9, 3) := edX8_count_0.2.2.2.2.2.2.2.2.2.2.2.2.2.1
theorem dX8_count_70 : decode cX8_count 70 = .ok (.iconst 1, 1) := edX8_count_0.2.2.2.2.2.2.2.2.2.2.2.2.2.2.1
theorem dX8_count_71 : decode cX8_count 71 = .ok (.iload_n 1, 1) := edX8_count_0.2.2.2.2.2.2.2.2.2.2.2.2.2.2.2.1
theorem dX8_count_72 : decode cX8_count 72 = .ok (.iadd, 1) := edX8_count_0.2.2.2.2.2.2.2.2.2.2.2.2.2.2.2.2.1
theorem dX8_count_73 : decode cX8_count 73 = .ok (.iaload, 1) := edX8_count_0.2.2.2.2.2.2.2.2.2.2.2.2.2.2.2.2.2.1
theorem dX8_count_74 : decode cX8_count 74 = .ok (.ireturn, 1) := edX8_count_0.2.2.2.2.2.2.2.2.2.2.2.2.2.2.2.2.2.2.1
theorem dX8_count_75 : decode cX8_count 75 = .ok (.aload_n 0, 1) := edX8_count_0.2.2.2.2.2.2.2.2.2.2.2.2.2.2.2.2.2.2.2.1
theorem dX8_count_76 : decode cX8_count 76 = .ok (.getfield 9, 3) := edX8_count_0.2.2.2.2.2.2.2.2.2.2.2.2.2.2.2.2.2.2.2.2.1
theorem dX8_count_79 : decode cX8_count 79 = .ok (.bipush 7, 2) := edX8_count_0.2.2.2.2.2.2.2.2.2.2.2.2.2.2.2.2.2.2.2.2.2.1
theorem dX8_count_81 : decode cX8_count 81 = .ok (.iaload, 1) := edX8_count_0.2.2.2.2.2.2.2.2.2.2.2.2.2.2.2.2.2.2.2.2.2.2.1
theorem dX8_count_82 : decode cX8_count 82 = .ok (.ireturn, 1) := edX8_count_0.2.2.2.2.2.2.2.2.2.2.2.2.2.2.2.2.2.2.2.2.2.2.2
theorem edX8_count_83 : (decode cX8_count 83 = .ok (.aload_n 0, 1)) ∧ (decode cX8_count 84 = .ok (.getfield 266, 3)) ∧ (decode cX8_count 87 = .ok (.ireturn, 1)) ∧ (decode cX8_count 88 = .ok (.aload_n 0, 1)) ∧ (decode cX8_count 89 = .ok (.getfield 192, 3)) ∧ (decode cX8_count 92 = .ok (.ireturn, 1)) ∧ (decode cX8_count 93 = .ok (.aload_n 0, 1)) ∧ (decode cX8_count 94 = .ok (.getfield 9, 3)) ∧ (decode cX8_count 97 = .ok (.iconst 0, 1)) ∧ (decode cX8_count 98 = .ok (.iaload, 1)) ∧ (decode cX8_count 99 = .ok (.ireturn, 1)) ∧ (decode cX8_count 100 = .ok (.ldc 91, 2)) ∧ (decode cX8_count 102 = .ok (.ireturn, 1)) := by decide +kernel
theorem dX8_count_83 : decode cX8_count 83 = .ok (.aload_n 0, 1) := edX8_count_83.1
theorem dX8_count_84 : decode cX8_count 84 = .ok (.getfield 266, 3) := edX8_count_83.2.1
theorem dX8_count_87 : decode cX8_count 87 = .ok (.ireturn, 1) := edX8_count_83.2.2.1
theorem dX8_count_88 : decode cX8_count 88 = .ok (.aload_n 0, 1) := edX8_count_83.2.2.2.1
theorem dX8_count_89 : decode cX8_count 89 = .ok (.getfield 192, 3) := edX8_count_83.2.2.2.2.1
theorem dX8_count_92 : decode cX8_count 92 = .ok (.ireturn, 1) := edX8_count_83.2.2.2.2.2.1
theorem dX8_count_93 : decode cX8_count 93 = .ok (.aload_n 0, 1) := edX8_count_83.2.2.2.2.2.2.1
theorem dX8_count_94 : decode cX8_count 94 = .ok (.getfield 9, 3) := edX8_count_83.2.2.2.2.2.2.2.1
theorem dX8_count_97 : decode cX8_count 97 = .ok (.iconst 0, 1) := edX8_count_83.2.2.2.2.2.2.2.2.1
theorem dX8_count_98 : decode cX8_count 98 = .ok (.iaload, 1) := edX8_count_83.2.2.2.2.2.2.2.2.2.1
theorem dX8_count_99 : decode cX8_count 99 = .ok (.ireturn, 1) := edX8_count_83.2.2.2.2.2.2.2.2.2.2.1
theorem dX8_count_100 : decode cX8_count 100 = .ok (.ldc 91, 2) := edX8_count_83.2.2.2.2.2.2.2.2.2.2.2.1
theorem dX8_count_102 : decode cX8_count 102 = .ok (.ireturn, 1) := edX8_count_83.2.2.2.2.2.2.2.2.2.2.2.2
theorem edJ0_length_8abf5_0 : (decode cJ0_length_8abf5 0 = .ok (.aload_n 0, 1)) ∧ (decode cJ0_length_8abf5 1 = .ok (.getfield 9, 3)) ∧ (decode cJ0_length_8abf5 4 = .ok (.arraylength, 1)) ∧ (decode cJ0_length_8abf5 5 = .ok (.aload_n 0, 1)) ∧ (decode cJ0_length_8abf5 6 = .ok (.invokevirtual 335, 3)) ∧ (decode cJ0_length_8abf5 9 = .ok (.ishr, 1)) ∧ (decode cJ0_length_8abf5 10 = .ok (.ireturn, 1)) := by decide +kernel
theorem dJ0_length_8abf5_0 : decode cJ0_length_8abf5 0 = .ok (.aload_n 0, 1) := edJ0_length_8abf5_0.1
theorem dJ0_length_8abf5_1 : decode cJ0_length_8abf5 1 = .ok (.getfield 9, 3) := edJ0_length_8abf5_0.2.1
theorem dJ0_length_8abf5_4 : decode cJ0_length_8abf5 4 = .ok (.arraylength, 1) := edJ0_length_8abf5_0.2.2.1
theorem dJ0_length_8abf5_5 : decode cJ0_length_8abf5 5 = .ok (.aload_n 0, 1) := edJ0_length_8abf5_0.2.2.2.1
theorem dJ0_length_8abf5_6 : decode cJ0_length_8abf5 6 = .ok (.invokevirtual 335, 3) := edJ0_length_8abf5_0.2.2.2.2.1
theorem dJ0_length_8abf5_9 : decode cJ0_length_8abf5 9 = .ok (.ishr, 1) := edJ0_length_8abf5_0.2.2.2.2.2.1
theorem dJ0_length_8abf5_10 : decode cJ0_length_8abf5 10 = .ok (.ireturn, 1) := edJ0_length_8abf5_0.2.2.2.2.2.2
theorem edJ0_charAt_5068e_0 : (decode cJ0_charAt_5068e 0 = .ok (.aload_n 0, 1)) ∧ (decode cJ0_charAt_5068e 1 = .ok (.invokevirtual 492, 3)) ∧ (decode cJ0_charAt_5068e 4 = .ok (.ifCond .eq 12, 3)) ∧ (decode cJ0_charAt_5068e 7 = .ok (.aload_n 0, 1)) ∧ (decode cJ0_charAt_5068e 8 = .ok (.getfield 9, 3)) ∧ (decode cJ0_charAt_5068e 11 = .ok (.iload_n 1, 1)) ∧ (decode cJ0_charAt_5068e 12 = .ok (.invokestatic 495, 3)) ∧ (decode cJ0_charAt_5068e 15 = .ok (.ireturn, 1)) := by decide +kernel
theorem dJ0_charAt_5068e_0 : decode cJ0_charAt_5068e 0 = .ok (.aload_n 0, 1) := edJ0_charAt_5068e_0.1
theorem dJ0_charAt_5068e_1 : decode cJ0_charAt_5068e 1 = .ok (.invokevirtual 492, 3) := edJ0_charAt_5068e_0.2.1
theorem dJ0_charAt_5068e_4 : decode cJ0_charAt_5068e 4 = .ok (.ifCond .eq 12, 3) := edJ0_charAt_5068e_0.2.2.1
theorem dJ0_charAt_5068e_7 : decode cJ0_charAt_5068e 7 = .ok (.aload_n 0, 1) := edJ0_charAt_5068e_0.2.2.2.1
theorem dJ0_charAt_5068e_8 : decode cJ0_charAt_5068e 8 = .ok (.getfield 9, 3) := edJ0_charAt_5068e_0.2.2.2.2.1
theorem dJ0_charAt_5068e_11 : decode cJ0_charAt_5068e 11 = .ok (.iload_n 1, 1) := edJ0_charAt_5068e_0.2.2.2.2.2.1
theorem dJ0_charAt_5068e_12 : decode cJ0_charAt_5068e 12 = .ok (.invokestatic 495, 3) := edJ0_charAt_5068e_0.2.2.2.2.2.2.1
theorem dJ0_charAt_5068e_15 : decode cJ0_charAt_5068e 15 = .ok (.ireturn, 1) := edJ0_charAt_5068e_0.2.2.2.2.2.2.2
theorem edJ0_indexOf_0f7a4_0 : (decode cJ0_indexOf_0f7a4 0 = .ok (.aload_n 0, 1)) ∧ (decode cJ0_indexOf_0f7a4 1 = .ok (.iload_n 1, 1)) ∧ (decode cJ0_indexOf_0f7a4 2 = .ok (.iconst 0, 1)) ∧ (decode cJ0_indexOf_0f7a4 3 = .ok (.invokevirtual 633, 3)) ∧ (decode cJ0_indexOf_0f7a4 6 = .ok (.ireturn, 1)) := by decide +kernel
theorem dJ0_indexOf_0f7a4_0 : decode cJ0_indexOf_0f7a4 0 = .ok (.aload_n 0, 1) := edJ0_indexOf_0f7a4_0.1
theorem dJ0_indexOf_0f7a4_1 : decode cJ0_indexOf_0f7a4 1 = .ok (.iload_n 1, 1) := edJ0_indexOf_0f7a4_0.2.1
theorem dJ0_indexOf_0f7a4_2 : decode cJ0_indexOf_0f7a4 2 = .ok (.iconst 0, 1) := edJ0_indexOf_0f7a4_0.2.2.1
theorem dJ0_indexOf_0f7a4_3 : decode cJ0_indexOf_0f7a4 3 = .ok (.invokevirtual 633, 3) := edJ0_indexOf_0f7a4_0.2.2.2.1
theorem dJ0_indexOf_0f7a4_6 : decode cJ0_indexOf_0f7a4 6 = .ok (.ireturn, 1) := edJ0_indexOf_0f7a4_0.2.2.2.2
theorem edJ0_indexOf_7cf53_0 : (decode cJ0_indexOf_7cf53 0 = .ok (.aload_n 0, 1)) ∧ (decode cJ0_indexOf_7cf53 1 = .ok (.invokevirtual 492, 3)) ∧ (decode cJ0_indexOf_7cf53 4 = .ok (.ifCond .eq 19, 3)) ∧ (decode cJ0_indexOf_7cf53 7 = .ok (.aload_n 0, 1)) ∧ (decode cJ0_indexOf_7cf53 8 = .ok (.getfield 9, 3)) ∧ (decode cJ0_indexOf_7cf53 11 = .ok (.iload_n 1, 1)) ∧ (decode cJ0_indexOf_7cf53 12 = .ok (.iload_n 2, 1)) ∧ (decode cJ0_indexOf_7cf53 13 = .ok (.aload_n 0, 1)) ∧ (decode cJ0_indexOf_7cf53 14 = .ok (.invokevirtual 505, 3)) ∧ (decode cJ0_indexOf_7cf53 17 = .ok (.invokestatic 637, 3)) ∧ (decode cJ0_indexOf_7cf53 20 = .ok (.goto 16, 3)) ∧ (decode cJ0_indexOf_7cf53 36 = .ok (.ireturn, 1)) := by decide +kernel
theorem dJ0_indexOf_7cf53_0 : decode cJ0_indexOf_7cf53 0 = .ok (.aload_n 0, 1) := edJ0_indexOf_7cf53_0.1
theorem dJ0_indexOf_7cf53_1 : decode cJ0_indexOf_7cf53 1 = .ok (.invokevirtual 492, 3) := edJ0_indexOf_7cf53_0.2.1
theorem dJ0_indexOf_7cf53_4 : decode cJ0_indexOf_7cf53 4 = .ok (.ifCond .eq 19, 3) := edJ0_indexOf_7cf53_0.2.2.1
theorem dJ0_indexOf_7cf53_7 : decode cJ0_indexOf_7cf53 7 = .ok (.aload_n 0, 1) := edJ0_indexOf_7cf53_0.2.2.2.1
theorem dJ0_indexOf_7cf53_8 : decode cJ0_indexOf_7cf53 8 = .ok (.getfield 9, 3) := edJ0_indexOf_7cf53_0.2.2.2.2.1
theorem dJ0_indexOf_7cf53_11 : decode cJ0_indexOf_7cf53 11 = .ok (.iload_n 1, 1) := edJ0_indexOf_7cf53_0.2.2.2.2.2.1
theorem dJ0_indexOf_7cf53_12 : decode cJ0_indexOf_7cf53 12 = .ok (.iload_n 2, 1) := edJ0_indexOf_7cf53_0.2.2.2.2.2.2.1
theorem dJ0_indexOf_7cf53_13 : decode cJ0_indexOf_7cf53 13 = .ok (.aload_n 0, 1) := edJ0_indexOf_7cf53_0.2.2.2.2.2.2.2.1
theorem dJ0_indexOf_7cf53_14 : decode cJ0_indexOf_7cf53 14 = .ok (.invokevirtual 505, 3) := edJ0_indexOf_7cf53_0.2.2.2.2.2.2.2.2.1
theorem dJ0_indexOf_7cf53_17 : decode cJ0_indexOf_7cf53 17 = .ok (.invokestatic 637, 3) := edJ0_indexOf_7cf53_0.2.2.2.2.2.2.2.2.2.1
theorem dJ0_indexOf_7cf53_20 : decode cJ0_indexOf_7cf53 20 = .ok (.goto 16, 3) := edJ0_indexOf_7cf53_0.2.2.2.2.2.2.2.2.2.2.1
theorem dJ0_indexOf_7cf53_36 : decode cJ0_indexOf_7cf53 36 = .ok (.ireturn, 1) := edJ0_indexOf_7cf53_0.2.2.2.2.2.2.2.2.2.2.2
theorem edJ0_coder_7d493_0 : (decode cJ0_coder_7d493 0 = .ok (.getstatic 38, 3)) ∧ (decode cJ0_coder_7d493 3 = .ok (.ifCond .eq 10, 3)) ∧ (decode cJ0_coder_7d493 6 = .ok (.aload_n 0, 1)) ∧ (decode cJ0_coder_7d493 7 = .ok (.getfield 15, 3)) ∧ (decode cJ0_coder_7d493 10 = .ok (.goto 4, 3)) ∧ (decode cJ0_coder_7d493 14 = .ok (.ireturn, 1)) := by decide +kernel
theorem dJ0_coder_7d493_0 : decode cJ0_coder_7d493 0 = .ok (.getstatic 38, 3) := edJ0_coder_7d493_0.1
theorem dJ0_coder_7d493_3 : decode cJ0_coder_7d493 3 = .ok (.ifCond .eq 10, 3) := edJ0_coder_7d493_0.2.1
theorem dJ0_coder_7d493_6 : decode cJ0_coder_7d493 6 = .ok (.aload_n 0, 1) := edJ0_coder_7d493_0.2.2.1
theorem dJ0_coder_7d493_7 : decode cJ0_coder_7d493 7 = .ok (.getfield 15, 3) := edJ0_coder_7d493_0.2.2.2.1
theorem dJ0_coder_7d493_10 : decode cJ0_coder_7d493 10 = .ok (.goto 4, 3) := edJ0_coder_7d493_0.2.2.2.2.1
theorem dJ0_coder_7d493_14 : decode cJ0_coder_7d493 14 = .ok (.ireturn, 1) := edJ0_coder_7d493_0.2.2.2.2.2
theorem edJ0_isLatin1_aae02_0 : (decode cJ0_isLatin1_aae02 0 = .ok (.getstatic 38, 3)) ∧ (decode cJ0_isLatin1_aae02 3 = .ok (.ifCond .eq 14, 3)) ∧ (decode cJ0_isLatin1_aae02 6 = .ok (.aload_n 0, 1)) ∧ (decode cJ0_isLatin1_aae02 7 = .ok (.getfield 15, 3)) ∧ (decode cJ0_isLatin1_aae02 10 = .ok (.ifCond .ne 7, 3)) ∧ (decode cJ0_isLatin1_aae02 13 = .ok (.iconst 1, 1)) ∧ (decode cJ0_isLatin1_aae02 14 = .ok (.goto 4, 3)) ∧ (decode cJ0_isLatin1_aae02 18 = .ok (.ireturn, 1)) := by decide +kernel
theorem dJ0_isLatin1_aae02_0 : decode cJ0_isLatin1_aae02 0 = .ok (.getstatic 38, 3) := edJ0_isLatin1_aae02_0.1
theorem dJ0_isLatin1_aae02_3 : decode cJ0_isLatin1_aae02 3 = .ok (.ifCond .eq 14, 3) := edJ0_isLatin1_aae02_0.2.1
theorem dJ0_isLatin1_aae02_6 : decode cJ0_isLatin1_aae02 6 = .ok (.aload_n 0, 1) := edJ0_isLatin1_aae02_0.2.2.1
theorem dJ0_isLatin1_aae02_7 : decode cJ0_isLatin1_aae02 7 = .ok (.getfield 15, 3) := edJ0_isLatin1_aae02_0.2.2.2.1
theorem dJ0_isLatin1_aae02_10 : decode cJ0_isLatin1_aae02 10 = .ok (.ifCond .ne 7, 3) := edJ0_isLatin1_aae02_0.2.2.2.2.1
theorem dJ0_isLatin1_aae02_13 : decode cJ0_isLatin1_aae02 13 = .ok (.iconst 1, 1) := edJ0_isLatin1_aae02_0.2.2.2.2.2.1
theorem dJ0_isLatin1_aae02_14 : decode cJ0_isLatin1_aae02 14 = .ok (.goto 4, 3) := edJ0_isLatin1_aae02_0.2.2.2.2.2.2.1
theorem dJ0_isLatin1_aae02_18 : decode cJ0_isLatin1_aae02 18 = .ok (.ireturn, 1) := edJ0_isLatin1_aae02_0.2.2.2.2.2.2.2
theorem edJ0_checkIndex_df160_0 : (decode cJ0_checkIndex_df160 0 = .ok (.iload_n 0, 1)) ∧ (decode cJ0_checkIndex_df160 1 = .ok (.iload_n 1, 1)) ∧ (decode cJ0_checkIndex_df160 2 = .ok (.getstatic 1053, 3)) ∧ (decode cJ0_checkIndex_df160 5 = .ok (.invokestatic 1059, 3)) ∧ (decode cJ0_checkIndex_df160 8 = .ok (.pop, 1)) ∧ (decode cJ0_checkIndex_df160 9 = .ok (.return_, 1)) := by decide +kernel
theorem dJ0_checkIndex_df160_0 : decode cJ0_checkIndex_df160 0 = .ok (.iload_n 0, 1) := edJ0_checkIndex_df160_0.1
theorem dJ0_checkIndex_df160_1 : decode cJ0_checkIndex_df160 1 = .ok (.iload_n 1, 1) := edJ0_checkIndex_df160_0.2.1
theorem dJ0_checkIndex_df160_2 : decode cJ0_checkIndex_df160 2 = .ok (.getstatic 1053, 3) := edJ0_checkIndex_df160_0.2.2.1
theorem dJ0_checkIndex_df160_5 : decode cJ0_checkIndex_df160 5 = .ok (.invokestatic 1059, 3) := edJ0_checkIndex_df160_0.2.2.2.1
theorem dJ0_checkIndex_df160_8 : decode cJ0_checkIndex_df160 8 = .ok (.pop, 1) := edJ0_checkIndex_df160_0.2.2.2.2.1
theorem dJ0_checkIndex_df160_9 : decode cJ0_checkIndex_df160 9 = .ok (.return_, 1) := edJ0_checkIndex_df160_0.2.2.2.2.2
theorem edJ1_charAt_3b067_0 : (decode cJ1_charAt_3b067 0 = .ok (.iload_n 1, 1)) ∧ (decode cJ1_charAt_3b067 1 = .ok (.aload_n 0, 1)) ∧ (decode cJ1_charAt_3b067 2 = .ok (.arraylength, 1)) ∧ (decode cJ1_charAt_3b067 3 = .ok (.invokestatic 9, 3)) ∧ (decode cJ1_charAt_3b067 6 = .ok (.aload_n 0, 1)) ∧ (decode cJ1_charAt_3b067 7 = .ok (.iload_n 1, 1)) ∧ (decode cJ1_charAt_3b067 8 = .ok (.baload, 1)) ∧ (decode cJ1_charAt_3b067 9 = .ok (.sipush 255, 3)) ∧ (decode cJ1_charAt_3b067 12 = .ok (.iand, 1)) ∧ (decode cJ1_charAt_3b067 13 = .ok (.i2c, 1)) ∧ (decode cJ1_charAt_3b067 14 = .ok (.ireturn, 1)) := by decide +kernel
theorem dJ1_charAt_3b067_0 : decode cJ1_charAt_3b067 0 = .ok (.iload_n 1, 1) := edJ1_charAt_3b067_0.1
theorem dJ1_charAt_3b067_1 : decode cJ1_charAt_3b067 1 = .ok (.aload_n 0, 1) := edJ1_charAt_3b067_0.2.1
theorem dJ1_charAt_3b067_2 : decode cJ1_charAt_3b067 2 = .ok (.arraylength, 1) := edJ1_charAt_3b067_0.2.2.1
theorem dJ1_charAt_3b067_3 : decode cJ1_charAt_3b067 3 = .ok (.invokestatic 9, 3) := edJ1_charAt_3b067_0.2.2.2.1
theorem dJ1_charAt_3b067_6 : decode cJ1_charAt_3b067 6 = .ok (.aload_n 0, 1) := edJ1_charAt_3b067_0.2.2.2.2.1
theorem dJ1_charAt_3b067_7 : decode cJ1_charAt_3b067 7 = .ok (.iload_n 1, 1) := edJ1_charAt_3b067_0.2.2.2.2.2.1
theorem dJ1_charAt_3b067_8 : decode cJ1_charAt_3b067 8 = .ok (.baload, 1) := edJ1_charAt_3b067_0.2.2.2.2.2.2.1
theorem dJ1_charAt_3b067_9 : decode cJ1_charAt_3b067 9 = .ok (.sipush 255, 3) := edJ1_charAt_3b067_0.2.2.2.2.2.2.2.1
theorem dJ1_charAt_3b067_12 : decode cJ1_charAt_3b067 12 = .ok (.iand, 1) := edJ1_charAt_3b067_0.2.2.2.2.2.2.2.2.1
theorem dJ1_charAt_3b067_13 : decode cJ1_charAt_3b067 13 = .ok (.i2c, 1) := edJ1_charAt_3b067_0.2.2.2.2.2.2.2.2.2.1
theorem dJ1_charAt_3b067_14 : decode cJ1_charAt_3b067 14 = .ok (.ireturn, 1) := edJ1_charAt_3b067_0.2.2.2.2.2.2.2.2.2.2
theorem edJ1_canEncode_9a6ad_0 : (decode cJ1_canEncode_9a6ad 0 = .ok (.iload_n 0, 1)) ∧ (decode cJ1_canEncode_9a6ad 1 = .ok (.ifCond .lt 14, 3)) ∧ (decode cJ1_canEncode_9a6ad 4 = .ok (.iload_n 0, 1)) ∧ (decode cJ1_canEncode_9a6ad 5 = .ok (.sipush 255, 3)) ∧ (decode cJ1_canEncode_9a6ad 8 = .ok (.if_icmp .gt 7, 3)) ∧ (decode cJ1_canEncode_9a6ad 11 = .ok (.iconst 1, 1)) ∧ (decode cJ1_canEncode_9a6ad 12 = .ok (.goto 4, 3)) ∧ (decode cJ1_canEncode_9a6ad 16 = .ok (.ireturn, 1)) := by decide +kernel
theorem dJ1_canEncode_9a6ad_0 : decode cJ1_canEncode_9a6ad 0 = .ok (.iload_n 0, 1) := edJ1_canEncode_9a6ad_0.1
theorem dJ1_canEncode_9a6ad_1 : decode cJ1_canEncode_9a6ad 1 = .ok (.ifCond .lt 14, 3) := edJ1_canEncode_9a6ad_0.2.1
theorem dJ1_canEncode_9a6ad_4 : decode cJ1_canEncode_9a6ad 4 = .ok (.iload_n 0, 1) := edJ1_canEncode_9a6ad_0.2.2.1
theorem dJ1_canEncode_9a6ad_5 : decode cJ1_canEncode_9a6ad 5 = .ok (.sipush 255, 3) := edJ1_canEncode_9a6ad_0.2.2.2.1
theorem dJ1_canEncode_9a6ad_8 : decode cJ1_canEncode_9a6ad 8 = .ok (.if_icmp .gt 7, 3) := edJ1_canEncode_9a6ad_0.2.2.2.2.1
theorem dJ1_canEncode_9a6ad_11 : decode cJ1_canEncode_9a6ad 11 = .ok (.iconst 1, 1) := edJ1_canEncode_9a6ad_0.2.2.2.2.2.1
theorem dJ1_canEncode_9a6ad_12 : decode cJ1_canEncode_9a6ad 12 = .ok (.goto 4, 3) := edJ1_canEncode_9a6ad_0.2.2.2.2.2.2.1
theorem dJ1_canEncode_9a6ad_16 : decode cJ1_canEncode_9a6ad 16 = .ok (.ireturn, 1) := edJ1_canEncode_9a6ad_0.2.2.2.2.2.2.2
theorem edJ1_indexOf_4cfef_0 : (decode cJ1_indexOf_4cfef 0 = .ok (.iload_n 1, 1)) ∧ (decode cJ1_indexOf_4cfef 1 = .ok (.invokestatic 88, 3)) ∧ (decode cJ1_indexOf_4cfef 4 = .ok (.ifCond .ne 5, 3)) ∧ (decode cJ1_indexOf_4cfef 9 = .ok (.iload_n 2, 1)) ∧ (decode cJ1_indexOf_4cfef 10 = .ok (.iconst 0, 1)) ∧ (decode cJ1_indexOf_4cfef 11 = .ok (.invokestatic 92, 3)) ∧ (decode cJ1_indexOf_4cfef 14 = .ok (.istore_n 2, 1)) ∧ (decode cJ1_indexOf_4cfef 15 = .ok (.iload_n 3, 1)) ∧ (decode cJ1_indexOf_4cfef 16 = .ok (.aload_n 0, 1)) ∧ (decode cJ1_indexOf_4cfef 17 = .ok (.arraylength, 1)) ∧ (decode cJ1_indexOf_4cfef 18 = .ok (.invokestatic 38, 3)) ∧ (decode cJ1_indexOf_4cfef 21 = .ok (.istore_n 3, 1)) ∧ (decode cJ1_indexOf_4cfef 22 = .ok (.iload_n 2, 1)) ∧ (decode cJ1_indexOf_4cfef 23 = .ok (.iload_n 3, 1)) ∧ (decode cJ1_indexOf_4cfef 24 = .ok (.if_icmp .lt 5, 3)) ∧ (decode cJ1_indexOf_4cfef 29 = .ok (.aload_n 0, 1)) ∧ (decode cJ1_indexOf_4cfef 30 = .ok (.iload_n 1, 1)) ∧ (decode cJ1_indexOf_4cfef 31 = .ok (.iload_n 2, 1)) ∧ (decode cJ1_indexOf_4cfef 32 = .ok (.iload_n 3, 1)) ∧ (decode cJ1_indexOf_4cfef 33 = .ok (.invokestatic 95, 3)) ∧ (decode cJ1_indexOf_4cfef 36 = .ok (.ireturn, 1)) := by decide +kernel
theorem dJ1_indexOf_4cfef_0 : decode cJ1_indexOf_4cfef 0 = .ok (.iload_n 1, 1) := edJ1_indexOf_4cfef_0.1
theorem dJ1_indexOf_4cfef_1 : decode cJ1_indexOf_4cfef 1 = .ok (.invokestatic 88, 3) := edJ1_indexOf_4cfef_0.2.1
theorem dJ1_indexOf_4cfef_4 : decode cJ1_indexOf_4cfef 4 = .ok (.ifCond .ne 5, 3) := edJ1_indexOf_4cfef_0.2.2.1
theorem dJ1_indexOf_4cfef_9 : decode cJ1_indexOf_4cfef 9 = .ok (.iload_n 2, 1) := edJ1_indexOf_4cfef_0.2.2.2.1
theorem dJ1_indexOf_4cfef_10 : decode cJ1_indexOf_4cfef 10 = .ok (.iconst 0, 1) := edJ1_indexOf_4cfef_0.2.2.2.2.1
theorem dJ1_indexOf_4cfef_11 : decode cJ1_indexOf_4cfef 11 = .ok (.invokestatic 92, 3) := edJ1_indexOf_4cfef_0.2.2.2.2.2.1
theorem dJ1_indexOf_4cfef_14 : decode cJ1_indexOf_4cfef 14 = .ok (.istore_n 2, 1) := edJ1_indexOf_4cfef_0.2.2.2.2.2.2.1
theorem dJ1_indexOf_4cfef_15 : decode cJ1_indexOf_4cfef 15 = .ok (.iload_n 3, 1) := edJ1_indexOf_4cfef_0.2.2.2.2.2.2.2.1
theorem dJ1_indexOf_4cfef_16 : decode cJ1_indexOf_4cfef 16 = .ok (.aload_n 0, 1) := edJ1_indexOf_4cfef_0.2.2.2.2.2.2.2.2.1
theorem dJ1_indexOf_4cfef_17 : decode cJ1_indexOf_4cfef 17 = .ok (.arraylength, 1) := edJ1_indexOf_4cfef_0.2.2.2.2.2.2.2.2.2.1
theorem dJ1_indexOf_4cfef_18 : decode cJ1_indexOf_4cfef 18 = .ok (.invokestatic 38, 3) := edJ1_indexOf_4cfef_0.2.2.2.2.2.2.2.2.2.2.1
theorem dJ1_indexOf_4cfef_21 : decode cJ1_indexOf_4cfef 21 = .ok (.istore_n 3, 1) := edJ1_indexOf_4cfef_0.2.2.2.2.2.2.2.2.2.2.2.1
theorem dJ1_indexOf_4cfef_22 : decode cJ1_indexOf_4cfef 22 = .ok (.iload_n 2, 1) := edJ1_indexOf_4cfef_0.2.2.2.2.2.2.2.2.2.2.2.2.1
theorem dJ1_indexOf_4cfef_23 : decode cJ1_indexOf_4cfef 23 = .ok (.iload_n 3, 1) := edJ1_indexOf_4cfef_0.2.2.2.2.2.2.2.2.2.2.2.2.2.1
theorem dJ1_indexOf_4cfef_24 : decode cJ1_indexOf_4cfef 24 = .ok (.if_icmp .lt 5, 3) := edJ1_indexOf_4cfef_0.2.2.2.2.2.2.2.2.2.2.2.2.2.2.1
theorem dJ1_indexOf_4cfef_29 : decode cJ1_indexOf_4cfef 29 = .ok (.aload_n 0, 1) := edJ1_indexOf_4cfef_0.2.2.2.2.2.2.2.2.2.2.2.2.2.2.2.1
theorem dJ1_indexOf_4cfef_30 : decode cJ1_indexOf_4cfef 30 = .ok (.iload_n 1, 1) := edJ1_indexOf_4cfef_0.2.2.2.2.2.2.2.2.2.2.2.2.2.2.2.2.1
theorem dJ1_indexOf_4cfef_31 : decode cJ1_indexOf_4cfef 31 = .ok (.iload_n 2, 1) := edJ1_indexOf_4cfef_0.2.2.2.2.2.2.2.2.2.2.2.2.2.2.2.2.2.1
theorem dJ1_indexOf_4cfef_32 : decode cJ1_indexOf_4cfef 32 = .ok (.iload_n 3, 1) := edJ1_indexOf_4cfef_0.2.2.2.2.2.2.2.2.2.2.2.2.2.2.2.2.2.2.1
theorem dJ1_indexOf_4cfef_33 : decode cJ1_indexOf_4cfef 33 = .ok (.invokestatic 95, 3) := edJ1_indexOf_4cfef_0.2.2.2.2.2.2.2.2.2.2.2.2.2.2.2.2.2.2.2.1
theorem dJ1_indexOf_4cfef_36 : decode cJ1_indexOf_4cfef 36 = .ok (.ireturn, 1) := edJ1_indexOf_4cfef_0.2.2.2.2.2.2.2.2.2.2.2.2.2.2.2.2.2.2.2.2
theorem edJ1_indexOfChar_4cfef_0 : (decode cJ1_indexOfChar_4cfef 0 = .ok (.iload_n 1, 1)) ∧ (decode cJ1_indexOfChar_4cfef 1 = .ok (.i2b, 1)) ∧ (decode cJ1_indexOfChar_4cfef 2 = .ok (.istore 4, 2)) ∧ (decode cJ1_indexOfChar_4cfef 4 = .ok (.iload_n 2, 1)) ∧ (decode cJ1_indexOfChar_4cfef 5 = .ok (.istore 5, 2)) ∧ (decode cJ1_indexOfChar_4cfef 7 = .ok (.iload 5, 2)) ∧ (decode cJ1_indexOfChar_4cfef 9 = .ok (.iload_n 3, 1)) ∧ (decode cJ1_indexOfChar_4cfef 10 = .ok (.if_icmp .ge 21, 3)) ∧ (decode cJ1_indexOfChar_4cfef 13 = .ok (.aload_n 0, 1)) ∧ (decode cJ1_indexOfChar_4cfef 14 = .ok (.iload 5, 2)) ∧ (decode cJ1_indexOfChar_4cfef 16 = .ok (.baload, 1)) ∧ (decode cJ1_indexOfChar_4cfef 17 = .ok (.iload 4, 2)) ∧ (decode cJ1_indexOfChar_4cfef 19 = .ok (.if_icmp .ne 6, 3)) ∧ (decode cJ1_indexOfChar_4cfef 22 = .ok (.iload 5, 2)) ∧ (decode cJ1_indexOfChar_4cfef 24 = .ok (.ireturn, 1)) ∧ (decode cJ1_indexOfChar_4cfef 25 = .ok (.iinc 5 1, 3)) ∧ (decode cJ1_indexOfChar_4cfef 28 = .ok (.goto (-21), 3)) ∧ (decode cJ1_indexOfChar_4cfef 31 = .ok (.iconst (-1), 1)) ∧ (decode cJ1_indexOfChar_4cfef 32 = .ok (.ireturn, 1)) := by decide +kernel
theorem dJ1_indexOfChar_4cfef_0 : decode cJ1_indexOfChar_4cfef 0 = .ok (.iload_n 1, 1) := edJ1_indexOfChar_4cfef_0.1
theorem dJ1_indexOfChar_4cfef_1 : decode cJ1_indexOfChar_4cfef 1 = .ok (.i2b, 1) := edJ1_indexOfChar_4cfef_0.2.1
theorem dJ1_indexOfChar_4cfef_2 : decode cJ1_indexOfChar_4cfef 2 = .ok (.istore 4, 2) := edJ1_indexOfChar_4cfef_0.2.2.1
theorem dJ1_indexOfChar_4cfef_4 : decode cJ1_indexOfChar_4cfef 4 = .ok (.iload_n 2, 1) := edJ1_indexOfChar_4cfef_0.2.2.2.1
theorem dJ1_indexOfChar_4cfef_5 : decode cJ1_indexOfChar_4cfef 5 = .ok (.istore 5, 2) := edJ1_indexOfChar_4cfef_0.2.2.2.2.1
theorem dJ1_indexOfChar_4cfef_7 : decode cJ1_indexOfChar_4cfef 7 = .ok (.iload 5, 2) := edJ1_indexOfChar_4cfef_0.2.2.2.2.2.1
theorem dJ1_indexOfChar_4cfef_9 : decode cJ1_indexOfChar_4cfef 9 = .ok (.iload_n 3, 1) := edJ1_indexOfChar_4cfef_0.2.2.2.2.2.2.1
theorem dJ1_indexOfChar_4cfef_10 : decode cJ1_indexOfChar_4cfef 10 = .ok (.if_icmp .ge 21, 3) := edJ1_indexOfChar_4cfef_0.2.2.2.2.2.2.2.1
theorem dJ1_indexOfChar_4cfef_13 : decode cJ1_indexOfChar_4cfef 13 = .ok (.aload_n 0, 1) := edJ1_indexOfChar_4cfef_0.2.2.2.2.2.2.2.2.1
theorem dJ1_indexOfChar_4cfef_14 : decode cJ1_indexOfChar_4cfef 14 = .ok (.iload 5, 2) := edJ1_indexOfChar_4cfef_0.2.2.2.2.2.2.2.2.2.1
theorem dJ1_indexOfChar_4cfef_16 : decode cJ1_indexOfChar_4cfef 16 = .ok (.baload, 1) := edJ1_indexOfChar_4cfef_0.2.2.2.2.2.2.2.2.2.2.1
theorem dJ1_indexOfChar_4cfef_17 : decode cJ1_indexOfChar_4cfef 17 = .ok (.iload 4, 2) := edJ1_indexOfChar_4cfef_0.2.2.2.2.2.2.2.2.2.2.2.1
theorem dJ1_indexOfChar_4cfef_19 : decode cJ1_indexOfChar_4cfef 19 = .ok (.if_icmp .ne 6, 3) := edJ1_indexOfChar_4cfef_0.2.2.2.2.2.2.2.2.2.2.2.2.1
theorem dJ1_indexOfChar_4cfef_22 : decode cJ1_indexOfChar_4cfef 22 = .ok (.iload 5, 2) := edJ1_indexOfChar_4cfef_0.2.2.2.2.2.2.2.2.2.2.2.2.2.1
theorem dJ1_indexOfChar_4cfef_24 : decode cJ1_indexOfChar_4cfef 24 = .ok (.ireturn, 1) := edJ1_indexOfChar_4cfef_0.2.2.2.2.2.2.2.2.2.2.2.2.2.2.1
theorem dJ1_indexOfChar_4cfef_25 : decode cJ1_indexOfChar_4cfef 25 = .ok (.iinc 5 1, 3) := edJ1_indexOfChar_4cfef_0.2.2.2.2.2.2.2.2.2.2.2.2.2.2.2.1
theorem dJ1_indexOfChar_4cfef_28 : decode cJ1_indexOfChar_4cfef 28 = .ok (.goto (-21), 3) := edJ1_indexOfChar_4cfef_0.2.2.2.2.2.2.2.2.2.2.2.2.2.2.2.2.1
theorem dJ1_indexOfChar_4cfef_31 : decode cJ1_indexOfChar_4cfef 31 = .ok (.iconst (-1), 1) := edJ1_indexOfChar_4cfef_0.2.2.2.2.2.2.2.2.2.2.2.2.2.2.2.2.2.1
theorem dJ1_indexOfChar_4cfef_32 : decode cJ1_indexOfChar_4cfef 32 = .ok (.ireturn, 1) := edJ1_indexOfChar_4cfef_0.2.2.2.2.2.2.2.2.2.2.2.2.2.2.2.2.2.2
theorem edJ7_fill_53178_0 : (decode cJ7_fill_53178 0 = .ok (.iconst 0, 1)) ∧ (decode cJ7_fill_53178 1 = .ok (.istore_n 2, 1)) ∧ (decode cJ7_fill_53178 2 = .ok (.aload_n 0, 1)) ∧ (decode cJ7_fill_53178 3 = .ok (.arraylength, 1)) ∧ (decode cJ7_fill_53178 4 = .ok (.istore_n 3, 1)) ∧ (decode cJ7_fill_53178 5 = .ok (.iload_n 2, 1)) ∧ (decode cJ7_fill_53178 6 = .ok (.iload_n 3, 1)) ∧ (decode cJ7_fill_53178 7 = .ok (.if_icmp .ge 13, 3)) ∧ (decode cJ7_fill_53178 10 = .ok (.aload_n 0, 1)) ∧ (decode cJ7_fill_53178 11 = .ok (.iload_n 2, 1)) ∧ (decode cJ7_fill_53178 12 = .ok (.iload_n 1, 1)) ∧ (decode cJ7_fill_53178 13 = .ok (.iastore, 1)) ∧ (decode cJ7_fill_53178 14 = .ok (.iinc 2 1, 3)) ∧ (decode cJ7_fill_53178 17 = .ok (.goto (-12), 3)) ∧ (decode cJ7_fill_53178 20 = .ok (.return_, 1)) := by decide +kernel
theorem dJ7_fill_53178_0 : decode cJ7_fill_53178 0 = .ok (.iconst 0, 1) := edJ7_fill_53178_0.1
theorem dJ7_fill_53178_1 : decode cJ7_fill_53178 1 = .ok (.istore_n 2, 1) := edJ7_fill_53178_0.2.1
theorem dJ7_fill_53178_2 : decode cJ7_fill_53178 2 = .ok (.aload_n 0, 1) := edJ7_fill_53178_0.2.2.1
theorem dJ7_fill_53178_3 : decode cJ7_fill_53178 3 = .ok (.arraylength, 1) := edJ7_fill_53178_0.2.2.2.1
theorem dJ7_fill_53178_4 : decode cJ7_fill_53178 4 = .ok (.istore_n 3, 1) := edJ7_fill_53178_0.2.2.2.2.1
theorem dJ7_fill_53178_5 : decode cJ7_fill_53178 5 = .ok (.iload_n 2, 1) := edJ7_fill_53178_0.2.2.2.2.2.1
theorem dJ7_fill_53178_6 : decode cJ7_fill_53178 6 = .ok (.iload_n 3, 1) := edJ7_fill_53178_0.2.2.2.2.2.2.1
theorem dJ7_fill_53178_7 : decode cJ7_fill_53178 7 = .ok (.if_icmp .ge 13, 3) := edJ7_fill_53178_0.2.2.2.2.2.2.2.1
theorem dJ7_fill_53178_10 : decode cJ7_fill_53178 10 = .ok (.aload_n 0, 1) := edJ7_fill_53178_0.2.2.2.2.2.2.2.2.1
theorem dJ7_fill_53178_11 : decode cJ7_fill_53178 11 = .ok (.iload_n 2, 1) := edJ7_fill_53178_0.2.2.2.2.2.2.2.2.2.1
theorem dJ7_fill_53178_12 : decode cJ7_fill_53178 12 = .ok (.iload_n 1, 1) := edJ7_fill_53178_0.2.2.2.2.2.2.2.2.2.2.1
theorem dJ7_fill_53178_13 : decode cJ7_fill_53178 13 = .ok (.iastore, 1) := edJ7_fill_53178_0.2.2.2.2.2.2.2.2.2.2.2.1
theorem dJ7_fill_53178_14 : decode cJ7_fill_53178 14 = .ok (.iinc 2 1, 3) := edJ7_fill_53178_0.2.2.2.2.2.2.2.2.2.2.2.2.1
theorem dJ7_fill_53178_17 : decode cJ7_fill_53178 17 = .ok (.goto (-12), 3) := edJ7_fill_53178_0.2.2.2.2.2.2.2.2.2.2.2.2.2.1
theorem dJ7_fill_53178_20 : decode cJ7_fill_53178 20 = .ok (.return_, 1) := edJ7_fill_53178_0.2.2.2.2.2.2.2.2.2.2.2.2.2.2
theorem edJ7_copyOf_59c91_0 : (decode cJ7_copyOf_59c91 0 = .ok (.iload_n 1, 1)) ∧ (decode cJ7_copyOf_59c91 1 = .ok (.aload_n 0, 1)) ∧ (decode cJ7_copyOf_59c91 2 = .ok (.arraylength, 1)) ∧ (decode cJ7_copyOf_59c91 3 = .ok (.if_icmp .ne 11, 3)) ∧ (decode cJ7_copyOf_59c91 14 = .ok (.iload_n 1, 1)) ∧ (decode cJ7_copyOf_59c91 15 = .ok (.newarray .int, 2)) ∧ (decode cJ7_copyOf_59c91 17 = .ok (.astore_n 2, 1)) ∧ (decode cJ7_copyOf_59c91 18 = .ok (.aload_n 0, 1)) ∧ (decode cJ7_copyOf_59c91 19 = .ok (.iconst 0, 1)) ∧ (decode cJ7_copyOf_59c91 20 = .ok (.aload_n 2, 1)) ∧ (decode cJ7_copyOf_59c91 21 = .ok (.iconst 0, 1)) ∧ (decode cJ7_copyOf_59c91 22 = .ok (.aload_n 0, 1)) ∧ (decode cJ7_copyOf_59c91 23 = .ok (.arraylength, 1)) ∧ (decode cJ7_copyOf_59c91 24 = .ok (.iload_n 1, 1)) ∧ (decode cJ7_copyOf_59c91 25 = .ok (.invokestatic 304, 3)) ∧ (decode cJ7_copyOf_59c91 28 = .ok (.invokestatic 150, 3)) ∧ (decode cJ7_copyOf_59c91 31 = .ok (.aload_n 2, 1)) ∧ (decode cJ7_copyOf_59c91 32 = .ok (.areturn, 1)) := by decide +kernel
theorem dJ7_copyOf_59c91_0 : decode cJ7_copyOf_59c91 0 = .ok (.iload_n 1, 1) := edJ7_copyOf_59c91_0.1
theorem dJ7_copyOf_59c91_1 : decode cJ7_copyOf_59c91 1 = .ok (.aload_n 0, 1) := edJ7_copyOf_59c91_0.2.1
theorem dJ7_copyOf_59c91_2 : decode cJ7_copyOf_59c91 2 = .ok (.arraylength, 1) := edJ7_copyOf_59c91_0.2.2.1
theorem dJ7_copyOf_59c91_3 : decode cJ7_copyOf_59c91 3 = .ok (.if_icmp .ne 11, 3) := edJ7_copyOf_59c91_0.2.2.2.1
theorem dJ7_copyOf_59c91_14 : decode cJ7_copyOf_59c91 14 = .ok (.iload_n 1, 1) := edJ7_copyOf_59c91_0.2.2.2.2.1
theorem dJ7_copyOf_59c91_15 : decode cJ7_copyOf_59c91 15 = .ok (.newarray .int, 2) := edJ7_copyOf_59c91_0.2.2.2.2.2.1
theorem dJ7_copyOf_59c91_17 : decode cJ7_copyOf_59c91 17 = .ok (.astore_n 2, 1) := edJ7_copyOf_59c91_0.2.2.2.2.2.2.1
theorem dJ7_copyOf_59c91_18 : decode cJ7_copyOf_59c91 18 = .ok (.aload_n 0, 1) := edJ7_copyOf_59c91_0.2.2.2.2.2.2.2.1
theorem dJ7_copyOf_59c91_19 : decode cJ7_copyOf_59c91 19 = .ok (.iconst 0, 1) := edJ7_copyOf_59c91_0.2.2.2.2.2.2.2.2.1
theorem dJ7_copyOf_59c91_20 : decode cJ7_copyOf_59c91 20 = .ok (.aload_n 2, 1) := edJ7_copyOf_59c91_0.2.2.2.2.2.2.2.2.2.1
theorem dJ7_copyOf_59c91_21 : decode cJ7_copyOf_59c91 21 = .ok (.iconst 0, 1) := edJ7_copyOf_59c91_0.2.2.2.2.2.2.2.2.2.2.1
theorem dJ7_copyOf_59c91_22 : decode cJ7_copyOf_59c91 22 = .ok (.aload_n 0, 1) := edJ7_copyOf_59c91_0.2.2.2.2.2.2.2.2.2.2.2.1
theorem dJ7_copyOf_59c91_23 : decode cJ7_copyOf_59c91 23 = .ok (.arraylength, 1) := edJ7_copyOf_59c91_0.2.2.2.2.2.2.2.2.2.2.2.2.1
theorem dJ7_copyOf_59c91_24 : decode cJ7_copyOf_59c91 24 = .ok (.iload_n 1, 1) := edJ7_copyOf_59c91_0.2.2.2.2.2.2.2.2.2.2.2.2.2.1
theorem dJ7_copyOf_59c91_25 : decode cJ7_copyOf_59c91 25 = .ok (.invokestatic 304, 3) := edJ7_copyOf_59c91_0.2.2.2.2.2.2.2.2.2.2.2.2.2.2.1
theorem dJ7_copyOf_59c91_28 : decode cJ7_copyOf_59c91 28 = .ok (.invokestatic 150, 3) := edJ7_copyOf_59c91_0.2.2.2.2.2.2.2.2.2.2.2.2.2.2.2.1
theorem dJ7_copyOf_59c91_31 : decode cJ7_copyOf_59c91 31 = .ok (.aload_n 2, 1) := edJ7_copyOf_59c91_0.2.2.2.2.2.2.2.2.2.2.2.2.2.2.2.2.1
theorem dJ7_copyOf_59c91_32 : decode cJ7_copyOf_59c91 32 = .ok (.areturn, 1) := edJ7_copyOf_59c91_0.2.2.2.2.2.2.2.2.2.2.2.2.2.2.2.2.2
theorem edJ3_checkIndex_8e157_0 : (decode cJ3_checkIndex_8e157 0 = .ok (.iload_n 0, 1)) ∧ (decode cJ3_checkIndex_8e157 1 = .ok (.ifCond .lt 8, 3)) ∧ (decode cJ3_checkIndex_8e157 4 = .ok (.iload_n 0, 1)) ∧ (decode cJ3_checkIndex_8e157 5 = .ok (.iload_n 1, 1)) ∧ (decode cJ3_checkIndex_8e157 6 = .ok (.if_icmp .lt 10, 3)) ∧ (decode cJ3_checkIndex_8e157 16 = .ok (.iload_n 0, 1)) ∧ (decode cJ3_checkIndex_8e157 17 = .ok (.ireturn, 1)) := by decide +kernel
theorem dJ3_checkIndex_8e157_0 : decode cJ3_checkIndex_8e157 0 = .ok (.iload_n 0, 1) := edJ3_checkIndex_8e157_0.1
theorem dJ3_checkIndex_8e157_1 : decode cJ3_checkIndex_8e157 1 = .ok (.ifCond .lt 8, 3) := edJ3_checkIndex_8e157_0.2.1
theorem dJ3_checkIndex_8e157_4 : decode cJ3_checkIndex_8e157 4 = .ok (.iload_n 0, 1) := edJ3_checkIndex_8e157_0.2.2.1
theorem dJ3_checkIndex_8e157_5 : decode cJ3_checkIndex_8e157 5 = .ok (.iload_n 1, 1) := edJ3_checkIndex_8e157_0.2.2.2.1
theorem dJ3_checkIndex_8e157_6 : decode cJ3_checkIndex_8e157 6 = .ok (.if_icmp .lt 10, 3) := edJ3_checkIndex_8e157_0.2.2.2.2.1
theorem dJ3_checkIndex_8e157_16 : decode cJ3_checkIndex_8e157 16 = .ok (.iload_n 0, 1) := edJ3_checkIndex_8e157_0.2.2.2.2.2.1
theorem dJ3_checkIndex_8e157_17 : decode cJ3_checkIndex_8e157 17 = .ok (.ireturn, 1) := edJ3_checkIndex_8e157_0.2.2.2.2.2.2
theorem edL_law_0 : (decode cL_law 0 = .ok (.new 7, 3)) ∧ (decode cL_law 3 = .ok (.dup, 1)) ∧ (decode cL_law 4 = .ok (.invokespecial 9, 3)) ∧ (decode cL_law 7 = .ok (.astore_n 1, 1)) ∧ (decode cL_law 8 = .ok (.new 10, 3)) ∧ (decode cL_law 11 = .ok (.dup, 1)) ∧ (decode cL_law 12 = .ok (.invokespecial 12, 3)) ∧ (decode cL_law 15 = .ok (.astore_n 2, 1)) ∧ (decode cL_law 16 = .ok (.iconst 0, 1)) ∧ (decode cL_law 17 = .ok (.istore_n 3, 1)) ∧ (decode cL_law 18 = .ok (.iload_n 3, 1)) ∧ (decode cL_law 19 = .ok (.aload_n 0, 1)) ∧ (decode cL_law 20 = .ok (.arraylength, 1)) ∧ (decode cL_law 21 = .ok (.bipush 6, 2)) ∧ (decode cL_law 23 = .ok (.isub, 1)) ∧ (decode cL_law 24 = .ok (.if_icmp .gt 1434, 3)) ∧ (decode cL_law 27 = .ok (.aload_n 0, 1)) ∧ (decode cL_law 28 = .ok (.iload_n 3, 1)) ∧ (decode cL_law 29 = .ok (.iaload, 1)) ∧ (decode cL_law 30 = .ok (.bipush 63, 2)) ∧ (decode cL_law 32 = .ok (.iand, 1)) ∧ (decode cL_law 33 = .ok (.tableswitch 1419 0 41 #[183, 226, 259, 292, 325, 368, 401, 444, 477, 510, 533, 556, 579, 602, 615, 638, 671, 694, 717, 740, 773, 816, 829, 852, 895, 918, 931, 964, 987, 1030, 1073, 1096, 1119, 1182, 1225, 1258, 1291, 1324, 1347, 1370, 1383, 1396], 183)) ∧ (decode cL_law 216 = .ok (.aload_n 1, 1)) ∧ (decode cL_law 217 = .ok (.aload_n 0, 1)) := by decide +kernel
theorem dL_law_0 : decode cL_law 0 = .ok (.new 7, 3) := edL_law_0.1
theorem dL_law_3 : decode cL_law 3 = .ok (.dup, 1) := edL_law_0.2.1
theorem dL_law_4 : decode cL_law 4 = .ok (.invokespecial 9, 3) := edL_law_0.2.2.1
theorem dL_law_7 : decode cL_law 7 = .ok (.astore_n 1, 1) := edL_law_0.2.2.2.1
theorem dL_law_8 : decode cL_law 8 = .ok (.new 10, 3) := edL_law_0.2.2.2.2.1
theorem dL_law_11 : decode cL_law 11 = .ok (.dup, 1) := edL_law_0.2.2.2.2.2.1
theorem dL_law_12 : decode cL_law 12 = .ok (.invokespecial 12, 3) := edL_law_0.2.2.2.2.2.2.1
theorem dL_law_15 : decode cL_law 15 = .ok (.astore_n 2, 1) := edL_law_0.2.2.2.2.2.2.2.1
theorem dL_law_16 : decode cL_law 16 = .ok (.iconst 0, 1) := edL_law_0.2.2.2.2.2.2.2.2.1
theorem dL_law_17 : decode cL_law 17 = .ok (.istore_n 3, 1) := edL_law_0.2.2.2.2.2.2.2.2.2.1
theorem dL_law_18 : decode cL_law 18 = .ok (.iload_n 3, 1) := edL_law_0.2.2.2.2.2.2.2.2.2.2.1
theorem dL_law_19 : decode cL_law 19 = .ok (.aload_n 0, 1) := edL_law_0.2.2.2.2.2.2.2.2.2.2.2.1
theorem dL_law_20 : decode cL_law 20 = .ok (.arraylength, 1) := edL_law_0.2.2.2.2.2.2.2.2.2.2.2.2.1
theorem dL_law_21 : decode cL_law 21 = .ok (.bipush 6, 2) := edL_law_0.2.2.2.2.2.2.2.2.2.2.2.2.2.1
theorem dL_law_23 : decode cL_law 23 = .ok (.isub, 1) := edL_law_0.2.2.2.2.2.2.2.2.2.2.2.2.2.2.1
theorem dL_law_24 : decode cL_law 24 = .ok (.if_icmp .gt 1434, 3) := edL_law_0.2.2.2.2.2.2.2.2.2.2.2.2.2.2.2.1
theorem dL_law_27 : decode cL_law 27 = .ok (.aload_n 0, 1) := edL_law_0.2.2.2.2.2.2.2.2.2.2.2.2.2.2.2.2.1
theorem dL_law_28 : decode cL_law 28 = .ok (.iload_n 3, 1) := edL_law_0.2.2.2.2.2.2.2.2.2.2.2.2.2.2.2.2.2.1
theorem dL_law_29 : decode cL_law 29 = .ok (.iaload, 1) := edL_law_0.2.2.2.2.2.2.2.2.2.2.2.2.2.2.2.2.2.2.1
theorem dL_law_30 : decode cL_law 30 = .ok (.bipush 63, 2) := edL_law_0.2.2.2.2.2.2.2.2.2.2.2.2.2.2.2.2.2.2.2.1
theorem dL_law_32 : decode cL_law 32 = .ok (.iand, 1) := edL_law_0.2.2.2.2.2.2.2.2.2.2.2.2.2.2.2.2.2.2.2.2.1
theorem dL_law_33 : decode cL_law 33 = .ok (.tableswitch 1419 0 41 #[183, 226, 259, 292, 325, 368, 401, 444, 477, 510, 533, 556, 579, 602, 615, 638, 671, 694, 717, 740, 773, 816, 829, 852, 895, 918, 931, 964, 987, 1030, 1073, 1096, 1119, 1182, 1225, 1258, 1291, 1324, 1347, 1370, 1383, 1396], 183) := edL_law_0.2.2.2.2.2.2.2.2.2.2.2.2.2.2.2.2.2.2.2.2.2.1
theorem dL_law_216 : decode cL_law 216 = .ok (.aload_n 1, 1) := edL_law_0.2.2.2.2.2.2.2.2.2.2.2.2.2.2.2.2.2.2.2.2.2.2.1
theorem dL_law_217 : decode cL_law 217 = .ok (.aload_n 0, 1) := edL_law_0.2.2.2.2.2.2.2.2.2.2.2.2.2.2.2.2.2.2.2.2.2.2.2
theorem edL_law_218 : (decode cL_law 218 = .ok (.iload_n 3, 1)) ∧ (decode cL_law 219 = .ok (.iconst 1, 1)) ∧ (decode cL_law 220 = .ok (.iadd, 1)) ∧ (decode cL_law 221 = .ok (.iaload, 1)) ∧ (decode cL_law 222 = .ok (.aload_n 0, 1)) ∧ (decode cL_law 223 = .ok (.iload_n 3, 1)) ∧ (decode cL_law 224 = .ok (.iconst 2, 1)) ∧ (decode cL_law 225 = .ok (.iadd, 1)) ∧ (decode cL_law 226 = .ok (.iaload, 1)) ∧ (decode cL_law 227 = .ok (.aload_n 0, 1)) ∧ (decode cL_law 228 = .ok (.iload_n 3, 1)) ∧ (decode cL_law 229 = .ok (.iconst 3, 1)) ∧ (decode cL_law 230 = .ok (.iadd, 1)) ∧ (decode cL_law 231 = .ok (.iaload, 1)) ∧ (decode cL_law 232 = .ok (.invokevirtual 13, 3)) ∧ (decode cL_law 235 = .ok (.pop, 1)) ∧ (decode cL_law 236 = .ok (.aload_n 2, 1)) ∧ (decode cL_law 237 = .ok (.aload_n 0, 1)) ∧ (decode cL_law 238 = .ok (.iload_n 3, 1)) ∧ (decode cL_law 239 = .ok (.iconst 1, 1)) ∧ (decode cL_law 240 = .ok (.iadd, 1)) ∧ (decode cL_law 241 = .ok (.iaload, 1)) ∧ (decode cL_law 242 = .ok (.aload_n 0, 1)) ∧ (decode cL_law 243 = .ok (.iload_n 3, 1)) := by decide +kernel
theorem dL_law_218 : decode cL_law 218 = .ok (.iload_n 3, 1) := edL_law_218.1
theorem dL_law_219 : decode cL_law 219 = .ok (.iconst 1, 1) := edL_law_218.2.1
theorem dL_law_220 : decode cL_law 220 = .ok (.iadd, 1) := edL_law_218.2.2.1
theorem dL_law_221 : decode cL_law 221 = .ok (.iaload, 1) := edL_law_218.2.2.2.1
theorem dL_law_222 : decode cL_law 222 = .ok (.aload_n 0, 1) := edL_law_218.2.2.2.2.1
theorem dL_law_223 : decode cL_law 223 = .ok (.iload_n 3, 1) := edL_law_218.2.2.2.2.2.1
theorem dL_law_224 : decode cL_law 224 = .ok (.iconst 2, 1) := edL_law_218.2.2.2.2.2.2.1
theorem dL_law_225 : decode cL_law 225 = .ok (.iadd, 1) := edL_law_218.2.2.2.2.2.2.2.1
theorem dL_law_226 : decode cL_law 226 = .ok (.iaload, 1) := edL_law_218.2.2.2.2.2.2.2.2.1
theorem dL_law_227 : decode cL_law 227 = .ok (.aload_n 0, 1) := edL_law_218.2.2.2.2.2.2.2.2.2.1
theorem dL_law_228 : decode cL_law 228 = .ok (.iload_n 3, 1) := edL_law_218.2.2.2.2.2.2.2.2.2.2.1
theorem dL_law_229 : decode cL_law 229 = .ok (.iconst 3, 1) := edL_law_218.2.2.2.2.2.2.2.2.2.2.2.1
theorem dL_law_230 : decode cL_law 230 = .ok (.iadd, 1) := edL_law_218.2.2.2.2.2.2.2.2.2.2.2.2.1
theorem dL_law_231 : decode cL_law 231 = .ok (.iaload, 1) := edL_law_218.2.2.2.2.2.2.2.2.2.2.2.2.2.1
theorem dL_law_232 : decode cL_law 232 = .ok (.invokevirtual 13, 3) := edL_law_218.2.2.2.2.2.2.2.2.2.2.2.2.2.2.1
theorem dL_law_235 : decode cL_law 235 = .ok (.pop, 1) := edL_law_218.2.2.2.2.2.2.2.2.2.2.2.2.2.2.2.1
theorem dL_law_236 : decode cL_law 236 = .ok (.aload_n 2, 1) := edL_law_218.2.2.2.2.2.2.2.2.2.2.2.2.2.2.2.2.1
theorem dL_law_237 : decode cL_law 237 = .ok (.aload_n 0, 1) := edL_law_218.2.2.2.2.2.2.2.2.2.2.2.2.2.2.2.2.2.1
theorem dL_law_238 : decode cL_law 238 = .ok (.iload_n 3, 1) := edL_law_218.2.2.2.2.2.2.2.2.2.2.2.2.2.2.2.2.2.2.1
theorem dL_law_239 : decode cL_law 239 = .ok (.iconst 1, 1) := edL_law_218.2.2.2.2.2.2.2.2.2.2.2.2.2.2.2.2.2.2.2.1
theorem dL_law_240 : decode cL_law 240 = .ok (.iadd, 1) := edL_law_218.2.2.2.2.2.2.2.2.2.2.2.2.2.2.2.2.2.2.2.2.1
theorem dL_law_241 : decode cL_law 241 = .ok (.iaload, 1) := edL_law_218.2.2.2.2.2.2.2.2.2.2.2.2.2.2.2.2.2.2.2.2.2.1
theorem dL_law_242 : decode cL_law 242 = .ok (.aload_n 0, 1) := edL_law_218.2.2.2.2.2.2.2.2.2.2.2.2.2.2.2.2.2.2.2.2.2.2.1
theorem dL_law_243 : decode cL_law 243 = .ok (.iload_n 3, 1) := edL_law_218.2.2.2.2.2.2.2.2.2.2.2.2.2.2.2.2.2.2.2.2.2.2.2
theorem edL_law_244 : (decode cL_law 244 = .ok (.iconst 2, 1)) ∧ (decode cL_law 245 = .ok (.iadd, 1)) ∧ (decode cL_law 246 = .ok (.iaload, 1)) ∧ (decode cL_law 247 = .ok (.aload_n 0, 1)) ∧ (decode cL_law 248 = .ok (.iload_n 3, 1)) ∧ (decode cL_law 249 = .ok (.iconst 3, 1)) ∧ (decode cL_law 250 = .ok (.iadd, 1)) ∧ (decode cL_law 251 = .ok (.iaload, 1)) ∧ (decode cL_law 252 = .ok (.invokevirtual 17, 3)) ∧ (decode cL_law 255 = .ok (.pop, 1)) ∧ (decode cL_law 256 = .ok (.goto 1196, 3)) ∧ (decode cL_law 259 = .ok (.aload_n 1, 1)) ∧ (decode cL_law 260 = .ok (.aload_n 0, 1)) ∧ (decode cL_law 261 = .ok (.iload_n 3, 1)) ∧ (decode cL_law 262 = .ok (.iconst 1, 1)) ∧ (decode cL_law 263 = .ok (.iadd, 1)) ∧ (decode cL_law 264 = .ok (.iaload, 1)) ∧ (decode cL_law 265 = .ok (.aload_n 0, 1)) ∧ (decode cL_law 266 = .ok (.iload_n 3, 1)) ∧ (decode cL_law 267 = .ok (.iconst 2, 1)) ∧ (decode cL_law 268 = .ok (.iadd, 1)) ∧ (decode cL_law 269 = .ok (.iaload, 1)) ∧ (decode cL_law 270 = .ok (.invokevirtual 18, 3)) ∧ (decode cL_law 273 = .ok (.aload_n 2, 1)) := by decide +kernel
theorem dL_law_244 : decode cL_law 244 = .ok (.iconst 2, 1) := edL_law_244.1
theorem dL_law_245 : decode cL_law 245 = .ok (.iadd, 1) := edL_law_244.2.1
theorem dL_law_246 : decode cL_law 246 = .ok (.iaload, 1) := edL_law_244.2.2.1
theorem dL_law_247 : decode cL_law 247 = .ok (.aload_n 0, 1) := edL_law_244.2.2.2.1
theorem dL_law_248 : decode cL_law 248 = .ok (.iload_n 3, 1) := edL_law_244.2.2.2.2.1
theorem dL_law_249 : decode cL_law 249 = .ok (.iconst 3, 1) := edL_law_244.2.2.2.2.2.1
theorem dL_law_250 : decode cL_law 250 = .ok (.iadd, 1) := edL_law_244.2.2.2.2.2.2.1
theorem dL_law_251 : decode cL_law 251 = .ok (.iaload, 1) := edL_law_244.2.2.2.2.2.2.2.1
theorem dL_law_252 : decode cL_law 252 = .ok (.invokevirtual 17, 3) := edL_law_244.2.2.2.2.2.2.2.2.1
theorem dL_law_255 : decode cL_law 255 = .ok (.pop, 1) := edL_law_244.2.2.2.2.2.2.2.2.2.1
theorem dL_law_256 : decode cL_law 256 = .ok (.goto 1196, 3) := edL_law_244.2.2.2.2.2.2.2.2.2.2.1
theorem dL_law_259 : decode cL_law 259 = .ok (.aload_n 1, 1) := edL_law_244.2.2.2.2.2.2.2.2.2.2.2.1
theorem dL_law_260 : decode cL_law 260 = .ok (.aload_n 0, 1) := edL_law_244.2.2.2.2.2.2.2.2.2.2.2.2.1
theorem dL_law_261 : decode cL_law 261 = .ok (.iload_n 3, 1) := edL_law_244.2.2.2.2.2.2.2.2.2.2.2.2.2.1
theorem dL_law_262 : decode cL_law 262 = .ok (.iconst 1, 1) := edL_law_244.2.2.2.2.2.2.2.2.2.2.2.2.2.2.1
theorem dL_law_263 : decode cL_law 263 = .ok (.iadd, 1) := edL_law_244.2.2.2.2.2.2.2.2.2.2.2.2.2.2.2.1
theorem dL_law_264 : decode cL_law 264 = .ok (.iaload, 1) := edL_law_244.2.2.2.2.2.2.2.2.2.2.2.2.2.2.2.2.1
theorem dL_law_265 : decode cL_law 265 = .ok (.aload_n 0, 1) := edL_law_244.2.2.2.2.2.2.2.2.2.2.2.2.2.2.2.2.2.1
theorem dL_law_266 : decode cL_law 266 = .ok (.iload_n 3, 1) := edL_law_244.2.2.2.2.2.2.2.2.2.2.2.2.2.2.2.2.2.2.1
theorem dL_law_267 : decode cL_law 267 = .ok (.iconst 2, 1) := edL_law_244.2.2.2.2.2.2.2.2.2.2.2.2.2.2.2.2.2.2.2.1
theorem dL_law_268 : decode cL_law 268 = .ok (.iadd, 1) := edL_law_244.2.2.2.2.2.2.2.2.2.2.2.2.2.2.2.2.2.2.2.2.1
theorem dL_law_269 : decode cL_law 269 = .ok (.iaload, 1) := edL_law_244.2.2.2.2.2.2.2.2.2.2.2.2.2.2.2.2.2.2.2.2.2.1
theorem dL_law_270 : decode cL_law 270 = .ok (.invokevirtual 18, 3) := edL_law_244.2.2.2.2.2.2.2.2.2.2.2.2.2.2.2.2.2.2.2.2.2.2.1
theorem dL_law_273 : decode cL_law 273 = .ok (.aload_n 2, 1) := edL_law_244.2.2.2.2.2.2.2.2.2.2.2.2.2.2.2.2.2.2.2.2.2.2.2
theorem edL_law_274 : (decode cL_law 274 = .ok (.aload_n 0, 1)) ∧ (decode cL_law 275 = .ok (.iload_n 3, 1)) ∧ (decode cL_law 276 = .ok (.iconst 1, 1)) ∧ (decode cL_law 277 = .ok (.iadd, 1)) ∧ (decode cL_law 278 = .ok (.iaload, 1)) ∧ (decode cL_law 279 = .ok (.aload_n 0, 1)) ∧ (decode cL_law 280 = .ok (.iload_n 3, 1)) ∧ (decode cL_law 281 = .ok (.iconst 2, 1)) ∧ (decode cL_law 282 = .ok (.iadd, 1)) ∧ (decode cL_law 283 = .ok (.iaload, 1)) ∧ (decode cL_law 284 = .ok (.invokevirtual 22, 3)) ∧ (decode cL_law 287 = .ok (.if_icmp .eq 1165, 3)) ∧ (decode cL_law 290 = .ok (.iconst 0, 1)) ∧ (decode cL_law 291 = .ok (.ireturn, 1)) ∧ (decode cL_law 292 = .ok (.aload_n 1, 1)) ∧ (decode cL_law 293 = .ok (.aload_n 0, 1)) ∧ (decode cL_law 294 = .ok (.iload_n 3, 1)) ∧ (decode cL_law 295 = .ok (.iconst 1, 1)) ∧ (decode cL_law 296 = .ok (.iadd, 1)) ∧ (decode cL_law 297 = .ok (.iaload, 1)) ∧ (decode cL_law 298 = .ok (.aload_n 0, 1)) ∧ (decode cL_law 299 = .ok (.iload_n 3, 1)) ∧ (decode cL_law 300 = .ok (.iconst 2, 1)) ∧ (decode cL_law 301 = .ok (.iadd, 1)) := by decide +kernel
theorem dL_law_274 : decode cL_law 274 = .ok (.aload_n 0, 1) := edL_law_274.1
theorem dL_law_275 : decode cL_law 275 = .ok (.iload_n 3, 1) := edL_law_274.2.1
theorem dL_law_276 : decode cL_law 276 = .ok (.iconst 1, 1) := edL_law_274.2.2.1
theorem dL_law_277 : decode cL_law 277 = .ok (.iadd, 1) := edL_law_274.2.2.2.1
theorem dL_law_278 : decode cL_law 278 = .ok (.iaload, 1) := edL_law_274.2.2.2.2.1
theorem dL_law_279 : decode cL_law 279 = .ok (.aload_n 0, 1) := edL_law_274.2.2.2.2.2.1
theorem dL_law_280 : decode cL_law 280 = .ok (.iload_n 3, 1) := edL_law_274.2.2.2.2.2.2.1
theorem dL_law_281 : decode cL_law 281 = .ok (.iconst 2, 1) := edL_law_274.2.2.2.2.2.2.2.1
theorem dL_law_282 : decode cL_law 282 = .ok (.iadd, 1) := edL_law_274.2.2.2.2.2.2.2.2.1
theorem dL_law_283 : decode cL_law 283 = .ok (.iaload, 1) := edL_law_274.2.2.2.2.2.2.2.2.2.1
theorem dL_law_284 : decode cL_law 284 = .ok (.invokevirtual 22, 3) := edL_law_274.2.2.2.2.2.2.2.2.2.2.1
theorem dL_law_287 : decode cL_law 287 = .ok (.if_icmp .eq 1165, 3) := edL_law_274.2.2.2.2.2.2.2.2.2.2.2.1
theorem dL_law_290 : decode cL_law 290 = .ok (.iconst 0, 1) := edL_law_274.2.2.2.2.2.2.2.2.2.2.2.2.1
theorem dL_law_291 : decode cL_law 291 = .ok (.ireturn, 1) := edL_law_274.2.2.2.2.2.2.2.2.2.2.2.2.2.1
theorem dL_law_292 : decode cL_law 292 = .ok (.aload_n 1, 1) := edL_law_274.2.2.2.2.2.2.2.2.2.2.2.2.2.2.1
theorem dL_law_293 : decode cL_law 293 = .ok (.aload_n 0, 1) := edL_law_274.2.2.2.2.2.2.2.2.2.2.2.2.2.2.2.1
theorem dL_law_294 : decode cL_law 294 = .ok (.iload_n 3, 1) := edL_law_274.2.2.2.2.2.2.2.2.2.2.2.2.2.2.2.2.1
theorem dL_law_295 : decode cL_law 295 = .ok (.iconst 1, 1) := edL_law_274.2.2.2.2.2.2.2.2.2.2.2.2.2.2.2.2.2.1
theorem dL_law_296 : decode cL_law 296 = .ok (.iadd, 1) := edL_law_274.2.2.2.2.2.2.2.2.2.2.2.2.2.2.2.2.2.2.1
theorem dL_law_297 : decode cL_law 297 = .ok (.iaload, 1) := edL_law_274.2.2.2.2.2.2.2.2.2.2.2.2.2.2.2.2.2.2.2.1
theorem dL_law_298 : decode cL_law 298 = .ok (.aload_n 0, 1) := edL_law_274.2.2.2.2.2.2.2.2.2.2.2.2.2.2.2.2.2.2.2.2.1
theorem dL_law_299 : decode cL_law 299 = .ok (.iload_n 3, 1) := edL_law_274.2.2.2.2.2.2.2.2.2.2.2.2.2.2.2.2.2.2.2.2.2.1
theorem dL_law_300 : decode cL_law 300 = .ok (.iconst 2, 1) := edL_law_274.2.2.2.2.2.2.2.2.2.2.2.2.2.2.2.2.2.2.2.2.2.2.1
theorem dL_law_301 : decode cL_law 301 = .ok (.iadd, 1) := edL_law_274.2.2.2.2.2.2.2.2.2.2.2.2.2.2.2.2.2.2.2.2.2.2.2
theorem edL_law_302 : (decode cL_law 302 = .ok (.iaload, 1)) ∧ (decode cL_law 303 = .ok (.invokevirtual 23, 3)) ∧ (decode cL_law 306 = .ok (.pop, 1)) ∧ (decode cL_law 307 = .ok (.aload_n 2, 1)) ∧ (decode cL_law 308 = .ok (.aload_n 0, 1)) ∧ (decode cL_law 309 = .ok (.iload_n 3, 1)) ∧ (decode cL_law 310 = .ok (.iconst 1, 1)) ∧ (decode cL_law 311 = .ok (.iadd, 1)) ∧ (decode cL_law 312 = .ok (.iaload, 1)) ∧ (decode cL_law 313 = .ok (.aload_n 0, 1)) ∧ (decode cL_law 314 = .ok (.iload_n 3, 1)) ∧ (decode cL_law 315 = .ok (.iconst 2, 1)) ∧ (decode cL_law 316 = .ok (.iadd, 1)) ∧ (decode cL_law 317 = .ok (.iaload, 1)) ∧ (decode cL_law 318 = .ok (.invokevirtual 26, 3)) ∧ (decode cL_law 321 = .ok (.pop, 1)) ∧ (decode cL_law 322 = .ok (.goto 1130, 3)) ∧ (decode cL_law 325 = .ok (.aload_n 1, 1)) ∧ (decode cL_law 326 = .ok (.aload_n 0, 1)) ∧ (decode cL_law 327 = .ok (.iload_n 3, 1)) ∧ (decode cL_law 328 = .ok (.iconst 1, 1)) ∧ (decode cL_law 329 = .ok (.iadd, 1)) ∧ (decode cL_law 330 = .ok (.iaload, 1)) ∧ (decode cL_law 331 = .ok (.aload_n 0, 1)) := by decide +kernel
theorem dL_law_302 : decode cL_law 302 = .ok (.iaload, 1) := edL_law_302.1
theorem dL_law_303 : decode cL_law 303 = .ok (.invokevirtual 23, 3) := edL_law_302.2.1
theorem dL_law_306 : decode cL_law 306 = .ok (.pop, 1) := edL_law_302.2.2.1
theorem dL_law_307 : decode cL_law 307 = .ok (.aload_n 2, 1) := edL_law_302.2.2.2.1
theorem dL_law_308 : decode cL_law 308 = .ok (.aload_n 0, 1) := edL_law_302.2.2.2.2.1
theorem dL_law_309 : decode cL_law 309 = .ok (.iload_n 3, 1) := edL_law_302.2.2.2.2.2.1
theorem dL_law_310 : decode cL_law 310 = .ok (.iconst 1, 1) := edL_law_302.2.2.2.2.2.2.1
theorem dL_law_311 : decode cL_law 311 = .ok (.iadd, 1) := edL_law_302.2.2.2.2.2.2.2.1
theorem dL_law_312 : decode cL_law 312 = .ok (.iaload, 1) := edL_law_302.2.2.2.2.2.2.2.2.1
theorem dL_law_313 : decode cL_law 313 = .ok (.aload_n 0, 1) := edL_law_302.2.2.2.2.2.2.2.2.2.1
theorem dL_law_314 : decode cL_law 314 = .ok (.iload_n 3, 1) := edL_law_302.2.2.2.2.2.2.2.2.2.2.1
theorem dL_law_315 : decode cL_law 315 = .ok (.iconst 2, 1) := edL_law_302.2.2.2.2.2.2.2.2.2.2.2.1
theorem dL_law_316 : decode cL_law 316 = .ok (.iadd, 1) := edL_law_302.2.2.2.2.2.2.2.2.2.2.2.2.1
theorem dL_law_317 : decode cL_law 317 = .ok (.iaload, 1) := edL_law_302.2.2.2.2.2.2.2.2.2.2.2.2.2.1
theorem dL_law_318 : decode cL_law 318 = .ok (.invokevirtual 26, 3) := edL_law_302.2.2.2.2.2.2.2.2.2.2.2.2.2.2.1
theorem dL_law_321 : decode cL_law 321 = .ok (.pop, 1) := edL_law_302.2.2.2.2.2.2.2.2.2.2.2.2.2.2.2.1
theorem dL_law_322 : decode cL_law 322 = .ok (.goto 1130, 3) := edL_law_302.2.2.2.2.2.2.2.2.2.2.2.2.2.2.2.2.1
theorem dL_law_325 : decode cL_law 325 = .ok (.aload_n 1, 1) := edL_law_302.2.2.2.2.2.2.2.2.2.2.2.2.2.2.2.2.2.1
theorem dL_law_326 : decode cL_law 326 = .ok (.aload_n 0, 1) := edL_law_302.2.2.2.2.2.2.2.2.2.2.2.2.2.2.2.2.2.2.1
theorem dL_law_327 : decode cL_law 327 = .ok (.iload_n 3, 1) := edL_law_302.2.2.2.2.2.2.2.2.2.2.2.2.2.2.2.2.2.2.2.1
theorem dL_law_328 : decode cL_law 328 = .ok (.iconst 1, 1) := edL_law_302.2.2.2.2.2.2.2.2.2.2.2.2.2.2.2.2.2.2.2.2.1
theorem dL_law_329 : decode cL_law 329 = .ok (.iadd, 1) := edL_law_302.2.2.2.2.2.2.2.2.2.2.2.2.2.2.2.2.2.2.2.2.2.1
theorem dL_law_330 : decode cL_law 330 = .ok (.iaload, 1) := edL_law_302.2.2.2.2.2.2.2.2.2.2.2.2.2.2.2.2.2.2.2.2.2.2.1
theorem dL_law_331 : decode cL_law 331 = .ok (.aload_n 0, 1) := edL_law_302.2.2.2.2.2.2.2.2.2.2.2.2.2.2.2.2.2.2.2.2.2.2.2
theorem edL_law_332 : (decode cL_law 332 = .ok (.iload_n 3, 1)) ∧ (decode cL_law 333 = .ok (.iconst 2, 1)) ∧ (decode cL_law 334 = .ok (.iadd, 1)) ∧ (decode cL_law 335 = .ok (.iaload, 1)) ∧ (decode cL_law 336 = .ok (.invokevirtual 27, 3)) ∧ (decode cL_law 339 = .ok (.pop, 1)) ∧ (decode cL_law 340 = .ok (.aload_n 2, 1)) ∧ (decode cL_law 341 = .ok (.aload_n 0, 1)) ∧ (decode cL_law 342 = .ok (.iload_n 3, 1)) ∧ (decode cL_law 343 = .ok (.iconst 1, 1)) ∧ (decode cL_law 344 = .ok (.iadd, 1)) ∧ (decode cL_law 345 = .ok (.iaload, 1)) ∧ (decode cL_law 346 = .ok (.aload_n 0, 1)) ∧ (decode cL_law 347 = .ok (.iload_n 3, 1)) ∧ (decode cL_law 348 = .ok (.iconst 2, 1)) ∧ (decode cL_law 349 = .ok (.iadd, 1)) ∧ (decode cL_law 350 = .ok (.iaload, 1)) ∧ (decode cL_law 351 = .ok (.invokevirtual 30, 3)) ∧ (decode cL_law 354 = .ok (.pop, 1)) ∧ (decode cL_law 355 = .ok (.goto 1097, 3)) ∧ (decode cL_law 358 = .ok (.aload_n 1, 1)) ∧ (decode cL_law 359 = .ok (.aload_n 0, 1)) ∧ (decode cL_law 360 = .ok (.iload_n 3, 1)) ∧ (decode cL_law 361 = .ok (.iconst 1, 1)) := by decide +kernel
theorem dL_law_332 : decode cL_law 332 = .ok (.iload_n 3, 1) := edL_law_332.1
theorem dL_law_333 : decode cL_law 333 = .ok (.iconst 2, 1) := edL_law_332.2.1
theorem dL_law_334 : decode cL_law 334 = .ok (.iadd, 1) := edL_law_332.2.2.1
theorem dL_law_335 : decode cL_law 335 = .ok (.iaload, 1) := edL_law_332.2.2.2.1
theorem dL_law_336 : decode cL_law 336 = .ok (.invokevirtual 27, 3) := edL_law_332.2.2.2.2.1
theorem dL_law_339 : decode cL_law 339 = .ok (.pop, 1) := edL_law_332.2.2.2.2.2.1
theorem dL_law_340 : decode cL_law 340 = .ok (.aload_n 2, 1) := edL_law_332.2.2.2.2.2.2.1
theorem dL_law_341 : decode cL_law 341 = .ok (.aload_n 0, 1) := edL_law_332.2.2.2.2.2.2.2.1
theorem dL_law_342 : decode cL_law 342 = .ok (.iload_n 3, 1) := edL_law_332.2.2.2.2.2.2.2.2.1
theorem dL_law_343 : decode cL_law 343 = .ok (.iconst 1, 1) := edL_law_332.2.2.2.2.2.2.2.2.2.1
theorem dL_law_344 : decode cL_law 344 = .ok (.iadd, 1) := edL_law_332.2.2.2.2.2.2.2.2.2.2.1
theorem dL_law_345 : decode cL_law 345 = .ok (.iaload, 1) := edL_law_332.2.2.2.2.2.2.2.2.2.2.2.1
theorem dL_law_346 : decode cL_law 346 = .ok (.aload_n 0, 1) := edL_law_332.2.2.2.2.2.2.2.2.2.2.2.2.1
theorem dL_law_347 : decode cL_law 347 = .ok (.iload_n 3, 1) := edL_law_332.2.2.2.2.2.2.2.2.2.2.2.2.2.1
theorem dL_law_348 : decode cL_law 348 = .ok (.iconst 2, 1) := edL_law_332.2.2.2.2.2.2.2.2.2.2.2.2.2.2.1
theorem dL_law_349 : decode cL_law 349 = .ok (.iadd, 1) := edL_law_332.2.2.2.2.2.2.2.2.2.2.2.2.2.2.2.1
theorem dL_law_350 : decode cL_law 350 = .ok (.iaload, 1) := edL_law_332.2.2.2.2.2.2.2.2.2.2.2.2.2.2.2.2.1
theorem dL_law_351 : decode cL_law 351 = .ok (.invokevirtual 30, 3) := edL_law_332.2.2.2.2.2.2.2.2.2.2.2.2.2.2.2.2.2.1
theorem dL_law_354 : decode cL_law 354 = .ok (.pop, 1) := edL_law_332.2.2.2.2.2.2.2.2.2.2.2.2.2.2.2.2.2.2.1
theorem dL_law_355 : decode cL_law 355 = .ok (.goto 1097, 3) := edL_law_332.2.2.2.2.2.2.2.2.2.2.2.2.2.2.2.2.2.2.2.1
theorem dL_law_358 : decode cL_law 358 = .ok (.aload_n 1, 1) := edL_law_332.2.2.2.2.2.2.2.2.2.2.2.2.2.2.2.2.2.2.2.2.1
theorem dL_law_359 : decode cL_law 359 = .ok (.aload_n 0, 1) := edL_law_332.2.2.2.2.2.2.2.2.2.2.2.2.2.2.2.2.2.2.2.2.2.1
theorem dL_law_360 : decode cL_law 360 = .ok (.iload_n 3, 1) := edL_law_332.2.2.2.2.2.2.2.2.2.2.2.2.2.2.2.2.2.2.2.2.2.2.1
theorem dL_law_361 : decode cL_law 361 = .ok (.iconst 1, 1) := edL_law_332.2.2.2.2.2.2.2.2.2.2.2.2.2.2.2.2.2.2.2.2.2.2.2
theorem edL_law_362 : (decode cL_law 362 = .ok (.iadd, 1)) ∧ (decode cL_law 363 = .ok (.iaload, 1)) ∧ (decode cL_law 364 = .ok (.aload_n 0, 1)) ∧ (decode cL_law 365 = .ok (.iload_n 3, 1)) ∧ (decode cL_law 366 = .ok (.iconst 2, 1)) ∧ (decode cL_law 367 = .ok (.iadd, 1)) ∧ (decode cL_law 368 = .ok (.iaload, 1)) ∧ (decode cL_law 369 = .ok (.aload_n 0, 1)) ∧ (decode cL_law 370 = .ok (.iload_n 3, 1)) ∧ (decode cL_law 371 = .ok (.iconst 3, 1)) ∧ (decode cL_law 372 = .ok (.iadd, 1)) ∧ (decode cL_law 373 = .ok (.iaload, 1)) ∧ (decode cL_law 374 = .ok (.invokevirtual 31, 3)) ∧ (decode cL_law 377 = .ok (.pop, 1)) ∧ (decode cL_law 378 = .ok (.aload_n 2, 1)) ∧ (decode cL_law 379 = .ok (.aload_n 0, 1)) ∧ (decode cL_law 380 = .ok (.iload_n 3, 1)) ∧ (decode cL_law 381 = .ok (.iconst 1, 1)) ∧ (decode cL_law 382 = .ok (.iadd, 1)) ∧ (decode cL_law 383 = .ok (.iaload, 1)) ∧ (decode cL_law 384 = .ok (.aload_n 0, 1)) ∧ (decode cL_law 385 = .ok (.iload_n 3, 1)) ∧ (decode cL_law 386 = .ok (.iconst 2, 1)) ∧ (decode cL_law 387 = .ok (.iadd, 1)) := by decide +kernel
theorem dL_law_362 : decode cL_law 362 = .ok (.iadd, 1) := edL_law_362.1
theorem dL_law_363 : decode cL_law 363 = .ok (.iaload, 1) := edL_law_362.2.1
theorem dL_law_364 : decode cL_law 364 = .ok (.aload_n 0, 1) := edL_law_362.2.2.1
theorem dL_law_365 : decode cL_law 365 = .ok (.iload_n 3, 1) := edL_law_362.2.2.2.1
theorem dL_law_366 : decode cL_law 366 = .ok (.iconst 2, 1) := edL_law_362.2.2.2.2.1
theorem dL_law_367 : decode cL_law 367 = .ok (.iadd, 1) := edL_law_362.2.2.2.2.2.1
theorem dL_law_368 : decode cL_law 368 = .ok (.iaload, 1) := edL_law_362.2.2.2.2.2.2.1
theorem dL_law_369 : decode cL_law 369 = .ok (.aload_n 0, 1) := edL_law_362.2.2.2.2.2.2.2.1
theorem dL_law_370 : decode cL_law 370 = .ok (.iload_n 3, 1) := edL_law_362.2.2.2.2.2.2.2.2.1
theorem dL_law_371 : decode cL_law 371 = .ok (.iconst 3, 1) := edL_law_362.2.2.2.2.2.2.2.2.2.1
theorem dL_law_372 : decode cL_law 372 = .ok (.iadd, 1) := edL_law_362.2.2.2.2.2.2.2.2.2.2.1
theorem dL_law_373 : decode cL_law 373 = .ok (.iaload, 1) := edL_law_362.2.2.2.2.2.2.2.2.2.2.2.1
theorem dL_law_374 : decode cL_law 374 = .ok (.invokevirtual 31, 3) := edL_law_362.2.2.2.2.2.2.2.2.2.2.2.2.1
theorem dL_law_377 : decode cL_law 377 = .ok (.pop, 1) := edL_law_362.2.2.2.2.2.2.2.2.2.2.2.2.2.1
theorem dL_law_378 : decode cL_law 378 = .ok (.aload_n 2, 1) := edL_law_362.2.2.2.2.2.2.2.2.2.2.2.2.2.2.1
theorem dL_law_379 : decode cL_law 379 = .ok (.aload_n 0, 1) := edL_law_362.2.2.2.2.2.2.2.2.2.2.2.2.2.2.2.1
theorem dL_law_380 : decode cL_law 380 = .ok (.iload_n 3, 1) := edL_law_362.2.2.2.2.2.2.2.2.2.2.2.2.2.2.2.2.1
theorem dL_law_381 : decode cL_law 381 = .ok (.iconst 1, 1) := edL_law_362.2.2.2.2.2.2.2.2.2.2.2.2.2.2.2.2.2.1
theorem dL_law_382 : decode cL_law 382 = .ok (.iadd, 1) := edL_law_362.2.2.2.2.2.2.2.2.2.2.2.2.2.2.2.2.2.2.1
theorem dL_law_383 : decode cL_law 383 = .ok (.iaload, 1) := edL_law_362.2.2.2.2.2.2.2.2.2.2.2.2.2.2.2.2.2.2.2.1
theorem dL_law_384 : decode cL_law 384 = .ok (.aload_n 0, 1) := edL_law_362.2.2.2.2.2.2.2.2.2.2.2.2.2.2.2.2.2.2.2.2.1
theorem dL_law_385 : decode cL_law 385 = .ok (.iload_n 3, 1) := edL_law_362.2.2.2.2.2.2.2.2.2.2.2.2.2.2.2.2.2.2.2.2.2.1
theorem dL_law_386 : decode cL_law 386 = .ok (.iconst 2, 1) := edL_law_362.2.2.2.2.2.2.2.2.2.2.2.2.2.2.2.2.2.2.2.2.2.2.1
theorem dL_law_387 : decode cL_law 387 = .ok (.iadd, 1) := edL_law_362.2.2.2.2.2.2.2.2.2.2.2.2.2.2.2.2.2.2.2.2.2.2.2
theorem edL_law_388 : (decode cL_law 388 = .ok (.iaload, 1)) ∧ (decode cL_law 389 = .ok (.aload_n 0, 1)) ∧ (decode cL_law 390 = .ok (.iload_n 3, 1)) ∧ (decode cL_law 391 = .ok (.iconst 3, 1)) ∧ (decode cL_law 392 = .ok (.iadd, 1)) ∧ (decode cL_law 393 = .ok (.iaload, 1)) ∧ (decode cL_law 394 = .ok (.invokevirtual 34, 3)) ∧ (decode cL_law 397 = .ok (.pop, 1)) ∧ (decode cL_law 398 = .ok (.goto 1054, 3)) ∧ (decode cL_law 401 = .ok (.aload_n 1, 1)) ∧ (decode cL_law 402 = .ok (.aload_n 0, 1)) ∧ (decode cL_law 403 = .ok (.iload_n 3, 1)) ∧ (decode cL_law 404 = .ok (.iconst 1, 1)) ∧ (decode cL_law 405 = .ok (.iadd, 1)) ∧ (decode cL_law 406 = .ok (.iaload, 1)) ∧ (decode cL_law 407 = .ok (.aload_n 0, 1)) ∧ (decode cL_law 408 = .ok (.iload_n 3, 1)) ∧ (decode cL_law 409 = .ok (.iconst 2, 1)) ∧ (decode cL_law 410 = .ok (.iadd, 1)) ∧ (decode cL_law 411 = .ok (.iaload, 1)) ∧ (decode cL_law 412 = .ok (.invokevirtual 35, 3)) ∧ (decode cL_law 415 = .ok (.pop, 1)) ∧ (decode cL_law 416 = .ok (.aload_n 2, 1)) ∧ (decode cL_law 417 = .ok (.aload_n 0, 1)) := by decide +kernel
theorem dL_law_388 : decode cL_law 388 = .ok (.iaload, 1) := edL_law_388.1
theorem dL_law_389 : decode cL_law 389 = .ok (.aload_n 0, 1) := edL_law_388.2.1
theorem dL_law_390 : decode cL_law 390 = .ok (.iload_n 3, 1) := edL_law_388.2.2.1
theorem dL_law_391 : decode cL_law 391 = .ok (.iconst 3, 1) := edL_law_388.2.2.2.1
theorem dL_law_392 : decode cL_law 392 = .ok (.iadd, 1) := edL_law_388.2.2.2.2.1
theorem dL_law_393 : decode cL_law 393 = .ok (.iaload, 1) := edL_law_388.2.2.2.2.2.1
theorem dL_law_394 : decode cL_law 394 = .ok (.invokevirtual 34, 3) := edL_law_388.2.2.2.2.2.2.1
theorem dL_law_397 : decode cL_law 397 = .ok (.pop, 1) := edL_law_388.2.2.2.2.2.2.2.1
theorem dL_law_398 : decode cL_law 398 = .ok (.goto 1054, 3) := edL_law_388.2.2.2.2.2.2.2.2.1
theorem dL_law_401 : decode cL_law 401 = .ok (.aload_n 1, 1) := edL_law_388.2.2.2.2.2.2.2.2.2.1
theorem dL_law_402 : decode cL_law 402 = .ok (.aload_n 0, 1) := edL_law_388.2.2.2.2.2.2.2.2.2.2.1
theorem dL_law_403 : decode cL_law 403 = .ok (.iload_n 3, 1) := edL_law_388.2.2.2.2.2.2.2.2.2.2.2.1
theorem dL_law_404 : decode cL_law 404 = .ok (.iconst 1, 1) := edL_law_388.2.2.2.2.2.2.2.2.2.2.2.2.1
theorem dL_law_405 : decode cL_law 405 = .ok (.iadd, 1) := edL_law_388.2.2.2.2.2.2.2.2.2.2.2.2.2.1
theorem dL_law_406 : decode cL_law 406 = .ok (.iaload, 1) := edL_law_388.2.2.2.2.2.2.2.2.2.2.2.2.2.2.1
theorem dL_law_407 : decode cL_law 407 = .ok (.aload_n 0, 1) := edL_law_388.2.2.2.2.2.2.2.2.2.2.2.2.2.2.2.1
theorem dL_law_408 : decode cL_law 408 = .ok (.iload_n 3, 1) := edL_law_388.2.2.2.2.2.2.2.2.2.2.2.2.2.2.2.2.1
theorem dL_law_409 : decode cL_law 409 = .ok (.iconst 2, 1) := edL_law_388.2.2.2.2.2.2.2.2.2.2.2.2.2.2.2.2.2.1
theorem dL_law_410 : decode cL_law 410 = .ok (.iadd, 1) := edL_law_388.2.2.2.2.2.2.2.2.2.2.2.2.2.2.2.2.2.2.1
theorem dL_law_411 : decode cL_law 411 = .ok (.iaload, 1) := edL_law_388.2.2.2.2.2.2.2.2.2.2.2.2.2.2.2.2.2.2.2.1
theorem dL_law_412 : decode cL_law 412 = .ok (.invokevirtual 35, 3) := edL_law_388.2.2.2.2.2.2.2.2.2.2.2.2.2.2.2.2.2.2.2.2.1
theorem dL_law_415 : decode cL_law 415 = .ok (.pop, 1) := edL_law_388.2.2.2.2.2.2.2.2.2.2.2.2.2.2.2.2.2.2.2.2.2.1
theorem dL_law_416 : decode cL_law 416 = .ok (.aload_n 2, 1) := edL_law_388.2.2.2.2.2.2.2.2.2.2.2.2.2.2.2.2.2.2.2.2.2.2.1
theorem dL_law_417 : decode cL_law 417 = .ok (.aload_n 0, 1) := edL_law_388.2.2.2.2.2.2.2.2.2.2.2.2.2.2.2.2.2.2.2.2.2.2.2
theorem edL_law_418 : (decode cL_law 418 = .ok (.iload_n 3, 1)) ∧ (decode cL_law 419 = .ok (.iconst 1, 1)) ∧ (decode cL_law 420 = .ok (.iadd, 1)) ∧ (decode cL_law 421 = .ok (.iaload, 1)) ∧ (decode cL_law 422 = .ok (.aload_n 0, 1)) ∧ (decode cL_law 423 = .ok (.iload_n 3, 1)) ∧ (decode cL_law 424 = .ok (.iconst 2, 1)) ∧ (decode cL_law 425 = .ok (.iadd, 1)) ∧ (decode cL_law 426 = .ok (.iaload, 1)) ∧ (decode cL_law 427 = .ok (.invokevirtual 38, 3)) ∧ (decode cL_law 430 = .ok (.pop, 1)) ∧ (decode cL_law 431 = .ok (.goto 1021, 3)) ∧ (decode cL_law 434 = .ok (.aload_n 1, 1)) ∧ (decode cL_law 435 = .ok (.aload_n 0, 1)) ∧ (decode cL_law 436 = .ok (.iload_n 3, 1)) ∧ (decode cL_law 437 = .ok (.iconst 1, 1)) ∧ (decode cL_law 438 = .ok (.iadd, 1)) ∧ (decode cL_law 439 = .ok (.iaload, 1)) ∧ (decode cL_law 440 = .ok (.aload_n 0, 1)) ∧ (decode cL_law 441 = .ok (.iload_n 3, 1)) ∧ (decode cL_law 442 = .ok (.iconst 2, 1)) ∧ (decode cL_law 443 = .ok (.iadd, 1)) ∧ (decode cL_law 444 = .ok (.iaload, 1)) ∧ (decode cL_law 445 = .ok (.aload_n 0, 1)) := by decide +kernel
theorem dL_law_418 : decode cL_law 418 = .ok (.iload_n 3, 1) := edL_law_418.1
theorem dL_law_419 : decode cL_law 419 = .ok (.iconst 1, 1) := edL_law_418.2.1
theorem dL_law_420 : decode cL_law 420 = .ok (.iadd, 1) := edL_law_418.2.2.1
theorem dL_law_421 : decode cL_law 421 = .ok (.iaload, 1) := edL_law_418.2.2.2.1
theorem dL_law_422 : decode cL_law 422 = .ok (.aload_n 0, 1) := edL_law_418.2.2.2.2.1
theorem dL_law_423 : decode cL_law 423 = .ok (.iload_n 3, 1) := edL_law_418.2.2.2.2.2.1
theorem dL_law_424 : decode cL_law 424 = .ok (.iconst 2, 1) := edL_law_418.2.2.2.2.2.2.1
theorem dL_law_425 : decode cL_law 425 = .ok (.iadd, 1) := edL_law_418.2.2.2.2.2.2.2.1
theorem dL_law_426 : decode cL_law 426 = .ok (.iaload, 1) := edL_law_418.2.2.2.2.2.2.2.2.1
theorem dL_law_427 : decode cL_law 427 = .ok (.invokevirtual 38, 3) := edL_law_418.2.2.2.2.2.2.2.2.2.1
theorem dL_law_430 : decode cL_law 430 = .ok (.pop, 1) := edL_law_418.2.2.2.2.2.2.2.2.2.2.1
theorem dL_law_431 : decode cL_law 431 = .ok (.goto 1021, 3) := edL_law_418.2.2.2.2.2.2.2.2.2.2.2.1
theorem dL_law_434 : decode cL_law 434 = .ok (.aload_n 1, 1) := edL_law_418.2.2.2.2.2.2.2.2.2.2.2.2.1
theorem dL_law_435 : decode cL_law 435 = .ok (.aload_n 0, 1) := edL_law_418.2.2.2.2.2.2.2.2.2.2.2.2.2.1
theorem dL_law_436 : decode cL_law 436 = .ok (.iload_n 3, 1) := edL_law_418.2.2.2.2.2.2.2.2.2.2.2.2.2.2.1
theorem dL_law_437 : decode cL_law 437 = .ok (.iconst 1, 1) := edL_law_418.2.2.2.2.2.2.2.2.2.2.2.2.2.2.2.1
theorem dL_law_438 : decode cL_law 438 = .ok (.iadd, 1) := edL_law_418.2.2.2.2.2.2.2.2.2.2.2.2.2.2.2.2.1
theorem dL_law_439 : decode cL_law 439 = .ok (.iaload, 1) := edL_law_418.2.2.2.2.2.2.2.2.2.2.2.2.2.2.2.2.2.1
theorem dL_law_440 : decode cL_law 440 = .ok (.aload_n 0, 1) := edL_law_418.2.2.2.2.2.2.2.2.2.2.2.2.2.2.2.2.2.2.1
theorem dL_law_441 : decode cL_law 441 = .ok (.iload_n 3, 1) := edL_law_418.2.2.2.2.2.2.2.2.2.2.2.2.2.2.2.2.2.2.2.1
theorem dL_law_442 : decode cL_law 442 = .ok (.iconst 2, 1) := edL_law_418.2.2.2.2.2.2.2.2.2.2.2.2.2.2.2.2.2.2.2.2.1
theorem dL_law_443 : decode cL_law 443 = .ok (.iadd, 1) := edL_law_418.2.2.2.2.2.2.2.2.2.2.2.2.2.2.2.2.2.2.2.2.2.1
theorem dL_law_444 : decode cL_law 444 = .ok (.iaload, 1) := edL_law_418.2.2.2.2.2.2.2.2.2.2.2.2.2.2.2.2.2.2.2.2.2.2.1
theorem dL_law_445 : decode cL_law 445 = .ok (.aload_n 0, 1) := edL_law_418.2.2.2.2.2.2.2.2.2.2.2.2.2.2.2.2.2.2.2.2.2.2.2
theorem edL_law_446 : (decode cL_law 446 = .ok (.iload_n 3, 1)) ∧ (decode cL_law 447 = .ok (.iconst 3, 1)) ∧ (decode cL_law 448 = .ok (.iadd, 1)) ∧ (decode cL_law 449 = .ok (.iaload, 1)) ∧ (decode cL_law 450 = .ok (.invokevirtual 39, 3)) ∧ (decode cL_law 453 = .ok (.pop, 1)) ∧ (decode cL_law 454 = .ok (.aload_n 2, 1)) ∧ (decode cL_law 455 = .ok (.aload_n 0, 1)) ∧ (decode cL_law 456 = .ok (.iload_n 3, 1)) ∧ (decode cL_law 457 = .ok (.iconst 1, 1)) ∧ (decode cL_law 458 = .ok (.iadd, 1)) ∧ (decode cL_law 459 = .ok (.iaload, 1)) ∧ (decode cL_law 460 = .ok (.aload_n 0, 1)) ∧ (decode cL_law 461 = .ok (.iload_n 3, 1)) ∧ (decode cL_law 462 = .ok (.iconst 2, 1)) ∧ (decode cL_law 463 = .ok (.iadd, 1)) ∧ (decode cL_law 464 = .ok (.iaload, 1)) ∧ (decode cL_law 465 = .ok (.aload_n 0, 1)) ∧ (decode cL_law 466 = .ok (.iload_n 3, 1)) ∧ (decode cL_law 467 = .ok (.iconst 3, 1)) ∧ (decode cL_law 468 = .ok (.iadd, 1)) ∧ (decode cL_law 469 = .ok (.iaload, 1)) ∧ (decode cL_law 470 = .ok (.invokevirtual 42, 3)) ∧ (decode cL_law 473 = .ok (.pop, 1)) := by decide +kernel
theorem dL_law_446 : decode cL_law 446 = .ok (.iload_n 3, 1) := edL_law_446.1
theorem dL_law_447 : decode cL_law 447 = .ok (.iconst 3, 1) := edL_law_446.2.1
theorem dL_law_448 : decode cL_law 448 = .ok (.iadd, 1) := edL_law_446.2.2.1
theorem dL_law_449 : decode cL_law 449 = .ok (.iaload, 1) := edL_law_446.2.2.2.1
theorem dL_law_450 : decode cL_law 450 = .ok (.invokevirtual 39, 3) := edL_law_446.2.2.2.2.1
theorem dL_law_453 : decode cL_law 453 = .ok (.pop, 1) := edL_law_446.2.2.2.2.2.1
theorem dL_law_454 : decode cL_law 454 = .ok (.aload_n 2, 1) := edL_law_446.2.2.2.2.2.2.1
theorem dL_law_455 : decode cL_law 455 = .ok (.aload_n 0, 1) := edL_law_446.2.2.2.2.2.2.2.1
theorem dL_law_456 : decode cL_law 456 = .ok (.iload_n 3, 1) := edL_law_446.2.2.2.2.2.2.2.2.1
theorem dL_law_457 : decode cL_law 457 = .ok (.iconst 1, 1) := edL_law_446.2.2.2.2.2.2.2.2.2.1
theorem dL_law_458 : decode cL_law 458 = .ok (.iadd, 1) := edL_law_446.2.2.2.2.2.2.2.2.2.2.1
theorem dL_law_459 : decode cL_law 459 = .ok (.iaload, 1) := edL_law_446.2.2.2.2.2.2.2.2.2.2.2.1
theorem dL_law_460 : decode cL_law 460 = .ok (.aload_n 0, 1) := edL_law_446.2.2.2.2.2.2.2.2.2.2.2.2.1
theorem dL_law_461 : decode cL_law 461 = .ok (.iload_n 3, 1) := edL_law_446.2.2.2.2.2.2.2.2.2.2.2.2.2.1
theorem dL_law_462 : decode cL_law 462 = .ok (.iconst 2, 1) := edL_law_446.2.2.2.2.2.2.2.2.2.2.2.2.2.2.1
theorem dL_law_463 : decode cL_law 463 = .ok (.iadd, 1) := edL_law_446.2.2.2.2.2.2.2.2.2.2.2.2.2.2.2.1
theorem dL_law_464 : decode cL_law 464 = .ok (.iaload, 1) := edL_law_446.2.2.2.2.2.2.2.2.2.2.2.2.2.2.2.2.1
theorem dL_law_465 : decode cL_law 465 = .ok (.aload_n 0, 1) := edL_law_446.2.2.2.2.2.2.2.2.2.2.2.2.2.2.2.2.2.1
theorem dL_law_466 : decode cL_law 466 = .ok (.iload_n 3, 1) := edL_law_446.2.2.2.2.2.2.2.2.2.2.2.2.2.2.2.2.2.2.1
theorem dL_law_467 : decode cL_law 467 = .ok (.iconst 3, 1) := edL_law_446.2.2.2.2.2.2.2.2.2.2.2.2.2.2.2.2.2.2.2.1
theorem dL_law_468 : decode cL_law 468 = .ok (.iadd, 1) := edL_law_446.2.2.2.2.2.2.2.2.2.2.2.2.2.2.2.2.2.2.2.2.1
theorem dL_law_469 : decode cL_law 469 = .ok (.iaload, 1) := edL_law_446.2.2.2.2.2.2.2.2.2.2.2.2.2.2.2.2.2.2.2.2.2.1
theorem dL_law_470 : decode cL_law 470 = .ok (.invokevirtual 42, 3) := edL_law_446.2.2.2.2.2.2.2.2.2.2.2.2.2.2.2.2.2.2.2.2.2.2.1
theorem dL_law_473 : decode cL_law 473 = .ok (.pop, 1) := edL_law_446.2.2.2.2.2.2.2.2.2.2.2.2.2.2.2.2.2.2.2.2.2.2.2
theorem edL_law_474 : (decode cL_law 474 = .ok (.goto 978, 3)) ∧ (decode cL_law 477 = .ok (.aload_n 1, 1)) ∧ (decode cL_law 478 = .ok (.aload_n 0, 1)) ∧ (decode cL_law 479 = .ok (.iload_n 3, 1)) ∧ (decode cL_law 480 = .ok (.iconst 1, 1)) ∧ (decode cL_law 481 = .ok (.iadd, 1)) ∧ (decode cL_law 482 = .ok (.iaload, 1)) ∧ (decode cL_law 483 = .ok (.aload_n 0, 1)) ∧ (decode cL_law 484 = .ok (.iload_n 3, 1)) ∧ (decode cL_law 485 = .ok (.iconst 2, 1)) ∧ (decode cL_law 486 = .ok (.iadd, 1)) ∧ (decode cL_law 487 = .ok (.iaload, 1)) ∧ (decode cL_law 488 = .ok (.invokevirtual 43, 3)) ∧ (decode cL_law 491 = .ok (.pop, 1)) ∧ (decode cL_law 492 = .ok (.aload_n 2, 1)) ∧ (decode cL_law 493 = .ok (.aload_n 0, 1)) ∧ (decode cL_law 494 = .ok (.iload_n 3, 1)) ∧ (decode cL_law 495 = .ok (.iconst 1, 1)) ∧ (decode cL_law 496 = .ok (.iadd, 1)) ∧ (decode cL_law 497 = .ok (.iaload, 1)) ∧ (decode cL_law 498 = .ok (.aload_n 0, 1)) ∧ (decode cL_law 499 = .ok (.iload_n 3, 1)) ∧ (decode cL_law 500 = .ok (.iconst 2, 1)) ∧ (decode cL_law 501 = .ok (.iadd, 1)) := by decide +kernel
theorem dL_law_474 : decode cL_law 474 = .ok (.goto 978, 3) := edL_law_474.1
theorem dL_law_477 : decode cL_law 477 = .ok (.aload_n 1, 1) := edL_law_474.2.1
theorem dL_law_478 : decode cL_law 478 = .ok (.aload_n 0, 1) := edL_law_474.2.2.1
theorem dL_law_479 : decode cL_law 479 = .ok (.iload_n 3, 1) := edL_law_474.2.2.2.1
theorem dL_law_480 : decode cL_law 480 = .ok (.iconst 1, 1) := edL_law_474.2.2.2.2.1
theorem dL_law_481 : decode cL_law 481 = .ok (.iadd, 1) := edL_law_474.2.2.2.2.2.1
theorem dL_law_482 : decode cL_law 482 = .ok (.iaload, 1) := edL_law_474.2.2.2.2.2.2.1
theorem dL_law_483 : decode cL_law 483 = .ok (.aload_n 0, 1) := edL_law_474.2.2.2.2.2.2.2.1
theorem dL_law_484 : decode cL_law 484 = .ok (.iload_n 3, 1) := edL_law_474.2.2.2.2.2.2.2.2.1
theorem dL_law_485 : decode cL_law 485 = .ok (.iconst 2, 1) := edL_law_474.2.2.2.2.2.2.2.2.2.1
theorem dL_law_486 : decode cL_law 486 = .ok (.iadd, 1) := edL_law_474.2.2.2.2.2.2.2.2.2.2.1
theorem dL_law_487 : decode cL_law 487 = .ok (.iaload, 1) := edL_law_474.2.2.2.2.2.2.2.2.2.2.2.1
theorem dL_law_488 : decode cL_law 488 = .ok (.invokevirtual 43, 3) := edL_law_474.2.2.2.2.2.2.2.2.2.2.2.2.1
theorem dL_law_491 : decode cL_law 491 = .ok (.pop, 1) := edL_law_474.2.2.2.2.2.2.2.2.2.2.2.2.2.1
theorem dL_law_492 : decode cL_law 492 = .ok (.aload_n 2, 1) := edL_law_474.2.2.2.2.2.2.2.2.2.2.2.2.2.2.1
theorem dL_law_493 : decode cL_law 493 = .ok (.aload_n 0, 1) := edL_law_474.2.2.2.2.2.2.2.2.2.2.2.2.2.2.2.1
theorem dL_law_494 : decode cL_law 494 = .ok (.iload_n 3, 1) := edL_law_474.2.2.2.2.2.2.2.2.2.2.2.2.2.2.2.2.1
theorem dL_law_495 : decode cL_law 495 = .ok (.iconst 1, 1) := edL_law_474.2.2.2.2.2.2.2.2.2.2.2.2.2.2.2.2.2.1
theorem dL_law_496 : decode cL_law 496 = .ok (.iadd, 1) := edL_law_474.2.2.2.2.2.2.2.2.2.2.2.2.2.2.2.2.2.2.1
theorem dL_law_497 : decode cL_law 497 = .ok (.iaload, 1) := edL_law_474.2.2.2.2.2.2.2.2.2.2.2.2.2.2.2.2.2.2.2.1
theorem dL_law_498 : decode cL_law 498 = .ok (.aload_n 0, 1) := edL_law_474.2.2.2.2.2.2.2.2.2.2.2.2.2.2.2.2.2.2.2.2.1
theorem dL_law_499 : decode cL_law 499 = .ok (.iload_n 3, 1) := edL_law_474.2.2.2.2.2.2.2.2.2.2.2.2.2.2.2.2.2.2.2.2.2.1
theorem dL_law_500 : decode cL_law 500 = .ok (.iconst 2, 1) := edL_law_474.2.2.2.2.2.2.2.2.2.2.2.2.2.2.2.2.2.2.2.2.2.2.1
theorem dL_law_501 : decode cL_law 501 = .ok (.iadd, 1) := edL_law_474.2.2.2.2.2.2.2.2.2.2.2.2.2.2.2.2.2.2.2.2.2.2.2
theorem edL_law_502 : (decode cL_law 502 = .ok (.iaload, 1)) ∧ (decode cL_law 503 = .ok (.invokevirtual 46, 3)) ∧ (decode cL_law 506 = .ok (.pop, 1)) ∧ (decode cL_law 507 = .ok (.goto 945, 3)) ∧ (decode cL_law 510 = .ok (.aload_n 1, 1)) ∧ (decode cL_law 511 = .ok (.aload_n 0, 1)) ∧ (decode cL_law 512 = .ok (.iload_n 3, 1)) ∧ (decode cL_law 513 = .ok (.iconst 1, 1)) ∧ (decode cL_law 514 = .ok (.iadd, 1)) ∧ (decode cL_law 515 = .ok (.iaload, 1)) ∧ (decode cL_law 516 = .ok (.aload_n 0, 1)) ∧ (decode cL_law 517 = .ok (.iload_n 3, 1)) ∧ (decode cL_law 518 = .ok (.iconst 2, 1)) ∧ (decode cL_law 519 = .ok (.iadd, 1)) ∧ (decode cL_law 520 = .ok (.iaload, 1)) ∧ (decode cL_law 521 = .ok (.invokevirtual 47, 3)) ∧ (decode cL_law 524 = .ok (.pop, 1)) ∧ (decode cL_law 525 = .ok (.aload_n 2, 1)) ∧ (decode cL_law 526 = .ok (.aload_n 0, 1)) ∧ (decode cL_law 527 = .ok (.iload_n 3, 1)) ∧ (decode cL_law 528 = .ok (.iconst 1, 1)) ∧ (decode cL_law 529 = .ok (.iadd, 1)) ∧ (decode cL_law 530 = .ok (.iaload, 1)) ∧ (decode cL_law 531 = .ok (.aload_n 0, 1)) := by decide +kernel
theorem dL_law_502 : decode cL_law 502 = .ok (.iaload, 1) := edL_law_502.1
theorem dL_law_503 : decode cL_law 503 = .ok (.invokevirtual 46, 3) := edL_law_502.2.1
theorem dL_law_506 : decode cL_law 506 = .ok (.pop, 1) := edL_law_502.2.2.1
theorem dL_law_507 : decode cL_law 507 = .ok (.goto 945, 3) := edL_law_502.2.2.2.1
theorem dL_law_510 : decode cL_law 510 = .ok (.aload_n 1, 1) := edL_law_502.2.2.2.2.1
theorem dL_law_511 : decode cL_law 511 = .ok (.aload_n 0, 1) := edL_law_502.2.2.2.2.2.1
theorem dL_law_512 : decode cL_law 512 = .ok (.iload_n 3, 1) := edL_law_502.2.2.2.2.2.2.1
theorem dL_law_513 : decode cL_law 513 = .ok (.iconst 1, 1) := edL_law_502.2.2.2.2.2.2.2.1
theorem dL_law_514 : decode cL_law 514 = .ok (.iadd, 1) := edL_law_502.2.2.2.2.2.2.2.2.1
theorem dL_law_515 : decode cL_law 515 = .ok (.iaload, 1) := edL_law_502.2.2.2.2.2.2.2.2.2.1
theorem dL_law_516 : decode cL_law 516 = .ok (.aload_n 0, 1) := edL_law_502.2.2.2.2.2.2.2.2.2.2.1
theorem dL_law_517 : decode cL_law 517 = .ok (.iload_n 3, 1) := edL_law_502.2.2.2.2.2.2.2.2.2.2.2.1
theorem dL_law_518 : decode cL_law 518 = .ok (.iconst 2, 1) := edL_law_502.2.2.2.2.2.2.2.2.2.2.2.2.1
theorem dL_law_519 : decode cL_law 519 = .ok (.iadd, 1) := edL_law_502.2.2.2.2.2.2.2.2.2.2.2.2.2.1
theorem dL_law_520 : decode cL_law 520 = .ok (.iaload, 1) := edL_law_502.2.2.2.2.2.2.2.2.2.2.2.2.2.2.1
theorem dL_law_521 : decode cL_law 521 = .ok (.invokevirtual 47, 3) := edL_law_502.2.2.2.2.2.2.2.2.2.2.2.2.2.2.2.1
theorem dL_law_524 : decode cL_law 524 = .ok (.pop, 1) := edL_law_502.2.2.2.2.2.2.2.2.2.2.2.2.2.2.2.2.1
theorem dL_law_525 : decode cL_law 525 = .ok (.aload_n 2, 1) := edL_law_502.2.2.2.2.2.2.2.2.2.2.2.2.2.2.2.2.2.1
theorem dL_law_526 : decode cL_law 526 = .ok (.aload_n 0, 1) := edL_law_502.2.2.2.2.2.2.2.2.2.2.2.2.2.2.2.2.2.2.1
theorem dL_law_527 : decode cL_law 527 = .ok (.iload_n 3, 1) := edL_law_502.2.2.2.2.2.2.2.2.2.2.2.2.2.2.2.2.2.2.2.1
theorem dL_law_528 : decode cL_law 528 = .ok (.iconst 1, 1) := edL_law_502.2.2.2.2.2.2.2.2.2.2.2.2.2.2.2.2.2.2.2.2.1
theorem dL_law_529 : decode cL_law 529 = .ok (.iadd, 1) := edL_law_502.2.2.2.2.2.2.2.2.2.2.2.2.2.2.2.2.2.2.2.2.2.1
theorem dL_law_530 : decode cL_law 530 = .ok (.iaload, 1) := edL_law_502.2.2.2.2.2.2.2.2.2.2.2.2.2.2.2.2.2.2.2.2.2.2.1
theorem dL_law_531 : decode cL_law 531 = .ok (.aload_n 0, 1) := edL_law_502.2.2.2.2.2.2.2.2.2.2.2.2.2.2.2.2.2.2.2.2.2.2.2
theorem edL_law_532 : (decode cL_law 532 = .ok (.iload_n 3, 1)) ∧ (decode cL_law 533 = .ok (.iconst 2, 1)) ∧ (decode cL_law 534 = .ok (.iadd, 1)) ∧ (decode cL_law 535 = .ok (.iaload, 1)) ∧ (decode cL_law 536 = .ok (.invokevirtual 50, 3)) ∧ (decode cL_law 539 = .ok (.pop, 1)) ∧ (decode cL_law 540 = .ok (.goto 912, 3)) ∧ (decode cL_law 543 = .ok (.aload_n 1, 1)) ∧ (decode cL_law 544 = .ok (.aload_n 0, 1)) ∧ (decode cL_law 545 = .ok (.iload_n 3, 1)) ∧ (decode cL_law 546 = .ok (.iconst 1, 1)) ∧ (decode cL_law 547 = .ok (.iadd, 1)) ∧ (decode cL_law 548 = .ok (.iaload, 1)) ∧ (decode cL_law 549 = .ok (.invokevirtual 51, 3)) ∧ (decode cL_law 552 = .ok (.pop, 1)) ∧ (decode cL_law 553 = .ok (.aload_n 2, 1)) ∧ (decode cL_law 554 = .ok (.aload_n 0, 1)) ∧ (decode cL_law 555 = .ok (.iload_n 3, 1)) ∧ (decode cL_law 556 = .ok (.iconst 1, 1)) ∧ (decode cL_law 557 = .ok (.iadd, 1)) ∧ (decode cL_law 558 = .ok (.iaload, 1)) ∧ (decode cL_law 559 = .ok (.invokevirtual 55, 3)) ∧ (decode cL_law 562 = .ok (.pop, 1)) ∧ (decode cL_law 563 = .ok (.goto 889, 3)) := by decide +kernel
theorem dL_law_532 : decode cL_law 532 = .ok (.iload_n 3, 1) := edL_law_532.1
theorem dL_law_533 : decode cL_law 533 = .ok (.iconst 2, 1) := edL_law_532.2.1
theorem dL_law_534 : decode cL_law 534 = .ok (.iadd, 1) := edL_law_532.2.2.1
theorem dL_law_535 : decode cL_law 535 = .ok (.iaload, 1) := edL_law_532.2.2.2.1
theorem dL_law_536 : decode cL_law 536 = .ok (.invokevirtual 50, 3) := edL_law_532.2.2.2.2.1
theorem dL_law_539 : decode cL_law 539 = .ok (.pop, 1) := edL_law_532.2.2.2.2.2.1
theorem dL_law_540 : decode cL_law 540 = .ok (.goto 912, 3) := edL_law_532.2.2.2.2.2.2.1
theorem dL_law_543 : decode cL_law 543 = .ok (.aload_n 1, 1) := edL_law_532.2.2.2.2.2.2.2.1
theorem dL_law_544 : decode cL_law 544 = .ok (.aload_n 0, 1) := edL_law_532.2.2.2.2.2.2.2.2.1
theorem dL_law_545 : decode cL_law 545 = .ok (.iload_n 3, 1) := edL_law_532.2.2.2.2.2.2.2.2.2.1
theorem dL_law_546 : decode cL_law 546 = .ok (.iconst 1, 1) := edL_law_532.2.2.2.2.2.2.2.2.2.2.1
theorem dL_law_547 : decode cL_law 547 = .ok (.iadd, 1) := edL_law_532.2.2.2.2.2.2.2.2.2.2.2.1
theorem dL_law_548 : decode cL_law 548 = .ok (.iaload, 1) := edL_law_532.2.2.2.2.2.2.2.2.2.2.2.2.1
theorem dL_law_549 : decode cL_law 549 = .ok (.invokevirtual 51, 3) := edL_law_532.2.2.2.2.2.2.2.2.2.2.2.2.2.1
theorem dL_law_552 : decode cL_law 552 = .ok (.pop, 1) := edL_law_532.2.2.2.2.2.2.2.2.2.2.2.2.2.2.1
theorem dL_law_553 : decode cL_law 553 = .ok (.aload_n 2, 1) := edL_law_532.2.2.2.2.2.2.2.2.2.2.2.2.2.2.2.1
theorem dL_law_554 : decode cL_law 554 = .ok (.aload_n 0, 1) := edL_law_532.2.2.2.2.2.2.2.2.2.2.2.2.2.2.2.2.1
theorem dL_law_555 : decode cL_law 555 = .ok (.iload_n 3, 1) := edL_law_532.2.2.2.2.2.2.2.2.2.2.2.2.2.2.2.2.2.1
theorem dL_law_556 : decode cL_law 556 = .ok (.iconst 1, 1) := edL_law_532.2.2.2.2.2.2.2.2.2.2.2.2.2.2.2.2.2.2.1
theorem dL_law_557 : decode cL_law 557 = .ok (.iadd, 1) := edL_law_532.2.2.2.2.2.2.2.2.2.2.2.2.2.2.2.2.2.2.2.1
theorem dL_law_558 : decode cL_law 558 = .ok (.iaload, 1) := edL_law_532.2.2.2.2.2.2.2.2.2.2.2.2.2.2.2.2.2.2.2.2.1
theorem dL_law_559 : decode cL_law 559 = .ok (.invokevirtual 55, 3) := edL_law_532.2.2.2.2.2.2.2.2.2.2.2.2.2.2.2.2.2.2.2.2.2.1
theorem dL_law_562 : decode cL_law 562 = .ok (.pop, 1) := edL_law_532.2.2.2.2.2.2.2.2.2.2.2.2.2.2.2.2.2.2.2.2.2.2.1
theorem dL_law_563 : decode cL_law 563 = .ok (.goto 889, 3) := edL_law_532.2.2.2.2.2.2.2.2.2.2.2.2.2.2.2.2.2.2.2.2.2.2.2
theorem edL_law_566 : (decode cL_law 566 = .ok (.aload_n 1, 1)) ∧ (decode cL_law 567 = .ok (.aload_n 0, 1)) ∧ (decode cL_law 568 = .ok (.iload_n 3, 1)) ∧ (decode cL_law 569 = .ok (.iconst 1, 1)) ∧ (decode cL_law 570 = .ok (.iadd, 1)) ∧ (decode cL_law 571 = .ok (.iaload, 1)) ∧ (decode cL_law 572 = .ok (.invokevirtual 56, 3)) ∧ (decode cL_law 575 = .ok (.pop, 1)) ∧ (decode cL_law 576 = .ok (.aload_n 2, 1)) ∧ (decode cL_law 577 = .ok (.aload_n 0, 1)) ∧ (decode cL_law 578 = .ok (.iload_n 3, 1)) ∧ (decode cL_law 579 = .ok (.iconst 1, 1)) ∧ (decode cL_law 580 = .ok (.iadd, 1)) ∧ (decode cL_law 581 = .ok (.iaload, 1)) ∧ (decode cL_law 582 = .ok (.invokevirtual 59, 3)) ∧ (decode cL_law 585 = .ok (.pop, 1)) ∧ (decode cL_law 586 = .ok (.goto 866, 3)) ∧ (decode cL_law 589 = .ok (.aload_n 1, 1)) ∧ (decode cL_law 590 = .ok (.aload_n 0, 1)) ∧ (decode cL_law 591 = .ok (.iload_n 3, 1)) ∧ (decode cL_law 592 = .ok (.iconst 1, 1)) ∧ (decode cL_law 593 = .ok (.iadd, 1)) ∧ (decode cL_law 594 = .ok (.iaload, 1)) ∧ (decode cL_law 595 = .ok (.invokevirtual 60, 3)) := by decide +kernel
theorem dL_law_566 : decode cL_law 566 = .ok (.aload_n 1, 1) := edL_law_566.1
theorem dL_law_567 : decode cL_law 567 = .ok (.aload_n 0, 1) := edL_law_566.2.1
theorem dL_law_568 : decode cL_law 568 = .ok (.iload_n 3, 1) := edL_law_566.2.2.1
theorem dL_law_569 : decode cL_law 569 = .ok (.iconst 1, 1) := edL_law_566.2.2.2.1
theorem dL_law_570 : decode cL_law 570 = .ok (.iadd, 1) := edL_law_566.2.2.2.2.1
theorem dL_law_571 : decode cL_law 571 = .ok (.iaload, 1) := edL_law_566.2.2.2.2.2.1
theorem dL_law_572 : decode cL_law 572 = .ok (.invokevirtual 56, 3) := edL_law_566.2.2.2.2.2.2.1
theorem dL_law_575 : decode cL_law 575 = .ok (.pop, 1) := edL_law_566.2.2.2.2.2.2.2.1
theorem dL_law_576 : decode cL_law 576 = .ok (.aload_n 2, 1) := edL_law_566.2.2.2.2.2.2.2.2.1
theorem dL_law_577 : decode cL_law 577 = .ok (.aload_n 0, 1) := edL_law_566.2.2.2.2.2.2.2.2.2.1
theorem dL_law_578 : decode cL_law 578 = .ok (.iload_n 3, 1) := edL_law_566.2.2.2.2.2.2.2.2.2.2.1
theorem dL_law_579 : decode cL_law 579 = .ok (.iconst 1, 1) := edL_law_566.2.2.2.2.2.2.2.2.2.2.2.1
theorem dL_law_580 : decode cL_law 580 = .ok (.iadd, 1) := edL_law_566.2.2.2.2.2.2.2.2.2.2.2.2.1
theorem dL_law_581 : decode cL_law 581 = .ok (.iaload, 1) := edL_law_566.2.2.2.2.2.2.2.2.2.2.2.2.2.1
theorem dL_law_582 : decode cL_law 582 = .ok (.invokevirtual 59, 3) := edL_law_566.2.2.2.2.2.2.2.2.2.2.2.2.2.2.1
theorem dL_law_585 : decode cL_law 585 = .ok (.pop, 1) := edL_law_566.2.2.2.2.2.2.2.2.2.2.2.2.2.2.2.1
theorem dL_law_586 : decode cL_law 586 = .ok (.goto 866, 3) := edL_law_566.2.2.2.2.2.2.2.2.2.2.2.2.2.2.2.2.1
theorem dL_law_589 : decode cL_law 589 = .ok (.aload_n 1, 1) := edL_law_566.2.2.2.2.2.2.2.2.2.2.2.2.2.2.2.2.2.1
theorem dL_law_590 : decode cL_law 590 = .ok (.aload_n 0, 1) := edL_law_566.2.2.2.2.2.2.2.2.2.2.2.2.2.2.2.2.2.2.1
theorem dL_law_591 : decode cL_law 591 = .ok (.iload_n 3, 1) := edL_law_566.2.2.2.2.2.2.2.2.2.2.2.2.2.2.2.2.2.2.2.1
theorem dL_law_592 : decode cL_law 592 = .ok (.iconst 1, 1) := edL_law_566.2.2.2.2.2.2.2.2.2.2.2.2.2.2.2.2.2.2.2.2.1
theorem dL_law_593 : decode cL_law 593 = .ok (.iadd, 1) := edL_law_566.2.2.2.2.2.2.2.2.2.2.2.2.2.2.2.2.2.2.2.2.2.1
theorem dL_law_594 : decode cL_law 594 = .ok (.iaload, 1) := edL_law_566.2.2.2.2.2.2.2.2.2.2.2.2.2.2.2.2.2.2.2.2.2.2.1
theorem dL_law_595 : decode cL_law 595 = .ok (.invokevirtual 60, 3) := edL_law_566.2.2.2.2.2.2.2.2.2.2.2.2.2.2.2.2.2.2.2.2.2.2.2
theorem edL_law_598 : (decode cL_law 598 = .ok (.pop, 1)) ∧ (decode cL_law 599 = .ok (.aload_n 2, 1)) ∧ (decode cL_law 600 = .ok (.aload_n 0, 1)) ∧ (decode cL_law 601 = .ok (.iload_n 3, 1)) ∧ (decode cL_law 602 = .ok (.iconst 1, 1)) ∧ (decode cL_law 603 = .ok (.iadd, 1)) ∧ (decode cL_law 604 = .ok (.iaload, 1)) ∧ (decode cL_law 605 = .ok (.invokevirtual 63, 3)) ∧ (decode cL_law 608 = .ok (.pop, 1)) ∧ (decode cL_law 609 = .ok (.goto 843, 3)) ∧ (decode cL_law 612 = .ok (.aload_n 1, 1)) ∧ (decode cL_law 613 = .ok (.aload_n 0, 1)) ∧ (decode cL_law 614 = .ok (.iload_n 3, 1)) ∧ (decode cL_law 615 = .ok (.iconst 1, 1)) ∧ (decode cL_law 616 = .ok (.iadd, 1)) ∧ (decode cL_law 617 = .ok (.iaload, 1)) ∧ (decode cL_law 618 = .ok (.invokevirtual 64, 3)) ∧ (decode cL_law 621 = .ok (.pop, 1)) ∧ (decode cL_law 622 = .ok (.aload_n 2, 1)) ∧ (decode cL_law 623 = .ok (.aload_n 0, 1)) ∧ (decode cL_law 624 = .ok (.iload_n 3, 1)) ∧ (decode cL_law 625 = .ok (.iconst 1, 1)) ∧ (decode cL_law 626 = .ok (.iadd, 1)) ∧ (decode cL_law 627 = .ok (.iaload, 1)) := by decide +kernel
theorem dL_law_598 : decode cL_law 598 = .ok (.pop, 1) := edL_law_598.1
theorem dL_law_599 : decode cL_law 599 = .ok (.aload_n 2, 1) := edL_law_598.2.1
theorem dL_law_600 : decode cL_law 600 = .ok (.aload_n 0, 1) := edL_law_598.2.2.1
theorem dL_law_601 : decode cL_law 601 = .ok (.iload_n 3, 1) := edL_law_598.2.2.2.1
theorem dL_law_602 : decode cL_law 602 = .ok (.iconst 1, 1) := edL_law_598.2.2.2.2.1
theorem dL_law_603 : decode cL_law 603 = .ok (.iadd, 1) := edL_law_598.2.2.2.2.2.1
theorem dL_law_604 : decode cL_law 604 = .ok (.iaload, 1) := edL_law_598.2.2.2.2.2.2.1
theorem dL_law_605 : decode cL_law 605 = .ok (.invokevirtual 63, 3) := edL_law_598.2.2.2.2.2.2.2.1
theorem dL_law_608 : decode cL_law 608 = .ok (.pop, 1) := edL_law_598.2.2.2.2.2.2.2.2.1
theorem dL_law_609 : decode cL_law 609 = .ok (.goto 843, 3) := edL_law_598.2.2.2.2.2.2.2.2.2.1
theorem dL_law_612 : decode cL_law 612 = .ok (.aload_n 1, 1) := edL_law_598.2.2.2.2.2.2.2.2.2.2.1
theorem dL_law_613 : decode cL_law 613 = .ok (.aload_n 0, 1) := edL_law_598.2.2.2.2.2.2.2.2.2.2.2.1
theorem dL_law_614 : decode cL_law 614 = .ok (.iload_n 3, 1) := edL_law_598.2.2.2.2.2.2.2.2.2.2.2.2.1
theorem dL_law_615 : decode cL_law 615 = .ok (.iconst 1, 1) := edL_law_598.2.2.2.2.2.2.2.2.2.2.2.2.2.1
theorem dL_law_616 : decode cL_law 616 = .ok (.iadd, 1) := edL_law_598.2.2.2.2.2.2.2.2.2.2.2.2.2.2.1
theorem dL_law_617 : decode cL_law 617 = .ok (.iaload, 1) := edL_law_598.2.2.2.2.2.2.2.2.2.2.2.2.2.2.2.1
theorem dL_law_618 : decode cL_law 618 = .ok (.invokevirtual 64, 3) := edL_law_598.2.2.2.2.2.2.2.2.2.2.2.2.2.2.2.2.1
theorem dL_law_621 : decode cL_law 621 = .ok (.pop, 1) := edL_law_598.2.2.2.2.2.2.2.2.2.2.2.2.2.2.2.2.2.1
theorem dL_law_622 : decode cL_law 622 = .ok (.aload_n 2, 1) := edL_law_598.2.2.2.2.2.2.2.2.2.2.2.2.2.2.2.2.2.2.1
theorem dL_law_623 : decode cL_law 623 = .ok (.aload_n 0, 1) := edL_law_598.2.2.2.2.2.2.2.2.2.2.2.2.2.2.2.2.2.2.2.1
theorem dL_law_624 : decode cL_law 624 = .ok (.iload_n 3, 1) := edL_law_598.2.2.2.2.2.2.2.2.2.2.2.2.2.2.2.2.2.2.2.2.1
theorem dL_law_625 : decode cL_law 625 = .ok (.iconst 1, 1) := edL_law_598.2.2.2.2.2.2.2.2.2.2.2.2.2.2.2.2.2.2.2.2.2.1
theorem dL_law_626 : decode cL_law 626 = .ok (.iadd, 1) := edL_law_598.2.2.2.2.2.2.2.2.2.2.2.2.2.2.2.2.2.2.2.2.2.2.1
theorem dL_law_627 : decode cL_law 627 = .ok (.iaload, 1) := edL_law_598.2.2.2.2.2.2.2.2.2.2.2.2.2.2.2.2.2.2.2.2.2.2.2
theorem edL_law_628 : (decode cL_law 628 = .ok (.invokevirtual 67, 3)) ∧ (decode cL_law 631 = .ok (.pop, 1)) ∧ (decode cL_law 632 = .ok (.goto 820, 3)) ∧ (decode cL_law 635 = .ok (.aload_n 1, 1)) ∧ (decode cL_law 636 = .ok (.invokevirtual 68, 3)) ∧ (decode cL_law 639 = .ok (.pop, 1)) ∧ (decode cL_law 640 = .ok (.aload_n 2, 1)) ∧ (decode cL_law 641 = .ok (.invokevirtual 72, 3)) ∧ (decode cL_law 644 = .ok (.pop, 1)) ∧ (decode cL_law 645 = .ok (.goto 807, 3)) ∧ (decode cL_law 648 = .ok (.aload_n 1, 1)) ∧ (decode cL_law 649 = .ok (.aload_n 0, 1)) ∧ (decode cL_law 650 = .ok (.iload_n 3, 1)) ∧ (decode cL_law 651 = .ok (.iconst 1, 1)) ∧ (decode cL_law 652 = .ok (.iadd, 1)) ∧ (decode cL_law 653 = .ok (.iaload, 1)) ∧ (decode cL_law 654 = .ok (.invokevirtual 73, 3)) ∧ (decode cL_law 657 = .ok (.pop, 1)) ∧ (decode cL_law 658 = .ok (.aload_n 2, 1)) ∧ (decode cL_law 659 = .ok (.aload_n 0, 1)) ∧ (decode cL_law 660 = .ok (.iload_n 3, 1)) ∧ (decode cL_law 661 = .ok (.iconst 1, 1)) ∧ (decode cL_law 662 = .ok (.iadd, 1)) ∧ (decode cL_law 663 = .ok (.iaload, 1)) := by decide +kernel
theorem dL_law_628 : decode cL_law 628 = .ok (.invokevirtual 67, 3) := edL_law_628.1
theorem dL_law_631 : decode cL_law 631 = .ok (.pop, 1) := edL_law_628.2.1
theorem dL_law_632 : decode cL_law 632 = .ok (.goto 820, 3) := edL_law_628.2.2.1
theorem dL_law_635 : decode cL_law 635 = .ok (.aload_n 1, 1) := edL_law_628.2.2.2.1
theorem dL_law_636 : decode cL_law 636 = .ok (.invokevirtual 68, 3) := edL_law_628.2.2.2.2.1
theorem dL_law_639 : decode cL_law 639 = .ok (.pop, 1) := edL_law_628.2.2.2.2.2.1
theorem dL_law_640 : decode cL_law 640 = .ok (.aload_n 2, 1) := edL_law_628.2.2.2.2.2.2.1
theorem dL_law_641 : decode cL_law 641 = .ok (.invokevirtual 72, 3) := edL_law_628.2.2.2.2.2.2.2.1
theorem dL_law_644 : decode cL_law 644 = .ok (.pop, 1) := edL_law_628.2.2.2.2.2.2.2.2.1
theorem dL_law_645 : decode cL_law 645 = .ok (.goto 807, 3) := edL_law_628.2.2.2.2.2.2.2.2.2.1
theorem dL_law_648 : decode cL_law 648 = .ok (.aload_n 1, 1) := edL_law_628.2.2.2.2.2.2.2.2.2.2.1
theorem dL_law_649 : decode cL_law 649 = .ok (.aload_n 0, 1) := edL_law_628.2.2.2.2.2.2.2.2.2.2.2.1
theorem dL_law_650 : decode cL_law 650 = .ok (.iload_n 3, 1) := edL_law_628.2.2.2.2.2.2.2.2.2.2.2.2.1
theorem dL_law_651 : decode cL_law 651 = .ok (.iconst 1, 1) := edL_law_628.2.2.2.2.2.2.2.2.2.2.2.2.2.1
theorem dL_law_652 : decode cL_law 652 = .ok (.iadd, 1) := edL_law_628.2.2.2.2.2.2.2.2.2.2.2.2.2.2.1
theorem dL_law_653 : decode cL_law 653 = .ok (.iaload, 1) := edL_law_628.2.2.2.2.2.2.2.2.2.2.2.2.2.2.2.1
theorem dL_law_654 : decode cL_law 654 = .ok (.invokevirtual 73, 3) := edL_law_628.2.2.2.2.2.2.2.2.2.2.2.2.2.2.2.2.1
theorem dL_law_657 : decode cL_law 657 = .ok (.pop, 1) := edL_law_628.2.2.2.2.2.2.2.2.2.2.2.2.2.2.2.2.2.1
theorem dL_law_658 : decode cL_law 658 = .ok (.aload_n 2, 1) := edL_law_628.2.2.2.2.2.2.2.2.2.2.2.2.2.2.2.2.2.2.1
theorem dL_law_659 : decode cL_law 659 = .ok (.aload_n 0, 1) := edL_law_628.2.2.2.2.2.2.2.2.2.2.2.2.2.2.2.2.2.2.2.1
theorem dL_law_660 : decode cL_law 660 = .ok (.iload_n 3, 1) := edL_law_628.2.2.2.2.2.2.2.2.2.2.2.2.2.2.2.2.2.2.2.2.1
theorem dL_law_661 : decode cL_law 661 = .ok (.iconst 1, 1) := edL_law_628.2.2.2.2.2.2.2.2.2.2.2.2.2.2.2.2.2.2.2.2.2.1
theorem dL_law_662 : decode cL_law 662 = .ok (.iadd, 1) := edL_law_628.2.2.2.2.2.2.2.2.2.2.2.2.2.2.2.2.2.2.2.2.2.2.1
theorem dL_law_663 : decode cL_law 663 = .ok (.iaload, 1) := edL_law_628.2.2.2.2.2.2.2.2.2.2.2.2.2.2.2.2.2.2.2.2.2.2.2
theorem edL_law_664 : (decode cL_law 664 = .ok (.invokevirtual 76, 3)) ∧ (decode cL_law 667 = .ok (.pop, 1)) ∧ (decode cL_law 668 = .ok (.goto 784, 3)) ∧ (decode cL_law 671 = .ok (.aload_n 1, 1)) ∧ (decode cL_law 672 = .ok (.aload_n 0, 1)) ∧ (decode cL_law 673 = .ok (.iload_n 3, 1)) ∧ (decode cL_law 674 = .ok (.iconst 1, 1)) ∧ (decode cL_law 675 = .ok (.iadd, 1)) ∧ (decode cL_law 676 = .ok (.iaload, 1)) ∧ (decode cL_law 677 = .ok (.aload_n 0, 1)) ∧ (decode cL_law 678 = .ok (.iload_n 3, 1)) ∧ (decode cL_law 679 = .ok (.iconst 2, 1)) ∧ (decode cL_law 680 = .ok (.iadd, 1)) ∧ (decode cL_law 681 = .ok (.iaload, 1)) ∧ (decode cL_law 682 = .ok (.invokevirtual 77, 3)) ∧ (decode cL_law 685 = .ok (.pop, 1)) ∧ (decode cL_law 686 = .ok (.aload_n 2, 1)) ∧ (decode cL_law 687 = .ok (.aload_n 0, 1)) ∧ (decode cL_law 688 = .ok (.iload_n 3, 1)) ∧ (decode cL_law 689 = .ok (.iconst 1, 1)) ∧ (decode cL_law 690 = .ok (.iadd, 1)) ∧ (decode cL_law 691 = .ok (.iaload, 1)) ∧ (decode cL_law 692 = .ok (.aload_n 0, 1)) ∧ (decode cL_law 693 = .ok (.iload_n 3, 1)) := by decide +kernel
theorem dL_law_664 : decode cL_law 664 = .ok (.invokevirtual 76, 3) := edL_law_664.1
theorem dL_law_667 : decode cL_law 667 = .ok (.pop, 1) := edL_law_664.2.1
theorem dL_law_668 : decode cL_law 668 = .ok (.goto 784, 3) := edL_law_664.2.2.1
theorem dL_law_671 : decode cL_law 671 = .ok (.aload_n 1, 1) := edL_law_664.2.2.2.1
theorem dL_law_672 : decode cL_law 672 = .ok (.aload_n 0, 1) := edL_law_664.2.2.2.2.1
theorem dL_law_673 : decode cL_law 673 = .ok (.iload_n 3, 1) := edL_law_664.2.2.2.2.2.1
theorem dL_law_674 : decode cL_law 674 = .ok (.iconst 1, 1) := edL_law_664.2.2.2.2.2.2.1
theorem dL_law_675 : decode cL_law 675 = .ok (.iadd, 1) := edL_law_664.2.2.2.2.2.2.2.1
theorem dL_law_676 : decode cL_law 676 = .ok (.iaload, 1) := edL_law_664.2.2.2.2.2.2.2.2.1
theorem dL_law_677 : decode cL_law 677 = .ok (.aload_n 0, 1) := edL_law_664.2.2.2.2.2.2.2.2.2.1
theorem dL_law_678 : decode cL_law 678 = .ok (.iload_n 3, 1) := edL_law_664.2.2.2.2.2.2.2.2.2.2.1
theorem dL_law_679 : decode cL_law 679 = .ok (.iconst 2, 1) := edL_law_664.2.2.2.2.2.2.2.2.2.2.2.1
theorem dL_law_680 : decode cL_law 680 = .ok (.iadd, 1) := edL_law_664.2.2.2.2.2.2.2.2.2.2.2.2.1
theorem dL_law_681 : decode cL_law 681 = .ok (.iaload, 1) := edL_law_664.2.2.2.2.2.2.2.2.2.2.2.2.2.1
theorem dL_law_682 : decode cL_law 682 = .ok (.invokevirtual 77, 3) := edL_law_664.2.2.2.2.2.2.2.2.2.2.2.2.2.2.1
theorem dL_law_685 : decode cL_law 685 = .ok (.pop, 1) := edL_law_664.2.2.2.2.2.2.2.2.2.2.2.2.2.2.2.1
theorem dL_law_686 : decode cL_law 686 = .ok (.aload_n 2, 1) := edL_law_664.2.2.2.2.2.2.2.2.2.2.2.2.2.2.2.2.1
theorem dL_law_687 : decode cL_law 687 = .ok (.aload_n 0, 1) := edL_law_664.2.2.2.2.2.2.2.2.2.2.2.2.2.2.2.2.2.1
theorem dL_law_688 : decode cL_law 688 = .ok (.iload_n 3, 1) := edL_law_664.2.2.2.2.2.2.2.2.2.2.2.2.2.2.2.2.2.2.1
theorem dL_law_689 : decode cL_law 689 = .ok (.iconst 1, 1) := edL_law_664.2.2.2.2.2.2.2.2.2.2.2.2.2.2.2.2.2.2.2.1
theorem dL_law_690 : decode cL_law 690 = .ok (.iadd, 1) := edL_law_664.2.2.2.2.2.2.2.2.2.2.2.2.2.2.2.2.2.2.2.2.1
theorem dL_law_691 : decode cL_law 691 = .ok (.iaload, 1) := edL_law_664.2.2.2.2.2.2.2.2.2.2.2.2.2.2.2.2.2.2.2.2.2.1
theorem dL_law_692 : decode cL_law 692 = .ok (.aload_n 0, 1) := edL_law_664.2.2.2.2.2.2.2.2.2.2.2.2.2.2.2.2.2.2.2.2.2.2.1
theorem dL_law_693 : decode cL_law 693 = .ok (.iload_n 3, 1) := edL_law_664.2.2.2.2.2.2.2.2.2.2.2.2.2.2.2.2.2.2.2.2.2.2.2
theorem edL_law_694 : (decode cL_law 694 = .ok (.iconst 2, 1)) ∧ (decode cL_law 695 = .ok (.iadd, 1)) ∧ (decode cL_law 696 = .ok (.iaload, 1)) ∧ (decode cL_law 697 = .ok (.invokevirtual 80, 3)) ∧ (decode cL_law 700 = .ok (.pop, 1)) ∧ (decode cL_law 701 = .ok (.goto 751, 3)) ∧ (decode cL_law 704 = .ok (.aload_n 1, 1)) ∧ (decode cL_law 705 = .ok (.aload_n 0, 1)) ∧ (decode cL_law 706 = .ok (.iload_n 3, 1)) ∧ (decode cL_law 707 = .ok (.iconst 1, 1)) ∧ (decode cL_law 708 = .ok (.iadd, 1)) ∧ (decode cL_law 709 = .ok (.iaload, 1)) ∧ (decode cL_law 710 = .ok (.invokevirtual 81, 3)) ∧ (decode cL_law 713 = .ok (.pop, 1)) ∧ (decode cL_law 714 = .ok (.aload_n 2, 1)) ∧ (decode cL_law 715 = .ok (.aload_n 0, 1)) ∧ (decode cL_law 716 = .ok (.iload_n 3, 1)) ∧ (decode cL_law 717 = .ok (.iconst 1, 1)) ∧ (decode cL_law 718 = .ok (.iadd, 1)) ∧ (decode cL_law 719 = .ok (.iaload, 1)) ∧ (decode cL_law 720 = .ok (.invokevirtual 84, 3)) ∧ (decode cL_law 723 = .ok (.pop, 1)) ∧ (decode cL_law 724 = .ok (.goto 728, 3)) ∧ (decode cL_law 727 = .ok (.aload_n 1, 1)) := by decide +kernel
theorem dL_law_694 : decode cL_law 694 = .ok (.iconst 2, 1) := edL_law_694.1
theorem dL_law_695 : decode cL_law 695 = .ok (.iadd, 1) := edL_law_694.2.1
theorem dL_law_696 : decode cL_law 696 = .ok (.iaload, 1) := edL_law_694.2.2.1
theorem dL_law_697 : decode cL_law 697 = .ok (.invokevirtual 80, 3) := edL_law_694.2.2.2.1
theorem dL_law_700 : decode cL_law 700 = .ok (.pop, 1) := edL_law_694.2.2.2.2.1
theorem dL_law_701 : decode cL_law 701 = .ok (.goto 751, 3) := edL_law_694.2.2.2.2.2.1
theorem dL_law_704 : decode cL_law 704 = .ok (.aload_n 1, 1) := edL_law_694.2.2.2.2.2.2.1
theorem dL_law_705 : decode cL_law 705 = .ok (.aload_n 0, 1) := edL_law_694.2.2.2.2.2.2.2.1
theorem dL_law_706 : decode cL_law 706 = .ok (.iload_n 3, 1) := edL_law_694.2.2.2.2.2.2.2.2.1
theorem dL_law_707 : decode cL_law 707 = .ok (.iconst 1, 1) := edL_law_694.2.2.2.2.2.2.2.2.2.1
theorem dL_law_708 : decode cL_law 708 = .ok (.iadd, 1) := edL_law_694.2.2.2.2.2.2.2.2.2.2.1
theorem dL_law_709 : decode cL_law 709 = .ok (.iaload, 1) := edL_law_694.2.2.2.2.2.2.2.2.2.2.2.1
theorem dL_law_710 : decode cL_law 710 = .ok (.invokevirtual 81, 3) := edL_law_694.2.2.2.2.2.2.2.2.2.2.2.2.1
theorem dL_law_713 : decode cL_law 713 = .ok (.pop, 1) := edL_law_694.2.2.2.2.2.2.2.2.2.2.2.2.2.1
theorem dL_law_714 : decode cL_law 714 = .ok (.aload_n 2, 1) := edL_law_694.2.2.2.2.2.2.2.2.2.2.2.2.2.2.1
theorem dL_law_715 : decode cL_law 715 = .ok (.aload_n 0, 1) := edL_law_694.2.2.2.2.2.2.2.2.2.2.2.2.2.2.2.1
theorem dL_law_716 : decode cL_law 716 = .ok (.iload_n 3, 1) := edL_law_694.2.2.2.2.2.2.2.2.2.2.2.2.2.2.2.2.1
theorem dL_law_717 : decode cL_law 717 = .ok (.iconst 1, 1) := edL_law_694.2.2.2.2.2.2.2.2.2.2.2.2.2.2.2.2.2.1
theorem dL_law_718 : decode cL_law 718 = .ok (.iadd, 1) := edL_law_694.2.2.2.2.2.2.2.2.2.2.2.2.2.2.2.2.2.2.1
theorem dL_law_719 : decode cL_law 719 = .ok (.iaload, 1) := edL_law_694.2.2.2.2.2.2.2.2.2.2.2.2.2.2.2.2.2.2.2.1
theorem dL_law_720 : decode cL_law 720 = .ok (.invokevirtual 84, 3) := edL_law_694.2.2.2.2.2.2.2.2.2.2.2.2.2.2.2.2.2.2.2.2.1
theorem dL_law_723 : decode cL_law 723 = .ok (.pop, 1) := edL_law_694.2.2.2.2.2.2.2.2.2.2.2.2.2.2.2.2.2.2.2.2.2.1
theorem dL_law_724 : decode cL_law 724 = .ok (.goto 728, 3) := edL_law_694.2.2.2.2.2.2.2.2.2.2.2.2.2.2.2.2.2.2.2.2.2.2.1
theorem dL_law_727 : decode cL_law 727 = .ok (.aload_n 1, 1) := edL_law_694.2.2.2.2.2.2.2.2.2.2.2.2.2.2.2.2.2.2.2.2.2.2.2
theorem edL_law_728 : (decode cL_law 728 = .ok (.aload_n 0, 1)) ∧ (decode cL_law 729 = .ok (.iload_n 3, 1)) ∧ (decode cL_law 730 = .ok (.iconst 1, 1)) ∧ (decode cL_law 731 = .ok (.iadd, 1)) ∧ (decode cL_law 732 = .ok (.iaload, 1)) ∧ (decode cL_law 733 = .ok (.invokevirtual 85, 3)) ∧ (decode cL_law 736 = .ok (.pop, 1)) ∧ (decode cL_law 737 = .ok (.aload_n 2, 1)) ∧ (decode cL_law 738 = .ok (.aload_n 0, 1)) ∧ (decode cL_law 739 = .ok (.iload_n 3, 1)) ∧ (decode cL_law 740 = .ok (.iconst 1, 1)) ∧ (decode cL_law 741 = .ok (.iadd, 1)) ∧ (decode cL_law 742 = .ok (.iaload, 1)) ∧ (decode cL_law 743 = .ok (.invokevirtual 88, 3)) ∧ (decode cL_law 746 = .ok (.pop, 1)) ∧ (decode cL_law 747 = .ok (.goto 705, 3)) ∧ (decode cL_law 750 = .ok (.aload_n 1, 1)) ∧ (decode cL_law 751 = .ok (.aload_n 0, 1)) ∧ (decode cL_law 752 = .ok (.iload_n 3, 1)) ∧ (decode cL_law 753 = .ok (.iconst 1, 1)) ∧ (decode cL_law 754 = .ok (.iadd, 1)) ∧ (decode cL_law 755 = .ok (.iaload, 1)) ∧ (decode cL_law 756 = .ok (.invokevirtual 89, 3)) ∧ (decode cL_law 759 = .ok (.pop, 1)) := by decide +kernel
theorem dL_law_728 : decode cL_law 728 = .ok (.aload_n 0, 1) := edL_law_728.1
theorem dL_law_729 : decode cL_law 729 = .ok (.iload_n 3, 1) := edL_law_728.2.1
theorem dL_law_730 : decode cL_law 730 = .ok (.iconst 1, 1) := edL_law_728.2.2.1
theorem dL_law_731 : decode cL_law 731 = .ok (.iadd, 1) := edL_law_728.2.2.2.1
theorem dL_law_732 : decode cL_law 732 = .ok (.iaload, 1) := edL_law_728.2.2.2.2.1
theorem dL_law_733 : decode cL_law 733 = .ok (.invokevirtual 85, 3) := edL_law_728.2.2.2.2.2.1
theorem dL_law_736 : decode cL_law 736 = .ok (.pop, 1) := edL_law_728.2.2.2.2.2.2.1
theorem dL_law_737 : decode cL_law 737 = .ok (.aload_n 2, 1) := edL_law_728.2.2.2.2.2.2.2.1
theorem dL_law_738 : decode cL_law 738 = .ok (.aload_n 0, 1) := edL_law_728.2.2.2.2.2.2.2.2.1
theorem dL_law_739 : decode cL_law 739 = .ok (.iload_n 3, 1) := edL_law_728.2.2.2.2.2.2.2.2.2.1
theorem dL_law_740 : decode cL_law 740 = .ok (.iconst 1, 1) := edL_law_728.2.2.2.2.2.2.2.2.2.2.1
theorem dL_law_741 : decode cL_law 741 = .ok (.iadd, 1) := edL_law_728.2.2.2.2.2.2.2.2.2.2.2.1
theorem dL_law_742 : decode cL_law 742 = .ok (.iaload, 1) := edL_law_728.2.2.2.2.2.2.2.2.2.2.2.2.1
theorem dL_law_743 : decode cL_law 743 = .ok (.invokevirtual 88, 3) := edL_law_728.2.2.2.2.2.2.2.2.2.2.2.2.2.1
theorem dL_law_746 : decode cL_law 746 = .ok (.pop, 1) := edL_law_728.2.2.2.2.2.2.2.2.2.2.2.2.2.2.1
theorem dL_law_747 : decode cL_law 747 = .ok (.goto 705, 3) := edL_law_728.2.2.2.2.2.2.2.2.2.2.2.2.2.2.2.1
theorem dL_law_750 : decode cL_law 750 = .ok (.aload_n 1, 1) := edL_law_728.2.2.2.2.2.2.2.2.2.2.2.2.2.2.2.2.1
theorem dL_law_751 : decode cL_law 751 = .ok (.aload_n 0, 1) := edL_law_728.2.2.2.2.2.2.2.2.2.2.2.2.2.2.2.2.2.1
theorem dL_law_752 : decode cL_law 752 = .ok (.iload_n 3, 1) := edL_law_728.2.2.2.2.2.2.2.2.2.2.2.2.2.2.2.2.2.2.1
theorem dL_law_753 : decode cL_law 753 = .ok (.iconst 1, 1) := edL_law_728.2.2.2.2.2.2.2.2.2.2.2.2.2.2.2.2.2.2.2.1
theorem dL_law_754 : decode cL_law 754 = .ok (.iadd, 1) := edL_law_728.2.2.2.2.2.2.2.2.2.2.2.2.2.2.2.2.2.2.2.2.1
theorem dL_law_755 : decode cL_law 755 = .ok (.iaload, 1) := edL_law_728.2.2.2.2.2.2.2.2.2.2.2.2.2.2.2.2.2.2.2.2.2.1
theorem dL_law_756 : decode cL_law 756 = .ok (.invokevirtual 89, 3) := edL_law_728.2.2.2.2.2.2.2.2.2.2.2.2.2.2.2.2.2.2.2.2.2.2.1
theorem dL_law_759 : decode cL_law 759 = .ok (.pop, 1) := edL_law_728.2.2.2.2.2.2.2.2.2.2.2.2.2.2.2.2.2.2.2.2.2.2.2
theorem edL_law_760 : (decode cL_law 760 = .ok (.aload_n 2, 1)) ∧ (decode cL_law 761 = .ok (.aload_n 0, 1)) ∧ (decode cL_law 762 = .ok (.iload_n 3, 1)) ∧ (decode cL_law 763 = .ok (.iconst 1, 1)) ∧ (decode cL_law 764 = .ok (.iadd, 1)) ∧ (decode cL_law 765 = .ok (.iaload, 1)) ∧ (decode cL_law 766 = .ok (.invokevirtual 92, 3)) ∧ (decode cL_law 769 = .ok (.pop, 1)) ∧ (decode cL_law 770 = .ok (.goto 682, 3)) ∧ (decode cL_law 773 = .ok (.aload_n 1, 1)) ∧ (decode cL_law 774 = .ok (.aload_n 0, 1)) ∧ (decode cL_law 775 = .ok (.iload_n 3, 1)) ∧ (decode cL_law 776 = .ok (.iconst 1, 1)) ∧ (decode cL_law 777 = .ok (.iadd, 1)) ∧ (decode cL_law 778 = .ok (.iaload, 1)) ∧ (decode cL_law 779 = .ok (.aload_n 0, 1)) ∧ (decode cL_law 780 = .ok (.iload_n 3, 1)) ∧ (decode cL_law 781 = .ok (.iconst 2, 1)) ∧ (decode cL_law 782 = .ok (.iadd, 1)) ∧ (decode cL_law 783 = .ok (.iaload, 1)) ∧ (decode cL_law 784 = .ok (.invokevirtual 93, 3)) ∧ (decode cL_law 787 = .ok (.pop, 1)) ∧ (decode cL_law 788 = .ok (.aload_n 2, 1)) ∧ (decode cL_law 789 = .ok (.aload_n 0, 1)) := by decide +kernel
theorem dL_law_760 : decode cL_law 760 = .ok (.aload_n 2, 1) := edL_law_760.1
theorem dL_law_761 : decode cL_law 761 = .ok (.aload_n 0, 1) := edL_law_760.2.1
theorem dL_law_762 : decode cL_law 762 = .ok (.iload_n 3, 1) := edL_law_760.2.2.1
theorem dL_law_763 : decode cL_law 763 = .ok (.iconst 1, 1) := edL_law_760.2.2.2.1
theorem dL_law_764 : decode cL_law 764 = .ok (.iadd, 1) := edL_law_760.2.2.2.2.1
theorem dL_law_765 : decode cL_law 765 = .ok (.iaload, 1) := edL_law_760.2.2.2.2.2.1
theorem dL_law_766 : decode cL_law 766 = .ok (.invokevirtual 92, 3) := edL_law_760.2.2.2.2.2.2.1
theorem dL_law_769 : decode cL_law 769 = .ok (.pop, 1) := edL_law_760.2.2.2.2.2.2.2.1
theorem dL_law_770 : decode cL_law 770 = .ok (.goto 682, 3) := edL_law_760.2.2.2.2.2.2.2.2.1
theorem dL_law_773 : decode cL_law 773 = .ok (.aload_n 1, 1) := edL_law_760.2.2.2.2.2.2.2.2.2.1
theorem dL_law_774 : decode cL_law 774 = .ok (.aload_n 0, 1) := edL_law_760.2.2.2.2.2.2.2.2.2.2.1
theorem dL_law_775 : decode cL_law 775 = .ok (.iload_n 3, 1) := edL_law_760.2.2.2.2.2.2.2.2.2.2.2.1
theorem dL_law_776 : decode cL_law 776 = .ok (.iconst 1, 1) := edL_law_760.2.2.2.2.2.2.2.2.2.2.2.2.1
theorem dL_law_777 : decode cL_law 777 = .ok (.iadd, 1) := edL_law_760.2.2.2.2.2.2.2.2.2.2.2.2.2.1
theorem dL_law_778 : decode cL_law 778 = .ok (.iaload, 1) := edL_law_760.2.2.2.2.2.2.2.2.2.2.2.2.2.2.1
theorem dL_law_779 : decode cL_law 779 = .ok (.aload_n 0, 1) := edL_law_760.2.2.2.2.2.2.2.2.2.2.2.2.2.2.2.1
theorem dL_law_780 : decode cL_law 780 = .ok (.iload_n 3, 1) := edL_law_760.2.2.2.2.2.2.2.2.2.2.2.2.2.2.2.2.1
theorem dL_law_781 : decode cL_law 781 = .ok (.iconst 2, 1) := edL_law_760.2.2.2.2.2.2.2.2.2.2.2.2.2.2.2.2.2.1
theorem dL_law_782 : decode cL_law 782 = .ok (.iadd, 1) := edL_law_760.2.2.2.2.2.2.2.2.2.2.2.2.2.2.2.2.2.2.1
theorem dL_law_783 : decode cL_law 783 = .ok (.iaload, 1) := edL_law_760.2.2.2.2.2.2.2.2.2.2.2.2.2.2.2.2.2.2.2.1
theorem dL_law_784 : decode cL_law 784 = .ok (.invokevirtual 93, 3) := edL_law_760.2.2.2.2.2.2.2.2.2.2.2.2.2.2.2.2.2.2.2.2.1
theorem dL_law_787 : decode cL_law 787 = .ok (.pop, 1) := edL_law_760.2.2.2.2.2.2.2.2.2.2.2.2.2.2.2.2.2.2.2.2.2.1
theorem dL_law_788 : decode cL_law 788 = .ok (.aload_n 2, 1) := edL_law_760.2.2.2.2.2.2.2.2.2.2.2.2.2.2.2.2.2.2.2.2.2.2.1
theorem dL_law_789 : decode cL_law 789 = .ok (.aload_n 0, 1) := edL_law_760.2.2.2.2.2.2.2.2.2.2.2.2.2.2.2.2.2.2.2.2.2.2.2
theorem edL_law_790 : (decode cL_law 790 = .ok (.iload_n 3, 1)) ∧ (decode cL_law 791 = .ok (.iconst 1, 1)) ∧ (decode cL_law 792 = .ok (.iadd, 1)) ∧ (decode cL_law 793 = .ok (.iaload, 1)) ∧ (decode cL_law 794 = .ok (.aload_n 0, 1)) ∧ (decode cL_law 795 = .ok (.iload_n 3, 1)) ∧ (decode cL_law 796 = .ok (.iconst 2, 1)) ∧ (decode cL_law 797 = .ok (.iadd, 1)) ∧ (decode cL_law 798 = .ok (.iaload, 1)) ∧ (decode cL_law 799 = .ok (.invokevirtual 96, 3)) ∧ (decode cL_law 802 = .ok (.pop, 1)) ∧ (decode cL_law 803 = .ok (.goto 649, 3)) ∧ (decode cL_law 806 = .ok (.aload_n 1, 1)) ∧ (decode cL_law 807 = .ok (.aload_n 0, 1)) ∧ (decode cL_law 808 = .ok (.iload_n 3, 1)) ∧ (decode cL_law 809 = .ok (.iconst 1, 1)) ∧ (decode cL_law 810 = .ok (.iadd, 1)) ∧ (decode cL_law 811 = .ok (.iaload, 1)) ∧ (decode cL_law 812 = .ok (.aload_n 0, 1)) ∧ (decode cL_law 813 = .ok (.iload_n 3, 1)) ∧ (decode cL_law 814 = .ok (.iconst 2, 1)) ∧ (decode cL_law 815 = .ok (.iadd, 1)) ∧ (decode cL_law 816 = .ok (.iaload, 1)) ∧ (decode cL_law 817 = .ok (.aload_n 0, 1)) := by decide +kernel
theorem dL_law_790 : decode cL_law 790 = .ok (.iload_n 3, 1) := edL_law_790.1
theorem dL_law_791 : decode cL_law 791 = .ok (.iconst 1, 1) := edL_law_790.2.1
theorem dL_law_792 : decode cL_law 792 = .ok (.iadd, 1) := edL_law_790.2.2.1
theorem dL_law_793 : decode cL_law 793 = .ok (.iaload, 1) := edL_law_790.2.2.2.1
theorem dL_law_794 : decode cL_law 794 = .ok (.aload_n 0, 1) := edL_law_790.2.2.2.2.1
theorem dL_law_795 : decode cL_law 795 = .ok (.iload_n 3, 1) := edL_law_790.2.2.2.2.2.1
theorem dL_law_796 : decode cL_law 796 = .ok (.iconst 2, 1) := edL_law_790.2.2.2.2.2.2.1
theorem dL_law_797 : decode cL_law 797 = .ok (.iadd, 1) := edL_law_790.2.2.2.2.2.2.2.1
theorem dL_law_798 : decode cL_law 798 = .ok (.iaload, 1) := edL_law_790.2.2.2.2.2.2.2.2.1
theorem dL_law_799 : decode cL_law 799 = .ok (.invokevirtual 96, 3) := edL_law_790.2.2.2.2.2.2.2.2.2.1
theorem dL_law_802 : decode cL_law 802 = .ok (.pop, 1) := edL_law_790.2.2.2.2.2.2.2.2.2.2.1
theorem dL_law_803 : decode cL_law 803 = .ok (.goto 649, 3) := edL_law_790.2.2.2.2.2.2.2.2.2.2.2.1
theorem dL_law_806 : decode cL_law 806 = .ok (.aload_n 1, 1) := edL_law_790.2.2.2.2.2.2.2.2.2.2.2.2.1
theorem dL_law_807 : decode cL_law 807 = .ok (.aload_n 0, 1) := edL_law_790.2.2.2.2.2.2.2.2.2.2.2.2.2.1
theorem dL_law_808 : decode cL_law 808 = .ok (.iload_n 3, 1) := edL_law_790.2.2.2.2.2.2.2.2.2.2.2.2.2.2.1
theorem dL_law_809 : decode cL_law 809 = .ok (.iconst 1, 1) := edL_law_790.2.2.2.2.2.2.2.2.2.2.2.2.2.2.2.1
theorem dL_law_810 : decode cL_law 810 = .ok (.iadd, 1) := edL_law_790.2.2.2.2.2.2.2.2.2.2.2.2.2.2.2.2.1
theorem dL_law_811 : decode cL_law 811 = .ok (.iaload, 1) := edL_law_790.2.2.2.2.2.2.2.2.2.2.2.2.2.2.2.2.2.1
theorem dL_law_812 : decode cL_law 812 = .ok (.aload_n 0, 1) := edL_law_790.2.2.2.2.2.2.2.2.2.2.2.2.2.2.2.2.2.2.1
theorem dL_law_813 : decode cL_law 813 = .ok (.iload_n 3, 1) := edL_law_790.2.2.2.2.2.2.2.2.2.2.2.2.2.2.2.2.2.2.2.1
theorem dL_law_814 : decode cL_law 814 = .ok (.iconst 2, 1) := edL_law_790.2.2.2.2.2.2.2.2.2.2.2.2.2.2.2.2.2.2.2.2.1
theorem dL_law_815 : decode cL_law 815 = .ok (.iadd, 1) := edL_law_790.2.2.2.2.2.2.2.2.2.2.2.2.2.2.2.2.2.2.2.2.2.1
theorem dL_law_816 : decode cL_law 816 = .ok (.iaload, 1) := edL_law_790.2.2.2.2.2.2.2.2.2.2.2.2.2.2.2.2.2.2.2.2.2.2.1
theorem dL_law_817 : decode cL_law 817 = .ok (.aload_n 0, 1) := edL_law_790.2.2.2.2.2.2.2.2.2.2.2.2.2.2.2.2.2.2.2.2.2.2.2
theorem edL_law_818 : (decode cL_law 818 = .ok (.iload_n 3, 1)) ∧ (decode cL_law 819 = .ok (.iconst 3, 1)) ∧ (decode cL_law 820 = .ok (.iadd, 1)) ∧ (decode cL_law 821 = .ok (.iaload, 1)) ∧ (decode cL_law 822 = .ok (.invokevirtual 97, 3)) ∧ (decode cL_law 825 = .ok (.pop, 1)) ∧ (decode cL_law 826 = .ok (.aload_n 2, 1)) ∧ (decode cL_law 827 = .ok (.aload_n 0, 1)) ∧ (decode cL_law 828 = .ok (.iload_n 3, 1)) ∧ (decode cL_law 829 = .ok (.iconst 1, 1)) ∧ (decode cL_law 830 = .ok (.iadd, 1)) ∧ (decode cL_law 831 = .ok (.iaload, 1)) ∧ (decode cL_law 832 = .ok (.aload_n 0, 1)) ∧ (decode cL_law 833 = .ok (.iload_n 3, 1)) ∧ (decode cL_law 834 = .ok (.iconst 2, 1)) ∧ (decode cL_law 835 = .ok (.iadd, 1)) ∧ (decode cL_law 836 = .ok (.iaload, 1)) ∧ (decode cL_law 837 = .ok (.aload_n 0, 1)) ∧ (decode cL_law 838 = .ok (.iload_n 3, 1)) ∧ (decode cL_law 839 = .ok (.iconst 3, 1)) ∧ (decode cL_law 840 = .ok (.iadd, 1)) ∧ (decode cL_law 841 = .ok (.iaload, 1)) ∧ (decode cL_law 842 = .ok (.invokevirtual 100, 3)) ∧ (decode cL_law 845 = .ok (.pop, 1)) := by decide +kernel
theorem dL_law_818 : decode cL_law 818 = .ok (.iload_n 3, 1) := edL_law_818.1
theorem dL_law_819 : decode cL_law 819 = .ok (.iconst 3, 1) := edL_law_818.2.1
theorem dL_law_820 : decode cL_law 820 = .ok (.iadd, 1) := edL_law_818.2.2.1
theorem dL_law_821 : decode cL_law 821 = .ok (.iaload, 1) := edL_law_818.2.2.2.1
theorem dL_law_822 : decode cL_law 822 = .ok (.invokevirtual 97, 3) := edL_law_818.2.2.2.2.1
theorem dL_law_825 : decode cL_law 825 = .ok (.pop, 1) := edL_law_818.2.2.2.2.2.1
theorem dL_law_826 : decode cL_law 826 = .ok (.aload_n 2, 1) := edL_law_818.2.2.2.2.2.2.1
theorem dL_law_827 : decode cL_law 827 = .ok (.aload_n 0, 1) := edL_law_818.2.2.2.2.2.2.2.1
theorem dL_law_828 : decode cL_law 828 = .ok (.iload_n 3, 1) := edL_law_818.2.2.2.2.2.2.2.2.1
theorem dL_law_829 : decode cL_law 829 = .ok (.iconst 1, 1) := edL_law_818.2.2.2.2.2.2.2.2.2.1
theorem dL_law_830 : decode cL_law 830 = .ok (.iadd, 1) := edL_law_818.2.2.2.2.2.2.2.2.2.2.1
theorem dL_law_831 : decode cL_law 831 = .ok (.iaload, 1) := edL_law_818.2.2.2.2.2.2.2.2.2.2.2.1
theorem dL_law_832 : decode cL_law 832 = .ok (.aload_n 0, 1) := edL_law_818.2.2.2.2.2.2.2.2.2.2.2.2.1
theorem dL_law_833 : decode cL_law 833 = .ok (.iload_n 3, 1) := edL_law_818.2.2.2.2.2.2.2.2.2.2.2.2.2.1
theorem dL_law_834 : decode cL_law 834 = .ok (.iconst 2, 1) := edL_law_818.2.2.2.2.2.2.2.2.2.2.2.2.2.2.1
theorem dL_law_835 : decode cL_law 835 = .ok (.iadd, 1) := edL_law_818.2.2.2.2.2.2.2.2.2.2.2.2.2.2.2.1
theorem dL_law_836 : decode cL_law 836 = .ok (.iaload, 1) := edL_law_818.2.2.2.2.2.2.2.2.2.2.2.2.2.2.2.2.1
theorem dL_law_837 : decode cL_law 837 = .ok (.aload_n 0, 1) := edL_law_818.2.2.2.2.2.2.2.2.2.2.2.2.2.2.2.2.2.1
theorem dL_law_838 : decode cL_law 838 = .ok (.iload_n 3, 1) := edL_law_818.2.2.2.2.2.2.2.2.2.2.2.2.2.2.2.2.2.2.1
theorem dL_law_839 : decode cL_law 839 = .ok (.iconst 3, 1) := edL_law_818.2.2.2.2.2.2.2.2.2.2.2.2.2.2.2.2.2.2.2.1
theorem dL_law_840 : decode cL_law 840 = .ok (.iadd, 1) := edL_law_818.2.2.2.2.2.2.2.2.2.2.2.2.2.2.2.2.2.2.2.2.1
theorem dL_law_841 : decode cL_law 841 = .ok (.iaload, 1) := edL_law_818.2.2.2.2.2.2.2.2.2.2.2.2.2.2.2.2.2.2.2.2.2.1
theorem dL_law_842 : decode cL_law 842 = .ok (.invokevirtual 100, 3) := edL_law_818.2.2.2.2.2.2.2.2.2.2.2.2.2.2.2.2.2.2.2.2.2.2.1
theorem dL_law_845 : decode cL_law 845 = .ok (.pop, 1) := edL_law_818.2.2.2.2.2.2.2.2.2.2.2.2.2.2.2.2.2.2.2.2.2.2.2
theorem edL_law_846 : (decode cL_law 846 = .ok (.goto 606, 3)) ∧ (decode cL_law 849 = .ok (.aload_n 1, 1)) ∧ (decode cL_law 850 = .ok (.invokevirtual 101, 3)) ∧ (decode cL_law 853 = .ok (.pop, 1)) ∧ (decode cL_law 854 = .ok (.aload_n 2, 1)) ∧ (decode cL_law 855 = .ok (.invokevirtual 104, 3)) ∧ (decode cL_law 858 = .ok (.pop, 1)) ∧ (decode cL_law 859 = .ok (.goto 593, 3)) ∧ (decode cL_law 862 = .ok (.aload_n 1, 1)) ∧ (decode cL_law 863 = .ok (.aload_n 0, 1)) ∧ (decode cL_law 864 = .ok (.iload_n 3, 1)) ∧ (decode cL_law 865 = .ok (.iconst 1, 1)) ∧ (decode cL_law 866 = .ok (.iadd, 1)) ∧ (decode cL_law 867 = .ok (.iaload, 1)) ∧ (decode cL_law 868 = .ok (.invokevirtual 105, 3)) ∧ (decode cL_law 871 = .ok (.pop, 1)) ∧ (decode cL_law 872 = .ok (.aload_n 2, 1)) ∧ (decode cL_law 873 = .ok (.aload_n 0, 1)) ∧ (decode cL_law 874 = .ok (.iload_n 3, 1)) ∧ (decode cL_law 875 = .ok (.iconst 1, 1)) ∧ (decode cL_law 876 = .ok (.iadd, 1)) ∧ (decode cL_law 877 = .ok (.iaload, 1)) ∧ (decode cL_law 878 = .ok (.invokevirtual 108, 3)) ∧ (decode cL_law 881 = .ok (.pop, 1)) := by decide +kernel
theorem dL_law_846 : decode cL_law 846 = .ok (.goto 606, 3) := edL_law_846.1
theorem dL_law_849 : decode cL_law 849 = .ok (.aload_n 1, 1) := edL_law_846.2.1
theorem dL_law_850 : decode cL_law 850 = .ok (.invokevirtual 101, 3) := edL_law_846.2.2.1
theorem dL_law_853 : decode cL_law 853 = .ok (.pop, 1) := edL_law_846.2.2.2.1
theorem dL_law_854 : decode cL_law 854 = .ok (.aload_n 2, 1) := edL_law_846.2.2.2.2.1
theorem dL_law_855 : decode cL_law 855 = .ok (.invokevirtual 104, 3) := edL_law_846.2.2.2.2.2.1
theorem dL_law_858 : decode cL_law 858 = .ok (.pop, 1) := edL_law_846.2.2.2.2.2.2.1
theorem dL_law_859 : decode cL_law 859 = .ok (.goto 593, 3) := edL_law_846.2.2.2.2.2.2.2.1
theorem dL_law_862 : decode cL_law 862 = .ok (.aload_n 1, 1) := edL_law_846.2.2.2.2.2.2.2.2.1
theorem dL_law_863 : decode cL_law 863 = .ok (.aload_n 0, 1) := edL_law_846.2.2.2.2.2.2.2.2.2.1
theorem dL_law_864 : decode cL_law 864 = .ok (.iload_n 3, 1) := edL_law_846.2.2.2.2.2.2.2.2.2.2.1
theorem dL_law_865 : decode cL_law 865 = .ok (.iconst 1, 1) := edL_law_846.2.2.2.2.2.2.2.2.2.2.2.1
theorem dL_law_866 : decode cL_law 866 = .ok (.iadd, 1) := edL_law_846.2.2.2.2.2.2.2.2.2.2.2.2.1
theorem dL_law_867 : decode cL_law 867 = .ok (.iaload, 1) := edL_law_846.2.2.2.2.2.2.2.2.2.2.2.2.2.1
theorem dL_law_868 : decode cL_law 868 = .ok (.invokevirtual 105, 3) := edL_law_846.2.2.2.2.2.2.2.2.2.2.2.2.2.2.1
theorem dL_law_871 : decode cL_law 871 = .ok (.pop, 1) := edL_law_846.2.2.2.2.2.2.2.2.2.2.2.2.2.2.2.1
theorem dL_law_872 : decode cL_law 872 = .ok (.aload_n 2, 1) := edL_law_846.2.2.2.2.2.2.2.2.2.2.2.2.2.2.2.2.1
theorem dL_law_873 : decode cL_law 873 = .ok (.aload_n 0, 1) := edL_law_846.2.2.2.2.2.2.2.2.2.2.2.2.2.2.2.2.2.1
theorem dL_law_874 : decode cL_law 874 = .ok (.iload_n 3, 1) := edL_law_846.2.2.2.2.2.2.2.2.2.2.2.2.2.2.2.2.2.2.1
theorem dL_law_875 : decode cL_law 875 = .ok (.iconst 1, 1) := edL_law_846.2.2.2.2.2.2.2.2.2.2.2.2.2.2.2.2.2.2.2.1
theorem dL_law_876 : decode cL_law 876 = .ok (.iadd, 1) := edL_law_846.2.2.2.2.2.2.2.2.2.2.2.2.2.2.2.2.2.2.2.2.1
theorem dL_law_877 : decode cL_law 877 = .ok (.iaload, 1) := edL_law_846.2.2.2.2.2.2.2.2.2.2.2.2.2.2.2.2.2.2.2.2.2.1
theorem dL_law_878 : decode cL_law 878 = .ok (.invokevirtual 108, 3) := edL_law_846.2.2.2.2.2.2.2.2.2.2.2.2.2.2.2.2.2.2.2.2.2.2.1
theorem dL_law_881 : decode cL_law 881 = .ok (.pop, 1) := edL_law_846.2.2.2.2.2.2.2.2.2.2.2.2.2.2.2.2.2.2.2.2.2.2.2
theorem edL_law_882 : (decode cL_law 882 = .ok (.goto 570, 3)) ∧ (decode cL_law 885 = .ok (.aload_n 1, 1)) ∧ (decode cL_law 886 = .ok (.aload_n 0, 1)) ∧ (decode cL_law 887 = .ok (.iload_n 3, 1)) ∧ (decode cL_law 888 = .ok (.iconst 1, 1)) ∧ (decode cL_law 889 = .ok (.iadd, 1)) ∧ (decode cL_law 890 = .ok (.iaload, 1)) ∧ (decode cL_law 891 = .ok (.aload_n 0, 1)) ∧ (decode cL_law 892 = .ok (.iload_n 3, 1)) ∧ (decode cL_law 893 = .ok (.iconst 2, 1)) ∧ (decode cL_law 894 = .ok (.iadd, 1)) ∧ (decode cL_law 895 = .ok (.iaload, 1)) ∧ (decode cL_law 896 = .ok (.aload_n 0, 1)) ∧ (decode cL_law 897 = .ok (.iload_n 3, 1)) ∧ (decode cL_law 898 = .ok (.iconst 3, 1)) ∧ (decode cL_law 899 = .ok (.iadd, 1)) ∧ (decode cL_law 900 = .ok (.iaload, 1)) ∧ (decode cL_law 901 = .ok (.invokevirtual 109, 3)) ∧ (decode cL_law 904 = .ok (.pop, 1)) ∧ (decode cL_law 905 = .ok (.aload_n 2, 1)) ∧ (decode cL_law 906 = .ok (.aload_n 0, 1)) ∧ (decode cL_law 907 = .ok (.iload_n 3, 1)) ∧ (decode cL_law 908 = .ok (.iconst 1, 1)) ∧ (decode cL_law 909 = .ok (.iadd, 1)) := by decide +kernel
theorem dL_law_882 : decode cL_law 882 = .ok (.goto 570, 3) := edL_law_882.1
theorem dL_law_885 : decode cL_law 885 = .ok (.aload_n 1, 1) := edL_law_882.2.1
theorem dL_law_886 : decode cL_law 886 = .ok (.aload_n 0, 1) := edL_law_882.2.2.1
theorem dL_law_887 : decode cL_law 887 = .ok (.iload_n 3, 1) := edL_law_882.2.2.2.1
theorem dL_law_888 : decode cL_law 888 = .ok (.iconst 1, 1) := edL_law_882.2.2.2.2.1
theorem dL_law_889 : decode cL_law 889 = .ok (.iadd, 1) := edL_law_882.2.2.2.2.2.1
theorem dL_law_890 : decode cL_law 890 = .ok (.iaload, 1) := edL_law_882.2.2.2.2.2.2.1
theorem dL_law_891 : decode cL_law 891 = .ok (.aload_n 0, 1) := edL_law_882.2.2.2.2.2.2.2.1
theorem dL_law_892 : decode cL_law 892 = .ok (.iload_n 3, 1) := edL_law_882.2.2.2.2.2.2.2.2.1
theorem dL_law_893 : decode cL_law 893 = .ok (.iconst 2, 1) := edL_law_882.2.2.2.2.2.2.2.2.2.1
theorem dL_law_894 : decode cL_law 894 = .ok (.iadd, 1) := edL_law_882.2.2.2.2.2.2.2.2.2.2.1
theorem dL_law_895 : decode cL_law 895 = .ok (.iaload, 1) := edL_law_882.2.2.2.2.2.2.2.2.2.2.2.1
theorem dL_law_896 : decode cL_law 896 = .ok (.aload_n 0, 1) := edL_law_882.2.2.2.2.2.2.2.2.2.2.2.2.1
theorem dL_law_897 : decode cL_law 897 = .ok (.iload_n 3, 1) := edL_law_882.2.2.2.2.2.2.2.2.2.2.2.2.2.1
theorem dL_law_898 : decode cL_law 898 = .ok (.iconst 3, 1) := edL_law_882.2.2.2.2.2.2.2.2.2.2.2.2.2.2.1
theorem dL_law_899 : decode cL_law 899 = .ok (.iadd, 1) := edL_law_882.2.2.2.2.2.2.2.2.2.2.2.2.2.2.2.1
theorem dL_law_900 : decode cL_law 900 = .ok (.iaload, 1) := edL_law_882.2.2.2.2.2.2.2.2.2.2.2.2.2.2.2.2.1
theorem dL_law_901 : decode cL_law 901 = .ok (.invokevirtual 109, 3) := edL_law_882.2.2.2.2.2.2.2.2.2.2.2.2.2.2.2.2.2.1
theorem dL_law_904 : decode cL_law 904 = .ok (.pop, 1) := edL_law_882.2.2.2.2.2.2.2.2.2.2.2.2.2.2.2.2.2.2.1
theorem dL_law_905 : decode cL_law 905 = .ok (.aload_n 2, 1) := edL_law_882.2.2.2.2.2.2.2.2.2.2.2.2.2.2.2.2.2.2.2.1
theorem dL_law_906 : decode cL_law 906 = .ok (.aload_n 0, 1) := edL_law_882.2.2.2.2.2.2.2.2.2.2.2.2.2.2.2.2.2.2.2.2.1
theorem dL_law_907 : decode cL_law 907 = .ok (.iload_n 3, 1) := edL_law_882.2.2.2.2.2.2.2.2.2.2.2.2.2.2.2.2.2.2.2.2.2.1
theorem dL_law_908 : decode cL_law 908 = .ok (.iconst 1, 1) := edL_law_882.2.2.2.2.2.2.2.2.2.2.2.2.2.2.2.2.2.2.2.2.2.2.1
theorem dL_law_909 : decode cL_law 909 = .ok (.iadd, 1) := edL_law_882.2.2.2.2.2.2.2.2.2.2.2.2.2.2.2.2.2.2.2.2.2.2.2
theorem edL_law_910 : (decode cL_law 910 = .ok (.iaload, 1)) ∧ (decode cL_law 911 = .ok (.aload_n 0, 1)) ∧ (decode cL_law 912 = .ok (.iload_n 3, 1)) ∧ (decode cL_law 913 = .ok (.iconst 2, 1)) ∧ (decode cL_law 914 = .ok (.iadd, 1)) ∧ (decode cL_law 915 = .ok (.iaload, 1)) ∧ (decode cL_law 916 = .ok (.aload_n 0, 1)) ∧ (decode cL_law 917 = .ok (.iload_n 3, 1)) ∧ (decode cL_law 918 = .ok (.iconst 3, 1)) ∧ (decode cL_law 919 = .ok (.iadd, 1)) ∧ (decode cL_law 920 = .ok (.iaload, 1)) ∧ (decode cL_law 921 = .ok (.invokevirtual 112, 3)) ∧ (decode cL_law 924 = .ok (.pop, 1)) ∧ (decode cL_law 925 = .ok (.goto 527, 3)) ∧ (decode cL_law 928 = .ok (.aload_n 1, 1)) ∧ (decode cL_law 929 = .ok (.aload_n 0, 1)) ∧ (decode cL_law 930 = .ok (.iload_n 3, 1)) ∧ (decode cL_law 931 = .ok (.iconst 1, 1)) ∧ (decode cL_law 932 = .ok (.iadd, 1)) ∧ (decode cL_law 933 = .ok (.iaload, 1)) ∧ (decode cL_law 934 = .ok (.invokevirtual 113, 3)) ∧ (decode cL_law 937 = .ok (.pop, 1)) ∧ (decode cL_law 938 = .ok (.aload_n 2, 1)) ∧ (decode cL_law 939 = .ok (.aload_n 0, 1)) := by decide +kernel
theorem dL_law_910 : decode cL_law 910 = .ok (.iaload, 1) := edL_law_910.1
theorem dL_law_911 : decode cL_law 911 = .ok (.aload_n 0, 1) := edL_law_910.2.1
theorem dL_law_912 : decode cL_law 912 = .ok (.iload_n 3, 1) := edL_law_910.2.2.1
theorem dL_law_913 : decode cL_law 913 = .ok (.iconst 2, 1) := edL_law_910.2.2.2.1
theorem dL_law_914 : decode cL_law 914 = .ok (.iadd, 1) := edL_law_910.2.2.2.2.1
theorem dL_law_915 : decode cL_law 915 = .ok (.iaload, 1) := edL_law_910.2.2.2.2.2.1
theorem dL_law_916 : decode cL_law 916 = .ok (.aload_n 0, 1) := edL_law_910.2.2.2.2.2.2.1
theorem dL_law_917 : decode cL_law 917 = .ok (.iload_n 3, 1) := edL_law_910.2.2.2.2.2.2.2.1
theorem dL_law_918 : decode cL_law 918 = .ok (.iconst 3, 1) := edL_law_910.2.2.2.2.2.2.2.2.1
theorem dL_law_919 : decode cL_law 919 = .ok (.iadd, 1) := edL_law_910.2.2.2.2.2.2.2.2.2.1
theorem dL_law_920 : decode cL_law 920 = .ok (.iaload, 1) := edL_law_910.2.2.2.2.2.2.2.2.2.2.1
theorem dL_law_921 : decode cL_law 921 = .ok (.invokevirtual 112, 3) := edL_law_910.2.2.2.2.2.2.2.2.2.2.2.1
theorem dL_law_924 : decode cL_law 924 = .ok (.pop, 1) := edL_law_910.2.2.2.2.2.2.2.2.2.2.2.2.1
theorem dL_law_925 : decode cL_law 925 = .ok (.goto 527, 3) := edL_law_910.2.2.2.2.2.2.2.2.2.2.2.2.2.1
theorem dL_law_928 : decode cL_law 928 = .ok (.aload_n 1, 1) := edL_law_910.2.2.2.2.2.2.2.2.2.2.2.2.2.2.1
theorem dL_law_929 : decode cL_law 929 = .ok (.aload_n 0, 1) := edL_law_910.2.2.2.2.2.2.2.2.2.2.2.2.2.2.2.1
theorem dL_law_930 : decode cL_law 930 = .ok (.iload_n 3, 1) := edL_law_910.2.2.2.2.2.2.2.2.2.2.2.2.2.2.2.2.1
theorem dL_law_931 : decode cL_law 931 = .ok (.iconst 1, 1) := edL_law_910.2.2.2.2.2.2.2.2.2.2.2.2.2.2.2.2.2.1
theorem dL_law_932 : decode cL_law 932 = .ok (.iadd, 1) := edL_law_910.2.2.2.2.2.2.2.2.2.2.2.2.2.2.2.2.2.2.1
theorem dL_law_933 : decode cL_law 933 = .ok (.iaload, 1) := edL_law_910.2.2.2.2.2.2.2.2.2.2.2.2.2.2.2.2.2.2.2.1
theorem dL_law_934 : decode cL_law 934 = .ok (.invokevirtual 113, 3) := edL_law_910.2.2.2.2.2.2.2.2.2.2.2.2.2.2.2.2.2.2.2.2.1
theorem dL_law_937 : decode cL_law 937 = .ok (.pop, 1) := edL_law_910.2.2.2.2.2.2.2.2.2.2.2.2.2.2.2.2.2.2.2.2.2.1
theorem dL_law_938 : decode cL_law 938 = .ok (.aload_n 2, 1) := edL_law_910.2.2.2.2.2.2.2.2.2.2.2.2.2.2.2.2.2.2.2.2.2.2.1
theorem dL_law_939 : decode cL_law 939 = .ok (.aload_n 0, 1) := edL_law_910.2.2.2.2.2.2.2.2.2.2.2.2.2.2.2.2.2.2.2.2.2.2.2
theorem edL_law_940 : (decode cL_law 940 = .ok (.iload_n 3, 1)) ∧ (decode cL_law 941 = .ok (.iconst 1, 1)) ∧ (decode cL_law 942 = .ok (.iadd, 1)) ∧ (decode cL_law 943 = .ok (.iaload, 1)) ∧ (decode cL_law 944 = .ok (.invokevirtual 116, 3)) ∧ (decode cL_law 947 = .ok (.pop, 1)) ∧ (decode cL_law 948 = .ok (.goto 504, 3)) ∧ (decode cL_law 951 = .ok (.aload_n 1, 1)) ∧ (decode cL_law 952 = .ok (.invokevirtual 117, 3)) ∧ (decode cL_law 955 = .ok (.pop, 1)) ∧ (decode cL_law 956 = .ok (.aload_n 2, 1)) ∧ (decode cL_law 957 = .ok (.invokevirtual 120, 3)) ∧ (decode cL_law 960 = .ok (.pop, 1)) ∧ (decode cL_law 961 = .ok (.goto 491, 3)) ∧ (decode cL_law 964 = .ok (.aload_n 1, 1)) ∧ (decode cL_law 965 = .ok (.aload_n 0, 1)) ∧ (decode cL_law 966 = .ok (.iload_n 3, 1)) ∧ (decode cL_law 967 = .ok (.iconst 1, 1)) ∧ (decode cL_law 968 = .ok (.iadd, 1)) ∧ (decode cL_law 969 = .ok (.iaload, 1)) ∧ (decode cL_law 970 = .ok (.aload_n 0, 1)) ∧ (decode cL_law 971 = .ok (.iload_n 3, 1)) ∧ (decode cL_law 972 = .ok (.iconst 2, 1)) ∧ (decode cL_law 973 = .ok (.iadd, 1)) := by decide +kernel
theorem dL_law_940 : decode cL_law 940 = .ok (.iload_n 3, 1) := edL_law_940.1
theorem dL_law_941 : decode cL_law 941 = .ok (.iconst 1, 1) := edL_law_940.2.1
theorem dL_law_942 : decode cL_law 942 = .ok (.iadd, 1) := edL_law_940.2.2.1
theorem dL_law_943 : decode cL_law 943 = .ok (.iaload, 1) := edL_law_940.2.2.2.1
theorem dL_law_944 : decode cL_law 944 = .ok (.invokevirtual 116, 3) := edL_law_940.2.2.2.2.1
theorem dL_law_947 : decode cL_law 947 = .ok (.pop, 1) := edL_law_940.2.2.2.2.2.1
theorem dL_law_948 : decode cL_law 948 = .ok (.goto 504, 3) := edL_law_940.2.2.2.2.2.2.1
theorem dL_law_951 : decode cL_law 951 = .ok (.aload_n 1, 1) := edL_law_940.2.2.2.2.2.2.2.1
theorem dL_law_952 : decode cL_law 952 = .ok (.invokevirtual 117, 3) := edL_law_940.2.2.2.2.2.2.2.2.1
theorem dL_law_955 : decode cL_law 955 = .ok (.pop, 1) := edL_law_940.2.2.2.2.2.2.2.2.2.1
theorem dL_law_956 : decode cL_law 956 = .ok (.aload_n 2, 1) := edL_law_940.2.2.2.2.2.2.2.2.2.2.1
theorem dL_law_957 : decode cL_law 957 = .ok (.invokevirtual 120, 3) := edL_law_940.2.2.2.2.2.2.2.2.2.2.2.1
theorem dL_law_960 : decode cL_law 960 = .ok (.pop, 1) := edL_law_940.2.2.2.2.2.2.2.2.2.2.2.2.1
theorem dL_law_961 : decode cL_law 961 = .ok (.goto 491, 3) := edL_law_940.2.2.2.2.2.2.2.2.2.2.2.2.2.1
theorem dL_law_964 : decode cL_law 964 = .ok (.aload_n 1, 1) := edL_law_940.2.2.2.2.2.2.2.2.2.2.2.2.2.2.1
theorem dL_law_965 : decode cL_law 965 = .ok (.aload_n 0, 1) := edL_law_940.2.2.2.2.2.2.2.2.2.2.2.2.2.2.2.1
theorem dL_law_966 : decode cL_law 966 = .ok (.iload_n 3, 1) := edL_law_940.2.2.2.2.2.2.2.2.2.2.2.2.2.2.2.2.1
theorem dL_law_967 : decode cL_law 967 = .ok (.iconst 1, 1) := edL_law_940.2.2.2.2.2.2.2.2.2.2.2.2.2.2.2.2.2.1
theorem dL_law_968 : decode cL_law 968 = .ok (.iadd, 1) := edL_law_940.2.2.2.2.2.2.2.2.2.2.2.2.2.2.2.2.2.2.1
theorem dL_law_969 : decode cL_law 969 = .ok (.iaload, 1) := edL_law_940.2.2.2.2.2.2.2.2.2.2.2.2.2.2.2.2.2.2.2.1
theorem dL_law_970 : decode cL_law 970 = .ok (.aload_n 0, 1) := edL_law_940.2.2.2.2.2.2.2.2.2.2.2.2.2.2.2.2.2.2.2.2.1
theorem dL_law_971 : decode cL_law 971 = .ok (.iload_n 3, 1) := edL_law_940.2.2.2.2.2.2.2.2.2.2.2.2.2.2.2.2.2.2.2.2.2.1
theorem dL_law_972 : decode cL_law 972 = .ok (.iconst 2, 1) := edL_law_940.2.2.2.2.2.2.2.2.2.2.2.2.2.2.2.2.2.2.2.2.2.2.1
theorem dL_law_973 : decode cL_law 973 = .ok (.iadd, 1) := edL_law_940.2.2.2.2.2.2.2.2.2.2.2.2.2.2.2.2.2.2.2.2.2.2.2
theorem edL_law_974 : (decode cL_law 974 = .ok (.iaload, 1)) ∧ (decode cL_law 975 = .ok (.invokevirtual 121, 3)) ∧ (decode cL_law 978 = .ok (.pop, 1)) ∧ (decode cL_law 979 = .ok (.aload_n 2, 1)) ∧ (decode cL_law 980 = .ok (.aload_n 0, 1)) ∧ (decode cL_law 981 = .ok (.iload_n 3, 1)) ∧ (decode cL_law 982 = .ok (.iconst 1, 1)) ∧ (decode cL_law 983 = .ok (.iadd, 1)) ∧ (decode cL_law 984 = .ok (.iaload, 1)) ∧ (decode cL_law 985 = .ok (.aload_n 0, 1)) ∧ (decode cL_law 986 = .ok (.iload_n 3, 1)) ∧ (decode cL_law 987 = .ok (.iconst 2, 1)) ∧ (decode cL_law 988 = .ok (.iadd, 1)) ∧ (decode cL_law 989 = .ok (.iaload, 1)) ∧ (decode cL_law 990 = .ok (.invokevirtual 124, 3)) ∧ (decode cL_law 993 = .ok (.pop, 1)) ∧ (decode cL_law 994 = .ok (.goto 458, 3)) ∧ (decode cL_law 997 = .ok (.aload_n 1, 1)) ∧ (decode cL_law 998 = .ok (.aload_n 0, 1)) ∧ (decode cL_law 999 = .ok (.iload_n 3, 1)) ∧ (decode cL_law 1000 = .ok (.iconst 1, 1)) ∧ (decode cL_law 1001 = .ok (.iadd, 1)) ∧ (decode cL_law 1002 = .ok (.iaload, 1)) ∧ (decode cL_law 1003 = .ok (.invokevirtual 125, 3)) := by decide +kernel
theorem dL_law_974 : decode cL_law 974 = .ok (.iaload, 1) := edL_law_974.1
theorem dL_law_975 : decode cL_law 975 = .ok (.invokevirtual 121, 3) := edL_law_974.2.1
theorem dL_law_978 : decode cL_law 978 = .ok (.pop, 1) := edL_law_974.2.2.1
theorem dL_law_979 : decode cL_law 979 = .ok (.aload_n 2, 1) := edL_law_974.2.2.2.1
theorem dL_law_980 : decode cL_law 980 = .ok (.aload_n 0, 1) := edL_law_974.2.2.2.2.1
theorem dL_law_981 : decode cL_law 981 = .ok (.iload_n 3, 1) := edL_law_974.2.2.2.2.2.1
theorem dL_law_982 : decode cL_law 982 = .ok (.iconst 1, 1) := edL_law_974.2.2.2.2.2.2.1
theorem dL_law_983 : decode cL_law 983 = .ok (.iadd, 1) := edL_law_974.2.2.2.2.2.2.2.1
theorem dL_law_984 : decode cL_law 984 = .ok (.iaload, 1) := edL_law_974.2.2.2.2.2.2.2.2.1
theorem dL_law_985 : decode cL_law 985 = .ok (.aload_n 0, 1) := edL_law_974.2.2.2.2.2.2.2.2.2.1
theorem dL_law_986 : decode cL_law 986 = .ok (.iload_n 3, 1) := edL_law_974.2.2.2.2.2.2.2.2.2.2.1
theorem dL_law_987 : decode cL_law 987 = .ok (.iconst 2, 1) := edL_law_974.2.2.2.2.2.2.2.2.2.2.2.1
theorem dL_law_988 : decode cL_law 988 = .ok (.iadd, 1) := edL_law_974.2.2.2.2.2.2.2.2.2.2.2.2.1
theorem dL_law_989 : decode cL_law 989 = .ok (.iaload, 1) := edL_law_974.2.2.2.2.2.2.2.2.2.2.2.2.2.1
theorem dL_law_990 : decode cL_law 990 = .ok (.invokevirtual 124, 3) := edL_law_974.2.2.2.2.2.2.2.2.2.2.2.2.2.2.1
theorem dL_law_993 : decode cL_law 993 = .ok (.pop, 1) := edL_law_974.2.2.2.2.2.2.2.2.2.2.2.2.2.2.2.1
theorem dL_law_994 : decode cL_law 994 = .ok (.goto 458, 3) := edL_law_974.2.2.2.2.2.2.2.2.2.2.2.2.2.2.2.2.1
theorem dL_law_997 : decode cL_law 997 = .ok (.aload_n 1, 1) := edL_law_974.2.2.2.2.2.2.2.2.2.2.2.2.2.2.2.2.2.1
theorem dL_law_998 : decode cL_law 998 = .ok (.aload_n 0, 1) := edL_law_974.2.2.2.2.2.2.2.2.2.2.2.2.2.2.2.2.2.2.1
theorem dL_law_999 : decode cL_law 999 = .ok (.iload_n 3, 1) := edL_law_974.2.2.2.2.2.2.2.2.2.2.2.2.2.2.2.2.2.2.2.1
theorem dL_law_1000 : decode cL_law 1000 = .ok (.iconst 1, 1) := edL_law_974.2.2.2.2.2.2.2.2.2.2.2.2.2.2.2.2.2.2.2.2.1
theorem dL_law_1001 : decode cL_law 1001 = .ok (.iadd, 1) := edL_law_974.2.2.2.2.2.2.2.2.2.2.2.2.2.2.2.2.2.2.2.2.2.1
theorem dL_law_1002 : decode cL_law 1002 = .ok (.iaload, 1) := edL_law_974.2.2.2.2.2.2.2.2.2.2.2.2.2.2.2.2.2.2.2.2.2.2.1
theorem dL_law_1003 : decode cL_law 1003 = .ok (.invokevirtual 125, 3) := edL_law_974.2.2.2.2.2.2.2.2.2.2.2.2.2.2.2.2.2.2.2.2.2.2.2
theorem edL_law_1006 : (decode cL_law 1006 = .ok (.pop, 1)) ∧ (decode cL_law 1007 = .ok (.aload_n 2, 1)) ∧ (decode cL_law 1008 = .ok (.aload_n 0, 1)) ∧ (decode cL_law 1009 = .ok (.iload_n 3, 1)) ∧ (decode cL_law 1010 = .ok (.iconst 1, 1)) ∧ (decode cL_law 1011 = .ok (.iadd, 1)) ∧ (decode cL_law 1012 = .ok (.iaload, 1)) ∧ (decode cL_law 1013 = .ok (.invokevirtual 128, 3)) ∧ (decode cL_law 1016 = .ok (.pop, 1)) ∧ (decode cL_law 1017 = .ok (.goto 435, 3)) ∧ (decode cL_law 1020 = .ok (.aload_n 1, 1)) ∧ (decode cL_law 1021 = .ok (.aload_n 0, 1)) ∧ (decode cL_law 1022 = .ok (.iload_n 3, 1)) ∧ (decode cL_law 1023 = .ok (.iconst 1, 1)) ∧ (decode cL_law 1024 = .ok (.iadd, 1)) ∧ (decode cL_law 1025 = .ok (.iaload, 1)) ∧ (decode cL_law 1026 = .ok (.aload_n 0, 1)) ∧ (decode cL_law 1027 = .ok (.iload_n 3, 1)) ∧ (decode cL_law 1028 = .ok (.iconst 2, 1)) ∧ (decode cL_law 1029 = .ok (.iadd, 1)) ∧ (decode cL_law 1030 = .ok (.iaload, 1)) ∧ (decode cL_law 1031 = .ok (.aload_n 0, 1)) ∧ (decode cL_law 1032 = .ok (.iload_n 3, 1)) ∧ (decode cL_law 1033 = .ok (.iconst 3, 1)) := by decide +kernel
theorem dL_law_1006 : decode cL_law 1006 = .ok (.pop, 1) := edL_law_1006.1
theorem dL_law_1007 : decode cL_law 1007 = .ok (.aload_n 2, 1) := edL_law_1006.2.1
theorem dL_law_1008 : decode cL_law 1008 = .ok (.aload_n 0, 1) := edL_law_1006.2.2.1
theorem dL_law_1009 : decode cL_law 1009 = .ok (.iload_n 3, 1) := edL_law_1006.2.2.2.1
theorem dL_law_1010 : decode cL_law 1010 = .ok (.iconst 1, 1) := edL_law_1006.2.2.2.2.1
theorem dL_law_1011 : decode cL_law 1011 = .ok (.iadd, 1) := edL_law_1006.2.2.2.2.2.1
theorem dL_law_1012 : decode cL_law 1012 = .ok (.iaload, 1) := edL_law_1006.2.2.2.2.2.2.1
theorem dL_law_1013 : decode cL_law 1013 = .ok (.invokevirtual 128, 3) := edL_law_1006.2.2.2.2.2.2.2.1
theorem dL_law_1016 : decode cL_law 1016 = .ok (.pop, 1) := edL_law_1006.2.2.2.2.2.2.2.2.1
theorem dL_law_1017 : decode cL_law 1017 = .ok (.goto 435, 3) := edL_law_1006.2.2.2.2.2.2.2.2.2.1
theorem dL_law_1020 : decode cL_law 1020 = .ok (.aload_n 1, 1) := edL_law_1006.2.2.2.2.2.2.2.2.2.2.1
theorem dL_law_1021 : decode cL_law 1021 = .ok (.aload_n 0, 1) := edL_law_1006.2.2.2.2.2.2.2.2.2.2.2.1
theorem dL_law_1022 : decode cL_law 1022 = .ok (.iload_n 3, 1) := edL_law_1006.2.2.2.2.2.2.2.2.2.2.2.2.1
theorem dL_law_1023 : decode cL_law 1023 = .ok (.iconst 1, 1) := edL_law_1006.2.2.2.2.2.2.2.2.2.2.2.2.2.1
theorem dL_law_1024 : decode cL_law 1024 = .ok (.iadd, 1) := edL_law_1006.2.2.2.2.2.2.2.2.2.2.2.2.2.2.1
theorem dL_law_1025 : decode cL_law 1025 = .ok (.iaload, 1) := edL_law_1006.2.2.2.2.2.2.2.2.2.2.2.2.2.2.2.1
theorem dL_law_1026 : decode cL_law 1026 = .ok (.aload_n 0, 1) := edL_law_1006.2.2.2.2.2.2.2.2.2.2.2.2.2.2.2.2.1
theorem dL_law_1027 : decode cL_law 1027 = .ok (.iload_n 3, 1) := edL_law_1006.2.2.2.2.2.2.2.2.2.2.2.2.2.2.2.2.2.1
theorem dL_law_1028 : decode cL_law 1028 = .ok (.iconst 2, 1) := edL_law_1006.2.2.2.2.2.2.2.2.2.2.2.2.2.2.2.2.2.2.1
theorem dL_law_1029 : decode cL_law 1029 = .ok (.iadd, 1) := edL_law_1006.2.2.2.2.2.2.2.2.2.2.2.2.2.2.2.2.2.2.2.1
theorem dL_law_1030 : decode cL_law 1030 = .ok (.iaload, 1) := edL_law_1006.2.2.2.2.2.2.2.2.2.2.2.2.2.2.2.2.2.2.2.2.1
theorem dL_law_1031 : decode cL_law 1031 = .ok (.aload_n 0, 1) := edL_law_1006.2.2.2.2.2.2.2.2.2.2.2.2.2.2.2.2.2.2.2.2.2.1
theorem dL_law_1032 : decode cL_law 1032 = .ok (.iload_n 3, 1) := edL_law_1006.2.2.2.2.2.2.2.2.2.2.2.2.2.2.2.2.2.2.2.2.2.2.1
theorem dL_law_1033 : decode cL_law 1033 = .ok (.iconst 3, 1) := edL_law_1006.2.2.2.2.2.2.2.2.2.2.2.2.2.2.2.2.2.2.2.2.2.2.2
theorem edL_law_1034 : (decode cL_law 1034 = .ok (.iadd, 1)) ∧ (decode cL_law 1035 = .ok (.iaload, 1)) ∧ (decode cL_law 1036 = .ok (.invokevirtual 129, 3)) ∧ (decode cL_law 1039 = .ok (.pop, 1)) ∧ (decode cL_law 1040 = .ok (.aload_n 2, 1)) ∧ (decode cL_law 1041 = .ok (.aload_n 0, 1)) ∧ (decode cL_law 1042 = .ok (.iload_n 3, 1)) ∧ (decode cL_law 1043 = .ok (.iconst 1, 1)) ∧ (decode cL_law 1044 = .ok (.iadd, 1)) ∧ (decode cL_law 1045 = .ok (.iaload, 1)) ∧ (decode cL_law 1046 = .ok (.aload_n 0, 1)) ∧ (decode cL_law 1047 = .ok (.iload_n 3, 1)) ∧ (decode cL_law 1048 = .ok (.iconst 2, 1)) ∧ (decode cL_law 1049 = .ok (.iadd, 1)) ∧ (decode cL_law 1050 = .ok (.iaload, 1)) ∧ (decode cL_law 1051 = .ok (.aload_n 0, 1)) ∧ (decode cL_law 1052 = .ok (.iload_n 3, 1)) ∧ (decode cL_law 1053 = .ok (.iconst 3, 1)) ∧ (decode cL_law 1054 = .ok (.iadd, 1)) ∧ (decode cL_law 1055 = .ok (.iaload, 1)) ∧ (decode cL_law 1056 = .ok (.invokevirtual 132, 3)) ∧ (decode cL_law 1059 = .ok (.pop, 1)) ∧ (decode cL_law 1060 = .ok (.goto 392, 3)) ∧ (decode cL_law 1063 = .ok (.aload_n 1, 1)) := by decide +kernel
theorem dL_law_1034 : decode cL_law 1034 = .ok (.iadd, 1) := edL_law_1034.1
theorem dL_law_1035 : decode cL_law 1035 = .ok (.iaload, 1) := edL_law_1034.2.1
theorem dL_law_1036 : decode cL_law 1036 = .ok (.invokevirtual 129, 3) := edL_law_1034.2.2.1
theorem dL_law_1039 : decode cL_law 1039 = .ok (.pop, 1) := edL_law_1034.2.2.2.1
theorem dL_law_1040 : decode cL_law 1040 = .ok (.aload_n 2, 1) := edL_law_1034.2.2.2.2.1
theorem dL_law_1041 : decode cL_law 1041 = .ok (.aload_n 0, 1) := edL_law_1034.2.2.2.2.2.1
theorem dL_law_1042 : decode cL_law 1042 = .ok (.iload_n 3, 1) := edL_law_1034.2.2.2.2.2.2.1
theorem dL_law_1043 : decode cL_law 1043 = .ok (.iconst 1, 1) := edL_law_1034.2.2.2.2.2.2.2.1
theorem dL_law_1044 : decode cL_law 1044 = .ok (.iadd, 1) := edL_law_1034.2.2.2.2.2.2.2.2.1
theorem dL_law_1045 : decode cL_law 1045 = .ok (.iaload, 1) := edL_law_1034.2.2.2.2.2.2.2.2.2.1
theorem dL_law_1046 : decode cL_law 1046 = .ok (.aload_n 0, 1) := edL_law_1034.2.2.2.2.2.2.2.2.2.2.1
theorem dL_law_1047 : decode cL_law 1047 = .ok (.iload_n 3, 1) := edL_law_1034.2.2.2.2.2.2.2.2.2.2.2.1
theorem dL_law_1048 : decode cL_law 1048 = .ok (.iconst 2, 1) := edL_law_1034.2.2.2.2.2.2.2.2.2.2.2.2.1
theorem dL_law_1049 : decode cL_law 1049 = .ok (.iadd, 1) := edL_law_1034.2.2.2.2.2.2.2.2.2.2.2.2.2.1
theorem dL_law_1050 : decode cL_law 1050 = .ok (.iaload, 1) := edL_law_1034.2.2.2.2.2.2.2.2.2.2.2.2.2.2.1
theorem dL_law_1051 : decode cL_law 1051 = .ok (.aload_n 0, 1) := edL_law_1034.2.2.2.2.2.2.2.2.2.2.2.2.2.2.2.1
theorem dL_law_1052 : decode cL_law 1052 = .ok (.iload_n 3, 1) := edL_law_1034.2.2.2.2.2.2.2.2.2.2.2.2.2.2.2.2.1
theorem dL_law_1053 : decode cL_law 1053 = .ok (.iconst 3, 1) := edL_law_1034.2.2.2.2.2.2.2.2.2.2.2.2.2.2.2.2.2.1
theorem dL_law_1054 : decode cL_law 1054 = .ok (.iadd, 1) := edL_law_1034.2.2.2.2.2.2.2.2.2.2.2.2.2.2.2.2.2.2.1
theorem dL_law_1055 : decode cL_law 1055 = .ok (.iaload, 1) := edL_law_1034.2.2.2.2.2.2.2.2.2.2.2.2.2.2.2.2.2.2.2.1
theorem dL_law_1056 : decode cL_law 1056 = .ok (.invokevirtual 132, 3) := edL_law_1034.2.2.2.2.2.2.2.2.2.2.2.2.2.2.2.2.2.2.2.2.1
theorem dL_law_1059 : decode cL_law 1059 = .ok (.pop, 1) := edL_law_1034.2.2.2.2.2.2.2.2.2.2.2.2.2.2.2.2.2.2.2.2.2.1
theorem dL_law_1060 : decode cL_law 1060 = .ok (.goto 392, 3) := edL_law_1034.2.2.2.2.2.2.2.2.2.2.2.2.2.2.2.2.2.2.2.2.2.2.1
theorem dL_law_1063 : decode cL_law 1063 = .ok (.aload_n 1, 1) := edL_law_1034.2.2.2.2.2.2.2.2.2.2.2.2.2.2.2.2.2.2.2.2.2.2.2
theorem edL_law_1064 : (decode cL_law 1064 = .ok (.aload_n 0, 1)) ∧ (decode cL_law 1065 = .ok (.iload_n 3, 1)) ∧ (decode cL_law 1066 = .ok (.iconst 1, 1)) ∧ (decode cL_law 1067 = .ok (.iadd, 1)) ∧ (decode cL_law 1068 = .ok (.iaload, 1)) ∧ (decode cL_law 1069 = .ok (.aload_n 0, 1)) ∧ (decode cL_law 1070 = .ok (.iload_n 3, 1)) ∧ (decode cL_law 1071 = .ok (.iconst 2, 1)) ∧ (decode cL_law 1072 = .ok (.iadd, 1)) ∧ (decode cL_law 1073 = .ok (.iaload, 1)) ∧ (decode cL_law 1074 = .ok (.aload_n 0, 1)) ∧ (decode cL_law 1075 = .ok (.iload_n 3, 1)) ∧ (decode cL_law 1076 = .ok (.iconst 3, 1)) ∧ (decode cL_law 1077 = .ok (.iadd, 1)) ∧ (decode cL_law 1078 = .ok (.iaload, 1)) ∧ (decode cL_law 1079 = .ok (.invokevirtual 133, 3)) ∧ (decode cL_law 1082 = .ok (.pop, 1)) ∧ (decode cL_law 1083 = .ok (.aload_n 2, 1)) ∧ (decode cL_law 1084 = .ok (.aload_n 0, 1)) ∧ (decode cL_law 1085 = .ok (.iload_n 3, 1)) ∧ (decode cL_law 1086 = .ok (.iconst 1, 1)) ∧ (decode cL_law 1087 = .ok (.iadd, 1)) ∧ (decode cL_law 1088 = .ok (.iaload, 1)) ∧ (decode cL_law 1089 = .ok (.aload_n 0, 1)) := by decide +kernel
theorem dL_law_1064 : decode cL_law 1064 = .ok (.aload_n 0, 1) := edL_law_1064.1
theorem dL_law_1065 : decode cL_law 1065 = .ok (.iload_n 3, 1) := edL_law_1064.2.1
theorem dL_law_1066 : decode cL_law 1066 = .ok (.iconst 1, 1) := edL_law_1064.2.2.1
theorem dL_law_1067 : decode cL_law 1067 = .ok (.iadd, 1) := edL_law_1064.2.2.2.1
theorem dL_law_1068 : decode cL_law 1068 = .ok (.iaload, 1) := edL_law_1064.2.2.2.2.1
theorem dL_law_1069 : decode cL_law 1069 = .ok (.aload_n 0, 1) := edL_law_1064.2.2.2.2.2.1
theorem dL_law_1070 : decode cL_law 1070 = .ok (.iload_n 3, 1) := edL_law_1064.2.2.2.2.2.2.1
theorem dL_law_1071 : decode cL_law 1071 = .ok (.iconst 2, 1) := edL_law_1064.2.2.2.2.2.2.2.1
theorem dL_law_1072 : decode cL_law 1072 = .ok (.iadd, 1) := edL_law_1064.2.2.2.2.2.2.2.2.1
theorem dL_law_1073 : decode cL_law 1073 = .ok (.iaload, 1) := edL_law_1064.2.2.2.2.2.2.2.2.2.1
theorem dL_law_1074 : decode cL_law 1074 = .ok (.aload_n 0, 1) := edL_law_1064.2.2.2.2.2.2.2.2.2.2.1
theorem dL_law_1075 : decode cL_law 1075 = .ok (.iload_n 3, 1) := edL_law_1064.2.2.2.2.2.2.2.2.2.2.2.1
theorem dL_law_1076 : decode cL_law 1076 = .ok (.iconst 3, 1) := edL_law_1064.2.2.2.2.2.2.2.2.2.2.2.2.1
theorem dL_law_1077 : decode cL_law 1077 = .ok (.iadd, 1) := edL_law_1064.2.2.2.2.2.2.2.2.2.2.2.2.2.1
theorem dL_law_1078 : decode cL_law 1078 = .ok (.iaload, 1) := edL_law_1064.2.2.2.2.2.2.2.2.2.2.2.2.2.2.1
theorem dL_law_1079 : decode cL_law 1079 = .ok (.invokevirtual 133, 3) := edL_law_1064.2.2.2.2.2.2.2.2.2.2.2.2.2.2.2.1
theorem dL_law_1082 : decode cL_law 1082 = .ok (.pop, 1) := edL_law_1064.2.2.2.2.2.2.2.2.2.2.2.2.2.2.2.2.1
theorem dL_law_1083 : decode cL_law 1083 = .ok (.aload_n 2, 1) := edL_law_1064.2.2.2.2.2.2.2.2.2.2.2.2.2.2.2.2.2.1
theorem dL_law_1084 : decode cL_law 1084 = .ok (.aload_n 0, 1) := edL_law_1064.2.2.2.2.2.2.2.2.2.2.2.2.2.2.2.2.2.2.1
theorem dL_law_1085 : decode cL_law 1085 = .ok (.iload_n 3, 1) := edL_law_1064.2.2.2.2.2.2.2.2.2.2.2.2.2.2.2.2.2.2.2.1
theorem dL_law_1086 : decode cL_law 1086 = .ok (.iconst 1, 1) := edL_law_1064.2.2.2.2.2.2.2.2.2.2.2.2.2.2.2.2.2.2.2.2.1
theorem dL_law_1087 : decode cL_law 1087 = .ok (.iadd, 1) := edL_law_1064.2.2.2.2.2.2.2.2.2.2.2.2.2.2.2.2.2.2.2.2.2.1
theorem dL_law_1088 : decode cL_law 1088 = .ok (.iaload, 1) := edL_law_1064.2.2.2.2.2.2.2.2.2.2.2.2.2.2.2.2.2.2.2.2.2.2.1
theorem dL_law_1089 : decode cL_law 1089 = .ok (.aload_n 0, 1) := edL_law_1064.2.2.2.2.2.2.2.2.2.2.2.2.2.2.2.2.2.2.2.2.2.2.2
theorem edL_law_1090 : (decode cL_law 1090 = .ok (.iload_n 3, 1)) ∧ (decode cL_law 1091 = .ok (.iconst 2, 1)) ∧ (decode cL_law 1092 = .ok (.iadd, 1)) ∧ (decode cL_law 1093 = .ok (.iaload, 1)) ∧ (decode cL_law 1094 = .ok (.aload_n 0, 1)) ∧ (decode cL_law 1095 = .ok (.iload_n 3, 1)) ∧ (decode cL_law 1096 = .ok (.iconst 3, 1)) ∧ (decode cL_law 1097 = .ok (.iadd, 1)) ∧ (decode cL_law 1098 = .ok (.iaload, 1)) ∧ (decode cL_law 1099 = .ok (.invokevirtual 136, 3)) ∧ (decode cL_law 1102 = .ok (.pop, 1)) ∧ (decode cL_law 1103 = .ok (.goto 349, 3)) ∧ (decode cL_law 1106 = .ok (.aload_n 1, 1)) ∧ (decode cL_law 1107 = .ok (.aload_n 0, 1)) ∧ (decode cL_law 1108 = .ok (.iload_n 3, 1)) ∧ (decode cL_law 1109 = .ok (.iconst 1, 1)) ∧ (decode cL_law 1110 = .ok (.iadd, 1)) ∧ (decode cL_law 1111 = .ok (.iaload, 1)) ∧ (decode cL_law 1112 = .ok (.invokevirtual 137, 3)) ∧ (decode cL_law 1115 = .ok (.pop, 1)) ∧ (decode cL_law 1116 = .ok (.aload_n 2, 1)) ∧ (decode cL_law 1117 = .ok (.aload_n 0, 1)) ∧ (decode cL_law 1118 = .ok (.iload_n 3, 1)) ∧ (decode cL_law 1119 = .ok (.iconst 1, 1)) := by decide +kernel
theorem dL_law_1090 : decode cL_law 1090 = .ok (.iload_n 3, 1) := edL_law_1090.1
theorem dL_law_1091 : decode cL_law 1091 = .ok (.iconst 2, 1) := edL_law_1090.2.1
theorem dL_law_1092 : decode cL_law 1092 = .ok (.iadd, 1) := edL_law_1090.2.2.1
theorem dL_law_1093 : decode cL_law 1093 = .ok (.iaload, 1) := edL_law_1090.2.2.2.1
theorem dL_law_1094 : decode cL_law 1094 = .ok (.aload_n 0, 1) := edL_law_1090.2.2.2.2.1
theorem dL_law_1095 : decode cL_law 1095 = .ok (.iload_n 3, 1) := edL_law_1090.2.2.2.2.2.1
theorem dL_law_1096 : decode cL_law 1096 = .ok (.iconst 3, 1) := edL_law_1090.2.2.2.2.2.2.1
theorem dL_law_1097 : decode cL_law 1097 = .ok (.iadd, 1) := edL_law_1090.2.2.2.2.2.2.2.1
theorem dL_law_1098 : decode cL_law 1098 = .ok (.iaload, 1) := edL_law_1090.2.2.2.2.2.2.2.2.1
theorem dL_law_1099 : decode cL_law 1099 = .ok (.invokevirtual 136, 3) := edL_law_1090.2.2.2.2.2.2.2.2.2.1
theorem dL_law_1102 : decode cL_law 1102 = .ok (.pop, 1) := edL_law_1090.2.2.2.2.2.2.2.2.2.2.1
theorem dL_law_1103 : decode cL_law 1103 = .ok (.goto 349, 3) := edL_law_1090.2.2.2.2.2.2.2.2.2.2.2.1
theorem dL_law_1106 : decode cL_law 1106 = .ok (.aload_n 1, 1) := edL_law_1090.2.2.2.2.2.2.2.2.2.2.2.2.1
theorem dL_law_1107 : decode cL_law 1107 = .ok (.aload_n 0, 1) := edL_law_1090.2.2.2.2.2.2.2.2.2.2.2.2.2.1
theorem dL_law_1108 : decode cL_law 1108 = .ok (.iload_n 3, 1) := edL_law_1090.2.2.2.2.2.2.2.2.2.2.2.2.2.2.1
theorem dL_law_1109 : decode cL_law 1109 = .ok (.iconst 1, 1) := edL_law_1090.2.2.2.2.2.2.2.2.2.2.2.2.2.2.2.1
theorem dL_law_1110 : decode cL_law 1110 = .ok (.iadd, 1) := edL_law_1090.2.2.2.2.2.2.2.2.2.2.2.2.2.2.2.2.1
theorem dL_law_1111 : decode cL_law 1111 = .ok (.iaload, 1) := edL_law_1090.2.2.2.2.2.2.2.2.2.2.2.2.2.2.2.2.2.1
theorem dL_law_1112 : decode cL_law 1112 = .ok (.invokevirtual 137, 3) := edL_law_1090.2.2.2.2.2.2.2.2.2.2.2.2.2.2.2.2.2.2.1
theorem dL_law_1115 : decode cL_law 1115 = .ok (.pop, 1) := edL_law_1090.2.2.2.2.2.2.2.2.2.2.2.2.2.2.2.2.2.2.2.1
theorem dL_law_1116 : decode cL_law 1116 = .ok (.aload_n 2, 1) := edL_law_1090.2.2.2.2.2.2.2.2.2.2.2.2.2.2.2.2.2.2.2.2.1
theorem dL_law_1117 : decode cL_law 1117 = .ok (.aload_n 0, 1) := edL_law_1090.2.2.2.2.2.2.2.2.2.2.2.2.2.2.2.2.2.2.2.2.2.1
theorem dL_law_1118 : decode cL_law 1118 = .ok (.iload_n 3, 1) := edL_law_1090.2.2.2.2.2.2.2.2.2.2.2.2.2.2.2.2.2.2.2.2.2.2.1
theorem dL_law_1119 : decode cL_law 1119 = .ok (.iconst 1, 1) := edL_law_1090.2.2.2.2.2.2.2.2.2.2.2.2.2.2.2.2.2.2.2.2.2.2.2
theorem edL_law_1120 : (decode cL_law 1120 = .ok (.iadd, 1)) ∧ (decode cL_law 1121 = .ok (.iaload, 1)) ∧ (decode cL_law 1122 = .ok (.invokevirtual 140, 3)) ∧ (decode cL_law 1125 = .ok (.pop, 1)) ∧ (decode cL_law 1126 = .ok (.goto 326, 3)) ∧ (decode cL_law 1129 = .ok (.aload_n 1, 1)) ∧ (decode cL_law 1130 = .ok (.aload_n 0, 1)) ∧ (decode cL_law 1131 = .ok (.iload_n 3, 1)) ∧ (decode cL_law 1132 = .ok (.iconst 1, 1)) ∧ (decode cL_law 1133 = .ok (.iadd, 1)) ∧ (decode cL_law 1134 = .ok (.iaload, 1)) ∧ (decode cL_law 1135 = .ok (.invokevirtual 141, 3)) ∧ (decode cL_law 1138 = .ok (.pop, 1)) ∧ (decode cL_law 1139 = .ok (.aload_n 2, 1)) ∧ (decode cL_law 1140 = .ok (.aload_n 0, 1)) ∧ (decode cL_law 1141 = .ok (.iload_n 3, 1)) ∧ (decode cL_law 1142 = .ok (.iconst 1, 1)) ∧ (decode cL_law 1143 = .ok (.iadd, 1)) ∧ (decode cL_law 1144 = .ok (.iaload, 1)) ∧ (decode cL_law 1145 = .ok (.invokevirtual 144, 3)) ∧ (decode cL_law 1148 = .ok (.pop, 1)) ∧ (decode cL_law 1149 = .ok (.goto 303, 3)) ∧ (decode cL_law 1152 = .ok (.aload_n 1, 1)) ∧ (decode cL_law 1153 = .ok (.aload_n 0, 1)) := by decide +kernel
theorem dL_law_1120 : decode cL_law 1120 = .ok (.iadd, 1) := edL_law_1120.1
theorem dL_law_1121 : decode cL_law 1121 = .ok (.iaload, 1) := edL_law_1120.2.1
theorem dL_law_1122 : decode cL_law 1122 = .ok (.invokevirtual 140, 3) := edL_law_1120.2.2.1
theorem dL_law_1125 : decode cL_law 1125 = .ok (.pop, 1) := edL_law_1120.2.2.2.1
theorem dL_law_1126 : decode cL_law 1126 = .ok (.goto 326, 3) := edL_law_1120.2.2.2.2.1
theorem dL_law_1129 : decode cL_law 1129 = .ok (.aload_n 1, 1) := edL_law_1120.2.2.2.2.2.1
theorem dL_law_1130 : decode cL_law 1130 = .ok (.aload_n 0, 1) := edL_law_1120.2.2.2.2.2.2.1
theorem dL_law_1131 : decode cL_law 1131 = .ok (.iload_n 3, 1) := edL_law_1120.2.2.2.2.2.2.2.1
theorem dL_law_1132 : decode cL_law 1132 = .ok (.iconst 1, 1) := edL_law_1120.2.2.2.2.2.2.2.2.1
theorem dL_law_1133 : decode cL_law 1133 = .ok (.iadd, 1) := edL_law_1120.2.2.2.2.2.2.2.2.2.1
theorem dL_law_1134 : decode cL_law 1134 = .ok (.iaload, 1) := edL_law_1120.2.2.2.2.2.2.2.2.2.2.1
theorem dL_law_1135 : decode cL_law 1135 = .ok (.invokevirtual 141, 3) := edL_law_1120.2.2.2.2.2.2.2.2.2.2.2.1
theorem dL_law_1138 : decode cL_law 1138 = .ok (.pop, 1) := edL_law_1120.2.2.2.2.2.2.2.2.2.2.2.2.1
theorem dL_law_1139 : decode cL_law 1139 = .ok (.aload_n 2, 1) := edL_law_1120.2.2.2.2.2.2.2.2.2.2.2.2.2.1
theorem dL_law_1140 : decode cL_law 1140 = .ok (.aload_n 0, 1) := edL_law_1120.2.2.2.2.2.2.2.2.2.2.2.2.2.2.1
theorem dL_law_1141 : decode cL_law 1141 = .ok (.iload_n 3, 1) := edL_law_1120.2.2.2.2.2.2.2.2.2.2.2.2.2.2.2.1
theorem dL_law_1142 : decode cL_law 1142 = .ok (.iconst 1, 1) := edL_law_1120.2.2.2.2.2.2.2.2.2.2.2.2.2.2.2.2.1
theorem dL_law_1143 : decode cL_law 1143 = .ok (.iadd, 1) := edL_law_1120.2.2.2.2.2.2.2.2.2.2.2.2.2.2.2.2.2.1
theorem dL_law_1144 : decode cL_law 1144 = .ok (.iaload, 1) := edL_law_1120.2.2.2.2.2.2.2.2.2.2.2.2.2.2.2.2.2.2.1
theorem dL_law_1145 : decode cL_law 1145 = .ok (.invokevirtual 144, 3) := edL_law_1120.2.2.2.2.2.2.2.2.2.2.2.2.2.2.2.2.2.2.2.1
theorem dL_law_1148 : decode cL_law 1148 = .ok (.pop, 1) := edL_law_1120.2.2.2.2.2.2.2.2.2.2.2.2.2.2.2.2.2.2.2.2.1
theorem dL_law_1149 : decode cL_law 1149 = .ok (.goto 303, 3) := edL_law_1120.2.2.2.2.2.2.2.2.2.2.2.2.2.2.2.2.2.2.2.2.2.1
theorem dL_law_1152 : decode cL_law 1152 = .ok (.aload_n 1, 1) := edL_law_1120.2.2.2.2.2.2.2.2.2.2.2.2.2.2.2.2.2.2.2.2.2.2.1
theorem dL_law_1153 : decode cL_law 1153 = .ok (.aload_n 0, 1) := edL_law_1120.2.2.2.2.2.2.2.2.2.2.2.2.2.2.2.2.2.2.2.2.2.2.2
theorem edL_law_1154 : (decode cL_law 1154 = .ok (.iload_n 3, 1)) ∧ (decode cL_law 1155 = .ok (.iconst 1, 1)) ∧ (decode cL_law 1156 = .ok (.iadd, 1)) ∧ (decode cL_law 1157 = .ok (.iaload, 1)) ∧ (decode cL_law 1158 = .ok (.aload_n 0, 1)) ∧ (decode cL_law 1159 = .ok (.iload_n 3, 1)) ∧ (decode cL_law 1160 = .ok (.iconst 2, 1)) ∧ (decode cL_law 1161 = .ok (.iadd, 1)) ∧ (decode cL_law 1162 = .ok (.iaload, 1)) ∧ (decode cL_law 1163 = .ok (.aload_n 0, 1)) ∧ (decode cL_law 1164 = .ok (.iload_n 3, 1)) ∧ (decode cL_law 1165 = .ok (.iconst 3, 1)) ∧ (decode cL_law 1166 = .ok (.iadd, 1)) ∧ (decode cL_law 1167 = .ok (.iaload, 1)) ∧ (decode cL_law 1168 = .ok (.aload_n 0, 1)) ∧ (decode cL_law 1169 = .ok (.iload_n 3, 1)) ∧ (decode cL_law 1170 = .ok (.iconst 4, 1)) ∧ (decode cL_law 1171 = .ok (.iadd, 1)) ∧ (decode cL_law 1172 = .ok (.iaload, 1)) ∧ (decode cL_law 1173 = .ok (.aload_n 0, 1)) ∧ (decode cL_law 1174 = .ok (.iload_n 3, 1)) ∧ (decode cL_law 1175 = .ok (.iconst 5, 1)) ∧ (decode cL_law 1176 = .ok (.iadd, 1)) ∧ (decode cL_law 1177 = .ok (.iaload, 1)) := by decide +kernel
theorem dL_law_1154 : decode cL_law 1154 = .ok (.iload_n 3, 1) := edL_law_1154.1
theorem dL_law_1155 : decode cL_law 1155 = .ok (.iconst 1, 1) := edL_law_1154.2.1
theorem dL_law_1156 : decode cL_law 1156 = .ok (.iadd, 1) := edL_law_1154.2.2.1
theorem dL_law_1157 : decode cL_law 1157 = .ok (.iaload, 1) := edL_law_1154.2.2.2.1
theorem dL_law_1158 : decode cL_law 1158 = .ok (.aload_n 0, 1) := edL_law_1154.2.2.2.2.1
theorem dL_law_1159 : decode cL_law 1159 = .ok (.iload_n 3, 1) := edL_law_1154.2.2.2.2.2.1
theorem dL_law_1160 : decode cL_law 1160 = .ok (.iconst 2, 1) := edL_law_1154.2.2.2.2.2.2.1
theorem dL_law_1161 : decode cL_law 1161 = .ok (.iadd, 1) := edL_law_1154.2.2.2.2.2.2.2.1
theorem dL_law_1162 : decode cL_law 1162 = .ok (.iaload, 1) := edL_law_1154.2.2.2.2.2.2.2.2.1
theorem dL_law_1163 : decode cL_law 1163 = .ok (.aload_n 0, 1) := edL_law_1154.2.2.2.2.2.2.2.2.2.1
theorem dL_law_1164 : decode cL_law 1164 = .ok (.iload_n 3, 1) := edL_law_1154.2.2.2.2.2.2.2.2.2.2.1
theorem dL_law_1165 : decode cL_law 1165 = .ok (.iconst 3, 1) := edL_law_1154.2.2.2.2.2.2.2.2.2.2.2.1
theorem dL_law_1166 : decode cL_law 1166 = .ok (.iadd, 1) := edL_law_1154.2.2.2.2.2.2.2.2.2.2.2.2.1
theorem dL_law_1167 : decode cL_law 1167 = .ok (.iaload, 1) := edL_law_1154.2.2.2.2.2.2.2.2.2.2.2.2.2.1
theorem dL_law_1168 : decode cL_law 1168 = .ok (.aload_n 0, 1) := edL_law_1154.2.2.2.2.2.2.2.2.2.2.2.2.2.2.1
theorem dL_law_1169 : decode cL_law 1169 = .ok (.iload_n 3, 1) := edL_law_1154.2.2.2.2.2.2.2.2.2.2.2.2.2.2.2.1
theorem dL_law_1170 : decode cL_law 1170 = .ok (.iconst 4, 1) := edL_law_1154.2.2.2.2.2.2.2.2.2.2.2.2.2.2.2.2.1
theorem dL_law_1171 : decode cL_law 1171 = .ok (.iadd, 1) := edL_law_1154.2.2.2.2.2.2.2.2.2.2.2.2.2.2.2.2.2.1
theorem dL_law_1172 : decode cL_law 1172 = .ok (.iaload, 1) := edL_law_1154.2.2.2.2.2.2.2.2.2.2.2.2.2.2.2.2.2.2.1
theorem dL_law_1173 : decode cL_law 1173 = .ok (.aload_n 0, 1) := edL_law_1154.2.2.2.2.2.2.2.2.2.2.2.2.2.2.2.2.2.2.2.1
theorem dL_law_1174 : decode cL_law 1174 = .ok (.iload_n 3, 1) := edL_law_1154.2.2.2.2.2.2.2.2.2.2.2.2.2.2.2.2.2.2.2.2.1
theorem dL_law_1175 : decode cL_law 1175 = .ok (.iconst 5, 1) := edL_law_1154.2.2.2.2.2.2.2.2.2.2.2.2.2.2.2.2.2.2.2.2.2.1
theorem dL_law_1176 : decode cL_law 1176 = .ok (.iadd, 1) := edL_law_1154.2.2.2.2.2.2.2.2.2.2.2.2.2.2.2.2.2.2.2.2.2.2.1
theorem dL_law_1177 : decode cL_law 1177 = .ok (.iaload, 1) := edL_law_1154.2.2.2.2.2.2.2.2.2.2.2.2.2.2.2.2.2.2.2.2.2.2.2
theorem edL_law_1178 : (decode cL_law 1178 = .ok (.invokevirtual 145, 3)) ∧ (decode cL_law 1181 = .ok (.pop, 1)) ∧ (decode cL_law 1182 = .ok (.aload_n 2, 1)) ∧ (decode cL_law 1183 = .ok (.aload_n 0, 1)) ∧ (decode cL_law 1184 = .ok (.iload_n 3, 1)) ∧ (decode cL_law 1185 = .ok (.iconst 1, 1)) ∧ (decode cL_law 1186 = .ok (.iadd, 1)) ∧ (decode cL_law 1187 = .ok (.iaload, 1)) ∧ (decode cL_law 1188 = .ok (.aload_n 0, 1)) ∧ (decode cL_law 1189 = .ok (.iload_n 3, 1)) ∧ (decode cL_law 1190 = .ok (.iconst 2, 1)) ∧ (decode cL_law 1191 = .ok (.iadd, 1)) ∧ (decode cL_law 1192 = .ok (.iaload, 1)) ∧ (decode cL_law 1193 = .ok (.aload_n 0, 1)) ∧ (decode cL_law 1194 = .ok (.iload_n 3, 1)) ∧ (decode cL_law 1195 = .ok (.iconst 3, 1)) ∧ (decode cL_law 1196 = .ok (.iadd, 1)) ∧ (decode cL_law 1197 = .ok (.iaload, 1)) ∧ (decode cL_law 1198 = .ok (.aload_n 0, 1)) ∧ (decode cL_law 1199 = .ok (.iload_n 3, 1)) ∧ (decode cL_law 1200 = .ok (.iconst 4, 1)) ∧ (decode cL_law 1201 = .ok (.iadd, 1)) ∧ (decode cL_law 1202 = .ok (.iaload, 1)) ∧ (decode cL_law 1203 = .ok (.aload_n 0, 1)) := by decide +kernel
theorem dL_law_1178 : decode cL_law 1178 = .ok (.invokevirtual 145, 3) := edL_law_1178.1
theorem dL_law_1181 : decode cL_law 1181 = .ok (.pop, 1) := edL_law_1178.2.1
theorem dL_law_1182 : decode cL_law 1182 = .ok (.aload_n 2, 1) := edL_law_1178.2.2.1
theorem dL_law_1183 : decode cL_law 1183 = .ok (.aload_n 0, 1) := edL_law_1178.2.2.2.1
theorem dL_law_1184 : decode cL_law 1184 = .ok (.iload_n 3, 1) := edL_law_1178.2.2.2.2.1
theorem dL_law_1185 : decode cL_law 1185 = .ok (.iconst 1, 1) := edL_law_1178.2.2.2.2.2.1
theorem dL_law_1186 : decode cL_law 1186 = .ok (.iadd, 1) := edL_law_1178.2.2.2.2.2.2.1
theorem dL_law_1187 : decode cL_law 1187 = .ok (.iaload, 1) := edL_law_1178.2.2.2.2.2.2.2.1
theorem dL_law_1188 : decode cL_law 1188 = .ok (.aload_n 0, 1) := edL_law_1178.2.2.2.2.2.2.2.2.1
theorem dL_law_1189 : decode cL_law 1189 = .ok (.iload_n 3, 1) := edL_law_1178.2.2.2.2.2.2.2.2.2.1
theorem dL_law_1190 : decode cL_law 1190 = .ok (.iconst 2, 1) := edL_law_1178.2.2.2.2.2.2.2.2.2.2.1
theorem dL_law_1191 : decode cL_law 1191 = .ok (.iadd, 1) := edL_law_1178.2.2.2.2.2.2.2.2.2.2.2.1
theorem dL_law_1192 : decode cL_law 1192 = .ok (.iaload, 1) := edL_law_1178.2.2.2.2.2.2.2.2.2.2.2.2.1
theorem dL_law_1193 : decode cL_law 1193 = .ok (.aload_n 0, 1) := edL_law_1178.2.2.2.2.2.2.2.2.2.2.2.2.2.1
theorem dL_law_1194 : decode cL_law 1194 = .ok (.iload_n 3, 1) := edL_law_1178.2.2.2.2.2.2.2.2.2.2.2.2.2.2.1
theorem dL_law_1195 : decode cL_law 1195 = .ok (.iconst 3, 1) := edL_law_1178.2.2.2.2.2.2.2.2.2.2.2.2.2.2.2.1
theorem dL_law_1196 : decode cL_law 1196 = .ok (.iadd, 1) := edL_law_1178.2.2.2.2.2.2.2.2.2.2.2.2.2.2.2.2.1
theorem dL_law_1197 : decode cL_law 1197 = .ok (.iaload, 1) := edL_law_1178.2.2.2.2.2.2.2.2.2.2.2.2.2.2.2.2.2.1
theorem dL_law_1198 : decode cL_law 1198 = .ok (.aload_n 0, 1) := edL_law_1178.2.2.2.2.2.2.2.2.2.2.2.2.2.2.2.2.2.2.1
theorem dL_law_1199 : decode cL_law 1199 = .ok (.iload_n 3, 1) := edL_law_1178.2.2.2.2.2.2.2.2.2.2.2.2.2.2.2.2.2.2.2.1
theorem dL_law_1200 : decode cL_law 1200 = .ok (.iconst 4, 1) := edL_law_1178.2.2.2.2.2.2.2.2.2.2.2.2.2.2.2.2.2.2.2.2.1
theorem dL_law_1201 : decode cL_law 1201 = .ok (.iadd, 1) := edL_law_1178.2.2.2.2.2.2.2.2.2.2.2.2.2.2.2.2.2.2.2.2.2.1
theorem dL_law_1202 : decode cL_law 1202 = .ok (.iaload, 1) := edL_law_1178.2.2.2.2.2.2.2.2.2.2.2.2.2.2.2.2.2.2.2.2.2.2.1
theorem dL_law_1203 : decode cL_law 1203 = .ok (.aload_n 0, 1) := edL_law_1178.2.2.2.2.2.2.2.2.2.2.2.2.2.2.2.2.2.2.2.2.2.2.2
theorem edL_law_1204 : (decode cL_law 1204 = .ok (.iload_n 3, 1)) ∧ (decode cL_law 1205 = .ok (.iconst 5, 1)) ∧ (decode cL_law 1206 = .ok (.iadd, 1)) ∧ (decode cL_law 1207 = .ok (.iaload, 1)) ∧ (decode cL_law 1208 = .ok (.invokevirtual 149, 3)) ∧ (decode cL_law 1211 = .ok (.pop, 1)) ∧ (decode cL_law 1212 = .ok (.goto 240, 3)) ∧ (decode cL_law 1215 = .ok (.aload_n 1, 1)) ∧ (decode cL_law 1216 = .ok (.aload_n 0, 1)) ∧ (decode cL_law 1217 = .ok (.iload_n 3, 1)) ∧ (decode cL_law 1218 = .ok (.iconst 1, 1)) ∧ (decode cL_law 1219 = .ok (.iadd, 1)) ∧ (decode cL_law 1220 = .ok (.iaload, 1)) ∧ (decode cL_law 1221 = .ok (.aload_n 0, 1)) ∧ (decode cL_law 1222 = .ok (.iload_n 3, 1)) ∧ (decode cL_law 1223 = .ok (.iconst 2, 1)) ∧ (decode cL_law 1224 = .ok (.iadd, 1)) ∧ (decode cL_law 1225 = .ok (.iaload, 1)) ∧ (decode cL_law 1226 = .ok (.aload_n 0, 1)) ∧ (decode cL_law 1227 = .ok (.iload_n 3, 1)) ∧ (decode cL_law 1228 = .ok (.iconst 3, 1)) ∧ (decode cL_law 1229 = .ok (.iadd, 1)) ∧ (decode cL_law 1230 = .ok (.iaload, 1)) ∧ (decode cL_law 1231 = .ok (.invokevirtual 150, 3)) := by decide +kernel
theorem dL_law_1204 : decode cL_law 1204 = .ok (.iload_n 3, 1) := edL_law_1204.1
theorem dL_law_1205 : decode cL_law 1205 = .ok (.iconst 5, 1) := edL_law_1204.2.1
theorem dL_law_1206 : decode cL_law 1206 = .ok (.iadd, 1) := edL_law_1204.2.2.1
theorem dL_law_1207 : decode cL_law 1207 = .ok (.iaload, 1) := edL_law_1204.2.2.2.1
theorem dL_law_1208 : decode cL_law 1208 = .ok (.invokevirtual 149, 3) := edL_law_1204.2.2.2.2.1
theorem dL_law_1211 : decode cL_law 1211 = .ok (.pop, 1) := edL_law_1204.2.2.2.2.2.1
theorem dL_law_1212 : decode cL_law 1212 = .ok (.goto 240, 3) := edL_law_1204.2.2.2.2.2.2.1
theorem dL_law_1215 : decode cL_law 1215 = .ok (.aload_n 1, 1) := edL_law_1204.2.2.2.2.2.2.2.1
theorem dL_law_1216 : decode cL_law 1216 = .ok (.aload_n 0, 1) := edL_law_1204.2.2.2.2.2.2.2.2.1
theorem dL_law_1217 : decode cL_law 1217 = .ok (.iload_n 3, 1) := edL_law_1204.2.2.2.2.2.2.2.2.2.1
theorem dL_law_1218 : decode cL_law 1218 = .ok (.iconst 1, 1) := edL_law_1204.2.2.2.2.2.2.2.2.2.2.1
theorem dL_law_1219 : decode cL_law 1219 = .ok (.iadd, 1) := edL_law_1204.2.2.2.2.2.2.2.2.2.2.2.1
theorem dL_law_1220 : decode cL_law 1220 = .ok (.iaload, 1) := edL_law_1204.2.2.2.2.2.2.2.2.2.2.2.2.1
theorem dL_law_1221 : decode cL_law 1221 = .ok (.aload_n 0, 1) := edL_law_1204.2.2.2.2.2.2.2.2.2.2.2.2.2.1
theorem dL_law_1222 : decode cL_law 1222 = .ok (.iload_n 3, 1) := edL_law_1204.2.2.2.2.2.2.2.2.2.2.2.2.2.2.1
theorem dL_law_1223 : decode cL_law 1223 = .ok (.iconst 2, 1) := edL_law_1204.2.2.2.2.2.2.2.2.2.2.2.2.2.2.2.1
theorem dL_law_1224 : decode cL_law 1224 = .ok (.iadd, 1) := edL_law_1204.2.2.2.2.2.2.2.2.2.2.2.2.2.2.2.2.1
theorem dL_law_1225 : decode cL_law 1225 = .ok (.iaload, 1) := edL_law_1204.2.2.2.2.2.2.2.2.2.2.2.2.2.2.2.2.2.1
theorem dL_law_1226 : decode cL_law 1226 = .ok (.aload_n 0, 1) := edL_law_1204.2.2.2.2.2.2.2.2.2.2.2.2.2.2.2.2.2.2.1
theorem dL_law_1227 : decode cL_law 1227 = .ok (.iload_n 3, 1) := edL_law_1204.2.2.2.2.2.2.2.2.2.2.2.2.2.2.2.2.2.2.2.1
theorem dL_law_1228 : decode cL_law 1228 = .ok (.iconst 3, 1) := edL_law_1204.2.2.2.2.2.2.2.2.2.2.2.2.2.2.2.2.2.2.2.2.1
theorem dL_law_1229 : decode cL_law 1229 = .ok (.iadd, 1) := edL_law_1204.2.2.2.2.2.2.2.2.2.2.2.2.2.2.2.2.2.2.2.2.2.1
theorem dL_law_1230 : decode cL_law 1230 = .ok (.iaload, 1) := edL_law_1204.2.2.2.2.2.2.2.2.2.2.2.2.2.2.2.2.2.2.2.2.2.2.1
theorem dL_law_1231 : decode cL_law 1231 = .ok (.invokevirtual 150, 3) := edL_law_1204.2.2.2.2.2.2.2.2.2.2.2.2.2.2.2.2.2.2.2.2.2.2.2
theorem edL_law_1234 : (decode cL_law 1234 = .ok (.pop, 1)) ∧ (decode cL_law 1235 = .ok (.aload_n 2, 1)) ∧ (decode cL_law 1236 = .ok (.aload_n 0, 1)) ∧ (decode cL_law 1237 = .ok (.iload_n 3, 1)) ∧ (decode cL_law 1238 = .ok (.iconst 1, 1)) ∧ (decode cL_law 1239 = .ok (.iadd, 1)) ∧ (decode cL_law 1240 = .ok (.iaload, 1)) ∧ (decode cL_law 1241 = .ok (.aload_n 0, 1)) ∧ (decode cL_law 1242 = .ok (.iload_n 3, 1)) ∧ (decode cL_law 1243 = .ok (.iconst 2, 1)) ∧ (decode cL_law 1244 = .ok (.iadd, 1)) ∧ (decode cL_law 1245 = .ok (.iaload, 1)) ∧ (decode cL_law 1246 = .ok (.aload_n 0, 1)) ∧ (decode cL_law 1247 = .ok (.iload_n 3, 1)) ∧ (decode cL_law 1248 = .ok (.iconst 3, 1)) ∧ (decode cL_law 1249 = .ok (.iadd, 1)) ∧ (decode cL_law 1250 = .ok (.iaload, 1)) ∧ (decode cL_law 1251 = .ok (.invokevirtual 153, 3)) ∧ (decode cL_law 1254 = .ok (.pop, 1)) ∧ (decode cL_law 1255 = .ok (.goto 197, 3)) ∧ (decode cL_law 1258 = .ok (.aload_n 1, 1)) ∧ (decode cL_law 1259 = .ok (.aload_n 0, 1)) ∧ (decode cL_law 1260 = .ok (.iload_n 3, 1)) ∧ (decode cL_law 1261 = .ok (.iconst 1, 1)) := by decide +kernel
theorem dL_law_1234 : decode cL_law 1234 = .ok (.pop, 1) := edL_law_1234.1
theorem dL_law_1235 : decode cL_law 1235 = .ok (.aload_n 2, 1) := edL_law_1234.2.1
theorem dL_law_1236 : decode cL_law 1236 = .ok (.aload_n 0, 1) := edL_law_1234.2.2.1
theorem dL_law_1237 : decode cL_law 1237 = .ok (.iload_n 3, 1) := edL_law_1234.2.2.2.1
theorem dL_law_1238 : decode cL_law 1238 = .ok (.iconst 1, 1) := edL_law_1234.2.2.2.2.1
theorem dL_law_1239 : decode cL_law 1239 = .ok (.iadd, 1) := edL_law_1234.2.2.2.2.2.1
theorem dL_law_1240 : decode cL_law 1240 = .ok (.iaload, 1) := edL_law_1234.2.2.2.2.2.2.1
theorem dL_law_1241 : decode cL_law 1241 = .ok (.aload_n 0, 1) := edL_law_1234.2.2.2.2.2.2.2.1
theorem dL_law_1242 : decode cL_law 1242 = .ok (.iload_n 3, 1) := edL_law_1234.2.2.2.2.2.2.2.2.1
theorem dL_law_1243 : decode cL_law 1243 = .ok (.iconst 2, 1) := edL_law_1234.2.2.2.2.2.2.2.2.2.1
theorem dL_law_1244 : decode cL_law 1244 = .ok (.iadd, 1) := edL_law_1234.2.2.2.2.2.2.2.2.2.2.1
theorem dL_law_1245 : decode cL_law 1245 = .ok (.iaload, 1) := edL_law_1234.2.2.2.2.2.2.2.2.2.2.2.1
theorem dL_law_1246 : decode cL_law 1246 = .ok (.aload_n 0, 1) := edL_law_1234.2.2.2.2.2.2.2.2.2.2.2.2.1
theorem dL_law_1247 : decode cL_law 1247 = .ok (.iload_n 3, 1) := edL_law_1234.2.2.2.2.2.2.2.2.2.2.2.2.2.1
theorem dL_law_1248 : decode cL_law 1248 = .ok (.iconst 3, 1) := edL_law_1234.2.2.2.2.2.2.2.2.2.2.2.2.2.2.1
theorem dL_law_1249 : decode cL_law 1249 = .ok (.iadd, 1) := edL_law_1234.2.2.2.2.2.2.2.2.2.2.2.2.2.2.2.1
theorem dL_law_1250 : decode cL_law 1250 = .ok (.iaload, 1) := edL_law_1234.2.2.2.2.2.2.2.2.2.2.2.2.2.2.2.2.1
theorem dL_law_1251 : decode cL_law 1251 = .ok (.invokevirtual 153, 3) := edL_law_1234.2.2.2.2.2.2.2.2.2.2.2.2.2.2.2.2.2.1
theorem dL_law_1254 : decode cL_law 1254 = .ok (.pop, 1) := edL_law_1234.2.2.2.2.2.2.2.2.2.2.2.2.2.2.2.2.2.2.1
theorem dL_law_1255 : decode cL_law 1255 = .ok (.goto 197, 3) := edL_law_1234.2.2.2.2.2.2.2.2.2.2.2.2.2.2.2.2.2.2.2.1
theorem dL_law_1258 : decode cL_law 1258 = .ok (.aload_n 1, 1) := edL_law_1234.2.2.2.2.2.2.2.2.2.2.2.2.2.2.2.2.2.2.2.2.1
theorem dL_law_1259 : decode cL_law 1259 = .ok (.aload_n 0, 1) := edL_law_1234.2.2.2.2.2.2.2.2.2.2.2.2.2.2.2.2.2.2.2.2.2.1
theorem dL_law_1260 : decode cL_law 1260 = .ok (.iload_n 3, 1) := edL_law_1234.2.2.2.2.2.2.2.2.2.2.2.2.2.2.2.2.2.2.2.2.2.2.1
theorem dL_law_1261 : decode cL_law 1261 = .ok (.iconst 1, 1) := edL_law_1234.2.2.2.2.2.2.2.2.2.2.2.2.2.2.2.2.2.2.2.2.2.2.2
theorem edL_law_1262 : (decode cL_law 1262 = .ok (.iadd, 1)) ∧ (decode cL_law 1263 = .ok (.iaload, 1)) ∧ (decode cL_law 1264 = .ok (.aload_n 0, 1)) ∧ (decode cL_law 1265 = .ok (.iload_n 3, 1)) ∧ (decode cL_law 1266 = .ok (.iconst 2, 1)) ∧ (decode cL_law 1267 = .ok (.iadd, 1)) ∧ (decode cL_law 1268 = .ok (.iaload, 1)) ∧ (decode cL_law 1269 = .ok (.invokevirtual 154, 3)) ∧ (decode cL_law 1272 = .ok (.pop, 1)) ∧ (decode cL_law 1273 = .ok (.aload_n 2, 1)) ∧ (decode cL_law 1274 = .ok (.aload_n 0, 1)) ∧ (decode cL_law 1275 = .ok (.iload_n 3, 1)) ∧ (decode cL_law 1276 = .ok (.iconst 1, 1)) ∧ (decode cL_law 1277 = .ok (.iadd, 1)) ∧ (decode cL_law 1278 = .ok (.iaload, 1)) ∧ (decode cL_law 1279 = .ok (.aload_n 0, 1)) ∧ (decode cL_law 1280 = .ok (.iload_n 3, 1)) ∧ (decode cL_law 1281 = .ok (.iconst 2, 1)) ∧ (decode cL_law 1282 = .ok (.iadd, 1)) ∧ (decode cL_law 1283 = .ok (.iaload, 1)) ∧ (decode cL_law 1284 = .ok (.invokevirtual 157, 3)) ∧ (decode cL_law 1287 = .ok (.pop, 1)) ∧ (decode cL_law 1288 = .ok (.goto 164, 3)) ∧ (decode cL_law 1291 = .ok (.aload_n 1, 1)) := by decide +kernel
theorem dL_law_1262 : decode cL_law 1262 = .ok (.iadd, 1) := edL_law_1262.1
theorem dL_law_1263 : decode cL_law 1263 = .ok (.iaload, 1) := edL_law_1262.2.1
theorem dL_law_1264 : decode cL_law 1264 = .ok (.aload_n 0, 1) := edL_law_1262.2.2.1
theorem dL_law_1265 : decode cL_law 1265 = .ok (.iload_n 3, 1) := edL_law_1262.2.2.2.1
theorem dL_law_1266 : decode cL_law 1266 = .ok (.iconst 2, 1) := edL_law_1262.2.2.2.2.1
theorem dL_law_1267 : decode cL_law 1267 = .ok (.iadd, 1) := edL_law_1262.2.2.2.2.2.1
theorem dL_law_1268 : decode cL_law 1268 = .ok (.iaload, 1) := edL_law_1262.2.2.2.2.2.2.1
theorem dL_law_1269 : decode cL_law 1269 = .ok (.invokevirtual 154, 3) := edL_law_1262.2.2.2.2.2.2.2.1
theorem dL_law_1272 : decode cL_law 1272 = .ok (.pop, 1) := edL_law_1262.2.2.2.2.2.2.2.2.1
theorem dL_law_1273 : decode cL_law 1273 = .ok (.aload_n 2, 1) := edL_law_1262.2.2.2.2.2.2.2.2.2.1
theorem dL_law_1274 : decode cL_law 1274 = .ok (.aload_n 0, 1) := edL_law_1262.2.2.2.2.2.2.2.2.2.2.1
theorem dL_law_1275 : decode cL_law 1275 = .ok (.iload_n 3, 1) := edL_law_1262.2.2.2.2.2.2.2.2.2.2.2.1
theorem dL_law_1276 : decode cL_law 1276 = .ok (.iconst 1, 1) := edL_law_1262.2.2.2.2.2.2.2.2.2.2.2.2.1
theorem dL_law_1277 : decode cL_law 1277 = .ok (.iadd, 1) := edL_law_1262.2.2.2.2.2.2.2.2.2.2.2.2.2.1
theorem dL_law_1278 : decode cL_law 1278 = .ok (.iaload, 1) := edL_law_1262.2.2.2.2.2.2.2.2.2.2.2.2.2.2.1
theorem dL_law_1279 : decode cL_law 1279 = .ok (.aload_n 0, 1) := edL_law_1262.2.2.2.2.2.2.2.2.2.2.2.2.2.2.2.1
theorem dL_law_1280 : decode cL_law 1280 = .ok (.iload_n 3, 1) := edL_law_1262.2.2.2.2.2.2.2.2.2.2.2.2.2.2.2.2.1
theorem dL_law_1281 : decode cL_law 1281 = .ok (.iconst 2, 1) := edL_law_1262.2.2.2.2.2.2.2.2.2.2.2.2.2.2.2.2.2.1
theorem dL_law_1282 : decode cL_law 1282 = .ok (.iadd, 1) := edL_law_1262.2.2.2.2.2.2.2.2.2.2.2.2.2.2.2.2.2.2.1
theorem dL_law_1283 : decode cL_law 1283 = .ok (.iaload, 1) := edL_law_1262.2.2.2.2.2.2.2.2.2.2.2.2.2.2.2.2.2.2.2.1
theorem dL_law_1284 : decode cL_law 1284 = .ok (.invokevirtual 157, 3) := edL_law_1262.2.2.2.2.2.2.2.2.2.2.2.2.2.2.2.2.2.2.2.2.1
theorem dL_law_1287 : decode cL_law 1287 = .ok (.pop, 1) := edL_law_1262.2.2.2.2.2.2.2.2.2.2.2.2.2.2.2.2.2.2.2.2.2.1
theorem dL_law_1288 : decode cL_law 1288 = .ok (.goto 164, 3) := edL_law_1262.2.2.2.2.2.2.2.2.2.2.2.2.2.2.2.2.2.2.2.2.2.2.1
theorem dL_law_1291 : decode cL_law 1291 = .ok (.aload_n 1, 1) := edL_law_1262.2.2.2.2.2.2.2.2.2.2.2.2.2.2.2.2.2.2.2.2.2.2.2
theorem edL_law_1292 : (decode cL_law 1292 = .ok (.aload_n 0, 1)) ∧ (decode cL_law 1293 = .ok (.iload_n 3, 1)) ∧ (decode cL_law 1294 = .ok (.iconst 1, 1)) ∧ (decode cL_law 1295 = .ok (.iadd, 1)) ∧ (decode cL_law 1296 = .ok (.iaload, 1)) ∧ (decode cL_law 1297 = .ok (.aload_n 0, 1)) ∧ (decode cL_law 1298 = .ok (.iload_n 3, 1)) ∧ (decode cL_law 1299 = .ok (.iconst 2, 1)) ∧ (decode cL_law 1300 = .ok (.iadd, 1)) ∧ (decode cL_law 1301 = .ok (.iaload, 1)) ∧ (decode cL_law 1302 = .ok (.invokevirtual 158, 3)) ∧ (decode cL_law 1305 = .ok (.pop, 1)) ∧ (decode cL_law 1306 = .ok (.aload_n 2, 1)) ∧ (decode cL_law 1307 = .ok (.aload_n 0, 1)) ∧ (decode cL_law 1308 = .ok (.iload_n 3, 1)) ∧ (decode cL_law 1309 = .ok (.iconst 1, 1)) ∧ (decode cL_law 1310 = .ok (.iadd, 1)) ∧ (decode cL_law 1311 = .ok (.iaload, 1)) ∧ (decode cL_law 1312 = .ok (.aload_n 0, 1)) ∧ (decode cL_law 1313 = .ok (.iload_n 3, 1)) ∧ (decode cL_law 1314 = .ok (.iconst 2, 1)) ∧ (decode cL_law 1315 = .ok (.iadd, 1)) ∧ (decode cL_law 1316 = .ok (.iaload, 1)) ∧ (decode cL_law 1317 = .ok (.invokevirtual 161, 3)) := by decide +kernel
theorem dL_law_1292 : decode cL_law 1292 = .ok (.aload_n 0, 1) := edL_law_1292.1
theorem dL_law_1293 : decode cL_law 1293 = .ok (.iload_n 3, 1) := edL_law_1292.2.1
theorem dL_law_1294 : decode cL_law 1294 = .ok (.iconst 1, 1) := edL_law_1292.2.2.1
theorem dL_law_1295 : decode cL_law 1295 = .ok (.iadd, 1) := edL_law_1292.2.2.2.1
theorem dL_law_1296 : decode cL_law 1296 = .ok (.iaload, 1) := edL_law_1292.2.2.2.2.1
theorem dL_law_1297 : decode cL_law 1297 = .ok (.aload_n 0, 1) := edL_law_1292.2.2.2.2.2.1
theorem dL_law_1298 : decode cL_law 1298 = .ok (.iload_n 3, 1) := edL_law_1292.2.2.2.2.2.2.1
theorem dL_law_1299 : decode cL_law 1299 = .ok (.iconst 2, 1) := edL_law_1292.2.2.2.2.2.2.2.1
theorem dL_law_1300 : decode cL_law 1300 = .ok (.iadd, 1) := edL_law_1292.2.2.2.2.2.2.2.2.1
theorem dL_law_1301 : decode cL_law 1301 = .ok (.iaload, 1) := edL_law_1292.2.2.2.2.2.2.2.2.2.1
theorem dL_law_1302 : decode cL_law 1302 = .ok (.invokevirtual 158, 3) := edL_law_1292.2.2.2.2.2.2.2.2.2.2.1
theorem dL_law_1305 : decode cL_law 1305 = .ok (.pop, 1) := edL_law_1292.2.2.2.2.2.2.2.2.2.2.2.1
theorem dL_law_1306 : decode cL_law 1306 = .ok (.aload_n 2, 1) := edL_law_1292.2.2.2.2.2.2.2.2.2.2.2.2.1
theorem dL_law_1307 : decode cL_law 1307 = .ok (.aload_n 0, 1) := edL_law_1292.2.2.2.2.2.2.2.2.2.2.2.2.2.1
theorem dL_law_1308 : decode cL_law 1308 = .ok (.iload_n 3, 1) := edL_law_1292.2.2.2.2.2.2.2.2.2.2.2.2.2.2.1
theorem dL_law_1309 : decode cL_law 1309 = .ok (.iconst 1, 1) := edL_law_1292.2.2.2.2.2.2.2.2.2.2.2.2.2.2.2.1
theorem dL_law_1310 : decode cL_law 1310 = .ok (.iadd, 1) := edL_law_1292.2.2.2.2.2.2.2.2.2.2.2.2.2.2.2.2.1
theorem dL_law_1311 : decode cL_law 1311 = .ok (.iaload, 1) := edL_law_1292.2.2.2.2.2.2.2.2.2.2.2.2.2.2.2.2.2.1
theorem dL_law_1312 : decode cL_law 1312 = .ok (.aload_n 0, 1) := edL_law_1292.2.2.2.2.2.2.2.2.2.2.2.2.2.2.2.2.2.2.1
theorem dL_law_1313 : decode cL_law 1313 = .ok (.iload_n 3, 1) := edL_law_1292.2.2.2.2.2.2.2.2.2.2.2.2.2.2.2.2.2.2.2.1
theorem dL_law_1314 : decode cL_law 1314 = .ok (.iconst 2, 1) := edL_law_1292.2.2.2.2.2.2.2.2.2.2.2.2.2.2.2.2.2.2.2.2.1
theorem dL_law_1315 : decode cL_law 1315 = .ok (.iadd, 1) := edL_law_1292.2.2.2.2.2.2.2.2.2.2.2.2.2.2.2.2.2.2.2.2.2.1
theorem dL_law_1316 : decode cL_law 1316 = .ok (.iaload, 1) := edL_law_1292.2.2.2.2.2.2.2.2.2.2.2.2.2.2.2.2.2.2.2.2.2.2.1
theorem dL_law_1317 : decode cL_law 1317 = .ok (.invokevirtual 161, 3) := edL_law_1292.2.2.2.2.2.2.2.2.2.2.2.2.2.2.2.2.2.2.2.2.2.2.2
theorem edL_law_1320 : (decode cL_law 1320 = .ok (.pop, 1)) ∧ (decode cL_law 1321 = .ok (.goto 131, 3)) ∧ (decode cL_law 1324 = .ok (.aload_n 1, 1)) ∧ (decode cL_law 1325 = .ok (.aload_n 0, 1)) ∧ (decode cL_law 1326 = .ok (.iload_n 3, 1)) ∧ (decode cL_law 1327 = .ok (.iconst 1, 1)) ∧ (decode cL_law 1328 = .ok (.iadd, 1)) ∧ (decode cL_law 1329 = .ok (.iaload, 1)) ∧ (decode cL_law 1330 = .ok (.aload_n 0, 1)) ∧ (decode cL_law 1331 = .ok (.iload_n 3, 1)) ∧ (decode cL_law 1332 = .ok (.iconst 2, 1)) ∧ (decode cL_law 1333 = .ok (.iadd, 1)) ∧ (decode cL_law 1334 = .ok (.iaload, 1)) ∧ (decode cL_law 1335 = .ok (.invokevirtual 162, 3)) ∧ (decode cL_law 1338 = .ok (.pop, 1)) ∧ (decode cL_law 1339 = .ok (.aload_n 2, 1)) ∧ (decode cL_law 1340 = .ok (.aload_n 0, 1)) ∧ (decode cL_law 1341 = .ok (.iload_n 3, 1)) ∧ (decode cL_law 1342 = .ok (.iconst 1, 1)) ∧ (decode cL_law 1343 = .ok (.iadd, 1)) ∧ (decode cL_law 1344 = .ok (.iaload, 1)) ∧ (decode cL_law 1345 = .ok (.aload_n 0, 1)) ∧ (decode cL_law 1346 = .ok (.iload_n 3, 1)) ∧ (decode cL_law 1347 = .ok (.iconst 2, 1)) := by decide +kernel
theorem dL_law_1320 : decode cL_law 1320 = .ok (.pop, 1) := edL_law_1320.1
theorem dL_law_1321 : decode cL_law 1321 = .ok (.goto 131, 3) := edL_law_1320.2.1
theorem dL_law_1324 : decode cL_law 1324 = .ok (.aload_n 1, 1) := edL_law_1320.2.2.1
theorem dL_law_1325 : decode cL_law 1325 = .ok (.aload_n 0, 1) := edL_law_1320.2.2.2.1
theorem dL_law_1326 : decode cL_law 1326 = .ok (.iload_n 3, 1) := edL_law_1320.2.2.2.2.1
theorem dL_law_1327 : decode cL_law 1327 = .ok (.iconst 1, 1) := edL_law_1320.2.2.2.2.2.1
theorem dL_law_1328 : decode cL_law 1328 = .ok (.iadd, 1) := edL_law_1320.2.2.2.2.2.2.1
theorem dL_law_1329 : decode cL_law 1329 = .ok (.iaload, 1) := edL_law_1320.2.2.2.2.2.2.2.1
theorem dL_law_1330 : decode cL_law 1330 = .ok (.aload_n 0, 1) := edL_law_1320.2.2.2.2.2.2.2.2.1
theorem dL_law_1331 : decode cL_law 1331 = .ok (.iload_n 3, 1) := edL_law_1320.2.2.2.2.2.2.2.2.2.1
theorem dL_law_1332 : decode cL_law 1332 = .ok (.iconst 2, 1) := edL_law_1320.2.2.2.2.2.2.2.2.2.2.1
theorem dL_law_1333 : decode cL_law 1333 = .ok (.iadd, 1) := edL_law_1320.2.2.2.2.2.2.2.2.2.2.2.1
theorem dL_law_1334 : decode cL_law 1334 = .ok (.iaload, 1) := edL_law_1320.2.2.2.2.2.2.2.2.2.2.2.2.1
theorem dL_law_1335 : decode cL_law 1335 = .ok (.invokevirtual 162, 3) := edL_law_1320.2.2.2.2.2.2.2.2.2.2.2.2.2.1
theorem dL_law_1338 : decode cL_law 1338 = .ok (.pop, 1) := edL_law_1320.2.2.2.2.2.2.2.2.2.2.2.2.2.2.1
theorem dL_law_1339 : decode cL_law 1339 = .ok (.aload_n 2, 1) := edL_law_1320.2.2.2.2.2.2.2.2.2.2.2.2.2.2.2.1
theorem dL_law_1340 : decode cL_law 1340 = .ok (.aload_n 0, 1) := edL_law_1320.2.2.2.2.2.2.2.2.2.2.2.2.2.2.2.2.1
theorem dL_law_1341 : decode cL_law 1341 = .ok (.iload_n 3, 1) := edL_law_1320.2.2.2.2.2.2.2.2.2.2.2.2.2.2.2.2.2.1
theorem dL_law_1342 : decode cL_law 1342 = .ok (.iconst 1, 1) := edL_law_1320.2.2.2.2.2.2.2.2.2.2.2.2.2.2.2.2.2.2.1
theorem dL_law_1343 : decode cL_law 1343 = .ok (.iadd, 1) := edL_law_1320.2.2.2.2.2.2.2.2.2.2.2.2.2.2.2.2.2.2.2.1
theorem dL_law_1344 : decode cL_law 1344 = .ok (.iaload, 1) := edL_law_1320.2.2.2.2.2.2.2.2.2.2.2.2.2.2.2.2.2.2.2.2.1
theorem dL_law_1345 : decode cL_law 1345 = .ok (.aload_n 0, 1) := edL_law_1320.2.2.2.2.2.2.2.2.2.2.2.2.2.2.2.2.2.2.2.2.2.1
theorem dL_law_1346 : decode cL_law 1346 = .ok (.iload_n 3, 1) := edL_law_1320.2.2.2.2.2.2.2.2.2.2.2.2.2.2.2.2.2.2.2.2.2.2.1
theorem dL_law_1347 : decode cL_law 1347 = .ok (.iconst 2, 1) := edL_law_1320.2.2.2.2.2.2.2.2.2.2.2.2.2.2.2.2.2.2.2.2.2.2.2
theorem edL_law_1348 : (decode cL_law 1348 = .ok (.iadd, 1)) ∧ (decode cL_law 1349 = .ok (.iaload, 1)) ∧ (decode cL_law 1350 = .ok (.invokevirtual 165, 3)) ∧ (decode cL_law 1353 = .ok (.pop, 1)) ∧ (decode cL_law 1354 = .ok (.goto 98, 3)) ∧ (decode cL_law 1357 = .ok (.aload_n 1, 1)) ∧ (decode cL_law 1358 = .ok (.aload_n 0, 1)) ∧ (decode cL_law 1359 = .ok (.iload_n 3, 1)) ∧ (decode cL_law 1360 = .ok (.iconst 1, 1)) ∧ (decode cL_law 1361 = .ok (.iadd, 1)) ∧ (decode cL_law 1362 = .ok (.iaload, 1)) ∧ (decode cL_law 1363 = .ok (.invokevirtual 166, 3)) ∧ (decode cL_law 1366 = .ok (.pop, 1)) ∧ (decode cL_law 1367 = .ok (.aload_n 2, 1)) ∧ (decode cL_law 1368 = .ok (.aload_n 0, 1)) ∧ (decode cL_law 1369 = .ok (.iload_n 3, 1)) ∧ (decode cL_law 1370 = .ok (.iconst 1, 1)) ∧ (decode cL_law 1371 = .ok (.iadd, 1)) ∧ (decode cL_law 1372 = .ok (.iaload, 1)) ∧ (decode cL_law 1373 = .ok (.invokevirtual 169, 3)) ∧ (decode cL_law 1376 = .ok (.pop, 1)) ∧ (decode cL_law 1377 = .ok (.goto 75, 3)) ∧ (decode cL_law 1380 = .ok (.aload_n 1, 1)) ∧ (decode cL_law 1381 = .ok (.aload_n 0, 1)) := by decide +kernel
theorem dL_law_1348 : decode cL_law 1348 = .ok (.iadd, 1) := edL_law_1348.1
theorem dL_law_1349 : decode cL_law 1349 = .ok (.iaload, 1) := edL_law_1348.2.1
theorem dL_law_1350 : decode cL_law 1350 = .ok (.invokevirtual 165, 3) := edL_law_1348.2.2.1
theorem dL_law_1353 : decode cL_law 1353 = .ok (.pop, 1) := edL_law_1348.2.2.2.1
theorem dL_law_1354 : decode cL_law 1354 = .ok (.goto 98, 3) := edL_law_1348.2.2.2.2.1
theorem dL_law_1357 : decode cL_law 1357 = .ok (.aload_n 1, 1) := edL_law_1348.2.2.2.2.2.1
theorem dL_law_1358 : decode cL_law 1358 = .ok (.aload_n 0, 1) := edL_law_1348.2.2.2.2.2.2.1
theorem dL_law_1359 : decode cL_law 1359 = .ok (.iload_n 3, 1) := edL_law_1348.2.2.2.2.2.2.2.1
theorem dL_law_1360 : decode cL_law 1360 = .ok (.iconst 1, 1) := edL_law_1348.2.2.2.2.2.2.2.2.1
theorem dL_law_1361 : decode cL_law 1361 = .ok (.iadd, 1) := edL_law_1348.2.2.2.2.2.2.2.2.2.1
theorem dL_law_1362 : decode cL_law 1362 = .ok (.iaload, 1) := edL_law_1348.2.2.2.2.2.2.2.2.2.2.1
theorem dL_law_1363 : decode cL_law 1363 = .ok (.invokevirtual 166, 3) := edL_law_1348.2.2.2.2.2.2.2.2.2.2.2.1
theorem dL_law_1366 : decode cL_law 1366 = .ok (.pop, 1) := edL_law_1348.2.2.2.2.2.2.2.2.2.2.2.2.1
theorem dL_law_1367 : decode cL_law 1367 = .ok (.aload_n 2, 1) := edL_law_1348.2.2.2.2.2.2.2.2.2.2.2.2.2.1
theorem dL_law_1368 : decode cL_law 1368 = .ok (.aload_n 0, 1) := edL_law_1348.2.2.2.2.2.2.2.2.2.2.2.2.2.2.1
theorem dL_law_1369 : decode cL_law 1369 = .ok (.iload_n 3, 1) := edL_law_1348.2.2.2.2.2.2.2.2.2.2.2.2.2.2.2.1
theorem dL_law_1370 : decode cL_law 1370 = .ok (.iconst 1, 1) := edL_law_1348.2.2.2.2.2.2.2.2.2.2.2.2.2.2.2.2.1
theorem dL_law_1371 : decode cL_law 1371 = .ok (.iadd, 1) := edL_law_1348.2.2.2.2.2.2.2.2.2.2.2.2.2.2.2.2.2.1
theorem dL_law_1372 : decode cL_law 1372 = .ok (.iaload, 1) := edL_law_1348.2.2.2.2.2.2.2.2.2.2.2.2.2.2.2.2.2.2.1
theorem dL_law_1373 : decode cL_law 1373 = .ok (.invokevirtual 169, 3) := edL_law_1348.2.2.2.2.2.2.2.2.2.2.2.2.2.2.2.2.2.2.2.1
theorem dL_law_1376 : decode cL_law 1376 = .ok (.pop, 1) := edL_law_1348.2.2.2.2.2.2.2.2.2.2.2.2.2.2.2.2.2.2.2.2.1
theorem dL_law_1377 : decode cL_law 1377 = .ok (.goto 75, 3) := edL_law_1348.2.2.2.2.2.2.2.2.2.2.2.2.2.2.2.2.2.2.2.2.2.1
theorem dL_law_1380 : decode cL_law 1380 = .ok (.aload_n 1, 1) := edL_law_1348.2.2.2.2.2.2.2.2.2.2.2.2.2.2.2.2.2.2.2.2.2.2.1
theorem dL_law_1381 : decode cL_law 1381 = .ok (.aload_n 0, 1) := edL_law_1348.2.2.2.2.2.2.2.2.2.2.2.2.2.2.2.2.2.2.2.2.2.2.2
theorem edL_law_1382 : (decode cL_law 1382 = .ok (.iload_n 3, 1)) ∧ (decode cL_law 1383 = .ok (.iconst 1, 1)) ∧ (decode cL_law 1384 = .ok (.iadd, 1)) ∧ (decode cL_law 1385 = .ok (.iaload, 1)) ∧ (decode cL_law 1386 = .ok (.invokevirtual 170, 3)) ∧ (decode cL_law 1389 = .ok (.pop, 1)) ∧ (decode cL_law 1390 = .ok (.aload_n 2, 1)) ∧ (decode cL_law 1391 = .ok (.aload_n 0, 1)) ∧ (decode cL_law 1392 = .ok (.iload_n 3, 1)) ∧ (decode cL_law 1393 = .ok (.iconst 1, 1)) ∧ (decode cL_law 1394 = .ok (.iadd, 1)) ∧ (decode cL_law 1395 = .ok (.iaload, 1)) ∧ (decode cL_law 1396 = .ok (.invokevirtual 173, 3)) ∧ (decode cL_law 1399 = .ok (.pop, 1)) ∧ (decode cL_law 1400 = .ok (.goto 52, 3)) ∧ (decode cL_law 1403 = .ok (.aload_n 1, 1)) ∧ (decode cL_law 1404 = .ok (.invokevirtual 174, 3)) ∧ (decode cL_law 1407 = .ok (.pop, 1)) ∧ (decode cL_law 1408 = .ok (.aload_n 2, 1)) ∧ (decode cL_law 1409 = .ok (.invokevirtual 177, 3)) ∧ (decode cL_law 1412 = .ok (.pop, 1)) ∧ (decode cL_law 1413 = .ok (.goto 39, 3)) ∧ (decode cL_law 1416 = .ok (.aload_n 1, 1)) ∧ (decode cL_law 1417 = .ok (.invokevirtual 178, 3)) := by decide +kernel
theorem dL_law_1382 : decode cL_law 1382 = .ok (.iload_n 3, 1) := edL_law_1382.1
theorem dL_law_1383 : decode cL_law 1383 = .ok (.iconst 1, 1) := edL_law_1382.2.1
theorem dL_law_1384 : decode cL_law 1384 = .ok (.iadd, 1) := edL_law_1382.2.2.1
theorem dL_law_1385 : decode cL_law 1385 = .ok (.iaload, 1) := edL_law_1382.2.2.2.1
theorem dL_law_1386 : decode cL_law 1386 = .ok (.invokevirtual 170, 3) := edL_law_1382.2.2.2.2.1
theorem dL_law_1389 : decode cL_law 1389 = .ok (.pop, 1) := edL_law_1382.2.2.2.2.2.1
theorem dL_law_1390 : decode cL_law 1390 = .ok (.aload_n 2, 1) := edL_law_1382.2.2.2.2.2.2.1
theorem dL_law_1391 : decode cL_law 1391 = .ok (.aload_n 0, 1) := edL_law_1382.2.2.2.2.2.2.2.1
theorem dL_law_1392 : decode cL_law 1392 = .ok (.iload_n 3, 1) := edL_law_1382.2.2.2.2.2.2.2.2.1
theorem dL_law_1393 : decode cL_law 1393 = .ok (.iconst 1, 1) := edL_law_1382.2.2.2.2.2.2.2.2.2.1
theorem dL_law_1394 : decode cL_law 1394 = .ok (.iadd, 1) := edL_law_1382.2.2.2.2.2.2.2.2.2.2.1
theorem dL_law_1395 : decode cL_law 1395 = .ok (.iaload, 1) := edL_law_1382.2.2.2.2.2.2.2.2.2.2.2.1
theorem dL_law_1396 : decode cL_law 1396 = .ok (.invokevirtual 173, 3) := edL_law_1382.2.2.2.2.2.2.2.2.2.2.2.2.1
theorem dL_law_1399 : decode cL_law 1399 = .ok (.pop, 1) := edL_law_1382.2.2.2.2.2.2.2.2.2.2.2.2.2.1
theorem dL_law_1400 : decode cL_law 1400 = .ok (.goto 52, 3) := edL_law_1382.2.2.2.2.2.2.2.2.2.2.2.2.2.2.1
theorem dL_law_1403 : decode cL_law 1403 = .ok (.aload_n 1, 1) := edL_law_1382.2.2.2.2.2.2.2.2.2.2.2.2.2.2.2.1
theorem dL_law_1404 : decode cL_law 1404 = .ok (.invokevirtual 174, 3) := edL_law_1382.2.2.2.2.2.2.2.2.2.2.2.2.2.2.2.2.1
theorem dL_law_1407 : decode cL_law 1407 = .ok (.pop, 1) := edL_law_1382.2.2.2.2.2.2.2.2.2.2.2.2.2.2.2.2.2.1
theorem dL_law_1408 : decode cL_law 1408 = .ok (.aload_n 2, 1) := edL_law_1382.2.2.2.2.2.2.2.2.2.2.2.2.2.2.2.2.2.2.1
theorem dL_law_1409 : decode cL_law 1409 = .ok (.invokevirtual 177, 3) := edL_law_1382.2.2.2.2.2.2.2.2.2.2.2.2.2.2.2.2.2.2.2.1
theorem dL_law_1412 : decode cL_law 1412 = .ok (.pop, 1) := edL_law_1382.2.2.2.2.2.2.2.2.2.2.2.2.2.2.2.2.2.2.2.2.1
theorem dL_law_1413 : decode cL_law 1413 = .ok (.goto 39, 3) := edL_law_1382.2.2.2.2.2.2.2.2.2.2.2.2.2.2.2.2.2.2.2.2.2.1
theorem dL_law_1416 : decode cL_law 1416 = .ok (.aload_n 1, 1) := edL_law_1382.2.2.2.2.2.2.2.2.2.2.2.2.2.2.2.2.2.2.2.2.2.2.1
theorem dL_law_1417 : decode cL_law 1417 = .ok (.invokevirtual 178, 3) := edL_law_1382.2.2.2.2.2.2.2.2.2.2.2.2.2.2.2.2.2.2.2.2.2.2.2
theorem edL_law_1420 : (decode cL_law 1420 = .ok (.pop, 1)) ∧ (decode cL_law 1421 = .ok (.aload_n 2, 1)) ∧ (decode cL_law 1422 = .ok (.invokevirtual 181, 3)) ∧ (decode cL_law 1425 = .ok (.pop, 1)) ∧ (decode cL_law 1426 = .ok (.goto 26, 3)) ∧ (decode cL_law 1429 = .ok (.aload_n 1, 1)) ∧ (decode cL_law 1430 = .ok (.aload_n 0, 1)) ∧ (decode cL_law 1431 = .ok (.iload_n 3, 1)) ∧ (decode cL_law 1432 = .ok (.iconst 1, 1)) ∧ (decode cL_law 1433 = .ok (.iadd, 1)) ∧ (decode cL_law 1434 = .ok (.iaload, 1)) ∧ (decode cL_law 1435 = .ok (.invokevirtual 182, 3)) ∧ (decode cL_law 1438 = .ok (.pop, 1)) ∧ (decode cL_law 1439 = .ok (.aload_n 2, 1)) ∧ (decode cL_law 1440 = .ok (.aload_n 0, 1)) ∧ (decode cL_law 1441 = .ok (.iload_n 3, 1)) ∧ (decode cL_law 1442 = .ok (.iconst 1, 1)) ∧ (decode cL_law 1443 = .ok (.iadd, 1)) ∧ (decode cL_law 1444 = .ok (.iaload, 1)) ∧ (decode cL_law 1445 = .ok (.invokevirtual 185, 3)) ∧ (decode cL_law 1448 = .ok (.pop, 1)) ∧ (decode cL_law 1449 = .ok (.goto 3, 3)) ∧ (decode cL_law 1452 = .ok (.iinc 3 6, 3)) ∧ (decode cL_law 1455 = .ok (.goto (-1437), 3)) := by decide +kernel
theorem dL_law_1420 : decode cL_law 1420 = .ok (.pop, 1) := edL_law_1420.1
theorem dL_law_1421 : decode cL_law 1421 = .ok (.aload_n 2, 1) := edL_law_1420.2.1
theorem dL_law_1422 : decode cL_law 1422 = .ok (.invokevirtual 181, 3) := edL_law_1420.2.2.1
theorem dL_law_1425 : decode cL_law 1425 = .ok (.pop, 1) := edL_law_1420.2.2.2.1
theorem dL_law_1426 : decode cL_law 1426 = .ok (.goto 26, 3) := edL_law_1420.2.2.2.2.1
theorem dL_law_1429 : decode cL_law 1429 = .ok (.aload_n 1, 1) := edL_law_1420.2.2.2.2.2.1
theorem dL_law_1430 : decode cL_law 1430 = .ok (.aload_n 0, 1) := edL_law_1420.2.2.2.2.2.2.1
theorem dL_law_1431 : decode cL_law 1431 = .ok (.iload_n 3, 1) := edL_law_1420.2.2.2.2.2.2.2.1
theorem dL_law_1432 : decode cL_law 1432 = .ok (.iconst 1, 1) := edL_law_1420.2.2.2.2.2.2.2.2.1
theorem dL_law_1433 : decode cL_law 1433 = .ok (.iadd, 1) := edL_law_1420.2.2.2.2.2.2.2.2.2.1
theorem dL_law_1434 : decode cL_law 1434 = .ok (.iaload, 1) := edL_law_1420.2.2.2.2.2.2.2.2.2.2.1
theorem dL_law_1435 : decode cL_law 1435 = .ok (.invokevirtual 182, 3) := edL_law_1420.2.2.2.2.2.2.2.2.2.2.2.1
theorem dL_law_1438 : decode cL_law 1438 = .ok (.pop, 1) := edL_law_1420.2.2.2.2.2.2.2.2.2.2.2.2.1
theorem dL_law_1439 : decode cL_law 1439 = .ok (.aload_n 2, 1) := edL_law_1420.2.2.2.2.2.2.2.2.2.2.2.2.2.1
theorem dL_law_1440 : decode cL_law 1440 = .ok (.aload_n 0, 1) := edL_law_1420.2.2.2.2.2.2.2.2.2.2.2.2.2.2.1
theorem dL_law_1441 : decode cL_law 1441 = .ok (.iload_n 3, 1) := edL_law_1420.2.2.2.2.2.2.2.2.2.2.2.2.2.2.2.1
theorem dL_law_1442 : decode cL_law 1442 = .ok (.iconst 1, 1) := edL_law_1420.2.2.2.2.2.2.2.2.2.2.2.2.2.2.2.2.1
theorem dL_law_1443 : decode cL_law 1443 = .ok (.iadd, 1) := edL_law_1420.2.2.2.2.2.2.2.2.2.2.2.2.2.2.2.2.2.1
theorem dL_law_1444 : decode cL_law 1444 = .ok (.iaload, 1) := edL_law_1420.2.2.2.2.2.2.2.2.2.2.2.2.2.2.2.2.2.2.1
theorem dL_law_1445 : decode cL_law 1445 = .ok (.invokevirtual 185, 3) := edL_law_1420.2.2.2.2.2.2.2.2.2.2.2.2.2.2.2.2.2.2.2.1
theorem dL_law_1448 : decode cL_law 1448 = .ok (.pop, 1) := edL_law_1420.2.2.2.2.2.2.2.2.2.2.2.2.2.2.2.2.2.2.2.2.1
theorem dL_law_1449 : decode cL_law 1449 = .ok (.goto 3, 3) := edL_law_1420.2.2.2.2.2.2.2.2.2.2.2.2.2.2.2.2.2.2.2.2.2.1
theorem dL_law_1452 : decode cL_law 1452 = .ok (.iinc 3 6, 3) := edL_law_1420.2.2.2.2.2.2.2.2.2.2.2.2.2.2.2.2.2.2.2.2.2.2.1
theorem dL_law_1455 : decode cL_law 1455 = .ok (.goto (-1437), 3) := edL_law_1420.2.2.2.2.2.2.2.2.2.2.2.2.2.2.2.2.2.2.2.2.2.2.2
theorem edL_law_1458 : (decode cL_law 1458 = .ok (.iconst 1, 1)) ∧ (decode cL_law 1459 = .ok (.ireturn, 1)) := by decide +kernel
theorem dL_law_1458 : decode cL_law 1458 = .ok (.iconst 1, 1) := edL_law_1458.1
theorem dL_law_1459 : decode cL_law 1459 = .ok (.ireturn, 1) := edL_law_1458.2
