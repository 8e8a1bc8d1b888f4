theorem edX8_cool_39 : (decode cX8_cool 39 = .ok (.invokevirtual 181, 3)) ∧ (decode cX8_cool 42 = .ok (.ifCond .eq 7, 3)) ∧ (decode cX8_cool 45 = .ok (.iload_n 3, 1)) ∧ (decode cX8_cool 46 = .ok (.goto 4, 3)) ∧ (decode cX8_cool 49 = .ok (.iconst (-1), 1)) ∧ (decode cX8_cool 50 = .ok (.istore_n 2, 1)) ∧ (decode cX8_cool 51 = .ok (.iinc 3 (-1), 3)) ∧ (decode cX8_cool 54 = .ok (.goto (-32), 3)) ∧ (decode cX8_cool 57 = .ok (.iload_n 2, 1)) ∧ (decode cX8_cool 58 = .ok (.invokestatic 124, 3)) ∧ (decode cX8_cool 61 = .ok (.ireturn, 1)) := by decide +kernel
theorem dX8_cool_39 : decode cX8_cool 39 = .ok (.invokevirtual 181, 3) := edX8_cool_39.1
theorem dX8_cool_42 : decode cX8_cool 42 = .ok (.ifCond .eq 7, 3) := edX8_cool_39.2.1
theorem dX8_cool_45 : decode cX8_cool 45 = .ok (.iload_n 3, 1) := edX8_cool_39.2.2.1
theorem dX8_cool_46 : decode cX8_cool 46 = .ok (.goto 4, 3) := edX8_cool_39.2.2.2.1
theorem dX8_cool_49 : decode cX8_cool 49 = .ok (.iconst (-1), 1) := edX8_cool_39.2.2.2.2.1
theorem dX8_cool_50 : decode cX8_cool 50 = .ok (.istore_n 2, 1) := edX8_cool_39.2.2.2.2.2.1
theorem dX8_cool_51 : decode cX8_cool 51 = .ok (.iinc 3 (-1), 3) := edX8_cool_39.2.2.2.2.2.2.1
theorem dX8_cool_54 : decode cX8_cool 54 = .ok (.goto (-32), 3) := edX8_cool_39.2.2.2.2.2.2.2.1
theorem dX8_cool_57 : decode cX8_cool 57 = .ok (.iload_n 2, 1) := edX8_cool_39.2.2.2.2.2.2.2.2.1
theorem dX8_cool_58 : decode cX8_cool 58 = .ok (.invokestatic 124, 3) := edX8_cool_39.2.2.2.2.2.2.2.2.2.1
theorem dX8_cool_61 : decode cX8_cool 61 = .ok (.ireturn, 1) := edX8_cool_39.2.2.2.2.2.2.2.2.2.2
theorem edX8_bought_0 : (decode cX8_bought 0 = .ok (.iload_n 1, 1)) ∧ (decode cX8_bought 1 = .ok (.iconst 1, 1)) ∧ (decode cX8_bought 2 = .ok (.bipush 60, 2)) ∧ (decode cX8_bought 4 = .ok (.invokestatic 83, 3)) ∧ (decode cX8_bought 7 = .ok (.ifCond .eq 12, 3)) ∧ (decode cX8_bought 10 = .ok (.iload_n 2, 1)) ∧ (decode cX8_bought 11 = .ok (.iconst 0, 1)) ∧ (decode cX8_bought 12 = .ok (.iconst 1, 1)) ∧ (decode cX8_bought 13 = .ok (.invokestatic 83, 3)) ∧ (decode cX8_bought 16 = .ok (.ifCond .ne 6, 3)) ∧ (decode cX8_bought 19 = .ok (.ldc 91, 2)) ∧ (decode cX8_bought 21 = .ok (.ireturn, 1)) ∧ (decode cX8_bought 22 = .ok (.aload_n 0, 1)) ∧ (decode cX8_bought 23 = .ok (.invokevirtual 169, 3)) ∧ (decode cX8_bought 26 = .ok (.iconst (-1), 1)) ∧ (decode cX8_bought 27 = .ok (.istore_n 3, 1)) ∧ (decode cX8_bought 28 = .ok (.iconst 0, 1)) ∧ (decode cX8_bought 29 = .ok (.istore 4, 2)) ∧ (decode cX8_bought 31 = .ok (.iconst 0, 1)) ∧ (decode cX8_bought 32 = .ok (.istore 5, 2)) ∧ (decode cX8_bought 34 = .ok (.iload 5, 2)) ∧ (decode cX8_bought 36 = .ok (.aload_n 0, 1)) ∧ (decode cX8_bought 37 = .ok (.getfield 9, 3)) ∧ (decode cX8_bought 40 = .ok (.iconst 1, 1)) := by decide +kernel
theorem dX8_bought_0 : decode cX8_bought 0 = .ok (.iload_n 1, 1) := edX8_bought_0.1
theorem dX8_bought_1 : decode cX8_bought 1 = .ok (.iconst 1, 1) := edX8_bought_0.2.1
theorem dX8_bought_2 : decode cX8_bought 2 = .ok (.bipush 60, 2) := edX8_bought_0.2.2.1
theorem dX8_bought_4 : decode cX8_bought 4 = .ok (.invokestatic 83, 3) := edX8_bought_0.2.2.2.1
theorem dX8_bought_7 : decode cX8_bought 7 = .ok (.ifCond .eq 12, 3) := edX8_bought_0.2.2.2.2.1
theorem dX8_bought_10 : decode cX8_bought 10 = .ok (.iload_n 2, 1) := edX8_bought_0.2.2.2.2.2.1
theorem dX8_bought_11 : decode cX8_bought 11 = .ok (.iconst 0, 1) := edX8_bought_0.2.2.2.2.2.2.1
theorem dX8_bought_12 : decode cX8_bought 12 = .ok (.iconst 1, 1) := edX8_bought_0.2.2.2.2.2.2.2.1
theorem dX8_bought_13 : decode cX8_bought 13 = .ok (.invokestatic 83, 3) := edX8_bought_0.2.2.2.2.2.2.2.2.1
theorem dX8_bought_16 : decode cX8_bought 16 = .ok (.ifCond .ne 6, 3) := edX8_bought_0.2.2.2.2.2.2.2.2.2.1
theorem dX8_bought_19 : decode cX8_bought 19 = .ok (.ldc 91, 2) := edX8_bought_0.2.2.2.2.2.2.2.2.2.2.1
theorem dX8_bought_21 : decode cX8_bought 21 = .ok (.ireturn, 1) := edX8_bought_0.2.2.2.2.2.2.2.2.2.2.2.1
theorem dX8_bought_22 : decode cX8_bought 22 = .ok (.aload_n 0, 1) := edX8_bought_0.2.2.2.2.2.2.2.2.2.2.2.2.1
theorem dX8_bought_23 : decode cX8_bought 23 = .ok (.invokevirtual 169, 3) := edX8_bought_0.2.2.2.2.2.2.2.2.2.2.2.2.2.1
theorem dX8_bought_26 : decode cX8_bought 26 = .ok (.iconst (-1), 1) := edX8_bought_0.2.2.2.2.2.2.2.2.2.2.2.2.2.2.1
theorem dX8_bought_27 : decode cX8_bought 27 = .ok (.istore_n 3, 1) := edX8_bought_0.2.2.2.2.2.2.2.2.2.2.2.2.2.2.2.1
theorem dX8_bought_28 : decode cX8_bought 28 = .ok (.iconst 0, 1) := edX8_bought_0.2.2.2.2.2.2.2.2.2.2.2.2.2.2.2.2.1
theorem dX8_bought_29 : decode cX8_bought 29 = .ok (.istore 4, 2) := edX8_bought_0.2.2.2.2.2.2.2.2.2.2.2.2.2.2.2.2.2.1
theorem dX8_bought_31 : decode cX8_bought 31 = .ok (.iconst 0, 1) := edX8_bought_0.2.2.2.2.2.2.2.2.2.2.2.2.2.2.2.2.2.2.1
theorem dX8_bought_32 : decode cX8_bought 32 = .ok (.istore 5, 2) := edX8_bought_0.2.2.2.2.2.2.2.2.2.2.2.2.2.2.2.2.2.2.2.1
theorem dX8_bought_34 : decode cX8_bought 34 = .ok (.iload 5, 2) := edX8_bought_0.2.2.2.2.2.2.2.2.2.2.2.2.2.2.2.2.2.2.2.2.1
theorem dX8_bought_36 : decode cX8_bought 36 = .ok (.aload_n 0, 1) := edX8_bought_0.2.2.2.2.2.2.2.2.2.2.2.2.2.2.2.2.2.2.2.2.2.1
theorem dX8_bought_37 : decode cX8_bought 37 = .ok (.getfield 9, 3) := edX8_bought_0.2.2.2.2.2.2.2.2.2.2.2.2.2.2.2.2.2.2.2.2.2.2.1
theorem dX8_bought_40 : decode cX8_bought 40 = .ok (.iconst 1, 1) := edX8_bought_0.2.2.2.2.2.2.2.2.2.2.2.2.2.2.2.2.2.2.2.2.2.2.2
theorem edX8_bought_41 : (decode cX8_bought 41 = .ok (.iaload, 1)) ∧ (decode cX8_bought 42 = .ok (.if_icmp .ge 57, 3)) ∧ (decode cX8_bought 45 = .ok (.aload_n 0, 1)) ∧ (decode cX8_bought 46 = .ok (.iload 5, 2)) ∧ (decode cX8_bought 48 = .ok (.iconst 0, 1)) ∧ (decode cX8_bought 49 = .ok (.iconst 5, 1)) ∧ (decode cX8_bought 50 = .ok (.invokevirtual 87, 3)) ∧ (decode cX8_bought 53 = .ok (.aload_n 0, 1)) ∧ (decode cX8_bought 54 = .ok (.iload_n 1, 1)) ∧ (decode cX8_bought 55 = .ok (.invokevirtual 163, 3)) ∧ (decode cX8_bought 58 = .ok (.aload_n 0, 1)) ∧ (decode cX8_bought 59 = .ok (.aload_n 0, 1)) ∧ (decode cX8_bought 60 = .ok (.iload 5, 2)) ∧ (decode cX8_bought 62 = .ok (.iconst 1, 1)) ∧ (decode cX8_bought 63 = .ok (.invokevirtual 101, 3)) ∧ (decode cX8_bought 66 = .ok (.invokevirtual 143, 3)) ∧ (decode cX8_bought 69 = .ok (.istore 6, 2)) ∧ (decode cX8_bought 71 = .ok (.aload_n 0, 1)) ∧ (decode cX8_bought 72 = .ok (.invokevirtual 175, 3)) ∧ (decode cX8_bought 75 = .ok (.iload_n 3, 1)) ∧ (decode cX8_bought 76 = .ok (.ifCond .lt 10, 3)) ∧ (decode cX8_bought 79 = .ok (.iload 6, 2)) ∧ (decode cX8_bought 81 = .ok (.iload 4, 2)) ∧ (decode cX8_bought 83 = .ok (.if_icmp .ge 10, 3)) := by decide +kernel
theorem dX8_bought_41 : decode cX8_bought 41 = .ok (.iaload, 1) := edX8_bought_41.1
theorem dX8_bought_42 : decode cX8_bought 42 = .ok (.if_icmp .ge 57, 3) := edX8_bought_41.2.1
theorem dX8_bought_45 : decode cX8_bought 45 = .ok (.aload_n 0, 1) := edX8_bought_41.2.2.1
theorem dX8_bought_46 : decode cX8_bought 46 = .ok (.iload 5, 2) := edX8_bought_41.2.2.2.1
theorem dX8_bought_48 : decode cX8_bought 48 = .ok (.iconst 0, 1) := edX8_bought_41.2.2.2.2.1
theorem dX8_bought_49 : decode cX8_bought 49 = .ok (.iconst 5, 1) := edX8_bought_41.2.2.2.2.2.1
theorem dX8_bought_50 : decode cX8_bought 50 = .ok (.invokevirtual 87, 3) := edX8_bought_41.2.2.2.2.2.2.1
theorem dX8_bought_53 : decode cX8_bought 53 = .ok (.aload_n 0, 1) := edX8_bought_41.2.2.2.2.2.2.2.1
theorem dX8_bought_54 : decode cX8_bought 54 = .ok (.iload_n 1, 1) := edX8_bought_41.2.2.2.2.2.2.2.2.1
theorem dX8_bought_55 : decode cX8_bought 55 = .ok (.invokevirtual 163, 3) := edX8_bought_41.2.2.2.2.2.2.2.2.2.1
theorem dX8_bought_58 : decode cX8_bought 58 = .ok (.aload_n 0, 1) := edX8_bought_41.2.2.2.2.2.2.2.2.2.2.1
theorem dX8_bought_59 : decode cX8_bought 59 = .ok (.aload_n 0, 1) := edX8_bought_41.2.2.2.2.2.2.2.2.2.2.2.1
theorem dX8_bought_60 : decode cX8_bought 60 = .ok (.iload 5, 2) := edX8_bought_41.2.2.2.2.2.2.2.2.2.2.2.2.1
theorem dX8_bought_62 : decode cX8_bought 62 = .ok (.iconst 1, 1) := edX8_bought_41.2.2.2.2.2.2.2.2.2.2.2.2.2.1
theorem dX8_bought_63 : decode cX8_bought 63 = .ok (.invokevirtual 101, 3) := edX8_bought_41.2.2.2.2.2.2.2.2.2.2.2.2.2.2.1
theorem dX8_bought_66 : decode cX8_bought 66 = .ok (.invokevirtual 143, 3) := edX8_bought_41.2.2.2.2.2.2.2.2.2.2.2.2.2.2.2.1
theorem dX8_bought_69 : decode cX8_bought 69 = .ok (.istore 6, 2) := edX8_bought_41.2.2.2.2.2.2.2.2.2.2.2.2.2.2.2.2.1
theorem dX8_bought_71 : decode cX8_bought 71 = .ok (.aload_n 0, 1) := edX8_bought_41.2.2.2.2.2.2.2.2.2.2.2.2.2.2.2.2.2.1
theorem dX8_bought_72 : decode cX8_bought 72 = .ok (.invokevirtual 175, 3) := edX8_bought_41.2.2.2.2.2.2.2.2.2.2.2.2.2.2.2.2.2.2.1
theorem dX8_bought_75 : decode cX8_bought 75 = .ok (.iload_n 3, 1) := edX8_bought_41.2.2.2.2.2.2.2.2.2.2.2.2.2.2.2.2.2.2.2.1
theorem dX8_bought_76 : decode cX8_bought 76 = .ok (.ifCond .lt 10, 3) := edX8_bought_41.2.2.2.2.2.2.2.2.2.2.2.2.2.2.2.2.2.2.2.2.1
theorem dX8_bought_79 : decode cX8_bought 79 = .ok (.iload 6, 2) := edX8_bought_41.2.2.2.2.2.2.2.2.2.2.2.2.2.2.2.2.2.2.2.2.2.1
theorem dX8_bought_81 : decode cX8_bought 81 = .ok (.iload 4, 2) := edX8_bought_41.2.2.2.2.2.2.2.2.2.2.2.2.2.2.2.2.2.2.2.2.2.2.1
theorem dX8_bought_83 : decode cX8_bought 83 = .ok (.if_icmp .ge 10, 3) := edX8_bought_41.2.2.2.2.2.2.2.2.2.2.2.2.2.2.2.2.2.2.2.2.2.2.2
theorem edX8_bought_86 : (decode cX8_bought 86 = .ok (.iload 5, 2)) ∧ (decode cX8_bought 88 = .ok (.istore_n 3, 1)) ∧ (decode cX8_bought 89 = .ok (.iload 6, 2)) ∧ (decode cX8_bought 91 = .ok (.istore 4, 2)) ∧ (decode cX8_bought 93 = .ok (.iinc 5 1, 3)) ∧ (decode cX8_bought 96 = .ok (.goto (-62), 3)) ∧ (decode cX8_bought 99 = .ok (.iload_n 3, 1)) ∧ (decode cX8_bought 100 = .ok (.ifCond .ge 8, 3)) ∧ (decode cX8_bought 103 = .ok (.ldc 82, 2)) ∧ (decode cX8_bought 105 = .ok (.goto 13, 3)) ∧ (decode cX8_bought 108 = .ok (.iload_n 2, 1)) ∧ (decode cX8_bought 109 = .ok (.ifCond .ne 7, 3)) ∧ (decode cX8_bought 112 = .ok (.iload_n 3, 1)) ∧ (decode cX8_bought 113 = .ok (.goto 5, 3)) ∧ (decode cX8_bought 116 = .ok (.iload 4, 2)) ∧ (decode cX8_bought 118 = .ok (.ireturn, 1)) := by decide +kernel
theorem dX8_bought_86 : decode cX8_bought 86 = .ok (.iload 5, 2) := edX8_bought_86.1
theorem dX8_bought_88 : decode cX8_bought 88 = .ok (.istore_n 3, 1) := edX8_bought_86.2.1
theorem dX8_bought_89 : decode cX8_bought 89 = .ok (.iload 6, 2) := edX8_bought_86.2.2.1
theorem dX8_bought_91 : decode cX8_bought 91 = .ok (.istore 4, 2) := edX8_bought_86.2.2.2.1
theorem dX8_bought_93 : decode cX8_bought 93 = .ok (.iinc 5 1, 3) := edX8_bought_86.2.2.2.2.1
theorem dX8_bought_96 : decode cX8_bought 96 = .ok (.goto (-62), 3) := edX8_bought_86.2.2.2.2.2.1
theorem dX8_bought_99 : decode cX8_bought 99 = .ok (.iload_n 3, 1) := edX8_bought_86.2.2.2.2.2.2.1
theorem dX8_bought_100 : decode cX8_bought 100 = .ok (.ifCond .ge 8, 3) := edX8_bought_86.2.2.2.2.2.2.2.1
theorem dX8_bought_103 : decode cX8_bought 103 = .ok (.ldc 82, 2) := edX8_bought_86.2.2.2.2.2.2.2.2.1
theorem dX8_bought_105 : decode cX8_bought 105 = .ok (.goto 13, 3) := edX8_bought_86.2.2.2.2.2.2.2.2.2.1
theorem dX8_bought_108 : decode cX8_bought 108 = .ok (.iload_n 2, 1) := edX8_bought_86.2.2.2.2.2.2.2.2.2.2.1
theorem dX8_bought_109 : decode cX8_bought 109 = .ok (.ifCond .ne 7, 3) := edX8_bought_86.2.2.2.2.2.2.2.2.2.2.2.1
theorem dX8_bought_112 : decode cX8_bought 112 = .ok (.iload_n 3, 1) := edX8_bought_86.2.2.2.2.2.2.2.2.2.2.2.2.1
theorem dX8_bought_113 : decode cX8_bought 113 = .ok (.goto 5, 3) := edX8_bought_86.2.2.2.2.2.2.2.2.2.2.2.2.2.1
theorem dX8_bought_116 : decode cX8_bought 116 = .ok (.iload 4, 2) := edX8_bought_86.2.2.2.2.2.2.2.2.2.2.2.2.2.2.1
theorem dX8_bought_118 : decode cX8_bought 118 = .ok (.ireturn, 1) := edX8_bought_86.2.2.2.2.2.2.2.2.2.2.2.2.2.2.2
theorem edX8_offBy_0 : (decode cX8_offBy 0 = .ok (.aload_n 0, 1)) ∧ (decode cX8_offBy 1 = .ok (.getfield 9, 3)) ∧ (decode cX8_offBy 4 = .ok (.bipush 12, 2)) ∧ (decode cX8_offBy 6 = .ok (.iconst 4, 1)) ∧ (decode cX8_offBy 7 = .ok (.iload_n 2, 1)) ∧ (decode cX8_offBy 8 = .ok (.imul, 1)) ∧ (decode cX8_offBy 9 = .ok (.iadd, 1)) ∧ (decode cX8_offBy 10 = .ok (.iload_n 3, 1)) ∧ (decode cX8_offBy 11 = .ok (.iadd, 1)) ∧ (decode cX8_offBy 12 = .ok (.bipush 9, 2)) ∧ (decode cX8_offBy 14 = .ok (.iastore, 1)) ∧ (decode cX8_offBy 15 = .ok (.aload_n 0, 1)) ∧ (decode cX8_offBy 16 = .ok (.invokevirtual 157, 3)) ∧ (decode cX8_offBy 19 = .ok (.lconst 0, 1)) ∧ (decode cX8_offBy 20 = .ok (.lstore 4, 2)) ∧ (decode cX8_offBy 22 = .ok (.iconst 0, 1)) ∧ (decode cX8_offBy 23 = .ok (.istore 6, 2)) ∧ (decode cX8_offBy 25 = .ok (.iload 6, 2)) ∧ (decode cX8_offBy 27 = .ok (.aload_n 0, 1)) ∧ (decode cX8_offBy 28 = .ok (.getfield 58, 3)) ∧ (decode cX8_offBy 31 = .ok (.iload_n 1, 1)) ∧ (decode cX8_offBy 32 = .ok (.iaload, 1)) ∧ (decode cX8_offBy 33 = .ok (.if_icmp .ge 81, 3)) ∧ (decode cX8_offBy 36 = .ok (.aload_n 0, 1)) := by decide +kernel
theorem dX8_offBy_0 : decode cX8_offBy 0 = .ok (.aload_n 0, 1) := edX8_offBy_0.1
theorem dX8_offBy_1 : decode cX8_offBy 1 = .ok (.getfield 9, 3) := edX8_offBy_0.2.1
theorem dX8_offBy_4 : decode cX8_offBy 4 = .ok (.bipush 12, 2) := edX8_offBy_0.2.2.1
theorem dX8_offBy_6 : decode cX8_offBy 6 = .ok (.iconst 4, 1) := edX8_offBy_0.2.2.2.1
theorem dX8_offBy_7 : decode cX8_offBy 7 = .ok (.iload_n 2, 1) := edX8_offBy_0.2.2.2.2.1
theorem dX8_offBy_8 : decode cX8_offBy 8 = .ok (.imul, 1) := edX8_offBy_0.2.2.2.2.2.1
theorem dX8_offBy_9 : decode cX8_offBy 9 = .ok (.iadd, 1) := edX8_offBy_0.2.2.2.2.2.2.1
theorem dX8_offBy_10 : decode cX8_offBy 10 = .ok (.iload_n 3, 1) := edX8_offBy_0.2.2.2.2.2.2.2.1
theorem dX8_offBy_11 : decode cX8_offBy 11 = .ok (.iadd, 1) := edX8_offBy_0.2.2.2.2.2.2.2.2.1
theorem dX8_offBy_12 : decode cX8_offBy 12 = .ok (.bipush 9, 2) := edX8_offBy_0.2.2.2.2.2.2.2.2.2.1
theorem dX8_offBy_14 : decode cX8_offBy 14 = .ok (.iastore, 1) := edX8_offBy_0.2.2.2.2.2.2.2.2.2.2.1
theorem dX8_offBy_15 : decode cX8_offBy 15 = .ok (.aload_n 0, 1) := edX8_offBy_0.2.2.2.2.2.2.2.2.2.2.2.1
theorem dX8_offBy_16 : decode cX8_offBy 16 = .ok (.invokevirtual 157, 3) := edX8_offBy_0.2.2.2.2.2.2.2.2.2.2.2.2.1
theorem dX8_offBy_19 : decode cX8_offBy 19 = .ok (.lconst 0, 1) := edX8_offBy_0.2.2.2.2.2.2.2.2.2.2.2.2.2.1
theorem dX8_offBy_20 : decode cX8_offBy 20 = .ok (.lstore 4, 2) := edX8_offBy_0.2.2.2.2.2.2.2.2.2.2.2.2.2.2.1
theorem dX8_offBy_22 : decode cX8_offBy 22 = .ok (.iconst 0, 1) := edX8_offBy_0.2.2.2.2.2.2.2.2.2.2.2.2.2.2.2.1
theorem dX8_offBy_23 : decode cX8_offBy 23 = .ok (.istore 6, 2) := edX8_offBy_0.2.2.2.2.2.2.2.2.2.2.2.2.2.2.2.2.1
theorem dX8_offBy_25 : decode cX8_offBy 25 = .ok (.iload 6, 2) := edX8_offBy_0.2.2.2.2.2.2.2.2.2.2.2.2.2.2.2.2.2.1
theorem dX8_offBy_27 : decode cX8_offBy 27 = .ok (.aload_n 0, 1) := edX8_offBy_0.2.2.2.2.2.2.2.2.2.2.2.2.2.2.2.2.2.2.1
theorem dX8_offBy_28 : decode cX8_offBy 28 = .ok (.getfield 58, 3) := edX8_offBy_0.2.2.2.2.2.2.2.2.2.2.2.2.2.2.2.2.2.2.2.1
theorem dX8_offBy_31 : decode cX8_offBy 31 = .ok (.iload_n 1, 1) := edX8_offBy_0.2.2.2.2.2.2.2.2.2.2.2.2.2.2.2.2.2.2.2.2.1
theorem dX8_offBy_32 : decode cX8_offBy 32 = .ok (.iaload, 1) := edX8_offBy_0.2.2.2.2.2.2.2.2.2.2.2.2.2.2.2.2.2.2.2.2.2.1
theorem dX8_offBy_33 : decode cX8_offBy 33 = .ok (.if_icmp .ge 81, 3) := edX8_offBy_0.2.2.2.2.2.2.2.2.2.2.2.2.2.2.2.2.2.2.2.2.2.2.1
theorem dX8_offBy_36 : decode cX8_offBy 36 = .ok (.aload_n 0, 1) := edX8_offBy_0.2.2.2.2.2.2.2.2.2.2.2.2.2.2.2.2.2.2.2.2.2.2.2
theorem edX8_offBy_37 : (decode cX8_offBy 37 = .ok (.getfield 61, 3)) ∧ (decode cX8_offBy 40 = .ok (.bipush 24, 2)) ∧ (decode cX8_offBy 42 = .ok (.iload_n 1, 1)) ∧ (decode cX8_offBy 43 = .ok (.imul, 1)) ∧ (decode cX8_offBy 44 = .ok (.iload 6, 2)) ∧ (decode cX8_offBy 46 = .ok (.iadd, 1)) ∧ (decode cX8_offBy 47 = .ok (.iaload, 1)) ∧ (decode cX8_offBy 48 = .ok (.istore 7, 2)) ∧ (decode cX8_offBy 50 = .ok (.iload 7, 2)) ∧ (decode cX8_offBy 52 = .ok (.i2l, 1)) ∧ (decode cX8_offBy 53 = .ok (.iload 6, 2)) ∧ (decode cX8_offBy 55 = .ok (.iconst 4, 1)) ∧ (decode cX8_offBy 56 = .ok (.if_icmp .ge 16, 3)) ∧ (decode cX8_offBy 59 = .ok (.aload_n 0, 1)) ∧ (decode cX8_offBy 60 = .ok (.getfield 9, 3)) ∧ (decode cX8_offBy 63 = .ok (.bipush 8, 2)) ∧ (decode cX8_offBy 65 = .ok (.iload 6, 2)) ∧ (decode cX8_offBy 67 = .ok (.iadd, 1)) ∧ (decode cX8_offBy 68 = .ok (.iaload, 1)) ∧ (decode cX8_offBy 69 = .ok (.goto 4, 3)) ∧ (decode cX8_offBy 72 = .ok (.iconst 0, 1)) ∧ (decode cX8_offBy 73 = .ok (.i2l, 1)) ∧ (decode cX8_offBy 74 = .ok (.lsub, 1)) ∧ (decode cX8_offBy 75 = .ok (.lstore 8, 2)) := by decide +kernel
theorem dX8_offBy_37 : decode cX8_offBy 37 = .ok (.getfield 61, 3) := edX8_offBy_37.1
theorem dX8_offBy_40 : decode cX8_offBy 40 = .ok (.bipush 24, 2) := edX8_offBy_37.2.1
theorem dX8_offBy_42 : decode cX8_offBy 42 = .ok (.iload_n 1, 1) := edX8_offBy_37.2.2.1
theorem dX8_offBy_43 : decode cX8_offBy 43 = .ok (.imul, 1) := edX8_offBy_37.2.2.2.1
theorem dX8_offBy_44 : decode cX8_offBy 44 = .ok (.iload 6, 2) := edX8_offBy_37.2.2.2.2.1
theorem dX8_offBy_46 : decode cX8_offBy 46 = .ok (.iadd, 1) := edX8_offBy_37.2.2.2.2.2.1
theorem dX8_offBy_47 : decode cX8_offBy 47 = .ok (.iaload, 1) := edX8_offBy_37.2.2.2.2.2.2.1
theorem dX8_offBy_48 : decode cX8_offBy 48 = .ok (.istore 7, 2) := edX8_offBy_37.2.2.2.2.2.2.2.1
theorem dX8_offBy_50 : decode cX8_offBy 50 = .ok (.iload 7, 2) := edX8_offBy_37.2.2.2.2.2.2.2.2.1
theorem dX8_offBy_52 : decode cX8_offBy 52 = .ok (.i2l, 1) := edX8_offBy_37.2.2.2.2.2.2.2.2.2.1
theorem dX8_offBy_53 : decode cX8_offBy 53 = .ok (.iload 6, 2) := edX8_offBy_37.2.2.2.2.2.2.2.2.2.2.1
theorem dX8_offBy_55 : decode cX8_offBy 55 = .ok (.iconst 4, 1) := edX8_offBy_37.2.2.2.2.2.2.2.2.2.2.2.1
theorem dX8_offBy_56 : decode cX8_offBy 56 = .ok (.if_icmp .ge 16, 3) := edX8_offBy_37.2.2.2.2.2.2.2.2.2.2.2.2.1
theorem dX8_offBy_59 : decode cX8_offBy 59 = .ok (.aload_n 0, 1) := edX8_offBy_37.2.2.2.2.2.2.2.2.2.2.2.2.2.1
theorem dX8_offBy_60 : decode cX8_offBy 60 = .ok (.getfield 9, 3) := edX8_offBy_37.2.2.2.2.2.2.2.2.2.2.2.2.2.2.1
theorem dX8_offBy_63 : decode cX8_offBy 63 = .ok (.bipush 8, 2) := edX8_offBy_37.2.2.2.2.2.2.2.2.2.2.2.2.2.2.2.1
theorem dX8_offBy_65 : decode cX8_offBy 65 = .ok (.iload 6, 2) := edX8_offBy_37.2.2.2.2.2.2.2.2.2.2.2.2.2.2.2.2.1
theorem dX8_offBy_67 : decode cX8_offBy 67 = .ok (.iadd, 1) := edX8_offBy_37.2.2.2.2.2.2.2.2.2.2.2.2.2.2.2.2.2.1
theorem dX8_offBy_68 : decode cX8_offBy 68 = .ok (.iaload, 1) := edX8_offBy_37.2.2.2.2.2.2.2.2.2.2.2.2.2.2.2.2.2.2.1
theorem dX8_offBy_69 : decode cX8_offBy 69 = .ok (.goto 4, 3) := edX8_offBy_37.2.2.2.2.2.2.2.2.2.2.2.2.2.2.2.2.2.2.2.1
theorem dX8_offBy_72 : decode cX8_offBy 72 = .ok (.iconst 0, 1) := edX8_offBy_37.2.2.2.2.2.2.2.2.2.2.2.2.2.2.2.2.2.2.2.2.1
theorem dX8_offBy_73 : decode cX8_offBy 73 = .ok (.i2l, 1) := edX8_offBy_37.2.2.2.2.2.2.2.2.2.2.2.2.2.2.2.2.2.2.2.2.2.1
theorem dX8_offBy_74 : decode cX8_offBy 74 = .ok (.lsub, 1) := edX8_offBy_37.2.2.2.2.2.2.2.2.2.2.2.2.2.2.2.2.2.2.2.2.2.2.1
theorem dX8_offBy_75 : decode cX8_offBy 75 = .ok (.lstore 8, 2) := edX8_offBy_37.2.2.2.2.2.2.2.2.2.2.2.2.2.2.2.2.2.2.2.2.2.2.2
theorem edX8_offBy_77 : (decode cX8_offBy 77 = .ok (.lload 4, 2)) ∧ (decode cX8_offBy 79 = .ok (.iload 7, 2)) ∧ (decode cX8_offBy 81 = .ok (.ldc 82, 2)) ∧ (decode cX8_offBy 83 = .ok (.if_icmp .ne 7, 3)) ∧ (decode cX8_offBy 86 = .ok (.lconst 0, 1)) ∧ (decode cX8_offBy 87 = .ok (.goto 18, 3)) ∧ (decode cX8_offBy 90 = .ok (.lload 8, 2)) ∧ (decode cX8_offBy 92 = .ok (.lconst 0, 1)) ∧ (decode cX8_offBy 93 = .ok (.lcmp, 1)) ∧ (decode cX8_offBy 94 = .ok (.ifCond .ge 9, 3)) ∧ (decode cX8_offBy 97 = .ok (.lload 8, 2)) ∧ (decode cX8_offBy 99 = .ok (.lneg, 1)) ∧ (decode cX8_offBy 100 = .ok (.goto 5, 3)) ∧ (decode cX8_offBy 103 = .ok (.lload 8, 2)) ∧ (decode cX8_offBy 105 = .ok (.ladd, 1)) ∧ (decode cX8_offBy 106 = .ok (.lstore 4, 2)) ∧ (decode cX8_offBy 108 = .ok (.iinc 6 1, 3)) ∧ (decode cX8_offBy 111 = .ok (.goto (-86), 3)) ∧ (decode cX8_offBy 114 = .ok (.aload_n 0, 1)) ∧ (decode cX8_offBy 115 = .ok (.invokevirtual 175, 3)) ∧ (decode cX8_offBy 118 = .ok (.lload 4, 2)) ∧ (decode cX8_offBy 120 = .ok (.lreturn, 1)) := by decide +kernel
theorem dX8_offBy_77 : decode cX8_offBy 77 = .ok (.lload 4, 2) := edX8_offBy_77.1
theorem dX8_offBy_79 : decode cX8_offBy 79 = .ok (.iload 7, 2) := edX8_offBy_77.2.1
theorem dX8_offBy_81 : decode cX8_offBy 81 = .ok (.ldc 82, 2) := edX8_offBy_77.2.2.1
theorem dX8_offBy_83 : decode cX8_offBy 83 = .ok (.if_icmp .ne 7, 3) := edX8_offBy_77.2.2.2.1
theorem dX8_offBy_86 : decode cX8_offBy 86 = .ok (.lconst 0, 1) := edX8_offBy_77.2.2.2.2.1
theorem dX8_offBy_87 : decode cX8_offBy 87 = .ok (.goto 18, 3) := edX8_offBy_77.2.2.2.2.2.1
theorem dX8_offBy_90 : decode cX8_offBy 90 = .ok (.lload 8, 2) := edX8_offBy_77.2.2.2.2.2.2.1
theorem dX8_offBy_92 : decode cX8_offBy 92 = .ok (.lconst 0, 1) := edX8_offBy_77.2.2.2.2.2.2.2.1
theorem dX8_offBy_93 : decode cX8_offBy 93 = .ok (.lcmp, 1) := edX8_offBy_77.2.2.2.2.2.2.2.2.1
theorem dX8_offBy_94 : decode cX8_offBy 94 = .ok (.ifCond .ge 9, 3) := edX8_offBy_77.2.2.2.2.2.2.2.2.2.1
theorem dX8_offBy_97 : decode cX8_offBy 97 = .ok (.lload 8, 2) := edX8_offBy_77.2.2.2.2.2.2.2.2.2.2.1
theorem dX8_offBy_99 : decode cX8_offBy 99 = .ok (.lneg, 1) := edX8_offBy_77.2.2.2.2.2.2.2.2.2.2.2.1
theorem dX8_offBy_100 : decode cX8_offBy 100 = .ok (.goto 5, 3) := edX8_offBy_77.2.2.2.2.2.2.2.2.2.2.2.2.1
theorem dX8_offBy_103 : decode cX8_offBy 103 = .ok (.lload 8, 2) := edX8_offBy_77.2.2.2.2.2.2.2.2.2.2.2.2.2.1
theorem dX8_offBy_105 : decode cX8_offBy 105 = .ok (.ladd, 1) := edX8_offBy_77.2.2.2.2.2.2.2.2.2.2.2.2.2.2.1
theorem dX8_offBy_106 : decode cX8_offBy 106 = .ok (.lstore 4, 2) := edX8_offBy_77.2.2.2.2.2.2.2.2.2.2.2.2.2.2.2.1
theorem dX8_offBy_108 : decode cX8_offBy 108 = .ok (.iinc 6 1, 3) := edX8_offBy_77.2.2.2.2.2.2.2.2.2.2.2.2.2.2.2.2.1
theorem dX8_offBy_111 : decode cX8_offBy 111 = .ok (.goto (-86), 3) := edX8_offBy_77.2.2.2.2.2.2.2.2.2.2.2.2.2.2.2.2.2.1
theorem dX8_offBy_114 : decode cX8_offBy 114 = .ok (.aload_n 0, 1) := edX8_offBy_77.2.2.2.2.2.2.2.2.2.2.2.2.2.2.2.2.2.2.1
theorem dX8_offBy_115 : decode cX8_offBy 115 = .ok (.invokevirtual 175, 3) := edX8_offBy_77.2.2.2.2.2.2.2.2.2.2.2.2.2.2.2.2.2.2.2.1
theorem dX8_offBy_118 : decode cX8_offBy 118 = .ok (.lload 4, 2) := edX8_offBy_77.2.2.2.2.2.2.2.2.2.2.2.2.2.2.2.2.2.2.2.2.1
theorem dX8_offBy_120 : decode cX8_offBy 120 = .ok (.lreturn, 1) := edX8_offBy_77.2.2.2.2.2.2.2.2.2.2.2.2.2.2.2.2.2.2.2.2.2
theorem edX8_cared_0 : (decode cX8_cared 0 = .ok (.iload_n 1, 1)) ∧ (decode cX8_cared 1 = .ok (.invokestatic 184, 3)) ∧ (decode cX8_cared 4 = .ok (.ifCond .eq 21, 3)) ∧ (decode cX8_cared 7 = .ok (.iload_n 2, 1)) ∧ (decode cX8_cared 8 = .ok (.iconst 0, 1)) ∧ (decode cX8_cared 9 = .ok (.iconst 1, 1)) ∧ (decode cX8_cared 10 = .ok (.invokestatic 83, 3)) ∧ (decode cX8_cared 13 = .ok (.ifCond .eq 12, 3)) ∧ (decode cX8_cared 16 = .ok (.iload_n 3, 1)) ∧ (decode cX8_cared 17 = .ok (.iconst 0, 1)) ∧ (decode cX8_cared 18 = .ok (.iconst 1, 1)) ∧ (decode cX8_cared 19 = .ok (.invokestatic 83, 3)) ∧ (decode cX8_cared 22 = .ok (.ifCond .ne 6, 3)) ∧ (decode cX8_cared 25 = .ok (.ldc 91, 2)) ∧ (decode cX8_cared 27 = .ok (.ireturn, 1)) ∧ (decode cX8_cared 28 = .ok (.aload_n 0, 1)) ∧ (decode cX8_cared 29 = .ok (.getfield 55, 3)) ∧ (decode cX8_cared 32 = .ok (.iload_n 1, 1)) ∧ (decode cX8_cared 33 = .ok (.iaload, 1)) ∧ (decode cX8_cared 34 = .ok (.ifCond .ge 6, 3)) ∧ (decode cX8_cared 37 = .ok (.ldc 187, 2)) ∧ (decode cX8_cared 39 = .ok (.ireturn, 1)) ∧ (decode cX8_cared 40 = .ok (.aload_n 0, 1)) ∧ (decode cX8_cared 41 = .ok (.invokevirtual 169, 3)) := by decide +kernel
theorem dX8_cared_0 : decode cX8_cared 0 = .ok (.iload_n 1, 1) := edX8_cared_0.1
theorem dX8_cared_1 : decode cX8_cared 1 = .ok (.invokestatic 184, 3) := edX8_cared_0.2.1
theorem dX8_cared_4 : decode cX8_cared 4 = .ok (.ifCond .eq 21, 3) := edX8_cared_0.2.2.1
theorem dX8_cared_7 : decode cX8_cared 7 = .ok (.iload_n 2, 1) := edX8_cared_0.2.2.2.1
theorem dX8_cared_8 : decode cX8_cared 8 = .ok (.iconst 0, 1) := edX8_cared_0.2.2.2.2.1
theorem dX8_cared_9 : decode cX8_cared 9 = .ok (.iconst 1, 1) := edX8_cared_0.2.2.2.2.2.1
theorem dX8_cared_10 : decode cX8_cared 10 = .ok (.invokestatic 83, 3) := edX8_cared_0.2.2.2.2.2.2.1
theorem dX8_cared_13 : decode cX8_cared 13 = .ok (.ifCond .eq 12, 3) := edX8_cared_0.2.2.2.2.2.2.2.1
theorem dX8_cared_16 : decode cX8_cared 16 = .ok (.iload_n 3, 1) := edX8_cared_0.2.2.2.2.2.2.2.2.1
theorem dX8_cared_17 : decode cX8_cared 17 = .ok (.iconst 0, 1) := edX8_cared_0.2.2.2.2.2.2.2.2.2.1
theorem dX8_cared_18 : decode cX8_cared 18 = .ok (.iconst 1, 1) := edX8_cared_0.2.2.2.2.2.2.2.2.2.2.1
theorem dX8_cared_19 : decode cX8_cared 19 = .ok (.invokestatic 83, 3) := edX8_cared_0.2.2.2.2.2.2.2.2.2.2.2.1
theorem dX8_cared_22 : decode cX8_cared 22 = .ok (.ifCond .ne 6, 3) := edX8_cared_0.2.2.2.2.2.2.2.2.2.2.2.2.1
theorem dX8_cared_25 : decode cX8_cared 25 = .ok (.ldc 91, 2) := edX8_cared_0.2.2.2.2.2.2.2.2.2.2.2.2.2.1
theorem dX8_cared_27 : decode cX8_cared 27 = .ok (.ireturn, 1) := edX8_cared_0.2.2.2.2.2.2.2.2.2.2.2.2.2.2.1
theorem dX8_cared_28 : decode cX8_cared 28 = .ok (.aload_n 0, 1) := edX8_cared_0.2.2.2.2.2.2.2.2.2.2.2.2.2.2.2.1
theorem dX8_cared_29 : decode cX8_cared 29 = .ok (.getfield 55, 3) := edX8_cared_0.2.2.2.2.2.2.2.2.2.2.2.2.2.2.2.2.1
theorem dX8_cared_32 : decode cX8_cared 32 = .ok (.iload_n 1, 1) := edX8_cared_0.2.2.2.2.2.2.2.2.2.2.2.2.2.2.2.2.2.1
theorem dX8_cared_33 : decode cX8_cared 33 = .ok (.iaload, 1) := edX8_cared_0.2.2.2.2.2.2.2.2.2.2.2.2.2.2.2.2.2.2.1
theorem dX8_cared_34 : decode cX8_cared 34 = .ok (.ifCond .ge 6, 3) := edX8_cared_0.2.2.2.2.2.2.2.2.2.2.2.2.2.2.2.2.2.2.2.1
theorem dX8_cared_37 : decode cX8_cared 37 = .ok (.ldc 187, 2) := edX8_cared_0.2.2.2.2.2.2.2.2.2.2.2.2.2.2.2.2.2.2.2.2.1
theorem dX8_cared_39 : decode cX8_cared 39 = .ok (.ireturn, 1) := edX8_cared_0.2.2.2.2.2.2.2.2.2.2.2.2.2.2.2.2.2.2.2.2.2.1
theorem dX8_cared_40 : decode cX8_cared 40 = .ok (.aload_n 0, 1) := edX8_cared_0.2.2.2.2.2.2.2.2.2.2.2.2.2.2.2.2.2.2.2.2.2.2.1
theorem dX8_cared_41 : decode cX8_cared 41 = .ok (.invokevirtual 169, 3) := edX8_cared_0.2.2.2.2.2.2.2.2.2.2.2.2.2.2.2.2.2.2.2.2.2.2.2
theorem edX8_cared_44 : (decode cX8_cared 44 = .ok (.iconst 0, 1)) ∧ (decode cX8_cared 45 = .ok (.istore 4, 2)) ∧ (decode cX8_cared 47 = .ok (.aload_n 0, 1)) ∧ (decode cX8_cared 48 = .ok (.iload_n 1, 1)) ∧ (decode cX8_cared 49 = .ok (.iload_n 2, 1)) ∧ (decode cX8_cared 50 = .ok (.iconst 0, 1)) ∧ (decode cX8_cared 51 = .ok (.invokevirtual 188, 3)) ∧ (decode cX8_cared 54 = .ok (.lstore 5, 2)) ∧ (decode cX8_cared 56 = .ok (.iconst 1, 1)) ∧ (decode cX8_cared 57 = .ok (.istore 7, 2)) ∧ (decode cX8_cared 59 = .ok (.iload 7, 2)) ∧ (decode cX8_cared 61 = .ok (.iconst 4, 1)) ∧ (decode cX8_cared 62 = .ok (.if_icmp .ge 53, 3)) ∧ (decode cX8_cared 65 = .ok (.aload_n 0, 1)) ∧ (decode cX8_cared 66 = .ok (.iload_n 1, 1)) ∧ (decode cX8_cared 67 = .ok (.iload_n 2, 1)) ∧ (decode cX8_cared 68 = .ok (.iload 7, 2)) ∧ (decode cX8_cared 70 = .ok (.invokevirtual 188, 3)) ∧ (decode cX8_cared 73 = .ok (.lstore 8, 2)) ∧ (decode cX8_cared 75 = .ok (.lload 8, 2)) ∧ (decode cX8_cared 77 = .ok (.lload 5, 2)) ∧ (decode cX8_cared 79 = .ok (.lcmp, 1)) ∧ (decode cX8_cared 80 = .ok (.ifCond .ge 8, 3)) ∧ (decode cX8_cared 83 = .ok (.iload 7, 2)) := by decide +kernel
theorem dX8_cared_44 : decode cX8_cared 44 = .ok (.iconst 0, 1) := edX8_cared_44.1
theorem dX8_cared_45 : decode cX8_cared 45 = .ok (.istore 4, 2) := edX8_cared_44.2.1
theorem dX8_cared_47 : decode cX8_cared 47 = .ok (.aload_n 0, 1) := edX8_cared_44.2.2.1
theorem dX8_cared_48 : decode cX8_cared 48 = .ok (.iload_n 1, 1) := edX8_cared_44.2.2.2.1
theorem dX8_cared_49 : decode cX8_cared 49 = .ok (.iload_n 2, 1) := edX8_cared_44.2.2.2.2.1
theorem dX8_cared_50 : decode cX8_cared 50 = .ok (.iconst 0, 1) := edX8_cared_44.2.2.2.2.2.1
theorem dX8_cared_51 : decode cX8_cared 51 = .ok (.invokevirtual 188, 3) := edX8_cared_44.2.2.2.2.2.2.1
theorem dX8_cared_54 : decode cX8_cared 54 = .ok (.lstore 5, 2) := edX8_cared_44.2.2.2.2.2.2.2.1
theorem dX8_cared_56 : decode cX8_cared 56 = .ok (.iconst 1, 1) := edX8_cared_44.2.2.2.2.2.2.2.2.1
theorem dX8_cared_57 : decode cX8_cared 57 = .ok (.istore 7, 2) := edX8_cared_44.2.2.2.2.2.2.2.2.2.1
theorem dX8_cared_59 : decode cX8_cared 59 = .ok (.iload 7, 2) := edX8_cared_44.2.2.2.2.2.2.2.2.2.2.1
theorem dX8_cared_61 : decode cX8_cared 61 = .ok (.iconst 4, 1) := edX8_cared_44.2.2.2.2.2.2.2.2.2.2.2.1
theorem dX8_cared_62 : decode cX8_cared 62 = .ok (.if_icmp .ge 53, 3) := edX8_cared_44.2.2.2.2.2.2.2.2.2.2.2.2.1
theorem dX8_cared_65 : decode cX8_cared 65 = .ok (.aload_n 0, 1) := edX8_cared_44.2.2.2.2.2.2.2.2.2.2.2.2.2.1
theorem dX8_cared_66 : decode cX8_cared 66 = .ok (.iload_n 1, 1) := edX8_cared_44.2.2.2.2.2.2.2.2.2.2.2.2.2.2.1
theorem dX8_cared_67 : decode cX8_cared 67 = .ok (.iload_n 2, 1) := edX8_cared_44.2.2.2.2.2.2.2.2.2.2.2.2.2.2.2.1
theorem dX8_cared_68 : decode cX8_cared 68 = .ok (.iload 7, 2) := edX8_cared_44.2.2.2.2.2.2.2.2.2.2.2.2.2.2.2.2.1
theorem dX8_cared_70 : decode cX8_cared 70 = .ok (.invokevirtual 188, 3) := edX8_cared_44.2.2.2.2.2.2.2.2.2.2.2.2.2.2.2.2.2.1
theorem dX8_cared_73 : decode cX8_cared 73 = .ok (.lstore 8, 2) := edX8_cared_44.2.2.2.2.2.2.2.2.2.2.2.2.2.2.2.2.2.2.1
theorem dX8_cared_75 : decode cX8_cared 75 = .ok (.lload 8, 2) := edX8_cared_44.2.2.2.2.2.2.2.2.2.2.2.2.2.2.2.2.2.2.2.1
theorem dX8_cared_77 : decode cX8_cared 77 = .ok (.lload 5, 2) := edX8_cared_44.2.2.2.2.2.2.2.2.2.2.2.2.2.2.2.2.2.2.2.2.1
theorem dX8_cared_79 : decode cX8_cared 79 = .ok (.lcmp, 1) := edX8_cared_44.2.2.2.2.2.2.2.2.2.2.2.2.2.2.2.2.2.2.2.2.2.1
theorem dX8_cared_80 : decode cX8_cared 80 = .ok (.ifCond .ge 8, 3) := edX8_cared_44.2.2.2.2.2.2.2.2.2.2.2.2.2.2.2.2.2.2.2.2.2.2.1
theorem dX8_cared_83 : decode cX8_cared 83 = .ok (.iload 7, 2) := edX8_cared_44.2.2.2.2.2.2.2.2.2.2.2.2.2.2.2.2.2.2.2.2.2.2.2
theorem edX8_cared_85 : (decode cX8_cared 85 = .ok (.goto 5, 3)) ∧ (decode cX8_cared 88 = .ok (.iload 4, 2)) ∧ (decode cX8_cared 90 = .ok (.istore 4, 2)) ∧ (decode cX8_cared 92 = .ok (.lload 8, 2)) ∧ (decode cX8_cared 94 = .ok (.lload 5, 2)) ∧ (decode cX8_cared 96 = .ok (.lcmp, 1)) ∧ (decode cX8_cared 97 = .ok (.ifCond .ge 8, 3)) ∧ (decode cX8_cared 100 = .ok (.lload 8, 2)) ∧ (decode cX8_cared 102 = .ok (.goto 5, 3)) ∧ (decode cX8_cared 105 = .ok (.lload 5, 2)) ∧ (decode cX8_cared 107 = .ok (.lstore 5, 2)) ∧ (decode cX8_cared 109 = .ok (.iinc 7 1, 3)) ∧ (decode cX8_cared 112 = .ok (.goto (-53), 3)) ∧ (decode cX8_cared 115 = .ok (.iload_n 3, 1)) ∧ (decode cX8_cared 116 = .ok (.ifCond .ne 8, 3)) ∧ (decode cX8_cared 119 = .ok (.iload 4, 2)) ∧ (decode cX8_cared 121 = .ok (.goto 6, 3)) ∧ (decode cX8_cared 124 = .ok (.lload 5, 2)) ∧ (decode cX8_cared 126 = .ok (.l2i, 1)) ∧ (decode cX8_cared 127 = .ok (.ireturn, 1)) := by decide +kernel
theorem dX8_cared_85 : decode cX8_cared 85 = .ok (.goto 5, 3) := edX8_cared_85.1
theorem dX8_cared_88 : decode cX8_cared 88 = .ok (.iload 4, 2) := edX8_cared_85.2.1
theorem dX8_cared_90 : decode cX8_cared 90 = .ok (.istore 4, 2) := edX8_cared_85.2.2.1
theorem dX8_cared_92 : decode cX8_cared 92 = .ok (.lload 8, 2) := edX8_cared_85.2.2.2.1
theorem dX8_cared_94 : decode cX8_cared 94 = .ok (.lload 5, 2) := edX8_cared_85.2.2.2.2.1
theorem dX8_cared_96 : decode cX8_cared 96 = .ok (.lcmp, 1) := edX8_cared_85.2.2.2.2.2.1
theorem dX8_cared_97 : decode cX8_cared 97 = .ok (.ifCond .ge 8, 3) := edX8_cared_85.2.2.2.2.2.2.1
theorem dX8_cared_100 : decode cX8_cared 100 = .ok (.lload 8, 2) := edX8_cared_85.2.2.2.2.2.2.2.1
theorem dX8_cared_102 : decode cX8_cared 102 = .ok (.goto 5, 3) := edX8_cared_85.2.2.2.2.2.2.2.2.1
theorem dX8_cared_105 : decode cX8_cared 105 = .ok (.lload 5, 2) := edX8_cared_85.2.2.2.2.2.2.2.2.2.1
theorem dX8_cared_107 : decode cX8_cared 107 = .ok (.lstore 5, 2) := edX8_cared_85.2.2.2.2.2.2.2.2.2.2.1
theorem dX8_cared_109 : decode cX8_cared 109 = .ok (.iinc 7 1, 3) := edX8_cared_85.2.2.2.2.2.2.2.2.2.2.2.1
theorem dX8_cared_112 : decode cX8_cared 112 = .ok (.goto (-53), 3) := edX8_cared_85.2.2.2.2.2.2.2.2.2.2.2.2.1
theorem dX8_cared_115 : decode cX8_cared 115 = .ok (.iload_n 3, 1) := edX8_cared_85.2.2.2.2.2.2.2.2.2.2.2.2.2.1
theorem dX8_cared_116 : decode cX8_cared 116 = .ok (.ifCond .ne 8, 3) := edX8_cared_85.2.2.2.2.2.2.2.2.2.2.2.2.2.2.1
theorem dX8_cared_119 : decode cX8_cared 119 = .ok (.iload 4, 2) := edX8_cared_85.2.2.2.2.2.2.2.2.2.2.2.2.2.2.2.1
theorem dX8_cared_121 : decode cX8_cared 121 = .ok (.goto 6, 3) := edX8_cared_85.2.2.2.2.2.2.2.2.2.2.2.2.2.2.2.2.1
theorem dX8_cared_124 : decode cX8_cared 124 = .ok (.lload 5, 2) := edX8_cared_85.2.2.2.2.2.2.2.2.2.2.2.2.2.2.2.2.2.1
theorem dX8_cared_126 : decode cX8_cared 126 = .ok (.l2i, 1) := edX8_cared_85.2.2.2.2.2.2.2.2.2.2.2.2.2.2.2.2.2.2.1
theorem dX8_cared_127 : decode cX8_cared 127 = .ok (.ireturn, 1) := edX8_cared_85.2.2.2.2.2.2.2.2.2.2.2.2.2.2.2.2.2.2.2
theorem edX8_fee_0 : (decode cX8_fee 0 = .ok (.aload_n 0, 1)) ∧ (decode cX8_fee 1 = .ok (.iconst 1, 1)) ∧ (decode cX8_fee 2 = .ok (.invokevirtual 97, 3)) ∧ (decode cX8_fee 5 = .ok (.istore_n 1, 1)) ∧ (decode cX8_fee 6 = .ok (.aload_n 0, 1)) ∧ (decode cX8_fee 7 = .ok (.getfield 52, 3)) ∧ (decode cX8_fee 10 = .ok (.iconst 0, 1)) ∧ (decode cX8_fee 11 = .ok (.aload_n 0, 1)) ∧ (decode cX8_fee 12 = .ok (.getfield 9, 3)) ∧ (decode cX8_fee 15 = .ok (.bipush 6, 2)) ∧ (decode cX8_fee 17 = .ok (.iaload, 1)) ∧ (decode cX8_fee 18 = .ok (.iastore, 1)) ∧ (decode cX8_fee 19 = .ok (.aload_n 0, 1)) ∧ (decode cX8_fee 20 = .ok (.getfield 52, 3)) ∧ (decode cX8_fee 23 = .ok (.iconst 1, 1)) ∧ (decode cX8_fee 24 = .ok (.aload_n 0, 1)) ∧ (decode cX8_fee 25 = .ok (.getfield 9, 3)) ∧ (decode cX8_fee 28 = .ok (.iconst 2, 1)) ∧ (decode cX8_fee 29 = .ok (.iaload, 1)) ∧ (decode cX8_fee 30 = .ok (.iastore, 1)) ∧ (decode cX8_fee 31 = .ok (.iload_n 1, 1)) ∧ (decode cX8_fee 32 = .ok (.ifCond .ge 13, 3)) ∧ (decode cX8_fee 35 = .ok (.aload_n 0, 1)) ∧ (decode cX8_fee 36 = .ok (.getfield 9, 3)) := by decide +kernel
theorem dX8_fee_0 : decode cX8_fee 0 = .ok (.aload_n 0, 1) := edX8_fee_0.1
theorem dX8_fee_1 : decode cX8_fee 1 = .ok (.iconst 1, 1) := edX8_fee_0.2.1
theorem dX8_fee_2 : decode cX8_fee 2 = .ok (.invokevirtual 97, 3) := edX8_fee_0.2.2.1
theorem dX8_fee_5 : decode cX8_fee 5 = .ok (.istore_n 1, 1) := edX8_fee_0.2.2.2.1
theorem dX8_fee_6 : decode cX8_fee 6 = .ok (.aload_n 0, 1) := edX8_fee_0.2.2.2.2.1
theorem dX8_fee_7 : decode cX8_fee 7 = .ok (.getfield 52, 3) := edX8_fee_0.2.2.2.2.2.1
theorem dX8_fee_10 : decode cX8_fee 10 = .ok (.iconst 0, 1) := edX8_fee_0.2.2.2.2.2.2.1
theorem dX8_fee_11 : decode cX8_fee 11 = .ok (.aload_n 0, 1) := edX8_fee_0.2.2.2.2.2.2.2.1
theorem dX8_fee_12 : decode cX8_fee 12 = .ok (.getfield 9, 3) := edX8_fee_0.2.2.2.2.2.2.2.2.1
theorem dX8_fee_15 : decode cX8_fee 15 = .ok (.bipush 6, 2) := edX8_fee_0.2.2.2.2.2.2.2.2.2.1
theorem dX8_fee_17 : decode cX8_fee 17 = .ok (.iaload, 1) := edX8_fee_0.2.2.2.2.2.2.2.2.2.2.1
theorem dX8_fee_18 : decode cX8_fee 18 = .ok (.iastore, 1) := edX8_fee_0.2.2.2.2.2.2.2.2.2.2.2.1
theorem dX8_fee_19 : decode cX8_fee 19 = .ok (.aload_n 0, 1) := edX8_fee_0.2.2.2.2.2.2.2.2.2.2.2.2.1
theorem dX8_fee_20 : decode cX8_fee 20 = .ok (.getfield 52, 3) := edX8_fee_0.2.2.2.2.2.2.2.2.2.2.2.2.2.1
theorem dX8_fee_23 : decode cX8_fee 23 = .ok (.iconst 1, 1) := edX8_fee_0.2.2.2.2.2.2.2.2.2.2.2.2.2.2.1
theorem dX8_fee_24 : decode cX8_fee 24 = .ok (.aload_n 0, 1) := edX8_fee_0.2.2.2.2.2.2.2.2.2.2.2.2.2.2.2.1
theorem dX8_fee_25 : decode cX8_fee 25 = .ok (.getfield 9, 3) := edX8_fee_0.2.2.2.2.2.2.2.2.2.2.2.2.2.2.2.2.1
theorem dX8_fee_28 : decode cX8_fee 28 = .ok (.iconst 2, 1) := edX8_fee_0.2.2.2.2.2.2.2.2.2.2.2.2.2.2.2.2.2.1
theorem dX8_fee_29 : decode cX8_fee 29 = .ok (.iaload, 1) := edX8_fee_0.2.2.2.2.2.2.2.2.2.2.2.2.2.2.2.2.2.2.1
theorem dX8_fee_30 : decode cX8_fee 30 = .ok (.iastore, 1) := edX8_fee_0.2.2.2.2.2.2.2.2.2.2.2.2.2.2.2.2.2.2.2.1
theorem dX8_fee_31 : decode cX8_fee 31 = .ok (.iload_n 1, 1) := edX8_fee_0.2.2.2.2.2.2.2.2.2.2.2.2.2.2.2.2.2.2.2.2.1
theorem dX8_fee_32 : decode cX8_fee 32 = .ok (.ifCond .ge 13, 3) := edX8_fee_0.2.2.2.2.2.2.2.2.2.2.2.2.2.2.2.2.2.2.2.2.2.1
theorem dX8_fee_35 : decode cX8_fee 35 = .ok (.aload_n 0, 1) := edX8_fee_0.2.2.2.2.2.2.2.2.2.2.2.2.2.2.2.2.2.2.2.2.2.2.1
theorem dX8_fee_36 : decode cX8_fee 36 = .ok (.getfield 9, 3) := edX8_fee_0.2.2.2.2.2.2.2.2.2.2.2.2.2.2.2.2.2.2.2.2.2.2.2
theorem edX8_fee_39 : (decode cX8_fee 39 = .ok (.bipush 6, 2)) ∧ (decode cX8_fee 41 = .ok (.iaload, 1)) ∧ (decode cX8_fee 42 = .ok (.goto 8, 3)) ∧ (decode cX8_fee 45 = .ok (.aload_n 0, 1)) ∧ (decode cX8_fee 46 = .ok (.iload_n 1, 1)) ∧ (decode cX8_fee 47 = .ok (.invokevirtual 105, 3)) ∧ (decode cX8_fee 50 = .ok (.ireturn, 1)) := by decide +kernel
theorem dX8_fee_39 : decode cX8_fee 39 = .ok (.bipush 6, 2) := edX8_fee_39.1
theorem dX8_fee_41 : decode cX8_fee 41 = .ok (.iaload, 1) := edX8_fee_39.2.1
theorem dX8_fee_42 : decode cX8_fee 42 = .ok (.goto 8, 3) := edX8_fee_39.2.2.1
theorem dX8_fee_45 : decode cX8_fee 45 = .ok (.aload_n 0, 1) := edX8_fee_39.2.2.2.1
theorem dX8_fee_46 : decode cX8_fee 46 = .ok (.iload_n 1, 1) := edX8_fee_39.2.2.2.2.1
theorem dX8_fee_47 : decode cX8_fee 47 = .ok (.invokevirtual 105, 3) := edX8_fee_39.2.2.2.2.2.1
theorem dX8_fee_50 : decode cX8_fee 50 = .ok (.ireturn, 1) := edX8_fee_39.2.2.2.2.2.2
theorem edX8_fine_0 : (decode cX8_fine 0 = .ok (.aload_n 0, 1)) ∧ (decode cX8_fine 1 = .ok (.iload_n 1, 1)) ∧ (decode cX8_fine 2 = .ok (.invokevirtual 114, 3)) ∧ (decode cX8_fine 5 = .ok (.ifCond .ne 6, 3)) ∧ (decode cX8_fine 8 = .ok (.ldc 91, 2)) ∧ (decode cX8_fine 10 = .ok (.ireturn, 1)) ∧ (decode cX8_fine 11 = .ok (.aload_n 0, 1)) ∧ (decode cX8_fine 12 = .ok (.iconst 2, 1)) ∧ (decode cX8_fine 13 = .ok (.invokevirtual 97, 3)) ∧ (decode cX8_fine 16 = .ok (.istore_n 2, 1)) ∧ (decode cX8_fine 17 = .ok (.aload_n 0, 1)) ∧ (decode cX8_fine 18 = .ok (.getfield 52, 3)) ∧ (decode cX8_fine 21 = .ok (.iconst 0, 1)) ∧ (decode cX8_fine 22 = .ok (.aload_n 0, 1)) ∧ (decode cX8_fine 23 = .ok (.iload_n 1, 1)) ∧ (decode cX8_fine 24 = .ok (.iconst 4, 1)) ∧ (decode cX8_fine 25 = .ok (.invokevirtual 101, 3)) ∧ (decode cX8_fine 28 = .ok (.iastore, 1)) ∧ (decode cX8_fine 29 = .ok (.aload_n 0, 1)) ∧ (decode cX8_fine 30 = .ok (.getfield 52, 3)) ∧ (decode cX8_fine 33 = .ok (.iconst 1, 1)) ∧ (decode cX8_fine 34 = .ok (.aload_n 0, 1)) ∧ (decode cX8_fine 35 = .ok (.iload_n 1, 1)) ∧ (decode cX8_fine 36 = .ok (.iconst 3, 1)) := by decide +kernel
theorem dX8_fine_0 : decode cX8_fine 0 = .ok (.aload_n 0, 1) := edX8_fine_0.1
theorem dX8_fine_1 : decode cX8_fine 1 = .ok (.iload_n 1, 1) := edX8_fine_0.2.1
theorem dX8_fine_2 : decode cX8_fine 2 = .ok (.invokevirtual 114, 3) := edX8_fine_0.2.2.1
theorem dX8_fine_5 : decode cX8_fine 5 = .ok (.ifCond .ne 6, 3) := edX8_fine_0.2.2.2.1
theorem dX8_fine_8 : decode cX8_fine 8 = .ok (.ldc 91, 2) := edX8_fine_0.2.2.2.2.1
theorem dX8_fine_10 : decode cX8_fine 10 = .ok (.ireturn, 1) := edX8_fine_0.2.2.2.2.2.1
theorem dX8_fine_11 : decode cX8_fine 11 = .ok (.aload_n 0, 1) := edX8_fine_0.2.2.2.2.2.2.1
theorem dX8_fine_12 : decode cX8_fine 12 = .ok (.iconst 2, 1) := edX8_fine_0.2.2.2.2.2.2.2.1
theorem dX8_fine_13 : decode cX8_fine 13 = .ok (.invokevirtual 97, 3) := edX8_fine_0.2.2.2.2.2.2.2.2.1
theorem dX8_fine_16 : decode cX8_fine 16 = .ok (.istore_n 2, 1) := edX8_fine_0.2.2.2.2.2.2.2.2.2.1
theorem dX8_fine_17 : decode cX8_fine 17 = .ok (.aload_n 0, 1) := edX8_fine_0.2.2.2.2.2.2.2.2.2.2.1
theorem dX8_fine_18 : decode cX8_fine 18 = .ok (.getfield 52, 3) := edX8_fine_0.2.2.2.2.2.2.2.2.2.2.2.1
theorem dX8_fine_21 : decode cX8_fine 21 = .ok (.iconst 0, 1) := edX8_fine_0.2.2.2.2.2.2.2.2.2.2.2.2.1
theorem dX8_fine_22 : decode cX8_fine 22 = .ok (.aload_n 0, 1) := edX8_fine_0.2.2.2.2.2.2.2.2.2.2.2.2.2.1
theorem dX8_fine_23 : decode cX8_fine 23 = .ok (.iload_n 1, 1) := edX8_fine_0.2.2.2.2.2.2.2.2.2.2.2.2.2.2.1
theorem dX8_fine_24 : decode cX8_fine 24 = .ok (.iconst 4, 1) := edX8_fine_0.2.2.2.2.2.2.2.2.2.2.2.2.2.2.2.1
theorem dX8_fine_25 : decode cX8_fine 25 = .ok (.invokevirtual 101, 3) := edX8_fine_0.2.2.2.2.2.2.2.2.2.2.2.2.2.2.2.2.1
theorem dX8_fine_28 : decode cX8_fine 28 = .ok (.iastore, 1) := edX8_fine_0.2.2.2.2.2.2.2.2.2.2.2.2.2.2.2.2.2.1
theorem dX8_fine_29 : decode cX8_fine 29 = .ok (.aload_n 0, 1) := edX8_fine_0.2.2.2.2.2.2.2.2.2.2.2.2.2.2.2.2.2.2.1
theorem dX8_fine_30 : decode cX8_fine 30 = .ok (.getfield 52, 3) := edX8_fine_0.2.2.2.2.2.2.2.2.2.2.2.2.2.2.2.2.2.2.2.1
theorem dX8_fine_33 : decode cX8_fine 33 = .ok (.iconst 1, 1) := edX8_fine_0.2.2.2.2.2.2.2.2.2.2.2.2.2.2.2.2.2.2.2.2.1
theorem dX8_fine_34 : decode cX8_fine 34 = .ok (.aload_n 0, 1) := edX8_fine_0.2.2.2.2.2.2.2.2.2.2.2.2.2.2.2.2.2.2.2.2.2.1
theorem dX8_fine_35 : decode cX8_fine 35 = .ok (.iload_n 1, 1) := edX8_fine_0.2.2.2.2.2.2.2.2.2.2.2.2.2.2.2.2.2.2.2.2.2.2.1
theorem dX8_fine_36 : decode cX8_fine 36 = .ok (.iconst 3, 1) := edX8_fine_0.2.2.2.2.2.2.2.2.2.2.2.2.2.2.2.2.2.2.2.2.2.2.2
theorem edX8_fine_37 : (decode cX8_fine 37 = .ok (.invokevirtual 101, 3)) ∧ (decode cX8_fine 40 = .ok (.iastore, 1)) ∧ (decode cX8_fine 41 = .ok (.iload_n 2, 1)) ∧ (decode cX8_fine 42 = .ok (.ifCond .ge 12, 3)) ∧ (decode cX8_fine 45 = .ok (.aload_n 0, 1)) ∧ (decode cX8_fine 46 = .ok (.iload_n 1, 1)) ∧ (decode cX8_fine 47 = .ok (.iconst 4, 1)) ∧ (decode cX8_fine 48 = .ok (.invokevirtual 101, 3)) ∧ (decode cX8_fine 51 = .ok (.goto 8, 3)) ∧ (decode cX8_fine 54 = .ok (.aload_n 0, 1)) ∧ (decode cX8_fine 55 = .ok (.iload_n 2, 1)) ∧ (decode cX8_fine 56 = .ok (.invokevirtual 105, 3)) ∧ (decode cX8_fine 59 = .ok (.ireturn, 1)) := by decide +kernel
theorem dX8_fine_37 : decode cX8_fine 37 = .ok (.invokevirtual 101, 3) := edX8_fine_37.1
theorem dX8_fine_40 : decode cX8_fine 40 = .ok (.iastore, 1) := edX8_fine_37.2.1
theorem dX8_fine_41 : decode cX8_fine 41 = .ok (.iload_n 2, 1) := edX8_fine_37.2.2.1
theorem dX8_fine_42 : decode cX8_fine 42 = .ok (.ifCond .ge 12, 3) := edX8_fine_37.2.2.2.1
theorem dX8_fine_45 : decode cX8_fine 45 = .ok (.aload_n 0, 1) := edX8_fine_37.2.2.2.2.1
theorem dX8_fine_46 : decode cX8_fine 46 = .ok (.iload_n 1, 1) := edX8_fine_37.2.2.2.2.2.1
theorem dX8_fine_47 : decode cX8_fine 47 = .ok (.iconst 4, 1) := edX8_fine_37.2.2.2.2.2.2.1
theorem dX8_fine_48 : decode cX8_fine 48 = .ok (.invokevirtual 101, 3) := edX8_fine_37.2.2.2.2.2.2.2.1
theorem dX8_fine_51 : decode cX8_fine 51 = .ok (.goto 8, 3) := edX8_fine_37.2.2.2.2.2.2.2.2.1
theorem dX8_fine_54 : decode cX8_fine 54 = .ok (.aload_n 0, 1) := edX8_fine_37.2.2.2.2.2.2.2.2.2.1
theorem dX8_fine_55 : decode cX8_fine 55 = .ok (.iload_n 2, 1) := edX8_fine_37.2.2.2.2.2.2.2.2.2.2.1
theorem dX8_fine_56 : decode cX8_fine 56 = .ok (.invokevirtual 105, 3) := edX8_fine_37.2.2.2.2.2.2.2.2.2.2.2.1
theorem dX8_fine_59 : decode cX8_fine 59 = .ok (.ireturn, 1) := edX8_fine_37.2.2.2.2.2.2.2.2.2.2.2.2
theorem edX8_feed_0 : (decode cX8_feed 0 = .ok (.aload_n 0, 1)) ∧ (decode cX8_feed 1 = .ok (.getfield 192, 3)) ∧ (decode cX8_feed 4 = .ok (.bipush 12, 2)) ∧ (decode cX8_feed 6 = .ok (.iadd, 1)) ∧ (decode cX8_feed 7 = .ok (.bipush 96, 2)) ∧ (decode cX8_feed 9 = .ok (.if_icmp .le 6, 3)) ∧ (decode cX8_feed 12 = .ok (.ldc 92, 2)) ∧ (decode cX8_feed 14 = .ok (.ireturn, 1)) ∧ (decode cX8_feed 15 = .ok (.iconst 0, 1)) ∧ (decode cX8_feed 16 = .ok (.istore 4, 2)) ∧ (decode cX8_feed 18 = .ok (.iload 4, 2)) ∧ (decode cX8_feed 20 = .ok (.bipush 12, 2)) ∧ (decode cX8_feed 22 = .ok (.if_icmp .ge 62, 3)) ∧ (decode cX8_feed 25 = .ok (.iload 4, 2)) ∧ (decode cX8_feed 27 = .ok (.iconst 4, 1)) ∧ (decode cX8_feed 28 = .ok (.if_icmp .ge 7, 3)) ∧ (decode cX8_feed 31 = .ok (.iload_n 1, 1)) ∧ (decode cX8_feed 32 = .ok (.goto 15, 3)) ∧ (decode cX8_feed 35 = .ok (.iload 4, 2)) ∧ (decode cX8_feed 37 = .ok (.bipush 8, 2)) ∧ (decode cX8_feed 39 = .ok (.if_icmp .ge 7, 3)) ∧ (decode cX8_feed 42 = .ok (.iload_n 2, 1)) ∧ (decode cX8_feed 43 = .ok (.goto 4, 3)) ∧ (decode cX8_feed 46 = .ok (.iload_n 3, 1)) := by decide +kernel
theorem dX8_feed_0 : decode cX8_feed 0 = .ok (.aload_n 0, 1) := edX8_feed_0.1
theorem dX8_feed_1 : decode cX8_feed 1 = .ok (.getfield 192, 3) := edX8_feed_0.2.1
theorem dX8_feed_4 : decode cX8_feed 4 = .ok (.bipush 12, 2) := edX8_feed_0.2.2.1
theorem dX8_feed_6 : decode cX8_feed 6 = .ok (.iadd, 1) := edX8_feed_0.2.2.2.1
theorem dX8_feed_7 : decode cX8_feed 7 = .ok (.bipush 96, 2) := edX8_feed_0.2.2.2.2.1
theorem dX8_feed_9 : decode cX8_feed 9 = .ok (.if_icmp .le 6, 3) := edX8_feed_0.2.2.2.2.2.1
theorem dX8_feed_12 : decode cX8_feed 12 = .ok (.ldc 92, 2) := edX8_feed_0.2.2.2.2.2.2.1
theorem dX8_feed_14 : decode cX8_feed 14 = .ok (.ireturn, 1) := edX8_feed_0.2.2.2.2.2.2.2.1
theorem dX8_feed_15 : decode cX8_feed 15 = .ok (.iconst 0, 1) := edX8_feed_0.2.2.2.2.2.2.2.2.1
theorem dX8_feed_16 : decode cX8_feed 16 = .ok (.istore 4, 2) := edX8_feed_0.2.2.2.2.2.2.2.2.2.1
theorem dX8_feed_18 : decode cX8_feed 18 = .ok (.iload 4, 2) := edX8_feed_0.2.2.2.2.2.2.2.2.2.2.1
theorem dX8_feed_20 : decode cX8_feed 20 = .ok (.bipush 12, 2) := edX8_feed_0.2.2.2.2.2.2.2.2.2.2.2.1
theorem dX8_feed_22 : decode cX8_feed 22 = .ok (.if_icmp .ge 62, 3) := edX8_feed_0.2.2.2.2.2.2.2.2.2.2.2.2.1
theorem dX8_feed_25 : decode cX8_feed 25 = .ok (.iload 4, 2) := edX8_feed_0.2.2.2.2.2.2.2.2.2.2.2.2.2.1
theorem dX8_feed_27 : decode cX8_feed 27 = .ok (.iconst 4, 1) := edX8_feed_0.2.2.2.2.2.2.2.2.2.2.2.2.2.2.1
theorem dX8_feed_28 : decode cX8_feed 28 = .ok (.if_icmp .ge 7, 3) := edX8_feed_0.2.2.2.2.2.2.2.2.2.2.2.2.2.2.2.1
theorem dX8_feed_31 : decode cX8_feed 31 = .ok (.iload_n 1, 1) := edX8_feed_0.2.2.2.2.2.2.2.2.2.2.2.2.2.2.2.2.1
theorem dX8_feed_32 : decode cX8_feed 32 = .ok (.goto 15, 3) := edX8_feed_0.2.2.2.2.2.2.2.2.2.2.2.2.2.2.2.2.2.1
theorem dX8_feed_35 : decode cX8_feed 35 = .ok (.iload 4, 2) := edX8_feed_0.2.2.2.2.2.2.2.2.2.2.2.2.2.2.2.2.2.2.1
theorem dX8_feed_37 : decode cX8_feed 37 = .ok (.bipush 8, 2) := edX8_feed_0.2.2.2.2.2.2.2.2.2.2.2.2.2.2.2.2.2.2.2.1
theorem dX8_feed_39 : decode cX8_feed 39 = .ok (.if_icmp .ge 7, 3) := edX8_feed_0.2.2.2.2.2.2.2.2.2.2.2.2.2.2.2.2.2.2.2.2.1
theorem dX8_feed_42 : decode cX8_feed 42 = .ok (.iload_n 2, 1) := edX8_feed_0.2.2.2.2.2.2.2.2.2.2.2.2.2.2.2.2.2.2.2.2.2.1
theorem dX8_feed_43 : decode cX8_feed 43 = .ok (.goto 4, 3) := edX8_feed_0.2.2.2.2.2.2.2.2.2.2.2.2.2.2.2.2.2.2.2.2.2.2.1
theorem dX8_feed_46 : decode cX8_feed 46 = .ok (.iload_n 3, 1) := edX8_feed_0.2.2.2.2.2.2.2.2.2.2.2.2.2.2.2.2.2.2.2.2.2.2.2
theorem edX8_feed_47 : (decode cX8_feed 47 = .ok (.istore 5, 2)) ∧ (decode cX8_feed 49 = .ok (.aload_n 0, 1)) ∧ (decode cX8_feed 50 = .ok (.getfield 29, 3)) ∧ (decode cX8_feed 53 = .ok (.aload_n 0, 1)) ∧ (decode cX8_feed 54 = .ok (.getfield 192, 3)) ∧ (decode cX8_feed 57 = .ok (.iload 4, 2)) ∧ (decode cX8_feed 59 = .ok (.iadd, 1)) ∧ (decode cX8_feed 60 = .ok (.iload 5, 2)) ∧ (decode cX8_feed 62 = .ok (.bipush 24, 2)) ∧ (decode cX8_feed 64 = .ok (.bipush 8, 2)) ∧ (decode cX8_feed 66 = .ok (.iload 4, 2)) ∧ (decode cX8_feed 68 = .ok (.iconst 4, 1)) ∧ (decode cX8_feed 69 = .ok (.irem, 1)) ∧ (decode cX8_feed 70 = .ok (.imul, 1)) ∧ (decode cX8_feed 71 = .ok (.isub, 1)) ∧ (decode cX8_feed 72 = .ok (.ishr, 1)) ∧ (decode cX8_feed 73 = .ok (.sipush 255, 3)) ∧ (decode cX8_feed 76 = .ok (.iand, 1)) ∧ (decode cX8_feed 77 = .ok (.iastore, 1)) ∧ (decode cX8_feed 78 = .ok (.iinc 4 1, 3)) ∧ (decode cX8_feed 81 = .ok (.goto (-63), 3)) ∧ (decode cX8_feed 84 = .ok (.aload_n 0, 1)) ∧ (decode cX8_feed 85 = .ok (.dup, 1)) ∧ (decode cX8_feed 86 = .ok (.getfield 192, 3)) := by decide +kernel
theorem dX8_feed_47 : decode cX8_feed 47 = .ok (.istore 5, 2) := edX8_feed_47.1
theorem dX8_feed_49 : decode cX8_feed 49 = .ok (.aload_n 0, 1) := edX8_feed_47.2.1
theorem dX8_feed_50 : decode cX8_feed 50 = .ok (.getfield 29, 3) := edX8_feed_47.2.2.1
theorem dX8_feed_53 : decode cX8_feed 53 = .ok (.aload_n 0, 1) := edX8_feed_47.2.2.2.1
theorem dX8_feed_54 : decode cX8_feed 54 = .ok (.getfield 192, 3) := edX8_feed_47.2.2.2.2.1
theorem dX8_feed_57 : decode cX8_feed 57 = .ok (.iload 4, 2) := edX8_feed_47.2.2.2.2.2.1
theorem dX8_feed_59 : decode cX8_feed 59 = .ok (.iadd, 1) := edX8_feed_47.2.2.2.2.2.2.1
theorem dX8_feed_60 : decode cX8_feed 60 = .ok (.iload 5, 2) := edX8_feed_47.2.2.2.2.2.2.2.1
theorem dX8_feed_62 : decode cX8_feed 62 = .ok (.bipush 24, 2) := edX8_feed_47.2.2.2.2.2.2.2.2.1
theorem dX8_feed_64 : decode cX8_feed 64 = .ok (.bipush 8, 2) := edX8_feed_47.2.2.2.2.2.2.2.2.2.1
theorem dX8_feed_66 : decode cX8_feed 66 = .ok (.iload 4, 2) := edX8_feed_47.2.2.2.2.2.2.2.2.2.2.1
theorem dX8_feed_68 : decode cX8_feed 68 = .ok (.iconst 4, 1) := edX8_feed_47.2.2.2.2.2.2.2.2.2.2.2.1
theorem dX8_feed_69 : decode cX8_feed 69 = .ok (.irem, 1) := edX8_feed_47.2.2.2.2.2.2.2.2.2.2.2.2.1
theorem dX8_feed_70 : decode cX8_feed 70 = .ok (.imul, 1) := edX8_feed_47.2.2.2.2.2.2.2.2.2.2.2.2.2.1
theorem dX8_feed_71 : decode cX8_feed 71 = .ok (.isub, 1) := edX8_feed_47.2.2.2.2.2.2.2.2.2.2.2.2.2.2.1
theorem dX8_feed_72 : decode cX8_feed 72 = .ok (.ishr, 1) := edX8_feed_47.2.2.2.2.2.2.2.2.2.2.2.2.2.2.2.1
theorem dX8_feed_73 : decode cX8_feed 73 = .ok (.sipush 255, 3) := edX8_feed_47.2.2.2.2.2.2.2.2.2.2.2.2.2.2.2.2.1
theorem dX8_feed_76 : decode cX8_feed 76 = .ok (.iand, 1) := edX8_feed_47.2.2.2.2.2.2.2.2.2.2.2.2.2.2.2.2.2.1
theorem dX8_feed_77 : decode cX8_feed 77 = .ok (.iastore, 1) := edX8_feed_47.2.2.2.2.2.2.2.2.2.2.2.2.2.2.2.2.2.2.1
theorem dX8_feed_78 : decode cX8_feed 78 = .ok (.iinc 4 1, 3) := edX8_feed_47.2.2.2.2.2.2.2.2.2.2.2.2.2.2.2.2.2.2.2.1
theorem dX8_feed_81 : decode cX8_feed 81 = .ok (.goto (-63), 3) := edX8_feed_47.2.2.2.2.2.2.2.2.2.2.2.2.2.2.2.2.2.2.2.2.1
theorem dX8_feed_84 : decode cX8_feed 84 = .ok (.aload_n 0, 1) := edX8_feed_47.2.2.2.2.2.2.2.2.2.2.2.2.2.2.2.2.2.2.2.2.2.1
theorem dX8_feed_85 : decode cX8_feed 85 = .ok (.dup, 1) := edX8_feed_47.2.2.2.2.2.2.2.2.2.2.2.2.2.2.2.2.2.2.2.2.2.2.1
theorem dX8_feed_86 : decode cX8_feed 86 = .ok (.getfield 192, 3) := edX8_feed_47.2.2.2.2.2.2.2.2.2.2.2.2.2.2.2.2.2.2.2.2.2.2.2
theorem edX8_feed_89 : (decode cX8_feed 89 = .ok (.bipush 12, 2)) ∧ (decode cX8_feed 91 = .ok (.iadd, 1)) ∧ (decode cX8_feed 92 = .ok (.putfield 192, 3)) ∧ (decode cX8_feed 95 = .ok (.aload_n 0, 1)) ∧ (decode cX8_feed 96 = .ok (.getfield 192, 3)) ∧ (decode cX8_feed 99 = .ok (.ireturn, 1)) := by decide +kernel
theorem dX8_feed_89 : decode cX8_feed 89 = .ok (.bipush 12, 2) := edX8_feed_89.1
theorem dX8_feed_91 : decode cX8_feed 91 = .ok (.iadd, 1) := edX8_feed_89.2.1
theorem dX8_feed_92 : decode cX8_feed 92 = .ok (.putfield 192, 3) := edX8_feed_89.2.2.1
theorem dX8_feed_95 : decode cX8_feed 95 = .ok (.aload_n 0, 1) := edX8_feed_89.2.2.2.1
theorem dX8_feed_96 : decode cX8_feed 96 = .ok (.getfield 192, 3) := edX8_feed_89.2.2.2.2.1
theorem dX8_feed_99 : decode cX8_feed 99 = .ok (.ireturn, 1) := edX8_feed_89.2.2.2.2.2
theorem edX8_trim_0 : (decode cX8_trim 0 = .ok (.iload_n 1, 1)) ∧ (decode cX8_trim 1 = .ok (.iconst 0, 1)) ∧ (decode cX8_trim 2 = .ok (.aload_n 0, 1)) ∧ (decode cX8_trim 3 = .ok (.getfield 192, 3)) ∧ (decode cX8_trim 6 = .ok (.invokestatic 83, 3)) ∧ (decode cX8_trim 9 = .ok (.ifCond .ne 6, 3)) ∧ (decode cX8_trim 12 = .ok (.ldc 91, 2)) ∧ (decode cX8_trim 14 = .ok (.ireturn, 1)) ∧ (decode cX8_trim 15 = .ok (.aload_n 0, 1)) ∧ (decode cX8_trim 16 = .ok (.iload_n 1, 1)) ∧ (decode cX8_trim 17 = .ok (.putfield 192, 3)) ∧ (decode cX8_trim 20 = .ok (.iload_n 1, 1)) ∧ (decode cX8_trim 21 = .ok (.ireturn, 1)) := by decide +kernel
theorem dX8_trim_0 : decode cX8_trim 0 = .ok (.iload_n 1, 1) := edX8_trim_0.1
theorem dX8_trim_1 : decode cX8_trim 1 = .ok (.iconst 0, 1) := edX8_trim_0.2.1
theorem dX8_trim_2 : decode cX8_trim 2 = .ok (.aload_n 0, 1) := edX8_trim_0.2.2.1
theorem dX8_trim_3 : decode cX8_trim 3 = .ok (.getfield 192, 3) := edX8_trim_0.2.2.2.1
theorem dX8_trim_6 : decode cX8_trim 6 = .ok (.invokestatic 83, 3) := edX8_trim_0.2.2.2.2.1
theorem dX8_trim_9 : decode cX8_trim 9 = .ok (.ifCond .ne 6, 3) := edX8_trim_0.2.2.2.2.2.1
theorem dX8_trim_12 : decode cX8_trim 12 = .ok (.ldc 91, 2) := edX8_trim_0.2.2.2.2.2.2.1
theorem dX8_trim_14 : decode cX8_trim 14 = .ok (.ireturn, 1) := edX8_trim_0.2.2.2.2.2.2.2.1
theorem dX8_trim_15 : decode cX8_trim 15 = .ok (.aload_n 0, 1) := edX8_trim_0.2.2.2.2.2.2.2.2.1
theorem dX8_trim_16 : decode cX8_trim 16 = .ok (.iload_n 1, 1) := edX8_trim_0.2.2.2.2.2.2.2.2.2.1
theorem dX8_trim_17 : decode cX8_trim 17 = .ok (.putfield 192, 3) := edX8_trim_0.2.2.2.2.2.2.2.2.2.2.1
theorem dX8_trim_20 : decode cX8_trim 20 = .ok (.iload_n 1, 1) := edX8_trim_0.2.2.2.2.2.2.2.2.2.2.2.1
theorem dX8_trim_21 : decode cX8_trim 21 = .ok (.ireturn, 1) := edX8_trim_0.2.2.2.2.2.2.2.2.2.2.2.2
theorem edX8_isLetter_0 : (decode cX8_isLetter 0 = .ok (.iload_n 1, 1)) ∧ (decode cX8_isLetter 1 = .ok (.aload_n 0, 1)) ∧ (decode cX8_isLetter 2 = .ok (.getfield 192, 3)) ∧ (decode cX8_isLetter 5 = .ok (.if_icmp .ge 29, 3)) ∧ (decode cX8_isLetter 8 = .ok (.aload_n 0, 1)) ∧ (decode cX8_isLetter 9 = .ok (.getfield 29, 3)) ∧ (decode cX8_isLetter 12 = .ok (.iload_n 1, 1)) ∧ (decode cX8_isLetter 13 = .ok (.iaload, 1)) ∧ (decode cX8_isLetter 14 = .ok (.bipush 97, 2)) ∧ (decode cX8_isLetter 16 = .ok (.if_icmp .lt 18, 3)) ∧ (decode cX8_isLetter 19 = .ok (.aload_n 0, 1)) ∧ (decode cX8_isLetter 20 = .ok (.getfield 29, 3)) ∧ (decode cX8_isLetter 23 = .ok (.iload_n 1, 1)) ∧ (decode cX8_isLetter 24 = .ok (.iaload, 1)) ∧ (decode cX8_isLetter 25 = .ok (.bipush 122, 2)) ∧ (decode cX8_isLetter 27 = .ok (.if_icmp .gt 7, 3)) ∧ (decode cX8_isLetter 30 = .ok (.iconst 1, 1)) ∧ (decode cX8_isLetter 31 = .ok (.goto 4, 3)) ∧ (decode cX8_isLetter 34 = .ok (.iconst 0, 1)) ∧ (decode cX8_isLetter 35 = .ok (.ireturn, 1)) := by decide +kernel
theorem dX8_isLetter_0 : decode cX8_isLetter 0 = .ok (.iload_n 1, 1) := edX8_isLetter_0.1
theorem dX8_isLetter_1 : decode cX8_isLetter 1 = .ok (.aload_n 0, 1) := edX8_isLetter_0.2.1
theorem dX8_isLetter_2 : decode cX8_isLetter 2 = .ok (.getfield 192, 3) := edX8_isLetter_0.2.2.1
theorem dX8_isLetter_5 : decode cX8_isLetter 5 = .ok (.if_icmp .ge 29, 3) := edX8_isLetter_0.2.2.2.1
theorem dX8_isLetter_8 : decode cX8_isLetter 8 = .ok (.aload_n 0, 1) := edX8_isLetter_0.2.2.2.2.1
theorem dX8_isLetter_9 : decode cX8_isLetter 9 = .ok (.getfield 29, 3) := edX8_isLetter_0.2.2.2.2.2.1
theorem dX8_isLetter_12 : decode cX8_isLetter 12 = .ok (.iload_n 1, 1) := edX8_isLetter_0.2.2.2.2.2.2.1
theorem dX8_isLetter_13 : decode cX8_isLetter 13 = .ok (.iaload, 1) := edX8_isLetter_0.2.2.2.2.2.2.2.1
theorem dX8_isLetter_14 : decode cX8_isLetter 14 = .ok (.bipush 97, 2) := edX8_isLetter_0.2.2.2.2.2.2.2.2.1
theorem dX8_isLetter_16 : decode cX8_isLetter 16 = .ok (.if_icmp .lt 18, 3) := edX8_isLetter_0.2.2.2.2.2.2.2.2.2.1
theorem dX8_isLetter_19 : decode cX8_isLetter 19 = .ok (.aload_n 0, 1) := edX8_isLetter_0.2.2.2.2.2.2.2.2.2.2.1
theorem dX8_isLetter_20 : decode cX8_isLetter 20 = .ok (.getfield 29, 3) := edX8_isLetter_0.2.2.2.2.2.2.2.2.2.2.2.1
theorem dX8_isLetter_23 : decode cX8_isLetter 23 = .ok (.iload_n 1, 1) := edX8_isLetter_0.2.2.2.2.2.2.2.2.2.2.2.2.1
theorem dX8_isLetter_24 : decode cX8_isLetter 24 = .ok (.iaload, 1) := edX8_isLetter_0.2.2.2.2.2.2.2.2.2.2.2.2.2.1
theorem dX8_isLetter_25 : decode cX8_isLetter 25 = .ok (.bipush 122, 2) := edX8_isLetter_0.2.2.2.2.2.2.2.2.2.2.2.2.2.2.1
theorem dX8_isLetter_27 : decode cX8_isLetter 27 = .ok (.if_icmp .gt 7, 3) := edX8_isLetter_0.2.2.2.2.2.2.2.2.2.2.2.2.2.2.2.1
theorem dX8_isLetter_30 : decode cX8_isLetter 30 = .ok (.iconst 1, 1) := edX8_isLetter_0.2.2.2.2.2.2.2.2.2.2.2.2.2.2.2.2.1
theorem dX8_isLetter_31 : decode cX8_isLetter 31 = .ok (.goto 4, 3) := edX8_isLetter_0.2.2.2.2.2.2.2.2.2.2.2.2.2.2.2.2.2.1
theorem dX8_isLetter_34 : decode cX8_isLetter 34 = .ok (.iconst 0, 1) := edX8_isLetter_0.2.2.2.2.2.2.2.2.2.2.2.2.2.2.2.2.2.2.1
theorem dX8_isLetter_35 : decode cX8_isLetter 35 = .ok (.ireturn, 1) := edX8_isLetter_0.2.2.2.2.2.2.2.2.2.2.2.2.2.2.2.2.2.2.2
theorem edX8_isFigure_0 : (decode cX8_isFigure 0 = .ok (.iload_n 1, 1)) ∧ (decode cX8_isFigure 1 = .ok (.aload_n 0, 1)) ∧ (decode cX8_isFigure 2 = .ok (.getfield 192, 3)) ∧ (decode cX8_isFigure 5 = .ok (.if_icmp .ge 29, 3)) ∧ (decode cX8_isFigure 8 = .ok (.aload_n 0, 1)) ∧ (decode cX8_isFigure 9 = .ok (.getfield 29, 3)) ∧ (decode cX8_isFigure 12 = .ok (.iload_n 1, 1)) ∧ (decode cX8_isFigure 13 = .ok (.iaload, 1)) ∧ (decode cX8_isFigure 14 = .ok (.bipush 48, 2)) ∧ (decode cX8_isFigure 16 = .ok (.if_icmp .lt 18, 3)) ∧ (decode cX8_isFigure 19 = .ok (.aload_n 0, 1)) ∧ (decode cX8_isFigure 20 = .ok (.getfield 29, 3)) ∧ (decode cX8_isFigure 23 = .ok (.iload_n 1, 1)) ∧ (decode cX8_isFigure 24 = .ok (.iaload, 1)) ∧ (decode cX8_isFigure 25 = .ok (.bipush 57, 2)) ∧ (decode cX8_isFigure 27 = .ok (.if_icmp .gt 7, 3)) ∧ (decode cX8_isFigure 30 = .ok (.iconst 1, 1)) ∧ (decode cX8_isFigure 31 = .ok (.goto 4, 3)) ∧ (decode cX8_isFigure 34 = .ok (.iconst 0, 1)) ∧ (decode cX8_isFigure 35 = .ok (.ireturn, 1)) := by decide +kernel
theorem dX8_isFigure_0 : decode cX8_isFigure 0 = .ok (.iload_n 1, 1) := edX8_isFigure_0.1
theorem dX8_isFigure_1 : decode cX8_isFigure 1 = .ok (.aload_n 0, 1) := edX8_isFigure_0.2.1
theorem dX8_isFigure_2 : decode cX8_isFigure 2 = .ok (.getfield 192, 3) := edX8_isFigure_0.2.2.1
theorem dX8_isFigure_5 : decode cX8_isFigure 5 = .ok (.if_icmp .ge 29, 3) := edX8_isFigure_0.2.2.2.1
theorem dX8_isFigure_8 : decode cX8_isFigure 8 = .ok (.aload_n 0, 1) := edX8_isFigure_0.2.2.2.2.1
theorem dX8_isFigure_9 : decode cX8_isFigure 9 = .ok (.getfield 29, 3) := edX8_isFigure_0.2.2.2.2.2.1
theorem dX8_isFigure_12 : decode cX8_isFigure 12 = .ok (.iload_n 1, 1) := edX8_isFigure_0.2.2.2.2.2.2.1
theorem dX8_isFigure_13 : decode cX8_isFigure 13 = .ok (.iaload, 1) := edX8_isFigure_0.2.2.2.2.2.2.2.1
theorem dX8_isFigure_14 : decode cX8_isFigure 14 = .ok (.bipush 48, 2) := edX8_isFigure_0.2.2.2.2.2.2.2.2.1
theorem dX8_isFigure_16 : decode cX8_isFigure 16 = .ok (.if_icmp .lt 18, 3) := edX8_isFigure_0.2.2.2.2.2.2.2.2.2.1
theorem dX8_isFigure_19 : decode cX8_isFigure 19 = .ok (.aload_n 0, 1) := edX8_isFigure_0.2.2.2.2.2.2.2.2.2.2.1
theorem dX8_isFigure_20 : decode cX8_isFigure 20 = .ok (.getfield 29, 3) := edX8_isFigure_0.2.2.2.2.2.2.2.2.2.2.2.1
theorem dX8_isFigure_23 : decode cX8_isFigure 23 = .ok (.iload_n 1, 1) := edX8_isFigure_0.2.2.2.2.2.2.2.2.2.2.2.2.1
theorem dX8_isFigure_24 : decode cX8_isFigure 24 = .ok (.iaload, 1) := edX8_isFigure_0.2.2.2.2.2.2.2.2.2.2.2.2.2.1
theorem dX8_isFigure_25 : decode cX8_isFigure 25 = .ok (.bipush 57, 2) := edX8_isFigure_0.2.2.2.2.2.2.2.2.2.2.2.2.2.2.1
theorem dX8_isFigure_27 : decode cX8_isFigure 27 = .ok (.if_icmp .gt 7, 3) := edX8_isFigure_0.2.2.2.2.2.2.2.2.2.2.2.2.2.2.2.1
theorem dX8_isFigure_30 : decode cX8_isFigure 30 = .ok (.iconst 1, 1) := edX8_isFigure_0.2.2.2.2.2.2.2.2.2.2.2.2.2.2.2.2.1
theorem dX8_isFigure_31 : decode cX8_isFigure 31 = .ok (.goto 4, 3) := edX8_isFigure_0.2.2.2.2.2.2.2.2.2.2.2.2.2.2.2.2.2.1
theorem dX8_isFigure_34 : decode cX8_isFigure 34 = .ok (.iconst 0, 1) := edX8_isFigure_0.2.2.2.2.2.2.2.2.2.2.2.2.2.2.2.2.2.2.1
theorem dX8_isFigure_35 : decode cX8_isFigure 35 = .ok (.ireturn, 1) := edX8_isFigure_0.2.2.2.2.2.2.2.2.2.2.2.2.2.2.2.2.2.2.2
theorem edX8_go_0 : (decode cX8_go 0 = .ok (.aload_n 0, 1)) ∧ (decode cX8_go 1 = .ok (.getfield 195, 3)) ∧ (decode cX8_go 4 = .ok (.aload_n 0, 1)) ∧ (decode cX8_go 5 = .ok (.getfield 192, 3)) ∧ (decode cX8_go 8 = .ok (.if_icmp .ge 30, 3)) ∧ (decode cX8_go 11 = .ok (.aload_n 0, 1)) ∧ (decode cX8_go 12 = .ok (.getfield 29, 3)) ∧ (decode cX8_go 15 = .ok (.aload_n 0, 1)) ∧ (decode cX8_go 16 = .ok (.getfield 195, 3)) ∧ (decode cX8_go 19 = .ok (.iaload, 1)) ∧ (decode cX8_go 20 = .ok (.bipush 32, 2)) ∧ (decode cX8_go 22 = .ok (.if_icmp .ne 16, 3)) ∧ (decode cX8_go 25 = .ok (.aload_n 0, 1)) ∧ (decode cX8_go 26 = .ok (.dup, 1)) ∧ (decode cX8_go 27 = .ok (.getfield 195, 3)) ∧ (decode cX8_go 30 = .ok (.iconst 1, 1)) ∧ (decode cX8_go 31 = .ok (.iadd, 1)) ∧ (decode cX8_go 32 = .ok (.putfield 195, 3)) ∧ (decode cX8_go 35 = .ok (.goto (-35), 3)) ∧ (decode cX8_go 38 = .ok (.aload_n 0, 1)) ∧ (decode cX8_go 39 = .ok (.aload_n 0, 1)) ∧ (decode cX8_go 40 = .ok (.getfield 195, 3)) ∧ (decode cX8_go 43 = .ok (.putfield 198, 3)) ∧ (decode cX8_go 46 = .ok (.aload_n 0, 1)) := by decide +kernel
theorem dX8_go_0 : decode cX8_go 0 = .ok (.aload_n 0, 1) := edX8_go_0.1
theorem dX8_go_1 : decode cX8_go 1 = .ok (.getfield 195, 3) := edX8_go_0.2.1
theorem dX8_go_4 : decode cX8_go 4 = .ok (.aload_n 0, 1) := edX8_go_0.2.2.1
theorem dX8_go_5 : decode cX8_go 5 = .ok (.getfield 192, 3) := edX8_go_0.2.2.2.1
theorem dX8_go_8 : decode cX8_go 8 = .ok (.if_icmp .ge 30, 3) := edX8_go_0.2.2.2.2.1
theorem dX8_go_11 : decode cX8_go 11 = .ok (.aload_n 0, 1) := edX8_go_0.2.2.2.2.2.1
theorem dX8_go_12 : decode cX8_go 12 = .ok (.getfield 29, 3) := edX8_go_0.2.2.2.2.2.2.1
theorem dX8_go_15 : decode cX8_go 15 = .ok (.aload_n 0, 1) := edX8_go_0.2.2.2.2.2.2.2.1
theorem dX8_go_16 : decode cX8_go 16 = .ok (.getfield 195, 3) := edX8_go_0.2.2.2.2.2.2.2.2.1
theorem dX8_go_19 : decode cX8_go 19 = .ok (.iaload, 1) := edX8_go_0.2.2.2.2.2.2.2.2.2.1
theorem dX8_go_20 : decode cX8_go 20 = .ok (.bipush 32, 2) := edX8_go_0.2.2.2.2.2.2.2.2.2.2.1
theorem dX8_go_22 : decode cX8_go 22 = .ok (.if_icmp .ne 16, 3) := edX8_go_0.2.2.2.2.2.2.2.2.2.2.2.1
theorem dX8_go_25 : decode cX8_go 25 = .ok (.aload_n 0, 1) := edX8_go_0.2.2.2.2.2.2.2.2.2.2.2.2.1
theorem dX8_go_26 : decode cX8_go 26 = .ok (.dup, 1) := edX8_go_0.2.2.2.2.2.2.2.2.2.2.2.2.2.1
theorem dX8_go_27 : decode cX8_go 27 = .ok (.getfield 195, 3) := edX8_go_0.2.2.2.2.2.2.2.2.2.2.2.2.2.2.1
theorem dX8_go_30 : decode cX8_go 30 = .ok (.iconst 1, 1) := edX8_go_0.2.2.2.2.2.2.2.2.2.2.2.2.2.2.2.1
theorem dX8_go_31 : decode cX8_go 31 = .ok (.iadd, 1) := edX8_go_0.2.2.2.2.2.2.2.2.2.2.2.2.2.2.2.2.1
theorem dX8_go_32 : decode cX8_go 32 = .ok (.putfield 195, 3) := edX8_go_0.2.2.2.2.2.2.2.2.2.2.2.2.2.2.2.2.2.1
theorem dX8_go_35 : decode cX8_go 35 = .ok (.goto (-35), 3) := edX8_go_0.2.2.2.2.2.2.2.2.2.2.2.2.2.2.2.2.2.2.1
theorem dX8_go_38 : decode cX8_go 38 = .ok (.aload_n 0, 1) := edX8_go_0.2.2.2.2.2.2.2.2.2.2.2.2.2.2.2.2.2.2.2.1
theorem dX8_go_39 : decode cX8_go 39 = .ok (.aload_n 0, 1) := edX8_go_0.2.2.2.2.2.2.2.2.2.2.2.2.2.2.2.2.2.2.2.2.1
theorem dX8_go_40 : decode cX8_go 40 = .ok (.getfield 195, 3) := edX8_go_0.2.2.2.2.2.2.2.2.2.2.2.2.2.2.2.2.2.2.2.2.2.1
theorem dX8_go_43 : decode cX8_go 43 = .ok (.putfield 198, 3) := edX8_go_0.2.2.2.2.2.2.2.2.2.2.2.2.2.2.2.2.2.2.2.2.2.2.1
theorem dX8_go_46 : decode cX8_go 46 = .ok (.aload_n 0, 1) := edX8_go_0.2.2.2.2.2.2.2.2.2.2.2.2.2.2.2.2.2.2.2.2.2.2.2
theorem edX8_go_47 : (decode cX8_go 47 = .ok (.getfield 198, 3)) ∧ (decode cX8_go 50 = .ok (.aload_n 0, 1)) ∧ (decode cX8_go 51 = .ok (.getfield 201, 3)) ∧ (decode cX8_go 54 = .ok (.if_icmp .ne 7, 3)) ∧ (decode cX8_go 57 = .ok (.iconst 1, 1)) ∧ (decode cX8_go 58 = .ok (.goto 4, 3)) ∧ (decode cX8_go 61 = .ok (.iconst 0, 1)) ∧ (decode cX8_go 62 = .ok (.istore_n 1, 1)) ∧ (decode cX8_go 63 = .ok (.aload_n 0, 1)) ∧ (decode cX8_go 64 = .ok (.getfield 198, 3)) ∧ (decode cX8_go 67 = .ok (.aload_n 0, 1)) ∧ (decode cX8_go 68 = .ok (.getfield 192, 3)) ∧ (decode cX8_go 71 = .ok (.if_icmp .ne 11, 3)) ∧ (decode cX8_go 74 = .ok (.aload_n 0, 1)) ∧ (decode cX8_go 75 = .ok (.iconst 0, 1)) ∧ (decode cX8_go 76 = .ok (.putfield 204, 3)) ∧ (decode cX8_go 79 = .ok (.goto 224, 3)) ∧ (decode cX8_go 82 = .ok (.aload_n 0, 1)) ∧ (decode cX8_go 83 = .ok (.aload_n 0, 1)) ∧ (decode cX8_go 84 = .ok (.getfield 198, 3)) ∧ (decode cX8_go 87 = .ok (.invokevirtual 207, 3)) ∧ (decode cX8_go 90 = .ok (.ifCond .eq 64, 3)) ∧ (decode cX8_go 93 = .ok (.aload_n 0, 1)) ∧ (decode cX8_go 94 = .ok (.aload_n 0, 1)) := by decide +kernel
theorem dX8_go_47 : decode cX8_go 47 = .ok (.getfield 198, 3) := edX8_go_47.1
theorem dX8_go_50 : decode cX8_go 50 = .ok (.aload_n 0, 1) := edX8_go_47.2.1
theorem dX8_go_51 : decode cX8_go 51 = .ok (.getfield 201, 3) := edX8_go_47.2.2.1
theorem dX8_go_54 : decode cX8_go 54 = .ok (.if_icmp .ne 7, 3) := edX8_go_47.2.2.2.1
theorem dX8_go_57 : decode cX8_go 57 = .ok (.iconst 1, 1) := edX8_go_47.2.2.2.2.1
theorem dX8_go_58 : decode cX8_go 58 = .ok (.goto 4, 3) := edX8_go_47.2.2.2.2.2.1
theorem dX8_go_61 : decode cX8_go 61 = .ok (.iconst 0, 1) := edX8_go_47.2.2.2.2.2.2.1
theorem dX8_go_62 : decode cX8_go 62 = .ok (.istore_n 1, 1) := edX8_go_47.2.2.2.2.2.2.2.1
theorem dX8_go_63 : decode cX8_go 63 = .ok (.aload_n 0, 1) := edX8_go_47.2.2.2.2.2.2.2.2.1
theorem dX8_go_64 : decode cX8_go 64 = .ok (.getfield 198, 3) := edX8_go_47.2.2.2.2.2.2.2.2.2.1
theorem dX8_go_67 : decode cX8_go 67 = .ok (.aload_n 0, 1) := edX8_go_47.2.2.2.2.2.2.2.2.2.2.1
theorem dX8_go_68 : decode cX8_go 68 = .ok (.getfield 192, 3) := edX8_go_47.2.2.2.2.2.2.2.2.2.2.2.1
theorem dX8_go_71 : decode cX8_go 71 = .ok (.if_icmp .ne 11, 3) := edX8_go_47.2.2.2.2.2.2.2.2.2.2.2.2.1
theorem dX8_go_74 : decode cX8_go 74 = .ok (.aload_n 0, 1) := edX8_go_47.2.2.2.2.2.2.2.2.2.2.2.2.2.1
theorem dX8_go_75 : decode cX8_go 75 = .ok (.iconst 0, 1) := edX8_go_47.2.2.2.2.2.2.2.2.2.2.2.2.2.2.1
theorem dX8_go_76 : decode cX8_go 76 = .ok (.putfield 204, 3) := edX8_go_47.2.2.2.2.2.2.2.2.2.2.2.2.2.2.2.1
theorem dX8_go_79 : decode cX8_go 79 = .ok (.goto 224, 3) := edX8_go_47.2.2.2.2.2.2.2.2.2.2.2.2.2.2.2.2.1
theorem dX8_go_82 : decode cX8_go 82 = .ok (.aload_n 0, 1) := edX8_go_47.2.2.2.2.2.2.2.2.2.2.2.2.2.2.2.2.2.1
theorem dX8_go_83 : decode cX8_go 83 = .ok (.aload_n 0, 1) := edX8_go_47.2.2.2.2.2.2.2.2.2.2.2.2.2.2.2.2.2.2.1
theorem dX8_go_84 : decode cX8_go 84 = .ok (.getfield 198, 3) := edX8_go_47.2.2.2.2.2.2.2.2.2.2.2.2.2.2.2.2.2.2.2.1
theorem dX8_go_87 : decode cX8_go 87 = .ok (.invokevirtual 207, 3) := edX8_go_47.2.2.2.2.2.2.2.2.2.2.2.2.2.2.2.2.2.2.2.2.1
theorem dX8_go_90 : decode cX8_go 90 = .ok (.ifCond .eq 64, 3) := edX8_go_47.2.2.2.2.2.2.2.2.2.2.2.2.2.2.2.2.2.2.2.2.2.1
theorem dX8_go_93 : decode cX8_go 93 = .ok (.aload_n 0, 1) := edX8_go_47.2.2.2.2.2.2.2.2.2.2.2.2.2.2.2.2.2.2.2.2.2.2.1
theorem dX8_go_94 : decode cX8_go 94 = .ok (.aload_n 0, 1) := edX8_go_47.2.2.2.2.2.2.2.2.2.2.2.2.2.2.2.2.2.2.2.2.2.2.2
theorem edX8_go_95 : (decode cX8_go 95 = .ok (.getfield 195, 3)) ∧ (decode cX8_go 98 = .ok (.invokevirtual 207, 3)) ∧ (decode cX8_go 101 = .ok (.ifCond .eq 16, 3)) ∧ (decode cX8_go 104 = .ok (.aload_n 0, 1)) ∧ (decode cX8_go 105 = .ok (.dup, 1)) ∧ (decode cX8_go 106 = .ok (.getfield 195, 3)) ∧ (decode cX8_go 109 = .ok (.iconst 1, 1)) ∧ (decode cX8_go 110 = .ok (.iadd, 1)) ∧ (decode cX8_go 111 = .ok (.putfield 195, 3)) ∧ (decode cX8_go 114 = .ok (.goto (-21), 3)) ∧ (decode cX8_go 117 = .ok (.aload_n 0, 1)) ∧ (decode cX8_go 118 = .ok (.iload_n 1, 1)) ∧ (decode cX8_go 119 = .ok (.ifCond .eq 7, 3)) ∧ (decode cX8_go 122 = .ok (.iconst 4, 1)) ∧ (decode cX8_go 123 = .ok (.goto 4, 3)) ∧ (decode cX8_go 126 = .ok (.iconst 1, 1)) ∧ (decode cX8_go 127 = .ok (.putfield 204, 3)) ∧ (decode cX8_go 130 = .ok (.aload_n 0, 1)) ∧ (decode cX8_go 131 = .ok (.aload_n 0, 1)) ∧ (decode cX8_go 132 = .ok (.getfield 29, 3)) ∧ (decode cX8_go 135 = .ok (.aload_n 0, 1)) ∧ (decode cX8_go 136 = .ok (.getfield 198, 3)) ∧ (decode cX8_go 139 = .ok (.iaload, 1)) ∧ (decode cX8_go 140 = .ok (.putfield 210, 3)) := by decide +kernel
theorem dX8_go_95 : decode cX8_go 95 = .ok (.getfield 195, 3) := edX8_go_95.1
theorem dX8_go_98 : decode cX8_go 98 = .ok (.invokevirtual 207, 3) := edX8_go_95.2.1
theorem dX8_go_101 : decode cX8_go 101 = .ok (.ifCond .eq 16, 3) := edX8_go_95.2.2.1
theorem dX8_go_104 : decode cX8_go 104 = .ok (.aload_n 0, 1) := edX8_go_95.2.2.2.1
theorem dX8_go_105 : decode cX8_go 105 = .ok (.dup, 1) := edX8_go_95.2.2.2.2.1
theorem dX8_go_106 : decode cX8_go 106 = .ok (.getfield 195, 3) := edX8_go_95.2.2.2.2.2.1
theorem dX8_go_109 : decode cX8_go 109 = .ok (.iconst 1, 1) := edX8_go_95.2.2.2.2.2.2.1
theorem dX8_go_110 : decode cX8_go 110 = .ok (.iadd, 1) := edX8_go_95.2.2.2.2.2.2.2.1
theorem dX8_go_111 : decode cX8_go 111 = .ok (.putfield 195, 3) := edX8_go_95.2.2.2.2.2.2.2.2.1
theorem dX8_go_114 : decode cX8_go 114 = .ok (.goto (-21), 3) := edX8_go_95.2.2.2.2.2.2.2.2.2.1
theorem dX8_go_117 : decode cX8_go 117 = .ok (.aload_n 0, 1) := edX8_go_95.2.2.2.2.2.2.2.2.2.2.1
theorem dX8_go_118 : decode cX8_go 118 = .ok (.iload_n 1, 1) := edX8_go_95.2.2.2.2.2.2.2.2.2.2.2.1
theorem dX8_go_119 : decode cX8_go 119 = .ok (.ifCond .eq 7, 3) := edX8_go_95.2.2.2.2.2.2.2.2.2.2.2.2.1
theorem dX8_go_122 : decode cX8_go 122 = .ok (.iconst 4, 1) := edX8_go_95.2.2.2.2.2.2.2.2.2.2.2.2.2.1
theorem dX8_go_123 : decode cX8_go 123 = .ok (.goto 4, 3) := edX8_go_95.2.2.2.2.2.2.2.2.2.2.2.2.2.2.1
theorem dX8_go_126 : decode cX8_go 126 = .ok (.iconst 1, 1) := edX8_go_95.2.2.2.2.2.2.2.2.2.2.2.2.2.2.2.1
theorem dX8_go_127 : decode cX8_go 127 = .ok (.putfield 204, 3) := edX8_go_95.2.2.2.2.2.2.2.2.2.2.2.2.2.2.2.2.1
theorem dX8_go_130 : decode cX8_go 130 = .ok (.aload_n 0, 1) := edX8_go_95.2.2.2.2.2.2.2.2.2.2.2.2.2.2.2.2.2.1
theorem dX8_go_131 : decode cX8_go 131 = .ok (.aload_n 0, 1) := edX8_go_95.2.2.2.2.2.2.2.2.2.2.2.2.2.2.2.2.2.2.1
theorem dX8_go_132 : decode cX8_go 132 = .ok (.getfield 29, 3) := edX8_go_95.2.2.2.2.2.2.2.2.2.2.2.2.2.2.2.2.2.2.2.1
theorem dX8_go_135 : decode cX8_go 135 = .ok (.aload_n 0, 1) := edX8_go_95.2.2.2.2.2.2.2.2.2.2.2.2.2.2.2.2.2.2.2.2.1
theorem dX8_go_136 : decode cX8_go 136 = .ok (.getfield 198, 3) := edX8_go_95.2.2.2.2.2.2.2.2.2.2.2.2.2.2.2.2.2.2.2.2.2.1
theorem dX8_go_139 : decode cX8_go 139 = .ok (.iaload, 1) := edX8_go_95.2.2.2.2.2.2.2.2.2.2.2.2.2.2.2.2.2.2.2.2.2.2.1
theorem dX8_go_140 : decode cX8_go 140 = .ok (.putfield 210, 3) := edX8_go_95.2.2.2.2.2.2.2.2.2.2.2.2.2.2.2.2.2.2.2.2.2.2.2
theorem edX8_go_143 : (decode cX8_go 143 = .ok (.aload_n 0, 1)) ∧ (decode cX8_go 144 = .ok (.aload_n 0, 1)) ∧ (decode cX8_go 145 = .ok (.getfield 195, 3)) ∧ (decode cX8_go 148 = .ok (.putfield 201, 3)) ∧ (decode cX8_go 151 = .ok (.goto 152, 3)) ∧ (decode cX8_go 154 = .ok (.aload_n 0, 1)) ∧ (decode cX8_go 155 = .ok (.aload_n 0, 1)) ∧ (decode cX8_go 156 = .ok (.getfield 198, 3)) ∧ (decode cX8_go 159 = .ok (.invokevirtual 213, 3)) ∧ (decode cX8_go 162 = .ok (.ifCond .eq 113, 3)) ∧ (decode cX8_go 165 = .ok (.aload_n 0, 1)) ∧ (decode cX8_go 166 = .ok (.iconst 0, 1)) ∧ (decode cX8_go 167 = .ok (.putfield 210, 3)) ∧ (decode cX8_go 170 = .ok (.aload_n 0, 1)) ∧ (decode cX8_go 171 = .ok (.aload_n 0, 1)) ∧ (decode cX8_go 172 = .ok (.getfield 195, 3)) ∧ (decode cX8_go 175 = .ok (.invokevirtual 213, 3)) ∧ (decode cX8_go 178 = .ok (.ifCond .eq 60, 3)) ∧ (decode cX8_go 181 = .ok (.aload_n 0, 1)) ∧ (decode cX8_go 182 = .ok (.aload_n 0, 1)) ∧ (decode cX8_go 183 = .ok (.getfield 195, 3)) ∧ (decode cX8_go 186 = .ok (.aload_n 0, 1)) ∧ (decode cX8_go 187 = .ok (.getfield 198, 3)) ∧ (decode cX8_go 190 = .ok (.isub, 1)) := by decide +kernel
theorem dX8_go_143 : decode cX8_go 143 = .ok (.aload_n 0, 1) := edX8_go_143.1
theorem dX8_go_144 : decode cX8_go 144 = .ok (.aload_n 0, 1) := edX8_go_143.2.1
theorem dX8_go_145 : decode cX8_go 145 = .ok (.getfield 195, 3) := edX8_go_143.2.2.1
theorem dX8_go_148 : decode cX8_go 148 = .ok (.putfield 201, 3) := edX8_go_143.2.2.2.1
theorem dX8_go_151 : decode cX8_go 151 = .ok (.goto 152, 3) := edX8_go_143.2.2.2.2.1
theorem dX8_go_154 : decode cX8_go 154 = .ok (.aload_n 0, 1) := edX8_go_143.2.2.2.2.2.1
theorem dX8_go_155 : decode cX8_go 155 = .ok (.aload_n 0, 1) := edX8_go_143.2.2.2.2.2.2.1
theorem dX8_go_156 : decode cX8_go 156 = .ok (.getfield 198, 3) := edX8_go_143.2.2.2.2.2.2.2.1
theorem dX8_go_159 : decode cX8_go 159 = .ok (.invokevirtual 213, 3) := edX8_go_143.2.2.2.2.2.2.2.2.1
theorem dX8_go_162 : decode cX8_go 162 = .ok (.ifCond .eq 113, 3) := edX8_go_143.2.2.2.2.2.2.2.2.2.1
theorem dX8_go_165 : decode cX8_go 165 = .ok (.aload_n 0, 1) := edX8_go_143.2.2.2.2.2.2.2.2.2.2.1
theorem dX8_go_166 : decode cX8_go 166 = .ok (.iconst 0, 1) := edX8_go_143.2.2.2.2.2.2.2.2.2.2.2.1
theorem dX8_go_167 : decode cX8_go 167 = .ok (.putfield 210, 3) := edX8_go_143.2.2.2.2.2.2.2.2.2.2.2.2.1
theorem dX8_go_170 : decode cX8_go 170 = .ok (.aload_n 0, 1) := edX8_go_143.2.2.2.2.2.2.2.2.2.2.2.2.2.1
theorem dX8_go_171 : decode cX8_go 171 = .ok (.aload_n 0, 1) := edX8_go_143.2.2.2.2.2.2.2.2.2.2.2.2.2.2.1
theorem dX8_go_172 : decode cX8_go 172 = .ok (.getfield 195, 3) := edX8_go_143.2.2.2.2.2.2.2.2.2.2.2.2.2.2.2.1
theorem dX8_go_175 : decode cX8_go 175 = .ok (.invokevirtual 213, 3) := edX8_go_143.2.2.2.2.2.2.2.2.2.2.2.2.2.2.2.2.1
theorem dX8_go_178 : decode cX8_go 178 = .ok (.ifCond .eq 60, 3) := edX8_go_143.2.2.2.2.2.2.2.2.2.2.2.2.2.2.2.2.2.1
theorem dX8_go_181 : decode cX8_go 181 = .ok (.aload_n 0, 1) := edX8_go_143.2.2.2.2.2.2.2.2.2.2.2.2.2.2.2.2.2.2.1
theorem dX8_go_182 : decode cX8_go 182 = .ok (.aload_n 0, 1) := edX8_go_143.2.2.2.2.2.2.2.2.2.2.2.2.2.2.2.2.2.2.2.1
theorem dX8_go_183 : decode cX8_go 183 = .ok (.getfield 195, 3) := edX8_go_143.2.2.2.2.2.2.2.2.2.2.2.2.2.2.2.2.2.2.2.2.1
theorem dX8_go_186 : decode cX8_go 186 = .ok (.aload_n 0, 1) := edX8_go_143.2.2.2.2.2.2.2.2.2.2.2.2.2.2.2.2.2.2.2.2.2.1
theorem dX8_go_187 : decode cX8_go 187 = .ok (.getfield 198, 3) := edX8_go_143.2.2.2.2.2.2.2.2.2.2.2.2.2.2.2.2.2.2.2.2.2.2.1
theorem dX8_go_190 : decode cX8_go 190 = .ok (.isub, 1) := edX8_go_143.2.2.2.2.2.2.2.2.2.2.2.2.2.2.2.2.2.2.2.2.2.2.2
theorem edX8_go_191 : (decode cX8_go 191 = .ok (.iconst 4, 1)) ∧ (decode cX8_go 192 = .ok (.if_icmp .ge 26, 3)) ∧ (decode cX8_go 195 = .ok (.bipush 10, 2)) ∧ (decode cX8_go 197 = .ok (.aload_n 0, 1)) ∧ (decode cX8_go 198 = .ok (.getfield 210, 3)) ∧ (decode cX8_go 201 = .ok (.imul, 1)) ∧ (decode cX8_go 202 = .ok (.aload_n 0, 1)) ∧ (decode cX8_go 203 = .ok (.getfield 29, 3)) ∧ (decode cX8_go 206 = .ok (.aload_n 0, 1)) ∧ (decode cX8_go 207 = .ok (.getfield 195, 3)) ∧ (decode cX8_go 210 = .ok (.iaload, 1)) ∧ (decode cX8_go 211 = .ok (.iadd, 1)) ∧ (decode cX8_go 212 = .ok (.bipush 48, 2)) ∧ (decode cX8_go 214 = .ok (.isub, 1)) ∧ (decode cX8_go 215 = .ok (.goto 7, 3)) ∧ (decode cX8_go 218 = .ok (.aload_n 0, 1)) ∧ (decode cX8_go 219 = .ok (.getfield 210, 3)) ∧ (decode cX8_go 222 = .ok (.putfield 210, 3)) ∧ (decode cX8_go 225 = .ok (.aload_n 0, 1)) ∧ (decode cX8_go 226 = .ok (.dup, 1)) ∧ (decode cX8_go 227 = .ok (.getfield 195, 3)) ∧ (decode cX8_go 230 = .ok (.iconst 1, 1)) ∧ (decode cX8_go 231 = .ok (.iadd, 1)) ∧ (decode cX8_go 232 = .ok (.putfield 195, 3)) := by decide +kernel
theorem dX8_go_191 : decode cX8_go 191 = .ok (.iconst 4, 1) := edX8_go_191.1
theorem dX8_go_192 : decode cX8_go 192 = .ok (.if_icmp .ge 26, 3) := edX8_go_191.2.1
theorem dX8_go_195 : decode cX8_go 195 = .ok (.bipush 10, 2) := edX8_go_191.2.2.1
theorem dX8_go_197 : decode cX8_go 197 = .ok (.aload_n 0, 1) := edX8_go_191.2.2.2.1
theorem dX8_go_198 : decode cX8_go 198 = .ok (.getfield 210, 3) := edX8_go_191.2.2.2.2.1
theorem dX8_go_201 : decode cX8_go 201 = .ok (.imul, 1) := edX8_go_191.2.2.2.2.2.1
theorem dX8_go_202 : decode cX8_go 202 = .ok (.aload_n 0, 1) := edX8_go_191.2.2.2.2.2.2.1
theorem dX8_go_203 : decode cX8_go 203 = .ok (.getfield 29, 3) := edX8_go_191.2.2.2.2.2.2.2.1
theorem dX8_go_206 : decode cX8_go 206 = .ok (.aload_n 0, 1) := edX8_go_191.2.2.2.2.2.2.2.2.1
theorem dX8_go_207 : decode cX8_go 207 = .ok (.getfield 195, 3) := edX8_go_191.2.2.2.2.2.2.2.2.2.1
theorem dX8_go_210 : decode cX8_go 210 = .ok (.iaload, 1) := edX8_go_191.2.2.2.2.2.2.2.2.2.2.1
theorem dX8_go_211 : decode cX8_go 211 = .ok (.iadd, 1) := edX8_go_191.2.2.2.2.2.2.2.2.2.2.2.1
theorem dX8_go_212 : decode cX8_go 212 = .ok (.bipush 48, 2) := edX8_go_191.2.2.2.2.2.2.2.2.2.2.2.2.1
theorem dX8_go_214 : decode cX8_go 214 = .ok (.isub, 1) := edX8_go_191.2.2.2.2.2.2.2.2.2.2.2.2.2.1
theorem dX8_go_215 : decode cX8_go 215 = .ok (.goto 7, 3) := edX8_go_191.2.2.2.2.2.2.2.2.2.2.2.2.2.2.1
theorem dX8_go_218 : decode cX8_go 218 = .ok (.aload_n 0, 1) := edX8_go_191.2.2.2.2.2.2.2.2.2.2.2.2.2.2.2.1
theorem dX8_go_219 : decode cX8_go 219 = .ok (.getfield 210, 3) := edX8_go_191.2.2.2.2.2.2.2.2.2.2.2.2.2.2.2.2.1
theorem dX8_go_222 : decode cX8_go 222 = .ok (.putfield 210, 3) := edX8_go_191.2.2.2.2.2.2.2.2.2.2.2.2.2.2.2.2.2.1
theorem dX8_go_225 : decode cX8_go 225 = .ok (.aload_n 0, 1) := edX8_go_191.2.2.2.2.2.2.2.2.2.2.2.2.2.2.2.2.2.2.1
theorem dX8_go_226 : decode cX8_go 226 = .ok (.dup, 1) := edX8_go_191.2.2.2.2.2.2.2.2.2.2.2.2.2.2.2.2.2.2.2.1
theorem dX8_go_227 : decode cX8_go 227 = .ok (.getfield 195, 3) := edX8_go_191.2.2.2.2.2.2.2.2.2.2.2.2.2.2.2.2.2.2.2.2.1
theorem dX8_go_230 : decode cX8_go 230 = .ok (.iconst 1, 1) := edX8_go_191.2.2.2.2.2.2.2.2.2.2.2.2.2.2.2.2.2.2.2.2.2.1
theorem dX8_go_231 : decode cX8_go 231 = .ok (.iadd, 1) := edX8_go_191.2.2.2.2.2.2.2.2.2.2.2.2.2.2.2.2.2.2.2.2.2.2.1
theorem dX8_go_232 : decode cX8_go 232 = .ok (.putfield 195, 3) := edX8_go_191.2.2.2.2.2.2.2.2.2.2.2.2.2.2.2.2.2.2.2.2.2.2.2
theorem edX8_go_235 : (decode cX8_go 235 = .ok (.goto (-65), 3)) ∧ (decode cX8_go 238 = .ok (.aload_n 0, 1)) ∧ (decode cX8_go 239 = .ok (.iload_n 1, 1)) ∧ (decode cX8_go 240 = .ok (.ifCond .ne 16, 3)) ∧ (decode cX8_go 243 = .ok (.aload_n 0, 1)) ∧ (decode cX8_go 244 = .ok (.getfield 195, 3)) ∧ (decode cX8_go 247 = .ok (.aload_n 0, 1)) ∧ (decode cX8_go 248 = .ok (.getfield 198, 3)) ∧ (decode cX8_go 251 = .ok (.isub, 1)) ∧ (decode cX8_go 252 = .ok (.iconst 4, 1)) ∧ (decode cX8_go 253 = .ok (.if_icmp .le 7, 3)) ∧ (decode cX8_go 256 = .ok (.iconst 4, 1)) ∧ (decode cX8_go 257 = .ok (.goto 4, 3)) ∧ (decode cX8_go 260 = .ok (.iconst 2, 1)) ∧ (decode cX8_go 261 = .ok (.putfield 204, 3)) ∧ (decode cX8_go 264 = .ok (.aload_n 0, 1)) ∧ (decode cX8_go 265 = .ok (.aload_n 0, 1)) ∧ (decode cX8_go 266 = .ok (.getfield 195, 3)) ∧ (decode cX8_go 269 = .ok (.putfield 201, 3)) ∧ (decode cX8_go 272 = .ok (.goto 31, 3)) ∧ (decode cX8_go 275 = .ok (.aload_n 0, 1)) ∧ (decode cX8_go 276 = .ok (.iconst 3, 1)) ∧ (decode cX8_go 277 = .ok (.putfield 204, 3)) ∧ (decode cX8_go 280 = .ok (.aload_n 0, 1)) := by decide +kernel
theorem dX8_go_235 : decode cX8_go 235 = .ok (.goto (-65), 3) := edX8_go_235.1
theorem dX8_go_238 : decode cX8_go 238 = .ok (.aload_n 0, 1) := edX8_go_235.2.1
theorem dX8_go_239 : decode cX8_go 239 = .ok (.iload_n 1, 1) := edX8_go_235.2.2.1
theorem dX8_go_240 : decode cX8_go 240 = .ok (.ifCond .ne 16, 3) := edX8_go_235.2.2.2.1
theorem dX8_go_243 : decode cX8_go 243 = .ok (.aload_n 0, 1) := edX8_go_235.2.2.2.2.1
theorem dX8_go_244 : decode cX8_go 244 = .ok (.getfield 195, 3) := edX8_go_235.2.2.2.2.2.1
theorem dX8_go_247 : decode cX8_go 247 = .ok (.aload_n 0, 1) := edX8_go_235.2.2.2.2.2.2.1
theorem dX8_go_248 : decode cX8_go 248 = .ok (.getfield 198, 3) := edX8_go_235.2.2.2.2.2.2.2.1
theorem dX8_go_251 : decode cX8_go 251 = .ok (.isub, 1) := edX8_go_235.2.2.2.2.2.2.2.2.1
theorem dX8_go_252 : decode cX8_go 252 = .ok (.iconst 4, 1) := edX8_go_235.2.2.2.2.2.2.2.2.2.1
theorem dX8_go_253 : decode cX8_go 253 = .ok (.if_icmp .le 7, 3) := edX8_go_235.2.2.2.2.2.2.2.2.2.2.1
theorem dX8_go_256 : decode cX8_go 256 = .ok (.iconst 4, 1) := edX8_go_235.2.2.2.2.2.2.2.2.2.2.2.1
theorem dX8_go_257 : decode cX8_go 257 = .ok (.goto 4, 3) := edX8_go_235.2.2.2.2.2.2.2.2.2.2.2.2.1
theorem dX8_go_260 : decode cX8_go 260 = .ok (.iconst 2, 1) := edX8_go_235.2.2.2.2.2.2.2.2.2.2.2.2.2.1
theorem dX8_go_261 : decode cX8_go 261 = .ok (.putfield 204, 3) := edX8_go_235.2.2.2.2.2.2.2.2.2.2.2.2.2.2.1
theorem dX8_go_264 : decode cX8_go 264 = .ok (.aload_n 0, 1) := edX8_go_235.2.2.2.2.2.2.2.2.2.2.2.2.2.2.2.1
theorem dX8_go_265 : decode cX8_go 265 = .ok (.aload_n 0, 1) := edX8_go_235.2.2.2.2.2.2.2.2.2.2.2.2.2.2.2.2.1
theorem dX8_go_266 : decode cX8_go 266 = .ok (.getfield 195, 3) := edX8_go_235.2.2.2.2.2.2.2.2.2.2.2.2.2.2.2.2.2.1
theorem dX8_go_269 : decode cX8_go 269 = .ok (.putfield 201, 3) := edX8_go_235.2.2.2.2.2.2.2.2.2.2.2.2.2.2.2.2.2.2.1
theorem dX8_go_272 : decode cX8_go 272 = .ok (.goto 31, 3) := edX8_go_235.2.2.2.2.2.2.2.2.2.2.2.2.2.2.2.2.2.2.2.1
theorem dX8_go_275 : decode cX8_go 275 = .ok (.aload_n 0, 1) := edX8_go_235.2.2.2.2.2.2.2.2.2.2.2.2.2.2.2.2.2.2.2.2.1
theorem dX8_go_276 : decode cX8_go 276 = .ok (.iconst 3, 1) := edX8_go_235.2.2.2.2.2.2.2.2.2.2.2.2.2.2.2.2.2.2.2.2.2.1
theorem dX8_go_277 : decode cX8_go 277 = .ok (.putfield 204, 3) := edX8_go_235.2.2.2.2.2.2.2.2.2.2.2.2.2.2.2.2.2.2.2.2.2.2.1
theorem dX8_go_280 : decode cX8_go 280 = .ok (.aload_n 0, 1) := edX8_go_235.2.2.2.2.2.2.2.2.2.2.2.2.2.2.2.2.2.2.2.2.2.2.2
theorem edX8_go_281 : (decode cX8_go 281 = .ok (.aload_n 0, 1)) ∧ (decode cX8_go 282 = .ok (.getfield 29, 3)) ∧ (decode cX8_go 285 = .ok (.aload_n 0, 1)) ∧ (decode cX8_go 286 = .ok (.getfield 198, 3)) ∧ (decode cX8_go 289 = .ok (.iaload, 1)) ∧ (decode cX8_go 290 = .ok (.putfield 210, 3)) ∧ (decode cX8_go 293 = .ok (.aload_n 0, 1)) ∧ (decode cX8_go 294 = .ok (.dup, 1)) ∧ (decode cX8_go 295 = .ok (.getfield 195, 3)) ∧ (decode cX8_go 298 = .ok (.iconst 1, 1)) ∧ (decode cX8_go 299 = .ok (.iadd, 1)) ∧ (decode cX8_go 300 = .ok (.putfield 195, 3)) ∧ (decode cX8_go 303 = .ok (.return_, 1)) := by decide +kernel
theorem dX8_go_281 : decode cX8_go 281 = .ok (.aload_n 0, 1) := edX8_go_281.1
theorem dX8_go_282 : decode cX8_go 282 = .ok (.getfield 29, 3) := edX8_go_281.2.1
theorem dX8_go_285 : decode cX8_go 285 = .ok (.aload_n 0, 1) := edX8_go_281.2.2.1
theorem dX8_go_286 : decode cX8_go 286 = .ok (.getfield 198, 3) := edX8_go_281.2.2.2.1
theorem dX8_go_289 : decode cX8_go 289 = .ok (.iaload, 1) := edX8_go_281.2.2.2.2.1
theorem dX8_go_290 : decode cX8_go 290 = .ok (.putfield 210, 3) := edX8_go_281.2.2.2.2.2.1
theorem dX8_go_293 : decode cX8_go 293 = .ok (.aload_n 0, 1) := edX8_go_281.2.2.2.2.2.2.1
theorem dX8_go_294 : decode cX8_go 294 = .ok (.dup, 1) := edX8_go_281.2.2.2.2.2.2.2.1
theorem dX8_go_295 : decode cX8_go 295 = .ok (.getfield 195, 3) := edX8_go_281.2.2.2.2.2.2.2.2.1
theorem dX8_go_298 : decode cX8_go 298 = .ok (.iconst 1, 1) := edX8_go_281.2.2.2.2.2.2.2.2.2.1
theorem dX8_go_299 : decode cX8_go 299 = .ok (.iadd, 1) := edX8_go_281.2.2.2.2.2.2.2.2.2.2.1
theorem dX8_go_300 : decode cX8_go 300 = .ok (.putfield 195, 3) := edX8_go_281.2.2.2.2.2.2.2.2.2.2.2.1
theorem dX8_go_303 : decode cX8_go 303 = .ok (.return_, 1) := edX8_go_281.2.2.2.2.2.2.2.2.2.2.2.2
theorem edX8_takesKey_0 : (decode cX8_takesKey 0 = .ok (.aload_n 0, 1)) ∧ (decode cX8_takesKey 1 = .ok (.getfield 204, 3)) ∧ (decode cX8_takesKey 4 = .ok (.iconst 1, 1)) ∧ (decode cX8_takesKey 5 = .ok (.if_icmp .eq 5, 3)) ∧ (decode cX8_takesKey 8 = .ok (.iconst 0, 1)) ∧ (decode cX8_takesKey 9 = .ok (.ireturn, 1)) ∧ (decode cX8_takesKey 10 = .ok (.iconst 0, 1)) ∧ (decode cX8_takesKey 11 = .ok (.istore_n 1, 1)) ∧ (decode cX8_takesKey 12 = .ok (.iload_n 1, 1)) ∧ (decode cX8_takesKey 13 = .ok (.iconst 3, 1)) ∧ (decode cX8_takesKey 14 = .ok (.if_icmp .ge 113, 3)) ∧ (decode cX8_takesKey 17 = .ok (.aload_n 0, 1)) ∧ (decode cX8_takesKey 18 = .ok (.getfield 36, 3)) ∧ (decode cX8_takesKey 21 = .ok (.iload_n 1, 1)) ∧ (decode cX8_takesKey 22 = .ok (.iconst 1, 1)) ∧ (decode cX8_takesKey 23 = .ok (.iadd, 1)) ∧ (decode cX8_takesKey 24 = .ok (.iaload, 1)) ∧ (decode cX8_takesKey 25 = .ok (.aload_n 0, 1)) ∧ (decode cX8_takesKey 26 = .ok (.getfield 36, 3)) ∧ (decode cX8_takesKey 29 = .ok (.iload_n 1, 1)) ∧ (decode cX8_takesKey 30 = .ok (.iaload, 1)) ∧ (decode cX8_takesKey 31 = .ok (.isub, 1)) ∧ (decode cX8_takesKey 32 = .ok (.istore_n 2, 1)) ∧ (decode cX8_takesKey 33 = .ok (.iload_n 2, 1)) := by decide +kernel
theorem dX8_takesKey_0 : decode cX8_takesKey 0 = .ok (.aload_n 0, 1) := edX8_takesKey_0.1
theorem dX8_takesKey_1 : decode cX8_takesKey 1 = .ok (.getfield 204, 3) := edX8_takesKey_0.2.1
theorem dX8_takesKey_4 : decode cX8_takesKey 4 = .ok (.iconst 1, 1) := edX8_takesKey_0.2.2.1
theorem dX8_takesKey_5 : decode cX8_takesKey 5 = .ok (.if_icmp .eq 5, 3) := edX8_takesKey_0.2.2.2.1
theorem dX8_takesKey_8 : decode cX8_takesKey 8 = .ok (.iconst 0, 1) := edX8_takesKey_0.2.2.2.2.1
theorem dX8_takesKey_9 : decode cX8_takesKey 9 = .ok (.ireturn, 1) := edX8_takesKey_0.2.2.2.2.2.1
theorem dX8_takesKey_10 : decode cX8_takesKey 10 = .ok (.iconst 0, 1) := edX8_takesKey_0.2.2.2.2.2.2.1
theorem dX8_takesKey_11 : decode cX8_takesKey 11 = .ok (.istore_n 1, 1) := edX8_takesKey_0.2.2.2.2.2.2.2.1
theorem dX8_takesKey_12 : decode cX8_takesKey 12 = .ok (.iload_n 1, 1) := edX8_takesKey_0.2.2.2.2.2.2.2.2.1
theorem dX8_takesKey_13 : decode cX8_takesKey 13 = .ok (.iconst 3, 1) := edX8_takesKey_0.2.2.2.2.2.2.2.2.2.1
theorem dX8_takesKey_14 : decode cX8_takesKey 14 = .ok (.if_icmp .ge 113, 3) := edX8_takesKey_0.2.2.2.2.2.2.2.2.2.2.1
theorem dX8_takesKey_17 : decode cX8_takesKey 17 = .ok (.aload_n 0, 1) := edX8_takesKey_0.2.2.2.2.2.2.2.2.2.2.2.1
theorem dX8_takesKey_18 : decode cX8_takesKey 18 = .ok (.getfield 36, 3) := edX8_takesKey_0.2.2.2.2.2.2.2.2.2.2.2.2.1
theorem dX8_takesKey_21 : decode cX8_takesKey 21 = .ok (.iload_n 1, 1) := edX8_takesKey_0.2.2.2.2.2.2.2.2.2.2.2.2.2.1
theorem dX8_takesKey_22 : decode cX8_takesKey 22 = .ok (.iconst 1, 1) := edX8_takesKey_0.2.2.2.2.2.2.2.2.2.2.2.2.2.2.1
theorem dX8_takesKey_23 : decode cX8_takesKey 23 = .ok (.iadd, 1) := edX8_takesKey_0.2.2.2.2.2.2.2.2.2.2.2.2.2.2.2.1
theorem dX8_takesKey_24 : decode cX8_takesKey 24 = .ok (.iaload, 1) := edX8_takesKey_0.2.2.2.2.2.2.2.2.2.2.2.2.2.2.2.2.1
theorem dX8_takesKey_25 : decode cX8_takesKey 25 = .ok (.aload_n 0, 1) := edX8_takesKey_0.2.2.2.2.2.2.2.2.2.2.2.2.2.2.2.2.2.1
theorem dX8_takesKey_26 : decode cX8_takesKey 26 = .ok (.getfield 36, 3) := edX8_takesKey_0.2.2.2.2.2.2.2.2.2.2.2.2.2.2.2.2.2.2.1
theorem dX8_takesKey_29 : decode cX8_takesKey 29 = .ok (.iload_n 1, 1) := edX8_takesKey_0.2.2.2.2.2.2.2.2.2.2.2.2.2.2.2.2.2.2.2.1
theorem dX8_takesKey_30 : decode cX8_takesKey 30 = .ok (.iaload, 1) := edX8_takesKey_0.2.2.2.2.2.2.2.2.2.2.2.2.2.2.2.2.2.2.2.2.1
theorem dX8_takesKey_31 : decode cX8_takesKey 31 = .ok (.isub, 1) := edX8_takesKey_0.2.2.2.2.2.2.2.2.2.2.2.2.2.2.2.2.2.2.2.2.2.1
theorem dX8_takesKey_32 : decode cX8_takesKey 32 = .ok (.istore_n 2, 1) := edX8_takesKey_0.2.2.2.2.2.2.2.2.2.2.2.2.2.2.2.2.2.2.2.2.2.2.1
theorem dX8_takesKey_33 : decode cX8_takesKey 33 = .ok (.iload_n 2, 1) := edX8_takesKey_0.2.2.2.2.2.2.2.2.2.2.2.2.2.2.2.2.2.2.2.2.2.2.2
theorem edX8_takesKey_34 : (decode cX8_takesKey 34 = .ok (.aload_n 0, 1)) ∧ (decode cX8_takesKey 35 = .ok (.getfield 195, 3)) ∧ (decode cX8_takesKey 38 = .ok (.aload_n 0, 1)) ∧ (decode cX8_takesKey 39 = .ok (.getfield 198, 3)) ∧ (decode cX8_takesKey 42 = .ok (.isub, 1)) ∧ (decode cX8_takesKey 43 = .ok (.if_icmp .ne 7, 3)) ∧ (decode cX8_takesKey 46 = .ok (.iconst 1, 1)) ∧ (decode cX8_takesKey 47 = .ok (.goto 4, 3)) ∧ (decode cX8_takesKey 50 = .ok (.iconst 0, 1)) ∧ (decode cX8_takesKey 51 = .ok (.istore_n 3, 1)) ∧ (decode cX8_takesKey 52 = .ok (.iconst 0, 1)) ∧ (decode cX8_takesKey 53 = .ok (.istore 4, 2)) ∧ (decode cX8_takesKey 55 = .ok (.iload 4, 2)) ∧ (decode cX8_takesKey 57 = .ok (.iload_n 2, 1)) ∧ (decode cX8_takesKey 58 = .ok (.if_icmp .ge 48, 3)) ∧ (decode cX8_takesKey 61 = .ok (.iload_n 3, 1)) ∧ (decode cX8_takesKey 62 = .ok (.ifCond .eq 44, 3)) ∧ (decode cX8_takesKey 65 = .ok (.aload_n 0, 1)) ∧ (decode cX8_takesKey 66 = .ok (.getfield 29, 3)) ∧ (decode cX8_takesKey 69 = .ok (.aload_n 0, 1)) ∧ (decode cX8_takesKey 70 = .ok (.getfield 198, 3)) ∧ (decode cX8_takesKey 73 = .ok (.iload 4, 2)) ∧ (decode cX8_takesKey 75 = .ok (.iadd, 1)) ∧ (decode cX8_takesKey 76 = .ok (.iaload, 1)) := by decide +kernel
theorem dX8_takesKey_34 : decode cX8_takesKey 34 = .ok (.aload_n 0, 1) := edX8_takesKey_34.1
theorem dX8_takesKey_35 : decode cX8_takesKey 35 = .ok (.getfield 195, 3) := edX8_takesKey_34.2.1
theorem dX8_takesKey_38 : decode cX8_takesKey 38 = .ok (.aload_n 0, 1) := edX8_takesKey_34.2.2.1
theorem dX8_takesKey_39 : decode cX8_takesKey 39 = .ok (.getfield 198, 3) := edX8_takesKey_34.2.2.2.1
theorem dX8_takesKey_42 : decode cX8_takesKey 42 = .ok (.isub, 1) := edX8_takesKey_34.2.2.2.2.1
theorem dX8_takesKey_43 : decode cX8_takesKey 43 = .ok (.if_icmp .ne 7, 3) := edX8_takesKey_34.2.2.2.2.2.1
theorem dX8_takesKey_46 : decode cX8_takesKey 46 = .ok (.iconst 1, 1) := edX8_takesKey_34.2.2.2.2.2.2.1
theorem dX8_takesKey_47 : decode cX8_takesKey 47 = .ok (.goto 4, 3) := edX8_takesKey_34.2.2.2.2.2.2.2.1
theorem dX8_takesKey_50 : decode cX8_takesKey 50 = .ok (.iconst 0, 1) := edX8_takesKey_34.2.2.2.2.2.2.2.2.1
theorem dX8_takesKey_51 : decode cX8_takesKey 51 = .ok (.istore_n 3, 1) := edX8_takesKey_34.2.2.2.2.2.2.2.2.2.1
theorem dX8_takesKey_52 : decode cX8_takesKey 52 = .ok (.iconst 0, 1) := edX8_takesKey_34.2.2.2.2.2.2.2.2.2.2.1
theorem dX8_takesKey_53 : decode cX8_takesKey 53 = .ok (.istore 4, 2) := edX8_takesKey_34.2.2.2.2.2.2.2.2.2.2.2.1
theorem dX8_takesKey_55 : decode cX8_takesKey 55 = .ok (.iload 4, 2) := edX8_takesKey_34.2.2.2.2.2.2.2.2.2.2.2.2.1
theorem dX8_takesKey_57 : decode cX8_takesKey 57 = .ok (.iload_n 2, 1) := edX8_takesKey_34.2.2.2.2.2.2.2.2.2.2.2.2.2.1
theorem dX8_takesKey_58 : decode cX8_takesKey 58 = .ok (.if_icmp .ge 48, 3) := edX8_takesKey_34.2.2.2.2.2.2.2.2.2.2.2.2.2.2.1
theorem dX8_takesKey_61 : decode cX8_takesKey 61 = .ok (.iload_n 3, 1) := edX8_takesKey_34.2.2.2.2.2.2.2.2.2.2.2.2.2.2.2.1
theorem dX8_takesKey_62 : decode cX8_takesKey 62 = .ok (.ifCond .eq 44, 3) := edX8_takesKey_34.2.2.2.2.2.2.2.2.2.2.2.2.2.2.2.2.1
theorem dX8_takesKey_65 : decode cX8_takesKey 65 = .ok (.aload_n 0, 1) := edX8_takesKey_34.2.2.2.2.2.2.2.2.2.2.2.2.2.2.2.2.2.1
theorem dX8_takesKey_66 : decode cX8_takesKey 66 = .ok (.getfield 29, 3) := edX8_takesKey_34.2.2.2.2.2.2.2.2.2.2.2.2.2.2.2.2.2.2.1
theorem dX8_takesKey_69 : decode cX8_takesKey 69 = .ok (.aload_n 0, 1) := edX8_takesKey_34.2.2.2.2.2.2.2.2.2.2.2.2.2.2.2.2.2.2.2.1
theorem dX8_takesKey_70 : decode cX8_takesKey 70 = .ok (.getfield 198, 3) := edX8_takesKey_34.2.2.2.2.2.2.2.2.2.2.2.2.2.2.2.2.2.2.2.2.1
theorem dX8_takesKey_73 : decode cX8_takesKey 73 = .ok (.iload 4, 2) := edX8_takesKey_34.2.2.2.2.2.2.2.2.2.2.2.2.2.2.2.2.2.2.2.2.2.1
theorem dX8_takesKey_75 : decode cX8_takesKey 75 = .ok (.iadd, 1) := edX8_takesKey_34.2.2.2.2.2.2.2.2.2.2.2.2.2.2.2.2.2.2.2.2.2.2.1
theorem dX8_takesKey_76 : decode cX8_takesKey 76 = .ok (.iaload, 1) := edX8_takesKey_34.2.2.2.2.2.2.2.2.2.2.2.2.2.2.2.2.2.2.2.2.2.2.2
theorem edX8_takesKey_77 : (decode cX8_takesKey 77 = .ok (.aload_n 0, 1)) ∧ (decode cX8_takesKey 78 = .ok (.getfield 32, 3)) ∧ (decode cX8_takesKey 81 = .ok (.aload_n 0, 1)) ∧ (decode cX8_takesKey 82 = .ok (.getfield 36, 3)) ∧ (decode cX8_takesKey 85 = .ok (.iload_n 1, 1)) ∧ (decode cX8_takesKey 86 = .ok (.iaload, 1)) ∧ (decode cX8_takesKey 87 = .ok (.iload 4, 2)) ∧ (decode cX8_takesKey 89 = .ok (.iadd, 1)) ∧ (decode cX8_takesKey 90 = .ok (.caload, 1)) ∧ (decode cX8_takesKey 91 = .ok (.if_icmp .ne 7, 3)) ∧ (decode cX8_takesKey 94 = .ok (.iconst 1, 1)) ∧ (decode cX8_takesKey 95 = .ok (.goto 4, 3)) ∧ (decode cX8_takesKey 98 = .ok (.iconst 0, 1)) ∧ (decode cX8_takesKey 99 = .ok (.istore_n 3, 1)) ∧ (decode cX8_takesKey 100 = .ok (.iinc 4 1, 3)) ∧ (decode cX8_takesKey 103 = .ok (.goto (-48), 3)) ∧ (decode cX8_takesKey 106 = .ok (.iload_n 3, 1)) ∧ (decode cX8_takesKey 107 = .ok (.ifCond .eq 14, 3)) ∧ (decode cX8_takesKey 110 = .ok (.aload_n 0, 1)) ∧ (decode cX8_takesKey 111 = .ok (.iload_n 1, 1)) ∧ (decode cX8_takesKey 112 = .ok (.putfield 216, 3)) ∧ (decode cX8_takesKey 115 = .ok (.aload_n 0, 1)) ∧ (decode cX8_takesKey 116 = .ok (.invokevirtual 219, 3)) ∧ (decode cX8_takesKey 119 = .ok (.iconst 1, 1)) := by decide +kernel
theorem dX8_takesKey_77 : decode cX8_takesKey 77 = .ok (.aload_n 0, 1) := edX8_takesKey_77.1
theorem dX8_takesKey_78 : decode cX8_takesKey 78 = .ok (.getfield 32, 3) := edX8_takesKey_77.2.1
theorem dX8_takesKey_81 : decode cX8_takesKey 81 = .ok (.aload_n 0, 1) := edX8_takesKey_77.2.2.1
theorem dX8_takesKey_82 : decode cX8_takesKey 82 = .ok (.getfield 36, 3) := edX8_takesKey_77.2.2.2.1
theorem dX8_takesKey_85 : decode cX8_takesKey 85 = .ok (.iload_n 1, 1) := edX8_takesKey_77.2.2.2.2.1
theorem dX8_takesKey_86 : decode cX8_takesKey 86 = .ok (.iaload, 1) := edX8_takesKey_77.2.2.2.2.2.1
theorem dX8_takesKey_87 : decode cX8_takesKey 87 = .ok (.iload 4, 2) := edX8_takesKey_77.2.2.2.2.2.2.1
theorem dX8_takesKey_89 : decode cX8_takesKey 89 = .ok (.iadd, 1) := edX8_takesKey_77.2.2.2.2.2.2.2.1
theorem dX8_takesKey_90 : decode cX8_takesKey 90 = .ok (.caload, 1) := edX8_takesKey_77.2.2.2.2.2.2.2.2.1
theorem dX8_takesKey_91 : decode cX8_takesKey 91 = .ok (.if_icmp .ne 7, 3) := edX8_takesKey_77.2.2.2.2.2.2.2.2.2.1
theorem dX8_takesKey_94 : decode cX8_takesKey 94 = .ok (.iconst 1, 1) := edX8_takesKey_77.2.2.2.2.2.2.2.2.2.2.1
theorem dX8_takesKey_95 : decode cX8_takesKey 95 = .ok (.goto 4, 3) := edX8_takesKey_77.2.2.2.2.2.2.2.2.2.2.2.1
theorem dX8_takesKey_98 : decode cX8_takesKey 98 = .ok (.iconst 0, 1) := edX8_takesKey_77.2.2.2.2.2.2.2.2.2.2.2.2.1
theorem dX8_takesKey_99 : decode cX8_takesKey 99 = .ok (.istore_n 3, 1) := edX8_takesKey_77.2.2.2.2.2.2.2.2.2.2.2.2.2.1
theorem dX8_takesKey_100 : decode cX8_takesKey 100 = .ok (.iinc 4 1, 3) := edX8_takesKey_77.2.2.2.2.2.2.2.2.2.2.2.2.2.2.1
theorem dX8_takesKey_103 : decode cX8_takesKey 103 = .ok (.goto (-48), 3) := edX8_takesKey_77.2.2.2.2.2.2.2.2.2.2.2.2.2.2.2.1
theorem dX8_takesKey_106 : decode cX8_takesKey 106 = .ok (.iload_n 3, 1) := edX8_takesKey_77.2.2.2.2.2.2.2.2.2.2.2.2.2.2.2.2.1
theorem dX8_takesKey_107 : decode cX8_takesKey 107 = .ok (.ifCond .eq 14, 3) := edX8_takesKey_77.2.2.2.2.2.2.2.2.2.2.2.2.2.2.2.2.2.1
theorem dX8_takesKey_110 : decode cX8_takesKey 110 = .ok (.aload_n 0, 1) := edX8_takesKey_77.2.2.2.2.2.2.2.2.2.2.2.2.2.2.2.2.2.2.1
theorem dX8_takesKey_111 : decode cX8_takesKey 111 = .ok (.iload_n 1, 1) := edX8_takesKey_77.2.2.2.2.2.2.2.2.2.2.2.2.2.2.2.2.2.2.2.1
theorem dX8_takesKey_112 : decode cX8_takesKey 112 = .ok (.putfield 216, 3) := edX8_takesKey_77.2.2.2.2.2.2.2.2.2.2.2.2.2.2.2.2.2.2.2.2.1
theorem dX8_takesKey_115 : decode cX8_takesKey 115 = .ok (.aload_n 0, 1) := edX8_takesKey_77.2.2.2.2.2.2.2.2.2.2.2.2.2.2.2.2.2.2.2.2.2.1
theorem dX8_takesKey_116 : decode cX8_takesKey 116 = .ok (.invokevirtual 219, 3) := edX8_takesKey_77.2.2.2.2.2.2.2.2.2.2.2.2.2.2.2.2.2.2.2.2.2.2.1
theorem dX8_takesKey_119 : decode cX8_takesKey 119 = .ok (.iconst 1, 1) := edX8_takesKey_77.2.2.2.2.2.2.2.2.2.2.2.2.2.2.2.2.2.2.2.2.2.2.2
theorem edX8_takesKey_120 : (decode cX8_takesKey 120 = .ok (.ireturn, 1)) ∧ (decode cX8_takesKey 121 = .ok (.iinc 1 1, 3)) ∧ (decode cX8_takesKey 124 = .ok (.goto (-112), 3)) ∧ (decode cX8_takesKey 127 = .ok (.iconst 0, 1)) ∧ (decode cX8_takesKey 128 = .ok (.ireturn, 1)) := by decide +kernel
theorem dX8_takesKey_120 : decode cX8_takesKey 120 = .ok (.ireturn, 1) := edX8_takesKey_120.1
theorem dX8_takesKey_121 : decode cX8_takesKey 121 = .ok (.iinc 1 1, 3) := edX8_takesKey_120.2.1
theorem dX8_takesKey_124 : decode cX8_takesKey 124 = .ok (.goto (-112), 3) := edX8_takesKey_120.2.2.1
theorem dX8_takesKey_127 : decode cX8_takesKey 127 = .ok (.iconst 0, 1) := edX8_takesKey_120.2.2.2.1
theorem dX8_takesKey_128 : decode cX8_takesKey 128 = .ok (.ireturn, 1) := edX8_takesKey_120.2.2.2.2
theorem edX8_nameOf_0 : (decode cX8_nameOf 0 = .ok (.aload_n 0, 1)) ∧ (decode cX8_nameOf 1 = .ok (.getfield 216, 3)) ∧ (decode cX8_nameOf 4 = .ok (.lookupswitch 82 #[(0, 28), (1, 60)], 28)) ∧ (decode cX8_nameOf 32 = .ok (.iload_n 1, 1)) ∧ (decode cX8_nameOf 33 = .ok (.bipush 112, 2)) ∧ (decode cX8_nameOf 35 = .ok (.if_icmp .ne 7, 3)) ∧ (decode cX8_nameOf 38 = .ok (.iconst 0, 1)) ∧ (decode cX8_nameOf 39 = .ok (.goto 24, 3)) ∧ (decode cX8_nameOf 42 = .ok (.iload_n 1, 1)) ∧ (decode cX8_nameOf 43 = .ok (.bipush 104, 2)) ∧ (decode cX8_nameOf 45 = .ok (.if_icmp .ne 7, 3)) ∧ (decode cX8_nameOf 48 = .ok (.iconst 1, 1)) ∧ (decode cX8_nameOf 49 = .ok (.goto 14, 3)) ∧ (decode cX8_nameOf 52 = .ok (.iload_n 1, 1)) ∧ (decode cX8_nameOf 53 = .ok (.bipush 115, 2)) ∧ (decode cX8_nameOf 55 = .ok (.if_icmp .ne 7, 3)) ∧ (decode cX8_nameOf 58 = .ok (.iconst 2, 1)) ∧ (decode cX8_nameOf 59 = .ok (.goto 4, 3)) ∧ (decode cX8_nameOf 62 = .ok (.iconst (-1), 1)) ∧ (decode cX8_nameOf 63 = .ok (.ireturn, 1)) ∧ (decode cX8_nameOf 64 = .ok (.iload_n 1, 1)) ∧ (decode cX8_nameOf 65 = .ok (.bipush 108, 2)) ∧ (decode cX8_nameOf 67 = .ok (.if_icmp .ne 7, 3)) ∧ (decode cX8_nameOf 70 = .ok (.iconst 0, 1)) := by decide +kernel
theorem dX8_nameOf_0 : decode cX8_nameOf 0 = .ok (.aload_n 0, 1) := edX8_nameOf_0.1
theorem dX8_nameOf_1 : decode cX8_nameOf 1 = .ok (.getfield 216, 3) := edX8_nameOf_0.2.1
theorem dX8_nameOf_4 : decode cX8_nameOf 4 = .ok (.lookupswitch 82 #[(0, 28), (1, 60)], 28) := edX8_nameOf_0.2.2.1
theorem dX8_nameOf_32 : decode cX8_nameOf 32 = .ok (.iload_n 1, 1) := edX8_nameOf_0.2.2.2.1
theorem dX8_nameOf_33 : decode cX8_nameOf 33 = .ok (.bipush 112, 2) := edX8_nameOf_0.2.2.2.2.1
theorem dX8_nameOf_35 : decode cX8_nameOf 35 = .ok (.if_icmp .ne 7, 3) := edX8_nameOf_0.2.2.2.2.2.1
theorem dX8_nameOf_38 : decode cX8_nameOf 38 = .ok (.iconst 0, 1) := edX8_nameOf_0.2.2.2.2.2.2.1
theorem dX8_nameOf_39 : decode cX8_nameOf 39 = .ok (.goto 24, 3) := edX8_nameOf_0.2.2.2.2.2.2.2.1
theorem dX8_nameOf_42 : decode cX8_nameOf 42 = .ok (.iload_n 1, 1) := edX8_nameOf_0.2.2.2.2.2.2.2.2.1
theorem dX8_nameOf_43 : decode cX8_nameOf 43 = .ok (.bipush 104, 2) := edX8_nameOf_0.2.2.2.2.2.2.2.2.2.1
theorem dX8_nameOf_45 : decode cX8_nameOf 45 = .ok (.if_icmp .ne 7, 3) := edX8_nameOf_0.2.2.2.2.2.2.2.2.2.2.1
theorem dX8_nameOf_48 : decode cX8_nameOf 48 = .ok (.iconst 1, 1) := edX8_nameOf_0.2.2.2.2.2.2.2.2.2.2.2.1
theorem dX8_nameOf_49 : decode cX8_nameOf 49 = .ok (.goto 14, 3) := edX8_nameOf_0.2.2.2.2.2.2.2.2.2.2.2.2.1
theorem dX8_nameOf_52 : decode cX8_nameOf 52 = .ok (.iload_n 1, 1) := edX8_nameOf_0.2.2.2.2.2.2.2.2.2.2.2.2.2.1
theorem dX8_nameOf_53 : decode cX8_nameOf 53 = .ok (.bipush 115, 2) := edX8_nameOf_0.2.2.2.2.2.2.2.2.2.2.2.2.2.2.1
theorem dX8_nameOf_55 : decode cX8_nameOf 55 = .ok (.if_icmp .ne 7, 3) := edX8_nameOf_0.2.2.2.2.2.2.2.2.2.2.2.2.2.2.2.1
theorem dX8_nameOf_58 : decode cX8_nameOf 58 = .ok (.iconst 2, 1) := edX8_nameOf_0.2.2.2.2.2.2.2.2.2.2.2.2.2.2.2.2.1
theorem dX8_nameOf_59 : decode cX8_nameOf 59 = .ok (.goto 4, 3) := edX8_nameOf_0.2.2.2.2.2.2.2.2.2.2.2.2.2.2.2.2.2.1
theorem dX8_nameOf_62 : decode cX8_nameOf 62 = .ok (.iconst (-1), 1) := edX8_nameOf_0.2.2.2.2.2.2.2.2.2.2.2.2.2.2.2.2.2.2.1
theorem dX8_nameOf_63 : decode cX8_nameOf 63 = .ok (.ireturn, 1) := edX8_nameOf_0.2.2.2.2.2.2.2.2.2.2.2.2.2.2.2.2.2.2.2.1
theorem dX8_nameOf_64 : decode cX8_nameOf 64 = .ok (.iload_n 1, 1) := edX8_nameOf_0.2.2.2.2.2.2.2.2.2.2.2.2.2.2.2.2.2.2.2.2.1
theorem dX8_nameOf_65 : decode cX8_nameOf 65 = .ok (.bipush 108, 2) := edX8_nameOf_0.2.2.2.2.2.2.2.2.2.2.2.2.2.2.2.2.2.2.2.2.2.1
theorem dX8_nameOf_67 : decode cX8_nameOf 67 = .ok (.if_icmp .ne 7, 3) := edX8_nameOf_0.2.2.2.2.2.2.2.2.2.2.2.2.2.2.2.2.2.2.2.2.2.2.1
theorem dX8_nameOf_70 : decode cX8_nameOf 70 = .ok (.iconst 0, 1) := edX8_nameOf_0.2.2.2.2.2.2.2.2.2.2.2.2.2.2.2.2.2.2.2.2.2.2.2
theorem edX8_nameOf_71 : (decode cX8_nameOf 71 = .ok (.goto 14, 3)) ∧ (decode cX8_nameOf 74 = .ok (.iload_n 1, 1)) ∧ (decode cX8_nameOf 75 = .ok (.bipush 112, 2)) ∧ (decode cX8_nameOf 77 = .ok (.if_icmp .ne 7, 3)) ∧ (decode cX8_nameOf 80 = .ok (.iconst 1, 1)) ∧ (decode cX8_nameOf 81 = .ok (.goto 4, 3)) ∧ (decode cX8_nameOf 84 = .ok (.iconst (-1), 1)) ∧ (decode cX8_nameOf 85 = .ok (.ireturn, 1)) ∧ (decode cX8_nameOf 86 = .ok (.iload_n 1, 1)) ∧ (decode cX8_nameOf 87 = .ok (.bipush 121, 2)) ∧ (decode cX8_nameOf 89 = .ok (.if_icmp .ne 7, 3)) ∧ (decode cX8_nameOf 92 = .ok (.iconst 0, 1)) ∧ (decode cX8_nameOf 93 = .ok (.goto 14, 3)) ∧ (decode cX8_nameOf 96 = .ok (.iload_n 1, 1)) ∧ (decode cX8_nameOf 97 = .ok (.bipush 110, 2)) ∧ (decode cX8_nameOf 99 = .ok (.if_icmp .ne 7, 3)) ∧ (decode cX8_nameOf 102 = .ok (.iconst 1, 1)) ∧ (decode cX8_nameOf 103 = .ok (.goto 4, 3)) ∧ (decode cX8_nameOf 106 = .ok (.iconst (-1), 1)) ∧ (decode cX8_nameOf 107 = .ok (.ireturn, 1)) := by decide +kernel
theorem dX8_nameOf_71 : decode cX8_nameOf 71 = .ok (.goto 14, 3) := edX8_nameOf_71.1
theorem dX8_nameOf_74 : decode cX8_nameOf 74 = .ok (.iload_n 1, 1) := edX8_nameOf_71.2.1
theorem dX8_nameOf_75 : decode cX8_nameOf 75 = .ok (.bipush 112, 2) := edX8_nameOf_71.2.2.1
theorem dX8_nameOf_77 : decode cX8_nameOf 77 = .ok (.if_icmp .ne 7, 3) := edX8_nameOf_71.2.2.2.1
theorem dX8_nameOf_80 : decode cX8_nameOf 80 = .ok (.iconst 1, 1) := edX8_nameOf_71.2.2.2.2.1
theorem dX8_nameOf_81 : decode cX8_nameOf 81 = .ok (.goto 4, 3) := edX8_nameOf_71.2.2.2.2.2.1
theorem dX8_nameOf_84 : decode cX8_nameOf 84 = .ok (.iconst (-1), 1) := edX8_nameOf_71.2.2.2.2.2.2.1
theorem dX8_nameOf_85 : decode cX8_nameOf 85 = .ok (.ireturn, 1) := edX8_nameOf_71.2.2.2.2.2.2.2.1
theorem dX8_nameOf_86 : decode cX8_nameOf 86 = .ok (.iload_n 1, 1) := edX8_nameOf_71.2.2.2.2.2.2.2.2.1
theorem dX8_nameOf_87 : decode cX8_nameOf 87 = .ok (.bipush 121, 2) := edX8_nameOf_71.2.2.2.2.2.2.2.2.2.1
theorem dX8_nameOf_89 : decode cX8_nameOf 89 = .ok (.if_icmp .ne 7, 3) := edX8_nameOf_71.2.2.2.2.2.2.2.2.2.2.1
theorem dX8_nameOf_92 : decode cX8_nameOf 92 = .ok (.iconst 0, 1) := edX8_nameOf_71.2.2.2.2.2.2.2.2.2.2.2.1
theorem dX8_nameOf_93 : decode cX8_nameOf 93 = .ok (.goto 14, 3) := edX8_nameOf_71.2.2.2.2.2.2.2.2.2.2.2.2.1
theorem dX8_nameOf_96 : decode cX8_nameOf 96 = .ok (.iload_n 1, 1) := edX8_nameOf_71.2.2.2.2.2.2.2.2.2.2.2.2.2.1
theorem dX8_nameOf_97 : decode cX8_nameOf 97 = .ok (.bipush 110, 2) := edX8_nameOf_71.2.2.2.2.2.2.2.2.2.2.2.2.2.2.1
theorem dX8_nameOf_99 : decode cX8_nameOf 99 = .ok (.if_icmp .ne 7, 3) := edX8_nameOf_71.2.2.2.2.2.2.2.2.2.2.2.2.2.2.2.1
theorem dX8_nameOf_102 : decode cX8_nameOf 102 = .ok (.iconst 1, 1) := edX8_nameOf_71.2.2.2.2.2.2.2.2.2.2.2.2.2.2.2.2.1
theorem dX8_nameOf_103 : decode cX8_nameOf 103 = .ok (.goto 4, 3) := edX8_nameOf_71.2.2.2.2.2.2.2.2.2.2.2.2.2.2.2.2.2.1
theorem dX8_nameOf_106 : decode cX8_nameOf 106 = .ok (.iconst (-1), 1) := edX8_nameOf_71.2.2.2.2.2.2.2.2.2.2.2.2.2.2.2.2.2.2.1
theorem dX8_nameOf_107 : decode cX8_nameOf 107 = .ok (.ireturn, 1) := edX8_nameOf_71.2.2.2.2.2.2.2.2.2.2.2.2.2.2.2.2.2.2.2
theorem edX8_rank_0 : (decode cX8_rank 0 = .ok (.iload_n 0, 1)) ∧ (decode cX8_rank 1 = .ok (.iconst (-1), 1)) ∧ (decode cX8_rank 2 = .ok (.if_icmp .ne 7, 3)) ∧ (decode cX8_rank 5 = .ok (.iconst 1, 1)) ∧ (decode cX8_rank 6 = .ok (.goto 45, 3)) ∧ (decode cX8_rank 9 = .ok (.iload_n 0, 1)) ∧ (decode cX8_rank 10 = .ok (.bipush (-2), 2)) ∧ (decode cX8_rank 12 = .ok (.if_icmp .ne 7, 3)) ∧ (decode cX8_rank 15 = .ok (.iconst 2, 1)) ∧ (decode cX8_rank 16 = .ok (.goto 35, 3)) ∧ (decode cX8_rank 19 = .ok (.iload_n 0, 1)) ∧ (decode cX8_rank 20 = .ok (.bipush (-5), 2)) ∧ (decode cX8_rank 22 = .ok (.if_icmp .lt 7, 3)) ∧ (decode cX8_rank 25 = .ok (.iconst 3, 1)) ∧ (decode cX8_rank 26 = .ok (.goto 25, 3)) ∧ (decode cX8_rank 29 = .ok (.iload_n 0, 1)) ∧ (decode cX8_rank 30 = .ok (.bipush (-7), 2)) ∧ (decode cX8_rank 32 = .ok (.if_icmp .lt 7, 3)) ∧ (decode cX8_rank 35 = .ok (.iconst 4, 1)) ∧ (decode cX8_rank 36 = .ok (.goto 15, 3)) ∧ (decode cX8_rank 39 = .ok (.iload_n 0, 1)) ∧ (decode cX8_rank 40 = .ok (.bipush (-9), 2)) ∧ (decode cX8_rank 42 = .ok (.if_icmp .lt 7, 3)) ∧ (decode cX8_rank 45 = .ok (.iconst 5, 1)) := by decide +kernel
theorem dX8_rank_0 : decode cX8_rank 0 = .ok (.iload_n 0, 1) := edX8_rank_0.1
theorem dX8_rank_1 : decode cX8_rank 1 = .ok (.iconst (-1), 1) := edX8_rank_0.2.1
theorem dX8_rank_2 : decode cX8_rank 2 = .ok (.if_icmp .ne 7, 3) := edX8_rank_0.2.2.1
theorem dX8_rank_5 : decode cX8_rank 5 = .ok (.iconst 1, 1) := edX8_rank_0.2.2.2.1
theorem dX8_rank_6 : decode cX8_rank 6 = .ok (.goto 45, 3) := edX8_rank_0.2.2.2.2.1
theorem dX8_rank_9 : decode cX8_rank 9 = .ok (.iload_n 0, 1) := edX8_rank_0.2.2.2.2.2.1
theorem dX8_rank_10 : decode cX8_rank 10 = .ok (.bipush (-2), 2) := edX8_rank_0.2.2.2.2.2.2.1
theorem dX8_rank_12 : decode cX8_rank 12 = .ok (.if_icmp .ne 7, 3) := edX8_rank_0.2.2.2.2.2.2.2.1
theorem dX8_rank_15 : decode cX8_rank 15 = .ok (.iconst 2, 1) := edX8_rank_0.2.2.2.2.2.2.2.2.1
theorem dX8_rank_16 : decode cX8_rank 16 = .ok (.goto 35, 3) := edX8_rank_0.2.2.2.2.2.2.2.2.2.1
theorem dX8_rank_19 : decode cX8_rank 19 = .ok (.iload_n 0, 1) := edX8_rank_0.2.2.2.2.2.2.2.2.2.2.1
theorem dX8_rank_20 : decode cX8_rank 20 = .ok (.bipush (-5), 2) := edX8_rank_0.2.2.2.2.2.2.2.2.2.2.2.1
theorem dX8_rank_22 : decode cX8_rank 22 = .ok (.if_icmp .lt 7, 3) := edX8_rank_0.2.2.2.2.2.2.2.2.2.2.2.2.1
theorem dX8_rank_25 : decode cX8_rank 25 = .ok (.iconst 3, 1) := edX8_rank_0.2.2.2.2.2.2.2.2.2.2.2.2.2.1
theorem dX8_rank_26 : decode cX8_rank 26 = .ok (.goto 25, 3) := edX8_rank_0.2.2.2.2.2.2.2.2.2.2.2.2.2.2.1
theorem dX8_rank_29 : decode cX8_rank 29 = .ok (.iload_n 0, 1) := edX8_rank_0.2.2.2.2.2.2.2.2.2.2.2.2.2.2.2.1
theorem dX8_rank_30 : decode cX8_rank 30 = .ok (.bipush (-7), 2) := edX8_rank_0.2.2.2.2.2.2.2.2.2.2.2.2.2.2.2.2.1
theorem dX8_rank_32 : decode cX8_rank 32 = .ok (.if_icmp .lt 7, 3) := edX8_rank_0.2.2.2.2.2.2.2.2.2.2.2.2.2.2.2.2.2.1
theorem dX8_rank_35 : decode cX8_rank 35 = .ok (.iconst 4, 1) := edX8_rank_0.2.2.2.2.2.2.2.2.2.2.2.2.2.2.2.2.2.2.1
theorem dX8_rank_36 : decode cX8_rank 36 = .ok (.goto 15, 3) := edX8_rank_0.2.2.2.2.2.2.2.2.2.2.2.2.2.2.2.2.2.2.2.1
theorem dX8_rank_39 : decode cX8_rank 39 = .ok (.iload_n 0, 1) := edX8_rank_0.2.2.2.2.2.2.2.2.2.2.2.2.2.2.2.2.2.2.2.2.1
theorem dX8_rank_40 : decode cX8_rank 40 = .ok (.bipush (-9), 2) := edX8_rank_0.2.2.2.2.2.2.2.2.2.2.2.2.2.2.2.2.2.2.2.2.2.1
theorem dX8_rank_42 : decode cX8_rank 42 = .ok (.if_icmp .lt 7, 3) := edX8_rank_0.2.2.2.2.2.2.2.2.2.2.2.2.2.2.2.2.2.2.2.2.2.2.1
theorem dX8_rank_45 : decode cX8_rank 45 = .ok (.iconst 5, 1) := edX8_rank_0.2.2.2.2.2.2.2.2.2.2.2.2.2.2.2.2.2.2.2.2.2.2.2
theorem edX8_rank_46 : (decode cX8_rank 46 = .ok (.goto 5, 3)) ∧ (decode cX8_rank 49 = .ok (.bipush 6, 2)) ∧ (decode cX8_rank 51 = .ok (.ireturn, 1)) := by decide +kernel
theorem dX8_rank_46 : decode cX8_rank 46 = .ok (.goto 5, 3) := edX8_rank_46.1
theorem dX8_rank_49 : decode cX8_rank 49 = .ok (.bipush 6, 2) := edX8_rank_46.2.1
theorem dX8_rank_51 : decode cX8_rank 51 = .ok (.ireturn, 1) := edX8_rank_46.2.2
theorem edX8_settle_0 : (decode cX8_settle 0 = .ok (.aload_n 0, 1)) ∧ (decode cX8_settle 1 = .ok (.getfield 222, 3)) ∧ (decode cX8_settle 4 = .ok (.ifCond .le 78, 3)) ∧ (decode cX8_settle 7 = .ok (.aload_n 0, 1)) ∧ (decode cX8_settle 8 = .ok (.getfield 42, 3)) ∧ (decode cX8_settle 11 = .ok (.aload_n 0, 1)) ∧ (decode cX8_settle 12 = .ok (.getfield 222, 3)) ∧ (decode cX8_settle 15 = .ok (.iconst 1, 1)) ∧ (decode cX8_settle 16 = .ok (.isub, 1)) ∧ (decode cX8_settle 17 = .ok (.iaload, 1)) ∧ (decode cX8_settle 18 = .ok (.bipush (-11), 2)) ∧ (decode cX8_settle 20 = .ok (.if_icmp .eq 62, 3)) ∧ (decode cX8_settle 23 = .ok (.aload_n 0, 1)) ∧ (decode cX8_settle 24 = .ok (.getfield 42, 3)) ∧ (decode cX8_settle 27 = .ok (.aload_n 0, 1)) ∧ (decode cX8_settle 28 = .ok (.getfield 222, 3)) ∧ (decode cX8_settle 31 = .ok (.iconst 1, 1)) ∧ (decode cX8_settle 32 = .ok (.isub, 1)) ∧ (decode cX8_settle 33 = .ok (.iaload, 1)) ∧ (decode cX8_settle 34 = .ok (.invokestatic 225, 3)) ∧ (decode cX8_settle 37 = .ok (.iload_n 1, 1)) ∧ (decode cX8_settle 38 = .ok (.if_icmp .lt 44, 3)) ∧ (decode cX8_settle 41 = .ok (.aload_n 0, 1)) ∧ (decode cX8_settle 42 = .ok (.dup, 1)) := by decide +kernel
theorem dX8_settle_0 : decode cX8_settle 0 = .ok (.aload_n 0, 1) := edX8_settle_0.1
theorem dX8_settle_1 : decode cX8_settle 1 = .ok (.getfield 222, 3) := edX8_settle_0.2.1
theorem dX8_settle_4 : decode cX8_settle 4 = .ok (.ifCond .le 78, 3) := edX8_settle_0.2.2.1
theorem dX8_settle_7 : decode cX8_settle 7 = .ok (.aload_n 0, 1) := edX8_settle_0.2.2.2.1
theorem dX8_settle_8 : decode cX8_settle 8 = .ok (.getfield 42, 3) := edX8_settle_0.2.2.2.2.1
theorem dX8_settle_11 : decode cX8_settle 11 = .ok (.aload_n 0, 1) := edX8_settle_0.2.2.2.2.2.1
theorem dX8_settle_12 : decode cX8_settle 12 = .ok (.getfield 222, 3) := edX8_settle_0.2.2.2.2.2.2.1
theorem dX8_settle_15 : decode cX8_settle 15 = .ok (.iconst 1, 1) := edX8_settle_0.2.2.2.2.2.2.2.1
theorem dX8_settle_16 : decode cX8_settle 16 = .ok (.isub, 1) := edX8_settle_0.2.2.2.2.2.2.2.2.1
theorem dX8_settle_17 : decode cX8_settle 17 = .ok (.iaload, 1) := edX8_settle_0.2.2.2.2.2.2.2.2.2.1
theorem dX8_settle_18 : decode cX8_settle 18 = .ok (.bipush (-11), 2) := edX8_settle_0.2.2.2.2.2.2.2.2.2.2.1
theorem dX8_settle_20 : decode cX8_settle 20 = .ok (.if_icmp .eq 62, 3) := edX8_settle_0.2.2.2.2.2.2.2.2.2.2.2.1
theorem dX8_settle_23 : decode cX8_settle 23 = .ok (.aload_n 0, 1) := edX8_settle_0.2.2.2.2.2.2.2.2.2.2.2.2.1
theorem dX8_settle_24 : decode cX8_settle 24 = .ok (.getfield 42, 3) := edX8_settle_0.2.2.2.2.2.2.2.2.2.2.2.2.2.1
theorem dX8_settle_27 : decode cX8_settle 27 = .ok (.aload_n 0, 1) := edX8_settle_0.2.2.2.2.2.2.2.2.2.2.2.2.2.2.1
theorem dX8_settle_28 : decode cX8_settle 28 = .ok (.getfield 222, 3) := edX8_settle_0.2.2.2.2.2.2.2.2.2.2.2.2.2.2.2.1
theorem dX8_settle_31 : decode cX8_settle 31 = .ok (.iconst 1, 1) := edX8_settle_0.2.2.2.2.2.2.2.2.2.2.2.2.2.2.2.2.1
theorem dX8_settle_32 : decode cX8_settle 32 = .ok (.isub, 1) := edX8_settle_0.2.2.2.2.2.2.2.2.2.2.2.2.2.2.2.2.2.1
theorem dX8_settle_33 : decode cX8_settle 33 = .ok (.iaload, 1) := edX8_settle_0.2.2.2.2.2.2.2.2.2.2.2.2.2.2.2.2.2.2.1
theorem dX8_settle_34 : decode cX8_settle 34 = .ok (.invokestatic 225, 3) := edX8_settle_0.2.2.2.2.2.2.2.2.2.2.2.2.2.2.2.2.2.2.2.1
theorem dX8_settle_37 : decode cX8_settle 37 = .ok (.iload_n 1, 1) := edX8_settle_0.2.2.2.2.2.2.2.2.2.2.2.2.2.2.2.2.2.2.2.2.1
theorem dX8_settle_38 : decode cX8_settle 38 = .ok (.if_icmp .lt 44, 3) := edX8_settle_0.2.2.2.2.2.2.2.2.2.2.2.2.2.2.2.2.2.2.2.2.2.1
theorem dX8_settle_41 : decode cX8_settle 41 = .ok (.aload_n 0, 1) := edX8_settle_0.2.2.2.2.2.2.2.2.2.2.2.2.2.2.2.2.2.2.2.2.2.2.1
theorem dX8_settle_42 : decode cX8_settle 42 = .ok (.dup, 1) := edX8_settle_0.2.2.2.2.2.2.2.2.2.2.2.2.2.2.2.2.2.2.2.2.2.2.2
theorem edX8_settle_43 : (decode cX8_settle 43 = .ok (.getfield 222, 3)) ∧ (decode cX8_settle 46 = .ok (.iconst 1, 1)) ∧ (decode cX8_settle 47 = .ok (.isub, 1)) ∧ (decode cX8_settle 48 = .ok (.putfield 222, 3)) ∧ (decode cX8_settle 51 = .ok (.aload_n 0, 1)) ∧ (decode cX8_settle 52 = .ok (.getfield 39, 3)) ∧ (decode cX8_settle 55 = .ok (.aload_n 0, 1)) ∧ (decode cX8_settle 56 = .ok (.getfield 228, 3)) ∧ (decode cX8_settle 59 = .ok (.aload_n 0, 1)) ∧ (decode cX8_settle 60 = .ok (.getfield 42, 3)) ∧ (decode cX8_settle 63 = .ok (.aload_n 0, 1)) ∧ (decode cX8_settle 64 = .ok (.getfield 222, 3)) ∧ (decode cX8_settle 67 = .ok (.iaload, 1)) ∧ (decode cX8_settle 68 = .ok (.iastore, 1)) ∧ (decode cX8_settle 69 = .ok (.aload_n 0, 1)) ∧ (decode cX8_settle 70 = .ok (.dup, 1)) ∧ (decode cX8_settle 71 = .ok (.getfield 228, 3)) ∧ (decode cX8_settle 74 = .ok (.iconst 1, 1)) ∧ (decode cX8_settle 75 = .ok (.iadd, 1)) ∧ (decode cX8_settle 76 = .ok (.putfield 228, 3)) ∧ (decode cX8_settle 79 = .ok (.goto (-79), 3)) ∧ (decode cX8_settle 82 = .ok (.return_, 1)) := by decide +kernel
theorem dX8_settle_43 : decode cX8_settle 43 = .ok (.getfield 222, 3) := edX8_settle_43.1
theorem dX8_settle_46 : decode cX8_settle 46 = .ok (.iconst 1, 1) := edX8_settle_43.2.1
theorem dX8_settle_47 : decode cX8_settle 47 = .ok (.isub, 1) := edX8_settle_43.2.2.1
theorem dX8_settle_48 : decode cX8_settle 48 = .ok (.putfield 222, 3) := edX8_settle_43.2.2.2.1
theorem dX8_settle_51 : decode cX8_settle 51 = .ok (.aload_n 0, 1) := edX8_settle_43.2.2.2.2.1
theorem dX8_settle_52 : decode cX8_settle 52 = .ok (.getfield 39, 3) := edX8_settle_43.2.2.2.2.2.1
theorem dX8_settle_55 : decode cX8_settle 55 = .ok (.aload_n 0, 1) := edX8_settle_43.2.2.2.2.2.2.1
theorem dX8_settle_56 : decode cX8_settle 56 = .ok (.getfield 228, 3) := edX8_settle_43.2.2.2.2.2.2.2.1
theorem dX8_settle_59 : decode cX8_settle 59 = .ok (.aload_n 0, 1) := edX8_settle_43.2.2.2.2.2.2.2.2.1
theorem dX8_settle_60 : decode cX8_settle 60 = .ok (.getfield 42, 3) := edX8_settle_43.2.2.2.2.2.2.2.2.2.1
theorem dX8_settle_63 : decode cX8_settle 63 = .ok (.aload_n 0, 1) := edX8_settle_43.2.2.2.2.2.2.2.2.2.2.1
theorem dX8_settle_64 : decode cX8_settle 64 = .ok (.getfield 222, 3) := edX8_settle_43.2.2.2.2.2.2.2.2.2.2.2.1
theorem dX8_settle_67 : decode cX8_settle 67 = .ok (.iaload, 1) := edX8_settle_43.2.2.2.2.2.2.2.2.2.2.2.2.1
theorem dX8_settle_68 : decode cX8_settle 68 = .ok (.iastore, 1) := edX8_settle_43.2.2.2.2.2.2.2.2.2.2.2.2.2.1
theorem dX8_settle_69 : decode cX8_settle 69 = .ok (.aload_n 0, 1) := edX8_settle_43.2.2.2.2.2.2.2.2.2.2.2.2.2.2.1
theorem dX8_settle_70 : decode cX8_settle 70 = .ok (.dup, 1) := edX8_settle_43.2.2.2.2.2.2.2.2.2.2.2.2.2.2.2.1
theorem dX8_settle_71 : decode cX8_settle 71 = .ok (.getfield 228, 3) := edX8_settle_43.2.2.2.2.2.2.2.2.2.2.2.2.2.2.2.2.1
theorem dX8_settle_74 : decode cX8_settle 74 = .ok (.iconst 1, 1) := edX8_settle_43.2.2.2.2.2.2.2.2.2.2.2.2.2.2.2.2.2.1
theorem dX8_settle_75 : decode cX8_settle 75 = .ok (.iadd, 1) := edX8_settle_43.2.2.2.2.2.2.2.2.2.2.2.2.2.2.2.2.2.2.1
theorem dX8_settle_76 : decode cX8_settle 76 = .ok (.putfield 228, 3) := edX8_settle_43.2.2.2.2.2.2.2.2.2.2.2.2.2.2.2.2.2.2.2.1
theorem dX8_settle_79 : decode cX8_settle 79 = .ok (.goto (-79), 3) := edX8_settle_43.2.2.2.2.2.2.2.2.2.2.2.2.2.2.2.2.2.2.2.2.1
theorem dX8_settle_82 : decode cX8_settle 82 = .ok (.return_, 1) := edX8_settle_43.2.2.2.2.2.2.2.2.2.2.2.2.2.2.2.2.2.2.2.2.2
theorem edX8_signHere_0 : (decode cX8_signHere 0 = .ok (.aload_n 0, 1)) ∧ (decode cX8_signHere 1 = .ok (.getfield 204, 3)) ∧ (decode cX8_signHere 4 = .ok (.iconst 3, 1)) ∧ (decode cX8_signHere 5 = .ok (.if_icmp .eq 5, 3)) ∧ (decode cX8_signHere 8 = .ok (.iconst 0, 1)) ∧ (decode cX8_signHere 9 = .ok (.ireturn, 1)) ∧ (decode cX8_signHere 10 = .ok (.aload_n 0, 1)) ∧ (decode cX8_signHere 11 = .ok (.getfield 210, 3)) ∧ (decode cX8_signHere 14 = .ok (.lookupswitch 108 #[(38, 84), (42, 102), (43, 96), (45, 99), (47, 105), (60, 87), (61, 90), (62, 93), (124, 82)], 82)) ∧ (decode cX8_signHere 96 = .ok (.iconst (-1), 1)) ∧ (decode cX8_signHere 97 = .ok (.ireturn, 1)) ∧ (decode cX8_signHere 98 = .ok (.bipush (-2), 2)) ∧ (decode cX8_signHere 100 = .ok (.ireturn, 1)) ∧ (decode cX8_signHere 101 = .ok (.bipush (-3), 2)) ∧ (decode cX8_signHere 103 = .ok (.ireturn, 1)) ∧ (decode cX8_signHere 104 = .ok (.bipush (-4), 2)) ∧ (decode cX8_signHere 106 = .ok (.ireturn, 1)) ∧ (decode cX8_signHere 107 = .ok (.bipush (-5), 2)) ∧ (decode cX8_signHere 109 = .ok (.ireturn, 1)) ∧ (decode cX8_signHere 110 = .ok (.bipush (-6), 2)) ∧ (decode cX8_signHere 112 = .ok (.ireturn, 1)) ∧ (decode cX8_signHere 113 = .ok (.bipush (-7), 2)) ∧ (decode cX8_signHere 115 = .ok (.ireturn, 1)) ∧ (decode cX8_signHere 116 = .ok (.bipush (-8), 2)) := by decide +kernel
theorem dX8_signHere_0 : decode cX8_signHere 0 = .ok (.aload_n 0, 1) := edX8_signHere_0.1
theorem dX8_signHere_1 : decode cX8_signHere 1 = .ok (.getfield 204, 3) := edX8_signHere_0.2.1
theorem dX8_signHere_4 : decode cX8_signHere 4 = .ok (.iconst 3, 1) := edX8_signHere_0.2.2.1
theorem dX8_signHere_5 : decode cX8_signHere 5 = .ok (.if_icmp .eq 5, 3) := edX8_signHere_0.2.2.2.1
theorem dX8_signHere_8 : decode cX8_signHere 8 = .ok (.iconst 0, 1) := edX8_signHere_0.2.2.2.2.1
theorem dX8_signHere_9 : decode cX8_signHere 9 = .ok (.ireturn, 1) := edX8_signHere_0.2.2.2.2.2.1
theorem dX8_signHere_10 : decode cX8_signHere 10 = .ok (.aload_n 0, 1) := edX8_signHere_0.2.2.2.2.2.2.1
theorem dX8_signHere_11 : decode cX8_signHere 11 = .ok (.getfield 210, 3) := edX8_signHere_0.2.2.2.2.2.2.2.1
theorem dX8_signHere_14 : decode cX8_signHere 14 = .ok (.lookupswitch 108 #[(38, 84), (42, 102), (43, 96), (45, 99), (47, 105), (60, 87), (61, 90), (62, 93), (124, 82)], 82) := edX8_signHere_0.2.2.2.2.2.2.2.2.1
theorem dX8_signHere_96 : decode cX8_signHere 96 = .ok (.iconst (-1), 1) := edX8_signHere_0.2.2.2.2.2.2.2.2.2.1
theorem dX8_signHere_97 : decode cX8_signHere 97 = .ok (.ireturn, 1) := edX8_signHere_0.2.2.2.2.2.2.2.2.2.2.1
theorem dX8_signHere_98 : decode cX8_signHere 98 = .ok (.bipush (-2), 2) := edX8_signHere_0.2.2.2.2.2.2.2.2.2.2.2.1
theorem dX8_signHere_100 : decode cX8_signHere 100 = .ok (.ireturn, 1) := edX8_signHere_0.2.2.2.2.2.2.2.2.2.2.2.2.1
theorem dX8_signHere_101 : decode cX8_signHere 101 = .ok (.bipush (-3), 2) := edX8_signHere_0.2.2.2.2.2.2.2.2.2.2.2.2.2.1
theorem dX8_signHere_103 : decode cX8_signHere 103 = .ok (.ireturn, 1) := edX8_signHere_0.2.2.2.2.2.2.2.2.2.2.2.2.2.2.1
theorem dX8_signHere_104 : decode cX8_signHere 104 = .ok (.bipush (-4), 2) := edX8_signHere_0.2.2.2.2.2.2.2.2.2.2.2.2.2.2.2.1
theorem dX8_signHere_106 : decode cX8_signHere 106 = .ok (.ireturn, 1) := edX8_signHere_0.2.2.2.2.2.2.2.2.2.2.2.2.2.2.2.2.1
theorem dX8_signHere_107 : decode cX8_signHere 107 = .ok (.bipush (-5), 2) := edX8_signHere_0.2.2.2.2.2.2.2.2.2.2.2.2.2.2.2.2.2.1
theorem dX8_signHere_109 : decode cX8_signHere 109 = .ok (.ireturn, 1) := edX8_signHere_0.2.2.2.2.2.2.2.2.2.2.2.2.2.2.2.2.2.2.1
theorem dX8_signHere_110 : decode cX8_signHere 110 = .ok (.bipush (-6), 2) := edX8_signHere_0.2.2.2.2.2.2.2.2.2.2.2.2.2.2.2.2.2.2.2.1
theorem dX8_signHere_112 : decode cX8_signHere 112 = .ok (.ireturn, 1) := edX8_signHere_0.2.2.2.2.2.2.2.2.2.2.2.2.2.2.2.2.2.2.2.2.1
theorem dX8_signHere_113 : decode cX8_signHere 113 = .ok (.bipush (-7), 2) := edX8_signHere_0.2.2.2.2.2.2.2.2.2.2.2.2.2.2.2.2.2.2.2.2.2.1
theorem dX8_signHere_115 : decode cX8_signHere 115 = .ok (.ireturn, 1) := edX8_signHere_0.2.2.2.2.2.2.2.2.2.2.2.2.2.2.2.2.2.2.2.2.2.2.1
theorem dX8_signHere_116 : decode cX8_signHere 116 = .ok (.bipush (-8), 2) := edX8_signHere_0.2.2.2.2.2.2.2.2.2.2.2.2.2.2.2.2.2.2.2.2.2.2.2
theorem edX8_signHere_118 : (decode cX8_signHere 118 = .ok (.ireturn, 1)) ∧ (decode cX8_signHere 119 = .ok (.bipush (-9), 2)) ∧ (decode cX8_signHere 121 = .ok (.ireturn, 1)) ∧ (decode cX8_signHere 122 = .ok (.iconst 0, 1)) ∧ (decode cX8_signHere 123 = .ok (.ireturn, 1)) := by decide +kernel
theorem dX8_signHere_118 : decode cX8_signHere 118 = .ok (.ireturn, 1) := edX8_signHere_118.1
theorem dX8_signHere_119 : decode cX8_signHere 119 = .ok (.bipush (-9), 2) := edX8_signHere_118.2.1
theorem dX8_signHere_121 : decode cX8_signHere 121 = .ok (.ireturn, 1) := edX8_signHere_118.2.2.1
theorem dX8_signHere_122 : decode cX8_signHere 122 = .ok (.iconst 0, 1) := edX8_signHere_118.2.2.2.1
theorem dX8_signHere_123 : decode cX8_signHere 123 = .ok (.ireturn, 1) := edX8_signHere_118.2.2.2.2
theorem edX8_takesPart_0 : (decode cX8_takesPart 0 = .ok (.aload_n 0, 1)) ∧ (decode cX8_takesPart 1 = .ok (.getfield 204, 3)) ∧ (decode cX8_takesPart 4 = .ok (.iconst 1, 1)) ∧ (decode cX8_takesPart 5 = .ok (.if_icmp .ne 31, 3)) ∧ (decode cX8_takesPart 8 = .ok (.aload_n 0, 1)) ∧ (decode cX8_takesPart 9 = .ok (.getfield 195, 3)) ∧ (decode cX8_takesPart 12 = .ok (.aload_n 0, 1)) ∧ (decode cX8_takesPart 13 = .ok (.getfield 198, 3)) ∧ (decode cX8_takesPart 16 = .ok (.isub, 1)) ∧ (decode cX8_takesPart 17 = .ok (.iconst 1, 1)) ∧ (decode cX8_takesPart 18 = .ok (.if_icmp .ne 18, 3)) ∧ (decode cX8_takesPart 21 = .ok (.aload_n 0, 1)) ∧ (decode cX8_takesPart 22 = .ok (.aload_n 0, 1)) ∧ (decode cX8_takesPart 23 = .ok (.getfield 210, 3)) ∧ (decode cX8_takesPart 26 = .ok (.invokevirtual 231, 3)) ∧ (decode cX8_takesPart 29 = .ok (.ifCond .lt 7, 3)) ∧ (decode cX8_takesPart 32 = .ok (.iconst 1, 1)) ∧ (decode cX8_takesPart 33 = .ok (.goto 4, 3)) ∧ (decode cX8_takesPart 36 = .ok (.iconst 0, 1)) ∧ (decode cX8_takesPart 37 = .ok (.istore_n 1, 1)) ∧ (decode cX8_takesPart 38 = .ok (.aload_n 0, 1)) ∧ (decode cX8_takesPart 39 = .ok (.getfield 204, 3)) ∧ (decode cX8_takesPart 42 = .ok (.iconst 2, 1)) ∧ (decode cX8_takesPart 43 = .ok (.if_icmp .eq 9, 3)) := by decide +kernel
theorem dX8_takesPart_0 : decode cX8_takesPart 0 = .ok (.aload_n 0, 1) := edX8_takesPart_0.1
theorem dX8_takesPart_1 : decode cX8_takesPart 1 = .ok (.getfield 204, 3) := edX8_takesPart_0.2.1
theorem dX8_takesPart_4 : decode cX8_takesPart 4 = .ok (.iconst 1, 1) := edX8_takesPart_0.2.2.1
theorem dX8_takesPart_5 : decode cX8_takesPart 5 = .ok (.if_icmp .ne 31, 3) := edX8_takesPart_0.2.2.2.1
theorem dX8_takesPart_8 : decode cX8_takesPart 8 = .ok (.aload_n 0, 1) := edX8_takesPart_0.2.2.2.2.1
theorem dX8_takesPart_9 : decode cX8_takesPart 9 = .ok (.getfield 195, 3) := edX8_takesPart_0.2.2.2.2.2.1
theorem dX8_takesPart_12 : decode cX8_takesPart 12 = .ok (.aload_n 0, 1) := edX8_takesPart_0.2.2.2.2.2.2.1
theorem dX8_takesPart_13 : decode cX8_takesPart 13 = .ok (.getfield 198, 3) := edX8_takesPart_0.2.2.2.2.2.2.2.1
theorem dX8_takesPart_16 : decode cX8_takesPart 16 = .ok (.isub, 1) := edX8_takesPart_0.2.2.2.2.2.2.2.2.1
theorem dX8_takesPart_17 : decode cX8_takesPart 17 = .ok (.iconst 1, 1) := edX8_takesPart_0.2.2.2.2.2.2.2.2.2.1
theorem dX8_takesPart_18 : decode cX8_takesPart 18 = .ok (.if_icmp .ne 18, 3) := edX8_takesPart_0.2.2.2.2.2.2.2.2.2.2.1
theorem dX8_takesPart_21 : decode cX8_takesPart 21 = .ok (.aload_n 0, 1) := edX8_takesPart_0.2.2.2.2.2.2.2.2.2.2.2.1
theorem dX8_takesPart_22 : decode cX8_takesPart 22 = .ok (.aload_n 0, 1) := edX8_takesPart_0.2.2.2.2.2.2.2.2.2.2.2.2.1
theorem dX8_takesPart_23 : decode cX8_takesPart 23 = .ok (.getfield 210, 3) := edX8_takesPart_0.2.2.2.2.2.2.2.2.2.2.2.2.2.1
theorem dX8_takesPart_26 : decode cX8_takesPart 26 = .ok (.invokevirtual 231, 3) := edX8_takesPart_0.2.2.2.2.2.2.2.2.2.2.2.2.2.2.1
theorem dX8_takesPart_29 : decode cX8_takesPart 29 = .ok (.ifCond .lt 7, 3) := edX8_takesPart_0.2.2.2.2.2.2.2.2.2.2.2.2.2.2.2.1
theorem dX8_takesPart_32 : decode cX8_takesPart 32 = .ok (.iconst 1, 1) := edX8_takesPart_0.2.2.2.2.2.2.2.2.2.2.2.2.2.2.2.2.1
theorem dX8_takesPart_33 : decode cX8_takesPart 33 = .ok (.goto 4, 3) := edX8_takesPart_0.2.2.2.2.2.2.2.2.2.2.2.2.2.2.2.2.2.1
theorem dX8_takesPart_36 : decode cX8_takesPart 36 = .ok (.iconst 0, 1) := edX8_takesPart_0.2.2.2.2.2.2.2.2.2.2.2.2.2.2.2.2.2.2.1
theorem dX8_takesPart_37 : decode cX8_takesPart 37 = .ok (.istore_n 1, 1) := edX8_takesPart_0.2.2.2.2.2.2.2.2.2.2.2.2.2.2.2.2.2.2.2.1
theorem dX8_takesPart_38 : decode cX8_takesPart 38 = .ok (.aload_n 0, 1) := edX8_takesPart_0.2.2.2.2.2.2.2.2.2.2.2.2.2.2.2.2.2.2.2.2.1
theorem dX8_takesPart_39 : decode cX8_takesPart 39 = .ok (.getfield 204, 3) := edX8_takesPart_0.2.2.2.2.2.2.2.2.2.2.2.2.2.2.2.2.2.2.2.2.2.1
theorem dX8_takesPart_42 : decode cX8_takesPart 42 = .ok (.iconst 2, 1) := edX8_takesPart_0.2.2.2.2.2.2.2.2.2.2.2.2.2.2.2.2.2.2.2.2.2.2.1
theorem dX8_takesPart_43 : decode cX8_takesPart 43 = .ok (.if_icmp .eq 9, 3) := edX8_takesPart_0.2.2.2.2.2.2.2.2.2.2.2.2.2.2.2.2.2.2.2.2.2.2.2
theorem edX8_takesPart_46 : (decode cX8_takesPart 46 = .ok (.iload_n 1, 1)) ∧ (decode cX8_takesPart 47 = .ok (.ifCond .ne 5, 3)) ∧ (decode cX8_takesPart 50 = .ok (.iconst 0, 1)) ∧ (decode cX8_takesPart 51 = .ok (.ireturn, 1)) ∧ (decode cX8_takesPart 52 = .ok (.aload_n 0, 1)) ∧ (decode cX8_takesPart 53 = .ok (.getfield 39, 3)) ∧ (decode cX8_takesPart 56 = .ok (.aload_n 0, 1)) ∧ (decode cX8_takesPart 57 = .ok (.getfield 228, 3)) ∧ (decode cX8_takesPart 60 = .ok (.aload_n 0, 1)) ∧ (decode cX8_takesPart 61 = .ok (.getfield 204, 3)) ∧ (decode cX8_takesPart 64 = .ok (.iconst 2, 1)) ∧ (decode cX8_takesPart 65 = .ok (.if_icmp .ne 10, 3)) ∧ (decode cX8_takesPart 68 = .ok (.aload_n 0, 1)) ∧ (decode cX8_takesPart 69 = .ok (.getfield 210, 3)) ∧ (decode cX8_takesPart 72 = .ok (.goto 15, 3)) ∧ (decode cX8_takesPart 75 = .ok (.sipush 10000, 3)) ∧ (decode cX8_takesPart 78 = .ok (.aload_n 0, 1)) ∧ (decode cX8_takesPart 79 = .ok (.aload_n 0, 1)) ∧ (decode cX8_takesPart 80 = .ok (.getfield 210, 3)) ∧ (decode cX8_takesPart 83 = .ok (.invokevirtual 231, 3)) ∧ (decode cX8_takesPart 86 = .ok (.iadd, 1)) ∧ (decode cX8_takesPart 87 = .ok (.iastore, 1)) ∧ (decode cX8_takesPart 88 = .ok (.aload_n 0, 1)) ∧ (decode cX8_takesPart 89 = .ok (.dup, 1)) := by decide +kernel
theorem dX8_takesPart_46 : decode cX8_takesPart 46 = .ok (.iload_n 1, 1) := edX8_takesPart_46.1
theorem dX8_takesPart_47 : decode cX8_takesPart 47 = .ok (.ifCond .ne 5, 3) := edX8_takesPart_46.2.1
theorem dX8_takesPart_50 : decode cX8_takesPart 50 = .ok (.iconst 0, 1) := edX8_takesPart_46.2.2.1
theorem dX8_takesPart_51 : decode cX8_takesPart 51 = .ok (.ireturn, 1) := edX8_takesPart_46.2.2.2.1
theorem dX8_takesPart_52 : decode cX8_takesPart 52 = .ok (.aload_n 0, 1) := edX8_takesPart_46.2.2.2.2.1
theorem dX8_takesPart_53 : decode cX8_takesPart 53 = .ok (.getfield 39, 3) := edX8_takesPart_46.2.2.2.2.2.1
theorem dX8_takesPart_56 : decode cX8_takesPart 56 = .ok (.aload_n 0, 1) := edX8_takesPart_46.2.2.2.2.2.2.1
theorem dX8_takesPart_57 : decode cX8_takesPart 57 = .ok (.getfield 228, 3) := edX8_takesPart_46.2.2.2.2.2.2.2.1
theorem dX8_takesPart_60 : decode cX8_takesPart 60 = .ok (.aload_n 0, 1) := edX8_takesPart_46.2.2.2.2.2.2.2.2.1
theorem dX8_takesPart_61 : decode cX8_takesPart 61 = .ok (.getfield 204, 3) := edX8_takesPart_46.2.2.2.2.2.2.2.2.2.1
theorem dX8_takesPart_64 : decode cX8_takesPart 64 = .ok (.iconst 2, 1) := edX8_takesPart_46.2.2.2.2.2.2.2.2.2.2.1
theorem dX8_takesPart_65 : decode cX8_takesPart 65 = .ok (.if_icmp .ne 10, 3) := edX8_takesPart_46.2.2.2.2.2.2.2.2.2.2.2.1
theorem dX8_takesPart_68 : decode cX8_takesPart 68 = .ok (.aload_n 0, 1) := edX8_takesPart_46.2.2.2.2.2.2.2.2.2.2.2.2.1
theorem dX8_takesPart_69 : decode cX8_takesPart 69 = .ok (.getfield 210, 3) := edX8_takesPart_46.2.2.2.2.2.2.2.2.2.2.2.2.2.1
theorem dX8_takesPart_72 : decode cX8_takesPart 72 = .ok (.goto 15, 3) := edX8_takesPart_46.2.2.2.2.2.2.2.2.2.2.2.2.2.2.1
theorem dX8_takesPart_75 : decode cX8_takesPart 75 = .ok (.sipush 10000, 3) := edX8_takesPart_46.2.2.2.2.2.2.2.2.2.2.2.2.2.2.2.1
theorem dX8_takesPart_78 : decode cX8_takesPart 78 = .ok (.aload_n 0, 1) := edX8_takesPart_46.2.2.2.2.2.2.2.2.2.2.2.2.2.2.2.2.1
theorem dX8_takesPart_79 : decode cX8_takesPart 79 = .ok (.aload_n 0, 1) := edX8_takesPart_46.2.2.2.2.2.2.2.2.2.2.2.2.2.2.2.2.2.1
theorem dX8_takesPart_80 : decode cX8_takesPart 80 = .ok (.getfield 210, 3) := edX8_takesPart_46.2.2.2.2.2.2.2.2.2.2.2.2.2.2.2.2.2.2.1
theorem dX8_takesPart_83 : decode cX8_takesPart 83 = .ok (.invokevirtual 231, 3) := edX8_takesPart_46.2.2.2.2.2.2.2.2.2.2.2.2.2.2.2.2.2.2.2.1
theorem dX8_takesPart_86 : decode cX8_takesPart 86 = .ok (.iadd, 1) := edX8_takesPart_46.2.2.2.2.2.2.2.2.2.2.2.2.2.2.2.2.2.2.2.2.1
theorem dX8_takesPart_87 : decode cX8_takesPart 87 = .ok (.iastore, 1) := edX8_takesPart_46.2.2.2.2.2.2.2.2.2.2.2.2.2.2.2.2.2.2.2.2.2.1
theorem dX8_takesPart_88 : decode cX8_takesPart 88 = .ok (.aload_n 0, 1) := edX8_takesPart_46.2.2.2.2.2.2.2.2.2.2.2.2.2.2.2.2.2.2.2.2.2.2.1
theorem dX8_takesPart_89 : decode cX8_takesPart 89 = .ok (.dup, 1) := edX8_takesPart_46.2.2.2.2.2.2.2.2.2.2.2.2.2.2.2.2.2.2.2.2.2.2.2
theorem edX8_takesPart_90 : (decode cX8_takesPart 90 = .ok (.getfield 228, 3)) ∧ (decode cX8_takesPart 93 = .ok (.iconst 1, 1)) ∧ (decode cX8_takesPart 94 = .ok (.iadd, 1)) ∧ (decode cX8_takesPart 95 = .ok (.putfield 228, 3)) ∧ (decode cX8_takesPart 98 = .ok (.aload_n 0, 1)) ∧ (decode cX8_takesPart 99 = .ok (.dup, 1)) ∧ (decode cX8_takesPart 100 = .ok (.getfield 234, 3)) ∧ (decode cX8_takesPart 103 = .ok (.iconst 1, 1)) ∧ (decode cX8_takesPart 104 = .ok (.iadd, 1)) ∧ (decode cX8_takesPart 105 = .ok (.putfield 234, 3)) ∧ (decode cX8_takesPart 108 = .ok (.aload_n 0, 1)) ∧ (decode cX8_takesPart 109 = .ok (.bipush 6, 2)) ∧ (decode cX8_takesPart 111 = .ok (.invokevirtual 237, 3)) ∧ (decode cX8_takesPart 114 = .ok (.aload_n 0, 1)) ∧ (decode cX8_takesPart 115 = .ok (.invokevirtual 219, 3)) ∧ (decode cX8_takesPart 118 = .ok (.iconst 1, 1)) ∧ (decode cX8_takesPart 119 = .ok (.ireturn, 1)) := by decide +kernel
theorem dX8_takesPart_90 : decode cX8_takesPart 90 = .ok (.getfield 228, 3) := edX8_takesPart_90.1
theorem dX8_takesPart_93 : decode cX8_takesPart 93 = .ok (.iconst 1, 1) := edX8_takesPart_90.2.1
theorem dX8_takesPart_94 : decode cX8_takesPart 94 = .ok (.iadd, 1) := edX8_takesPart_90.2.2.1
theorem dX8_takesPart_95 : decode cX8_takesPart 95 = .ok (.putfield 228, 3) := edX8_takesPart_90.2.2.2.1
theorem dX8_takesPart_98 : decode cX8_takesPart 98 = .ok (.aload_n 0, 1) := edX8_takesPart_90.2.2.2.2.1
theorem dX8_takesPart_99 : decode cX8_takesPart 99 = .ok (.dup, 1) := edX8_takesPart_90.2.2.2.2.2.1
theorem dX8_takesPart_100 : decode cX8_takesPart 100 = .ok (.getfield 234, 3) := edX8_takesPart_90.2.2.2.2.2.2.1
theorem dX8_takesPart_103 : decode cX8_takesPart 103 = .ok (.iconst 1, 1) := edX8_takesPart_90.2.2.2.2.2.2.2.1
theorem dX8_takesPart_104 : decode cX8_takesPart 104 = .ok (.iadd, 1) := edX8_takesPart_90.2.2.2.2.2.2.2.2.1
theorem dX8_takesPart_105 : decode cX8_takesPart 105 = .ok (.putfield 234, 3) := edX8_takesPart_90.2.2.2.2.2.2.2.2.2.1
theorem dX8_takesPart_108 : decode cX8_takesPart 108 = .ok (.aload_n 0, 1) := edX8_takesPart_90.2.2.2.2.2.2.2.2.2.2.1
theorem dX8_takesPart_109 : decode cX8_takesPart 109 = .ok (.bipush 6, 2) := edX8_takesPart_90.2.2.2.2.2.2.2.2.2.2.2.1
theorem dX8_takesPart_111 : decode cX8_takesPart 111 = .ok (.invokevirtual 237, 3) := edX8_takesPart_90.2.2.2.2.2.2.2.2.2.2.2.2.1
theorem dX8_takesPart_114 : decode cX8_takesPart 114 = .ok (.aload_n 0, 1) := edX8_takesPart_90.2.2.2.2.2.2.2.2.2.2.2.2.2.1
theorem dX8_takesPart_115 : decode cX8_takesPart 115 = .ok (.invokevirtual 219, 3) := edX8_takesPart_90.2.2.2.2.2.2.2.2.2.2.2.2.2.2.1
theorem dX8_takesPart_118 : decode cX8_takesPart 118 = .ok (.iconst 1, 1) := edX8_takesPart_90.2.2.2.2.2.2.2.2.2.2.2.2.2.2.2.1
theorem dX8_takesPart_119 : decode cX8_takesPart 119 = .ok (.ireturn, 1) := edX8_takesPart_90.2.2.2.2.2.2.2.2.2.2.2.2.2.2.2.2
theorem edX8_takesE_0 : (decode cX8_takesE 0 = .ok (.iconst 0, 1)) ∧ (decode cX8_takesE 1 = .ok (.istore_n 1, 1)) ∧ (decode cX8_takesE 2 = .ok (.iconst 0, 1)) ∧ (decode cX8_takesE 3 = .ok (.istore_n 2, 1)) ∧ (decode cX8_takesE 4 = .ok (.iconst 1, 1)) ∧ (decode cX8_takesE 5 = .ok (.istore_n 3, 1)) ∧ (decode cX8_takesE 6 = .ok (.aload_n 0, 1)) ∧ (decode cX8_takesE 7 = .ok (.iconst 0, 1)) ∧ (decode cX8_takesE 8 = .ok (.putfield 228, 3)) ∧ (decode cX8_takesE 11 = .ok (.aload_n 0, 1)) ∧ (decode cX8_takesE 12 = .ok (.iconst 0, 1)) ∧ (decode cX8_takesE 13 = .ok (.putfield 234, 3)) ∧ (decode cX8_takesE 16 = .ok (.aload_n 0, 1)) ∧ (decode cX8_takesE 17 = .ok (.iconst 0, 1)) ∧ (decode cX8_takesE 18 = .ok (.putfield 222, 3)) ∧ (decode cX8_takesE 21 = .ok (.aload_n 0, 1)) ∧ (decode cX8_takesE 22 = .ok (.getfield 45, 3)) ∧ (decode cX8_takesE 25 = .ok (.iconst 0, 1)) ∧ (decode cX8_takesE 26 = .ok (.iconst 0, 1)) ∧ (decode cX8_takesE 27 = .ok (.bastore, 1)) ∧ (decode cX8_takesE 28 = .ok (.iload_n 3, 1)) ∧ (decode cX8_takesE 29 = .ok (.ifCond .ne 10, 3)) ∧ (decode cX8_takesE 32 = .ok (.aload_n 0, 1)) ∧ (decode cX8_takesE 33 = .ok (.getfield 204, 3)) := by decide +kernel
theorem dX8_takesE_0 : decode cX8_takesE 0 = .ok (.iconst 0, 1) := edX8_takesE_0.1
theorem dX8_takesE_1 : decode cX8_takesE 1 = .ok (.istore_n 1, 1) := edX8_takesE_0.2.1
theorem dX8_takesE_2 : decode cX8_takesE 2 = .ok (.iconst 0, 1) := edX8_takesE_0.2.2.1
theorem dX8_takesE_3 : decode cX8_takesE 3 = .ok (.istore_n 2, 1) := edX8_takesE_0.2.2.2.1
theorem dX8_takesE_4 : decode cX8_takesE 4 = .ok (.iconst 1, 1) := edX8_takesE_0.2.2.2.2.1
theorem dX8_takesE_5 : decode cX8_takesE 5 = .ok (.istore_n 3, 1) := edX8_takesE_0.2.2.2.2.2.1
theorem dX8_takesE_6 : decode cX8_takesE 6 = .ok (.aload_n 0, 1) := edX8_takesE_0.2.2.2.2.2.2.1
theorem dX8_takesE_7 : decode cX8_takesE 7 = .ok (.iconst 0, 1) := edX8_takesE_0.2.2.2.2.2.2.2.1
theorem dX8_takesE_8 : decode cX8_takesE 8 = .ok (.putfield 228, 3) := edX8_takesE_0.2.2.2.2.2.2.2.2.1
theorem dX8_takesE_11 : decode cX8_takesE 11 = .ok (.aload_n 0, 1) := edX8_takesE_0.2.2.2.2.2.2.2.2.2.1
theorem dX8_takesE_12 : decode cX8_takesE 12 = .ok (.iconst 0, 1) := edX8_takesE_0.2.2.2.2.2.2.2.2.2.2.1
theorem dX8_takesE_13 : decode cX8_takesE 13 = .ok (.putfield 234, 3) := edX8_takesE_0.2.2.2.2.2.2.2.2.2.2.2.1
theorem dX8_takesE_16 : decode cX8_takesE 16 = .ok (.aload_n 0, 1) := edX8_takesE_0.2.2.2.2.2.2.2.2.2.2.2.2.1
theorem dX8_takesE_17 : decode cX8_takesE 17 = .ok (.iconst 0, 1) := edX8_takesE_0.2.2.2.2.2.2.2.2.2.2.2.2.2.1
theorem dX8_takesE_18 : decode cX8_takesE 18 = .ok (.putfield 222, 3) := edX8_takesE_0.2.2.2.2.2.2.2.2.2.2.2.2.2.2.1
theorem dX8_takesE_21 : decode cX8_takesE 21 = .ok (.aload_n 0, 1) := edX8_takesE_0.2.2.2.2.2.2.2.2.2.2.2.2.2.2.2.1
theorem dX8_takesE_22 : decode cX8_takesE 22 = .ok (.getfield 45, 3) := edX8_takesE_0.2.2.2.2.2.2.2.2.2.2.2.2.2.2.2.2.1
theorem dX8_takesE_25 : decode cX8_takesE 25 = .ok (.iconst 0, 1) := edX8_takesE_0.2.2.2.2.2.2.2.2.2.2.2.2.2.2.2.2.2.1
theorem dX8_takesE_26 : decode cX8_takesE 26 = .ok (.iconst 0, 1) := edX8_takesE_0.2.2.2.2.2.2.2.2.2.2.2.2.2.2.2.2.2.2.1
theorem dX8_takesE_27 : decode cX8_takesE 27 = .ok (.bastore, 1) := edX8_takesE_0.2.2.2.2.2.2.2.2.2.2.2.2.2.2.2.2.2.2.2.1
theorem dX8_takesE_28 : decode cX8_takesE 28 = .ok (.iload_n 3, 1) := edX8_takesE_0.2.2.2.2.2.2.2.2.2.2.2.2.2.2.2.2.2.2.2.2.1
theorem dX8_takesE_29 : decode cX8_takesE 29 = .ok (.ifCond .ne 10, 3) := edX8_takesE_0.2.2.2.2.2.2.2.2.2.2.2.2.2.2.2.2.2.2.2.2.2.1
theorem dX8_takesE_32 : decode cX8_takesE 32 = .ok (.aload_n 0, 1) := edX8_takesE_0.2.2.2.2.2.2.2.2.2.2.2.2.2.2.2.2.2.2.2.2.2.2.1
theorem dX8_takesE_33 : decode cX8_takesE 33 = .ok (.getfield 204, 3) := edX8_takesE_0.2.2.2.2.2.2.2.2.2.2.2.2.2.2.2.2.2.2.2.2.2.2.2
theorem edX8_takesE_36 : (decode cX8_takesE 36 = .ok (.ifCond .eq 309, 3)) ∧ (decode cX8_takesE 39 = .ok (.iload_n 3, 1)) ∧ (decode cX8_takesE 40 = .ok (.ifCond .eq 140, 3)) ∧ (decode cX8_takesE 43 = .ok (.aload_n 0, 1)) ∧ (decode cX8_takesE 44 = .ok (.getfield 204, 3)) ∧ (decode cX8_takesE 47 = .ok (.iconst 3, 1)) ∧ (decode cX8_takesE 48 = .ok (.if_icmp .ne 49, 3)) ∧ (decode cX8_takesE 51 = .ok (.aload_n 0, 1)) ∧ (decode cX8_takesE 52 = .ok (.getfield 210, 3)) ∧ (decode cX8_takesE 55 = .ok (.bipush 33, 2)) ∧ (decode cX8_takesE 57 = .ok (.if_icmp .ne 40, 3)) ∧ (decode cX8_takesE 60 = .ok (.iload_n 2, 1)) ∧ (decode cX8_takesE 61 = .ok (.bipush 8, 2)) ∧ (decode cX8_takesE 63 = .ok (.if_icmp .ge 34, 3)) ∧ (decode cX8_takesE 66 = .ok (.aload_n 0, 1)) ∧ (decode cX8_takesE 67 = .ok (.getfield 42, 3)) ∧ (decode cX8_takesE 70 = .ok (.aload_n 0, 1)) ∧ (decode cX8_takesE 71 = .ok (.getfield 222, 3)) ∧ (decode cX8_takesE 74 = .ok (.bipush (-10), 2)) ∧ (decode cX8_takesE 76 = .ok (.iastore, 1)) ∧ (decode cX8_takesE 77 = .ok (.aload_n 0, 1)) ∧ (decode cX8_takesE 78 = .ok (.dup, 1)) ∧ (decode cX8_takesE 79 = .ok (.getfield 222, 3)) ∧ (decode cX8_takesE 82 = .ok (.iconst 1, 1)) := by decide +kernel
theorem dX8_takesE_36 : decode cX8_takesE 36 = .ok (.ifCond .eq 309, 3) := edX8_takesE_36.1
theorem dX8_takesE_39 : decode cX8_takesE 39 = .ok (.iload_n 3, 1) := edX8_takesE_36.2.1
theorem dX8_takesE_40 : decode cX8_takesE 40 = .ok (.ifCond .eq 140, 3) := edX8_takesE_36.2.2.1
theorem dX8_takesE_43 : decode cX8_takesE 43 = .ok (.aload_n 0, 1) := edX8_takesE_36.2.2.2.1
theorem dX8_takesE_44 : decode cX8_takesE 44 = .ok (.getfield 204, 3) := edX8_takesE_36.2.2.2.2.1
theorem dX8_takesE_47 : decode cX8_takesE 47 = .ok (.iconst 3, 1) := edX8_takesE_36.2.2.2.2.2.1
theorem dX8_takesE_48 : decode cX8_takesE 48 = .ok (.if_icmp .ne 49, 3) := edX8_takesE_36.2.2.2.2.2.2.1
theorem dX8_takesE_51 : decode cX8_takesE 51 = .ok (.aload_n 0, 1) := edX8_takesE_36.2.2.2.2.2.2.2.1
theorem dX8_takesE_52 : decode cX8_takesE 52 = .ok (.getfield 210, 3) := edX8_takesE_36.2.2.2.2.2.2.2.2.1
theorem dX8_takesE_55 : decode cX8_takesE 55 = .ok (.bipush 33, 2) := edX8_takesE_36.2.2.2.2.2.2.2.2.2.1
theorem dX8_takesE_57 : decode cX8_takesE 57 = .ok (.if_icmp .ne 40, 3) := edX8_takesE_36.2.2.2.2.2.2.2.2.2.2.1
theorem dX8_takesE_60 : decode cX8_takesE 60 = .ok (.iload_n 2, 1) := edX8_takesE_36.2.2.2.2.2.2.2.2.2.2.2.1
theorem dX8_takesE_61 : decode cX8_takesE 61 = .ok (.bipush 8, 2) := edX8_takesE_36.2.2.2.2.2.2.2.2.2.2.2.2.1
theorem dX8_takesE_63 : decode cX8_takesE 63 = .ok (.if_icmp .ge 34, 3) := edX8_takesE_36.2.2.2.2.2.2.2.2.2.2.2.2.2.1
theorem dX8_takesE_66 : decode cX8_takesE 66 = .ok (.aload_n 0, 1) := edX8_takesE_36.2.2.2.2.2.2.2.2.2.2.2.2.2.2.1
theorem dX8_takesE_67 : decode cX8_takesE 67 = .ok (.getfield 42, 3) := edX8_takesE_36.2.2.2.2.2.2.2.2.2.2.2.2.2.2.2.1
theorem dX8_takesE_70 : decode cX8_takesE 70 = .ok (.aload_n 0, 1) := edX8_takesE_36.2.2.2.2.2.2.2.2.2.2.2.2.2.2.2.2.1
theorem dX8_takesE_71 : decode cX8_takesE 71 = .ok (.getfield 222, 3) := edX8_takesE_36.2.2.2.2.2.2.2.2.2.2.2.2.2.2.2.2.2.1
theorem dX8_takesE_74 : decode cX8_takesE 74 = .ok (.bipush (-10), 2) := edX8_takesE_36.2.2.2.2.2.2.2.2.2.2.2.2.2.2.2.2.2.2.1
theorem dX8_takesE_76 : decode cX8_takesE 76 = .ok (.iastore, 1) := edX8_takesE_36.2.2.2.2.2.2.2.2.2.2.2.2.2.2.2.2.2.2.2.1
theorem dX8_takesE_77 : decode cX8_takesE 77 = .ok (.aload_n 0, 1) := edX8_takesE_36.2.2.2.2.2.2.2.2.2.2.2.2.2.2.2.2.2.2.2.2.1
theorem dX8_takesE_78 : decode cX8_takesE 78 = .ok (.dup, 1) := edX8_takesE_36.2.2.2.2.2.2.2.2.2.2.2.2.2.2.2.2.2.2.2.2.2.1
theorem dX8_takesE_79 : decode cX8_takesE 79 = .ok (.getfield 222, 3) := edX8_takesE_36.2.2.2.2.2.2.2.2.2.2.2.2.2.2.2.2.2.2.2.2.2.2.1
theorem dX8_takesE_82 : decode cX8_takesE 82 = .ok (.iconst 1, 1) := edX8_takesE_36.2.2.2.2.2.2.2.2.2.2.2.2.2.2.2.2.2.2.2.2.2.2.2
theorem edX8_takesE_83 : (decode cX8_takesE 83 = .ok (.iadd, 1)) ∧ (decode cX8_takesE 84 = .ok (.putfield 222, 3)) ∧ (decode cX8_takesE 87 = .ok (.iinc 2 1, 3)) ∧ (decode cX8_takesE 90 = .ok (.aload_n 0, 1)) ∧ (decode cX8_takesE 91 = .ok (.invokevirtual 219, 3)) ∧ (decode cX8_takesE 94 = .ok (.goto 78, 3)) ∧ (decode cX8_takesE 97 = .ok (.aload_n 0, 1)) ∧ (decode cX8_takesE 98 = .ok (.getfield 204, 3)) ∧ (decode cX8_takesE 101 = .ok (.iconst 3, 1)) ∧ (decode cX8_takesE 102 = .ok (.if_icmp .ne 56, 3)) ∧ (decode cX8_takesE 105 = .ok (.aload_n 0, 1)) ∧ (decode cX8_takesE 106 = .ok (.getfield 210, 3)) ∧ (decode cX8_takesE 109 = .ok (.bipush 40, 2)) ∧ (decode cX8_takesE 111 = .ok (.if_icmp .ne 47, 3)) ∧ (decode cX8_takesE 114 = .ok (.iload_n 1, 1)) ∧ (decode cX8_takesE 115 = .ok (.bipush 8, 2)) ∧ (decode cX8_takesE 117 = .ok (.if_icmp .ge 41, 3)) ∧ (decode cX8_takesE 120 = .ok (.aload_n 0, 1)) ∧ (decode cX8_takesE 121 = .ok (.getfield 42, 3)) ∧ (decode cX8_takesE 124 = .ok (.aload_n 0, 1)) ∧ (decode cX8_takesE 125 = .ok (.getfield 222, 3)) ∧ (decode cX8_takesE 128 = .ok (.bipush (-11), 2)) ∧ (decode cX8_takesE 130 = .ok (.iastore, 1)) ∧ (decode cX8_takesE 131 = .ok (.aload_n 0, 1)) := by decide +kernel
theorem dX8_takesE_83 : decode cX8_takesE 83 = .ok (.iadd, 1) := edX8_takesE_83.1
theorem dX8_takesE_84 : decode cX8_takesE 84 = .ok (.putfield 222, 3) := edX8_takesE_83.2.1
theorem dX8_takesE_87 : decode cX8_takesE 87 = .ok (.iinc 2 1, 3) := edX8_takesE_83.2.2.1
theorem dX8_takesE_90 : decode cX8_takesE 90 = .ok (.aload_n 0, 1) := edX8_takesE_83.2.2.2.1
theorem dX8_takesE_91 : decode cX8_takesE 91 = .ok (.invokevirtual 219, 3) := edX8_takesE_83.2.2.2.2.1
theorem dX8_takesE_94 : decode cX8_takesE 94 = .ok (.goto 78, 3) := edX8_takesE_83.2.2.2.2.2.1
theorem dX8_takesE_97 : decode cX8_takesE 97 = .ok (.aload_n 0, 1) := edX8_takesE_83.2.2.2.2.2.2.1
theorem dX8_takesE_98 : decode cX8_takesE 98 = .ok (.getfield 204, 3) := edX8_takesE_83.2.2.2.2.2.2.2.1
theorem dX8_takesE_101 : decode cX8_takesE 101 = .ok (.iconst 3, 1) := edX8_takesE_83.2.2.2.2.2.2.2.2.1
theorem dX8_takesE_102 : decode cX8_takesE 102 = .ok (.if_icmp .ne 56, 3) := edX8_takesE_83.2.2.2.2.2.2.2.2.2.1
theorem dX8_takesE_105 : decode cX8_takesE 105 = .ok (.aload_n 0, 1) := edX8_takesE_83.2.2.2.2.2.2.2.2.2.2.1
theorem dX8_takesE_106 : decode cX8_takesE 106 = .ok (.getfield 210, 3) := edX8_takesE_83.2.2.2.2.2.2.2.2.2.2.2.1
theorem dX8_takesE_109 : decode cX8_takesE 109 = .ok (.bipush 40, 2) := edX8_takesE_83.2.2.2.2.2.2.2.2.2.2.2.2.1
theorem dX8_takesE_111 : decode cX8_takesE 111 = .ok (.if_icmp .ne 47, 3) := edX8_takesE_83.2.2.2.2.2.2.2.2.2.2.2.2.2.1
theorem dX8_takesE_114 : decode cX8_takesE 114 = .ok (.iload_n 1, 1) := edX8_takesE_83.2.2.2.2.2.2.2.2.2.2.2.2.2.2.1
theorem dX8_takesE_115 : decode cX8_takesE 115 = .ok (.bipush 8, 2) := edX8_takesE_83.2.2.2.2.2.2.2.2.2.2.2.2.2.2.2.1
theorem dX8_takesE_117 : decode cX8_takesE 117 = .ok (.if_icmp .ge 41, 3) := edX8_takesE_83.2.2.2.2.2.2.2.2.2.2.2.2.2.2.2.2.1
theorem dX8_takesE_120 : decode cX8_takesE 120 = .ok (.aload_n 0, 1) := edX8_takesE_83.2.2.2.2.2.2.2.2.2.2.2.2.2.2.2.2.2.1
theorem dX8_takesE_121 : decode cX8_takesE 121 = .ok (.getfield 42, 3) := edX8_takesE_83.2.2.2.2.2.2.2.2.2.2.2.2.2.2.2.2.2.2.1
theorem dX8_takesE_124 : decode cX8_takesE 124 = .ok (.aload_n 0, 1) := edX8_takesE_83.2.2.2.2.2.2.2.2.2.2.2.2.2.2.2.2.2.2.2.1
theorem dX8_takesE_125 : decode cX8_takesE 125 = .ok (.getfield 222, 3) := edX8_takesE_83.2.2.2.2.2.2.2.2.2.2.2.2.2.2.2.2.2.2.2.2.1
theorem dX8_takesE_128 : decode cX8_takesE 128 = .ok (.bipush (-11), 2) := edX8_takesE_83.2.2.2.2.2.2.2.2.2.2.2.2.2.2.2.2.2.2.2.2.2.1
theorem dX8_takesE_130 : decode cX8_takesE 130 = .ok (.iastore, 1) := edX8_takesE_83.2.2.2.2.2.2.2.2.2.2.2.2.2.2.2.2.2.2.2.2.2.2.1
theorem dX8_takesE_131 : decode cX8_takesE 131 = .ok (.aload_n 0, 1) := edX8_takesE_83.2.2.2.2.2.2.2.2.2.2.2.2.2.2.2.2.2.2.2.2.2.2.2
theorem edX8_takesE_132 : (decode cX8_takesE 132 = .ok (.dup, 1)) ∧ (decode cX8_takesE 133 = .ok (.getfield 222, 3)) ∧ (decode cX8_takesE 136 = .ok (.iconst 1, 1)) ∧ (decode cX8_takesE 137 = .ok (.iadd, 1)) ∧ (decode cX8_takesE 138 = .ok (.putfield 222, 3)) ∧ (decode cX8_takesE 141 = .ok (.iinc 1 1, 3)) ∧ (decode cX8_takesE 144 = .ok (.aload_n 0, 1)) ∧ (decode cX8_takesE 145 = .ok (.getfield 45, 3)) ∧ (decode cX8_takesE 148 = .ok (.iload_n 1, 1)) ∧ (decode cX8_takesE 149 = .ok (.iconst 0, 1)) ∧ (decode cX8_takesE 150 = .ok (.bastore, 1)) ∧ (decode cX8_takesE 151 = .ok (.aload_n 0, 1)) ∧ (decode cX8_takesE 152 = .ok (.invokevirtual 219, 3)) ∧ (decode cX8_takesE 155 = .ok (.goto 17, 3)) ∧ (decode cX8_takesE 158 = .ok (.aload_n 0, 1)) ∧ (decode cX8_takesE 159 = .ok (.invokevirtual 240, 3)) ∧ (decode cX8_takesE 162 = .ok (.ifCond .eq 8, 3)) ∧ (decode cX8_takesE 165 = .ok (.iconst 0, 1)) ∧ (decode cX8_takesE 166 = .ok (.istore_n 3, 1)) ∧ (decode cX8_takesE 167 = .ok (.goto 5, 3)) ∧ (decode cX8_takesE 170 = .ok (.iconst 0, 1)) ∧ (decode cX8_takesE 171 = .ok (.ireturn, 1)) ∧ (decode cX8_takesE 172 = .ok (.aload_n 0, 1)) ∧ (decode cX8_takesE 173 = .ok (.invokevirtual 243, 3)) := by decide +kernel
theorem dX8_takesE_132 : decode cX8_takesE 132 = .ok (.dup, 1) := edX8_takesE_132.1
theorem dX8_takesE_133 : decode cX8_takesE 133 = .ok (.getfield 222, 3) := edX8_takesE_132.2.1
theorem dX8_takesE_136 : decode cX8_takesE 136 = .ok (.iconst 1, 1) := edX8_takesE_132.2.2.1
theorem dX8_takesE_137 : decode cX8_takesE 137 = .ok (.iadd, 1) := edX8_takesE_132.2.2.2.1
theorem dX8_takesE_138 : decode cX8_takesE 138 = .ok (.putfield 222, 3) := edX8_takesE_132.2.2.2.2.1
theorem dX8_takesE_141 : decode cX8_takesE 141 = .ok (.iinc 1 1, 3) := edX8_takesE_132.2.2.2.2.2.1
theorem dX8_takesE_144 : decode cX8_takesE 144 = .ok (.aload_n 0, 1) := edX8_takesE_132.2.2.2.2.2.2.1
theorem dX8_takesE_145 : decode cX8_takesE 145 = .ok (.getfield 45, 3) := edX8_takesE_132.2.2.2.2.2.2.2.1
theorem dX8_takesE_148 : decode cX8_takesE 148 = .ok (.iload_n 1, 1) := edX8_takesE_132.2.2.2.2.2.2.2.2.1
theorem dX8_takesE_149 : decode cX8_takesE 149 = .ok (.iconst 0, 1) := edX8_takesE_132.2.2.2.2.2.2.2.2.2.1
theorem dX8_takesE_150 : decode cX8_takesE 150 = .ok (.bastore, 1) := edX8_takesE_132.2.2.2.2.2.2.2.2.2.2.1
theorem dX8_takesE_151 : decode cX8_takesE 151 = .ok (.aload_n 0, 1) := edX8_takesE_132.2.2.2.2.2.2.2.2.2.2.2.1
theorem dX8_takesE_152 : decode cX8_takesE 152 = .ok (.invokevirtual 219, 3) := edX8_takesE_132.2.2.2.2.2.2.2.2.2.2.2.2.1
theorem dX8_takesE_155 : decode cX8_takesE 155 = .ok (.goto 17, 3) := edX8_takesE_132.2.2.2.2.2.2.2.2.2.2.2.2.2.1
theorem dX8_takesE_158 : decode cX8_takesE 158 = .ok (.aload_n 0, 1) := edX8_takesE_132.2.2.2.2.2.2.2.2.2.2.2.2.2.2.1
theorem dX8_takesE_159 : decode cX8_takesE 159 = .ok (.invokevirtual 240, 3) := edX8_takesE_132.2.2.2.2.2.2.2.2.2.2.2.2.2.2.2.1
theorem dX8_takesE_162 : decode cX8_takesE 162 = .ok (.ifCond .eq 8, 3) := edX8_takesE_132.2.2.2.2.2.2.2.2.2.2.2.2.2.2.2.2.1
theorem dX8_takesE_165 : decode cX8_takesE 165 = .ok (.iconst 0, 1) := edX8_takesE_132.2.2.2.2.2.2.2.2.2.2.2.2.2.2.2.2.2.1
theorem dX8_takesE_166 : decode cX8_takesE 166 = .ok (.istore_n 3, 1) := edX8_takesE_132.2.2.2.2.2.2.2.2.2.2.2.2.2.2.2.2.2.2.1
theorem dX8_takesE_167 : decode cX8_takesE 167 = .ok (.goto 5, 3) := edX8_takesE_132.2.2.2.2.2.2.2.2.2.2.2.2.2.2.2.2.2.2.2.1
theorem dX8_takesE_170 : decode cX8_takesE 170 = .ok (.iconst 0, 1) := edX8_takesE_132.2.2.2.2.2.2.2.2.2.2.2.2.2.2.2.2.2.2.2.2.1
theorem dX8_takesE_171 : decode cX8_takesE 171 = .ok (.ireturn, 1) := edX8_takesE_132.2.2.2.2.2.2.2.2.2.2.2.2.2.2.2.2.2.2.2.2.2.1
theorem dX8_takesE_172 : decode cX8_takesE 172 = .ok (.aload_n 0, 1) := edX8_takesE_132.2.2.2.2.2.2.2.2.2.2.2.2.2.2.2.2.2.2.2.2.2.2.1
theorem dX8_takesE_173 : decode cX8_takesE 173 = .ok (.invokevirtual 243, 3) := edX8_takesE_132.2.2.2.2.2.2.2.2.2.2.2.2.2.2.2.2.2.2.2.2.2.2.2
theorem edX8_takesE_176 : (decode cX8_takesE 176 = .ok (.istore_n 2, 1)) ∧ (decode cX8_takesE 177 = .ok (.goto (-149), 3)) ∧ (decode cX8_takesE 180 = .ok (.aload_n 0, 1)) ∧ (decode cX8_takesE 181 = .ok (.getfield 204, 3)) ∧ (decode cX8_takesE 184 = .ok (.iconst 3, 1)) ∧ (decode cX8_takesE 185 = .ok (.if_icmp .ne 52, 3)) ∧ (decode cX8_takesE 188 = .ok (.aload_n 0, 1)) ∧ (decode cX8_takesE 189 = .ok (.getfield 210, 3)) ∧ (decode cX8_takesE 192 = .ok (.bipush 41, 2)) ∧ (decode cX8_takesE 194 = .ok (.if_icmp .ne 43, 3)) ∧ (decode cX8_takesE 197 = .ok (.iload_n 1, 1)) ∧ (decode cX8_takesE 198 = .ok (.ifCond .le 39, 3)) ∧ (decode cX8_takesE 201 = .ok (.aload_n 0, 1)) ∧ (decode cX8_takesE 202 = .ok (.iconst 0, 1)) ∧ (decode cX8_takesE 203 = .ok (.invokevirtual 237, 3)) ∧ (decode cX8_takesE 206 = .ok (.aload_n 0, 1)) ∧ (decode cX8_takesE 207 = .ok (.dup, 1)) ∧ (decode cX8_takesE 208 = .ok (.getfield 222, 3)) ∧ (decode cX8_takesE 211 = .ok (.iconst 1, 1)) ∧ (decode cX8_takesE 212 = .ok (.isub, 1)) ∧ (decode cX8_takesE 213 = .ok (.putfield 222, 3)) ∧ (decode cX8_takesE 216 = .ok (.iinc 1 (-1), 3)) ∧ (decode cX8_takesE 219 = .ok (.aload_n 0, 1)) ∧ (decode cX8_takesE 220 = .ok (.bipush 6, 2)) := by decide +kernel
theorem dX8_takesE_176 : decode cX8_takesE 176 = .ok (.istore_n 2, 1) := edX8_takesE_176.1
theorem dX8_takesE_177 : decode cX8_takesE 177 = .ok (.goto (-149), 3) := edX8_takesE_176.2.1
theorem dX8_takesE_180 : decode cX8_takesE 180 = .ok (.aload_n 0, 1) := edX8_takesE_176.2.2.1
theorem dX8_takesE_181 : decode cX8_takesE 181 = .ok (.getfield 204, 3) := edX8_takesE_176.2.2.2.1
theorem dX8_takesE_184 : decode cX8_takesE 184 = .ok (.iconst 3, 1) := edX8_takesE_176.2.2.2.2.1
theorem dX8_takesE_185 : decode cX8_takesE 185 = .ok (.if_icmp .ne 52, 3) := edX8_takesE_176.2.2.2.2.2.1
theorem dX8_takesE_188 : decode cX8_takesE 188 = .ok (.aload_n 0, 1) := edX8_takesE_176.2.2.2.2.2.2.1
theorem dX8_takesE_189 : decode cX8_takesE 189 = .ok (.getfield 210, 3) := edX8_takesE_176.2.2.2.2.2.2.2.1
theorem dX8_takesE_192 : decode cX8_takesE 192 = .ok (.bipush 41, 2) := edX8_takesE_176.2.2.2.2.2.2.2.2.1
theorem dX8_takesE_194 : decode cX8_takesE 194 = .ok (.if_icmp .ne 43, 3) := edX8_takesE_176.2.2.2.2.2.2.2.2.2.1
theorem dX8_takesE_197 : decode cX8_takesE 197 = .ok (.iload_n 1, 1) := edX8_takesE_176.2.2.2.2.2.2.2.2.2.2.1
theorem dX8_takesE_198 : decode cX8_takesE 198 = .ok (.ifCond .le 39, 3) := edX8_takesE_176.2.2.2.2.2.2.2.2.2.2.2.1
theorem dX8_takesE_201 : decode cX8_takesE 201 = .ok (.aload_n 0, 1) := edX8_takesE_176.2.2.2.2.2.2.2.2.2.2.2.2.1
theorem dX8_takesE_202 : decode cX8_takesE 202 = .ok (.iconst 0, 1) := edX8_takesE_176.2.2.2.2.2.2.2.2.2.2.2.2.2.1
theorem dX8_takesE_203 : decode cX8_takesE 203 = .ok (.invokevirtual 237, 3) := edX8_takesE_176.2.2.2.2.2.2.2.2.2.2.2.2.2.2.1
theorem dX8_takesE_206 : decode cX8_takesE 206 = .ok (.aload_n 0, 1) := edX8_takesE_176.2.2.2.2.2.2.2.2.2.2.2.2.2.2.2.1
theorem dX8_takesE_207 : decode cX8_takesE 207 = .ok (.dup, 1) := edX8_takesE_176.2.2.2.2.2.2.2.2.2.2.2.2.2.2.2.2.1
theorem dX8_takesE_208 : decode cX8_takesE 208 = .ok (.getfield 222, 3) := edX8_takesE_176.2.2.2.2.2.2.2.2.2.2.2.2.2.2.2.2.2.1
theorem dX8_takesE_211 : decode cX8_takesE 211 = .ok (.iconst 1, 1) := edX8_takesE_176.2.2.2.2.2.2.2.2.2.2.2.2.2.2.2.2.2.2.1
theorem dX8_takesE_212 : decode cX8_takesE 212 = .ok (.isub, 1) := edX8_takesE_176.2.2.2.2.2.2.2.2.2.2.2.2.2.2.2.2.2.2.2.1
theorem dX8_takesE_213 : decode cX8_takesE 213 = .ok (.putfield 222, 3) := edX8_takesE_176.2.2.2.2.2.2.2.2.2.2.2.2.2.2.2.2.2.2.2.2.1
theorem dX8_takesE_216 : decode cX8_takesE 216 = .ok (.iinc 1 (-1), 3) := edX8_takesE_176.2.2.2.2.2.2.2.2.2.2.2.2.2.2.2.2.2.2.2.2.2.1
theorem dX8_takesE_219 : decode cX8_takesE 219 = .ok (.aload_n 0, 1) := edX8_takesE_176.2.2.2.2.2.2.2.2.2.2.2.2.2.2.2.2.2.2.2.2.2.2.1
theorem dX8_takesE_220 : decode cX8_takesE 220 = .ok (.bipush 6, 2) := edX8_takesE_176.2.2.2.2.2.2.2.2.2.2.2.2.2.2.2.2.2.2.2.2.2.2.2
theorem edX8_takesE_222 : (decode cX8_takesE 222 = .ok (.invokevirtual 237, 3)) ∧ (decode cX8_takesE 225 = .ok (.aload_n 0, 1)) ∧ (decode cX8_takesE 226 = .ok (.invokevirtual 243, 3)) ∧ (decode cX8_takesE 229 = .ok (.istore_n 2, 1)) ∧ (decode cX8_takesE 230 = .ok (.aload_n 0, 1)) ∧ (decode cX8_takesE 231 = .ok (.invokevirtual 219, 3)) ∧ (decode cX8_takesE 234 = .ok (.goto (-206), 3)) ∧ (decode cX8_takesE 237 = .ok (.aload_n 0, 1)) ∧ (decode cX8_takesE 238 = .ok (.invokevirtual 246, 3)) ∧ (decode cX8_takesE 241 = .ok (.istore 4, 2)) ∧ (decode cX8_takesE 243 = .ok (.iload 4, 2)) ∧ (decode cX8_takesE 245 = .ok (.ifCond .eq 21, 3)) ∧ (decode cX8_takesE 248 = .ok (.iload 4, 2)) ∧ (decode cX8_takesE 250 = .ok (.invokestatic 225, 3)) ∧ (decode cX8_takesE 253 = .ok (.iconst 3, 1)) ∧ (decode cX8_takesE 254 = .ok (.if_icmp .ne 14, 3)) ∧ (decode cX8_takesE 257 = .ok (.aload_n 0, 1)) ∧ (decode cX8_takesE 258 = .ok (.getfield 45, 3)) ∧ (decode cX8_takesE 261 = .ok (.iload_n 1, 1)) ∧ (decode cX8_takesE 262 = .ok (.baload, 1)) ∧ (decode cX8_takesE 263 = .ok (.ifCond .eq 5, 3)) ∧ (decode cX8_takesE 266 = .ok (.iconst 0, 1)) ∧ (decode cX8_takesE 267 = .ok (.ireturn, 1)) ∧ (decode cX8_takesE 268 = .ok (.aload_n 0, 1)) := by decide +kernel
theorem dX8_takesE_222 : decode cX8_takesE 222 = .ok (.invokevirtual 237, 3) := edX8_takesE_222.1
theorem dX8_takesE_225 : decode cX8_takesE 225 = .ok (.aload_n 0, 1) := edX8_takesE_222.2.1
theorem dX8_takesE_226 : decode cX8_takesE 226 = .ok (.invokevirtual 243, 3) := edX8_takesE_222.2.2.1
theorem dX8_takesE_229 : decode cX8_takesE 229 = .ok (.istore_n 2, 1) := edX8_takesE_222.2.2.2.1
theorem dX8_takesE_230 : decode cX8_takesE 230 = .ok (.aload_n 0, 1) := edX8_takesE_222.2.2.2.2.1
theorem dX8_takesE_231 : decode cX8_takesE 231 = .ok (.invokevirtual 219, 3) := edX8_takesE_222.2.2.2.2.2.1
theorem dX8_takesE_234 : decode cX8_takesE 234 = .ok (.goto (-206), 3) := edX8_takesE_222.2.2.2.2.2.2.1
theorem dX8_takesE_237 : decode cX8_takesE 237 = .ok (.aload_n 0, 1) := edX8_takesE_222.2.2.2.2.2.2.2.1
theorem dX8_takesE_238 : decode cX8_takesE 238 = .ok (.invokevirtual 246, 3) := edX8_takesE_222.2.2.2.2.2.2.2.2.1
theorem dX8_takesE_241 : decode cX8_takesE 241 = .ok (.istore 4, 2) := edX8_takesE_222.2.2.2.2.2.2.2.2.2.1
theorem dX8_takesE_243 : decode cX8_takesE 243 = .ok (.iload 4, 2) := edX8_takesE_222.2.2.2.2.2.2.2.2.2.2.1
theorem dX8_takesE_245 : decode cX8_takesE 245 = .ok (.ifCond .eq 21, 3) := edX8_takesE_222.2.2.2.2.2.2.2.2.2.2.2.1
theorem dX8_takesE_248 : decode cX8_takesE 248 = .ok (.iload 4, 2) := edX8_takesE_222.2.2.2.2.2.2.2.2.2.2.2.2.1
theorem dX8_takesE_250 : decode cX8_takesE 250 = .ok (.invokestatic 225, 3) := edX8_takesE_222.2.2.2.2.2.2.2.2.2.2.2.2.2.1
theorem dX8_takesE_253 : decode cX8_takesE 253 = .ok (.iconst 3, 1) := edX8_takesE_222.2.2.2.2.2.2.2.2.2.2.2.2.2.2.1
theorem dX8_takesE_254 : decode cX8_takesE 254 = .ok (.if_icmp .ne 14, 3) := edX8_takesE_222.2.2.2.2.2.2.2.2.2.2.2.2.2.2.2.1
theorem dX8_takesE_257 : decode cX8_takesE 257 = .ok (.aload_n 0, 1) := edX8_takesE_222.2.2.2.2.2.2.2.2.2.2.2.2.2.2.2.2.1
theorem dX8_takesE_258 : decode cX8_takesE 258 = .ok (.getfield 45, 3) := edX8_takesE_222.2.2.2.2.2.2.2.2.2.2.2.2.2.2.2.2.2.1
theorem dX8_takesE_261 : decode cX8_takesE 261 = .ok (.iload_n 1, 1) := edX8_takesE_222.2.2.2.2.2.2.2.2.2.2.2.2.2.2.2.2.2.2.1
theorem dX8_takesE_262 : decode cX8_takesE 262 = .ok (.baload, 1) := edX8_takesE_222.2.2.2.2.2.2.2.2.2.2.2.2.2.2.2.2.2.2.2.1
theorem dX8_takesE_263 : decode cX8_takesE 263 = .ok (.ifCond .eq 5, 3) := edX8_takesE_222.2.2.2.2.2.2.2.2.2.2.2.2.2.2.2.2.2.2.2.2.1
theorem dX8_takesE_266 : decode cX8_takesE 266 = .ok (.iconst 0, 1) := edX8_takesE_222.2.2.2.2.2.2.2.2.2.2.2.2.2.2.2.2.2.2.2.2.2.1
theorem dX8_takesE_267 : decode cX8_takesE 267 = .ok (.ireturn, 1) := edX8_takesE_222.2.2.2.2.2.2.2.2.2.2.2.2.2.2.2.2.2.2.2.2.2.2.1
theorem dX8_takesE_268 : decode cX8_takesE 268 = .ok (.aload_n 0, 1) := edX8_takesE_222.2.2.2.2.2.2.2.2.2.2.2.2.2.2.2.2.2.2.2.2.2.2.2
theorem edX8_takesE_269 : (decode cX8_takesE 269 = .ok (.getfield 45, 3)) ∧ (decode cX8_takesE 272 = .ok (.iload_n 1, 1)) ∧ (decode cX8_takesE 273 = .ok (.iload 4, 2)) ∧ (decode cX8_takesE 275 = .ok (.invokestatic 225, 3)) ∧ (decode cX8_takesE 278 = .ok (.iconst 3, 1)) ∧ (decode cX8_takesE 279 = .ok (.if_icmp .eq 21, 3)) ∧ (decode cX8_takesE 282 = .ok (.iload 4, 2)) ∧ (decode cX8_takesE 284 = .ok (.invokestatic 225, 3)) ∧ (decode cX8_takesE 287 = .ok (.iconst 3, 1)) ∧ (decode cX8_takesE 288 = .ok (.if_icmp .le 16, 3)) ∧ (decode cX8_takesE 291 = .ok (.aload_n 0, 1)) ∧ (decode cX8_takesE 292 = .ok (.getfield 45, 3)) ∧ (decode cX8_takesE 295 = .ok (.iload_n 1, 1)) ∧ (decode cX8_takesE 296 = .ok (.baload, 1)) ∧ (decode cX8_takesE 297 = .ok (.ifCond .eq 7, 3)) ∧ (decode cX8_takesE 300 = .ok (.iconst 1, 1)) ∧ (decode cX8_takesE 301 = .ok (.goto 4, 3)) ∧ (decode cX8_takesE 304 = .ok (.iconst 0, 1)) ∧ (decode cX8_takesE 305 = .ok (.bastore, 1)) ∧ (decode cX8_takesE 306 = .ok (.aload_n 0, 1)) ∧ (decode cX8_takesE 307 = .ok (.iload 4, 2)) ∧ (decode cX8_takesE 309 = .ok (.invokestatic 225, 3)) ∧ (decode cX8_takesE 312 = .ok (.invokevirtual 237, 3)) ∧ (decode cX8_takesE 315 = .ok (.aload_n 0, 1)) := by decide +kernel
theorem dX8_takesE_269 : decode cX8_takesE 269 = .ok (.getfield 45, 3) := edX8_takesE_269.1
theorem dX8_takesE_272 : decode cX8_takesE 272 = .ok (.iload_n 1, 1) := edX8_takesE_269.2.1
theorem dX8_takesE_273 : decode cX8_takesE 273 = .ok (.iload 4, 2) := edX8_takesE_269.2.2.1
theorem dX8_takesE_275 : decode cX8_takesE 275 = .ok (.invokestatic 225, 3) := edX8_takesE_269.2.2.2.1
theorem dX8_takesE_278 : decode cX8_takesE 278 = .ok (.iconst 3, 1) := edX8_takesE_269.2.2.2.2.1
theorem dX8_takesE_279 : decode cX8_takesE 279 = .ok (.if_icmp .eq 21, 3) := edX8_takesE_269.2.2.2.2.2.1
theorem dX8_takesE_282 : decode cX8_takesE 282 = .ok (.iload 4, 2) := edX8_takesE_269.2.2.2.2.2.2.1
theorem dX8_takesE_284 : decode cX8_takesE 284 = .ok (.invokestatic 225, 3) := edX8_takesE_269.2.2.2.2.2.2.2.1
theorem dX8_takesE_287 : decode cX8_takesE 287 = .ok (.iconst 3, 1) := edX8_takesE_269.2.2.2.2.2.2.2.2.1
theorem dX8_takesE_288 : decode cX8_takesE 288 = .ok (.if_icmp .le 16, 3) := edX8_takesE_269.2.2.2.2.2.2.2.2.2.1
theorem dX8_takesE_291 : decode cX8_takesE 291 = .ok (.aload_n 0, 1) := edX8_takesE_269.2.2.2.2.2.2.2.2.2.2.1
theorem dX8_takesE_292 : decode cX8_takesE 292 = .ok (.getfield 45, 3) := edX8_takesE_269.2.2.2.2.2.2.2.2.2.2.2.1
theorem dX8_takesE_295 : decode cX8_takesE 295 = .ok (.iload_n 1, 1) := edX8_takesE_269.2.2.2.2.2.2.2.2.2.2.2.2.1
theorem dX8_takesE_296 : decode cX8_takesE 296 = .ok (.baload, 1) := edX8_takesE_269.2.2.2.2.2.2.2.2.2.2.2.2.2.1
theorem dX8_takesE_297 : decode cX8_takesE 297 = .ok (.ifCond .eq 7, 3) := edX8_takesE_269.2.2.2.2.2.2.2.2.2.2.2.2.2.2.1
theorem dX8_takesE_300 : decode cX8_takesE 300 = .ok (.iconst 1, 1) := edX8_takesE_269.2.2.2.2.2.2.2.2.2.2.2.2.2.2.2.1
theorem dX8_takesE_301 : decode cX8_takesE 301 = .ok (.goto 4, 3) := edX8_takesE_269.2.2.2.2.2.2.2.2.2.2.2.2.2.2.2.2.1
theorem dX8_takesE_304 : decode cX8_takesE 304 = .ok (.iconst 0, 1) := edX8_takesE_269.2.2.2.2.2.2.2.2.2.2.2.2.2.2.2.2.2.1
theorem dX8_takesE_305 : decode cX8_takesE 305 = .ok (.bastore, 1) := edX8_takesE_269.2.2.2.2.2.2.2.2.2.2.2.2.2.2.2.2.2.2.1
theorem dX8_takesE_306 : decode cX8_takesE 306 = .ok (.aload_n 0, 1) := edX8_takesE_269.2.2.2.2.2.2.2.2.2.2.2.2.2.2.2.2.2.2.2.1
theorem dX8_takesE_307 : decode cX8_takesE 307 = .ok (.iload 4, 2) := edX8_takesE_269.2.2.2.2.2.2.2.2.2.2.2.2.2.2.2.2.2.2.2.2.1
theorem dX8_takesE_309 : decode cX8_takesE 309 = .ok (.invokestatic 225, 3) := edX8_takesE_269.2.2.2.2.2.2.2.2.2.2.2.2.2.2.2.2.2.2.2.2.2.1
theorem dX8_takesE_312 : decode cX8_takesE 312 = .ok (.invokevirtual 237, 3) := edX8_takesE_269.2.2.2.2.2.2.2.2.2.2.2.2.2.2.2.2.2.2.2.2.2.2.1
theorem dX8_takesE_315 : decode cX8_takesE 315 = .ok (.aload_n 0, 1) := edX8_takesE_269.2.2.2.2.2.2.2.2.2.2.2.2.2.2.2.2.2.2.2.2.2.2.2
theorem edX8_takesE_316 : (decode cX8_takesE 316 = .ok (.getfield 42, 3)) ∧ (decode cX8_takesE 319 = .ok (.aload_n 0, 1)) ∧ (decode cX8_takesE 320 = .ok (.getfield 222, 3)) ∧ (decode cX8_takesE 323 = .ok (.iload 4, 2)) ∧ (decode cX8_takesE 325 = .ok (.iastore, 1)) ∧ (decode cX8_takesE 326 = .ok (.aload_n 0, 1)) ∧ (decode cX8_takesE 327 = .ok (.dup, 1)) ∧ (decode cX8_takesE 328 = .ok (.getfield 222, 3)) ∧ (decode cX8_takesE 331 = .ok (.iconst 1, 1)) ∧ (decode cX8_takesE 332 = .ok (.iadd, 1)) ∧ (decode cX8_takesE 333 = .ok (.putfield 222, 3)) ∧ (decode cX8_takesE 336 = .ok (.iconst 1, 1)) ∧ (decode cX8_takesE 337 = .ok (.istore_n 3, 1)) ∧ (decode cX8_takesE 338 = .ok (.aload_n 0, 1)) ∧ (decode cX8_takesE 339 = .ok (.invokevirtual 219, 3)) ∧ (decode cX8_takesE 342 = .ok (.goto (-314), 3)) ∧ (decode cX8_takesE 345 = .ok (.aload_n 0, 1)) ∧ (decode cX8_takesE 346 = .ok (.iconst 0, 1)) ∧ (decode cX8_takesE 347 = .ok (.invokevirtual 237, 3)) ∧ (decode cX8_takesE 350 = .ok (.iload_n 1, 1)) ∧ (decode cX8_takesE 351 = .ok (.ifCond .ne 7, 3)) ∧ (decode cX8_takesE 354 = .ok (.iconst 1, 1)) ∧ (decode cX8_takesE 355 = .ok (.goto 4, 3)) ∧ (decode cX8_takesE 358 = .ok (.iconst 0, 1)) := by decide +kernel
theorem dX8_takesE_316 : decode cX8_takesE 316 = .ok (.getfield 42, 3) := edX8_takesE_316.1
theorem dX8_takesE_319 : decode cX8_takesE 319 = .ok (.aload_n 0, 1) := edX8_takesE_316.2.1
theorem dX8_takesE_320 : decode cX8_takesE 320 = .ok (.getfield 222, 3) := edX8_takesE_316.2.2.1
theorem dX8_takesE_323 : decode cX8_takesE 323 = .ok (.iload 4, 2) := edX8_takesE_316.2.2.2.1
theorem dX8_takesE_325 : decode cX8_takesE 325 = .ok (.iastore, 1) := edX8_takesE_316.2.2.2.2.1
theorem dX8_takesE_326 : decode cX8_takesE 326 = .ok (.aload_n 0, 1) := edX8_takesE_316.2.2.2.2.2.1
theorem dX8_takesE_327 : decode cX8_takesE 327 = .ok (.dup, 1) := edX8_takesE_316.2.2.2.2.2.2.1
theorem dX8_takesE_328 : decode cX8_takesE 328 = .ok (.getfield 222, 3) := edX8_takesE_316.2.2.2.2.2.2.2.1
theorem dX8_takesE_331 : decode cX8_takesE 331 = .ok (.iconst 1, 1) := edX8_takesE_316.2.2.2.2.2.2.2.2.1
theorem dX8_takesE_332 : decode cX8_takesE 332 = .ok (.iadd, 1) := edX8_takesE_316.2.2.2.2.2.2.2.2.2.1
theorem dX8_takesE_333 : decode cX8_takesE 333 = .ok (.putfield 222, 3) := edX8_takesE_316.2.2.2.2.2.2.2.2.2.2.1
theorem dX8_takesE_336 : decode cX8_takesE 336 = .ok (.iconst 1, 1) := edX8_takesE_316.2.2.2.2.2.2.2.2.2.2.2.1
theorem dX8_takesE_337 : decode cX8_takesE 337 = .ok (.istore_n 3, 1) := edX8_takesE_316.2.2.2.2.2.2.2.2.2.2.2.2.1
theorem dX8_takesE_338 : decode cX8_takesE 338 = .ok (.aload_n 0, 1) := edX8_takesE_316.2.2.2.2.2.2.2.2.2.2.2.2.2.1
theorem dX8_takesE_339 : decode cX8_takesE 339 = .ok (.invokevirtual 219, 3) := edX8_takesE_316.2.2.2.2.2.2.2.2.2.2.2.2.2.2.1
theorem dX8_takesE_342 : decode cX8_takesE 342 = .ok (.goto (-314), 3) := edX8_takesE_316.2.2.2.2.2.2.2.2.2.2.2.2.2.2.2.1
theorem dX8_takesE_345 : decode cX8_takesE 345 = .ok (.aload_n 0, 1) := edX8_takesE_316.2.2.2.2.2.2.2.2.2.2.2.2.2.2.2.2.1
theorem dX8_takesE_346 : decode cX8_takesE 346 = .ok (.iconst 0, 1) := edX8_takesE_316.2.2.2.2.2.2.2.2.2.2.2.2.2.2.2.2.2.1
theorem dX8_takesE_347 : decode cX8_takesE 347 = .ok (.invokevirtual 237, 3) := edX8_takesE_316.2.2.2.2.2.2.2.2.2.2.2.2.2.2.2.2.2.2.1
theorem dX8_takesE_350 : decode cX8_takesE 350 = .ok (.iload_n 1, 1) := edX8_takesE_316.2.2.2.2.2.2.2.2.2.2.2.2.2.2.2.2.2.2.2.1
theorem dX8_takesE_351 : decode cX8_takesE 351 = .ok (.ifCond .ne 7, 3) := edX8_takesE_316.2.2.2.2.2.2.2.2.2.2.2.2.2.2.2.2.2.2.2.2.1
theorem dX8_takesE_354 : decode cX8_takesE 354 = .ok (.iconst 1, 1) := edX8_takesE_316.2.2.2.2.2.2.2.2.2.2.2.2.2.2.2.2.2.2.2.2.2.1
theorem dX8_takesE_355 : decode cX8_takesE 355 = .ok (.goto 4, 3) := edX8_takesE_316.2.2.2.2.2.2.2.2.2.2.2.2.2.2.2.2.2.2.2.2.2.2.1
theorem dX8_takesE_358 : decode cX8_takesE 358 = .ok (.iconst 0, 1) := edX8_takesE_316.2.2.2.2.2.2.2.2.2.2.2.2.2.2.2.2.2.2.2.2.2.2.2
theorem edX8_takesE_359 : (decode cX8_takesE 359 = .ok (.ireturn, 1)) := by decide +kernel
theorem dX8_takesE_359 : decode cX8_takesE 359 = .ok (.ireturn, 1) := edX8_takesE_359
theorem edX8_notsOpen_0 : (decode cX8_notsOpen 0 = .ok (.iconst 0, 1)) ∧ (decode cX8_notsOpen 1 = .ok (.istore_n 1, 1)) ∧ (decode cX8_notsOpen 2 = .ok (.iconst 0, 1)) ∧ (decode cX8_notsOpen 3 = .ok (.istore_n 2, 1)) ∧ (decode cX8_notsOpen 4 = .ok (.iload_n 2, 1)) ∧ (decode cX8_notsOpen 5 = .ok (.aload_n 0, 1)) ∧ (decode cX8_notsOpen 6 = .ok (.getfield 222, 3)) ∧ (decode cX8_notsOpen 9 = .ok (.if_icmp .ge 28, 3)) ∧ (decode cX8_notsOpen 12 = .ok (.iload_n 1, 1)) ∧ (decode cX8_notsOpen 13 = .ok (.aload_n 0, 1)) ∧ (decode cX8_notsOpen 14 = .ok (.getfield 42, 3)) ∧ (decode cX8_notsOpen 17 = .ok (.iload_n 2, 1)) ∧ (decode cX8_notsOpen 18 = .ok (.iaload, 1)) ∧ (decode cX8_notsOpen 19 = .ok (.bipush (-10), 2)) ∧ (decode cX8_notsOpen 21 = .ok (.if_icmp .ne 7, 3)) ∧ (decode cX8_notsOpen 24 = .ok (.iconst 1, 1)) ∧ (decode cX8_notsOpen 25 = .ok (.goto 4, 3)) ∧ (decode cX8_notsOpen 28 = .ok (.iconst 0, 1)) ∧ (decode cX8_notsOpen 29 = .ok (.iadd, 1)) ∧ (decode cX8_notsOpen 30 = .ok (.istore_n 1, 1)) ∧ (decode cX8_notsOpen 31 = .ok (.iinc 2 1, 3)) ∧ (decode cX8_notsOpen 34 = .ok (.goto (-30), 3)) ∧ (decode cX8_notsOpen 37 = .ok (.iload_n 1, 1)) ∧ (decode cX8_notsOpen 38 = .ok (.ireturn, 1)) := by decide +kernel
theorem dX8_notsOpen_0 : decode cX8_notsOpen 0 = .ok (.iconst 0, 1) := edX8_notsOpen_0.1
theorem dX8_notsOpen_1 : decode cX8_notsOpen 1 = .ok (.istore_n 1, 1) := edX8_notsOpen_0.2.1
theorem dX8_notsOpen_2 : decode cX8_notsOpen 2 = .ok (.iconst 0, 1) := edX8_notsOpen_0.2.2.1
theorem dX8_notsOpen_3 : decode cX8_notsOpen 3 = .ok (.istore_n 2, 1) := edX8_notsOpen_0.2.2.2.1
theorem dX8_notsOpen_4 : decode cX8_notsOpen 4 = .ok (.iload_n 2, 1) := edX8_notsOpen_0.2.2.2.2.1
theorem dX8_notsOpen_5 : decode cX8_notsOpen 5 = .ok (.aload_n 0, 1) := edX8_notsOpen_0.2.2.2.2.2.1
theorem dX8_notsOpen_6 : decode cX8_notsOpen 6 = .ok (.getfield 222, 3) := edX8_notsOpen_0.2.2.2.2.2.2.1
theorem dX8_notsOpen_9 : decode cX8_notsOpen 9 = .ok (.if_icmp .ge 28, 3) := edX8_notsOpen_0.2.2.2.2.2.2.2.1
theorem dX8_notsOpen_12 : decode cX8_notsOpen 12 = .ok (.iload_n 1, 1) := edX8_notsOpen_0.2.2.2.2.2.2.2.2.1
theorem dX8_notsOpen_13 : decode cX8_notsOpen 13 = .ok (.aload_n 0, 1) := edX8_notsOpen_0.2.2.2.2.2.2.2.2.2.1
theorem dX8_notsOpen_14 : decode cX8_notsOpen 14 = .ok (.getfield 42, 3) := edX8_notsOpen_0.2.2.2.2.2.2.2.2.2.2.1
theorem dX8_notsOpen_17 : decode cX8_notsOpen 17 = .ok (.iload_n 2, 1) := edX8_notsOpen_0.2.2.2.2.2.2.2.2.2.2.2.1
theorem dX8_notsOpen_18 : decode cX8_notsOpen 18 = .ok (.iaload, 1) := edX8_notsOpen_0.2.2.2.2.2.2.2.2.2.2.2.2.1
theorem dX8_notsOpen_19 : decode cX8_notsOpen 19 = .ok (.bipush (-10), 2) := edX8_notsOpen_0.2.2.2.2.2.2.2.2.2.2.2.2.2.1
theorem dX8_notsOpen_21 : decode cX8_notsOpen 21 = .ok (.if_icmp .ne 7, 3) := edX8_notsOpen_0.2.2.2.2.2.2.2.2.2.2.2.2.2.2.1
theorem dX8_notsOpen_24 : decode cX8_notsOpen 24 = .ok (.iconst 1, 1) := edX8_notsOpen_0.2.2.2.2.2.2.2.2.2.2.2.2.2.2.2.1
theorem dX8_notsOpen_25 : decode cX8_notsOpen 25 = .ok (.goto 4, 3) := edX8_notsOpen_0.2.2.2.2.2.2.2.2.2.2.2.2.2.2.2.2.1
theorem dX8_notsOpen_28 : decode cX8_notsOpen 28 = .ok (.iconst 0, 1) := edX8_notsOpen_0.2.2.2.2.2.2.2.2.2.2.2.2.2.2.2.2.2.1
theorem dX8_notsOpen_29 : decode cX8_notsOpen 29 = .ok (.iadd, 1) := edX8_notsOpen_0.2.2.2.2.2.2.2.2.2.2.2.2.2.2.2.2.2.2.1
theorem dX8_notsOpen_30 : decode cX8_notsOpen 30 = .ok (.istore_n 1, 1) := edX8_notsOpen_0.2.2.2.2.2.2.2.2.2.2.2.2.2.2.2.2.2.2.2.1
theorem dX8_notsOpen_31 : decode cX8_notsOpen 31 = .ok (.iinc 2 1, 3) := edX8_notsOpen_0.2.2.2.2.2.2.2.2.2.2.2.2.2.2.2.2.2.2.2.2.1
theorem dX8_notsOpen_34 : decode cX8_notsOpen 34 = .ok (.goto (-30), 3) := edX8_notsOpen_0.2.2.2.2.2.2.2.2.2.2.2.2.2.2.2.2.2.2.2.2.2.1
theorem dX8_notsOpen_37 : decode cX8_notsOpen 37 = .ok (.iload_n 1, 1) := edX8_notsOpen_0.2.2.2.2.2.2.2.2.2.2.2.2.2.2.2.2.2.2.2.2.2.2.1
theorem dX8_notsOpen_38 : decode cX8_notsOpen 38 = .ok (.ireturn, 1) := edX8_notsOpen_0.2.2.2.2.2.2.2.2.2.2.2.2.2.2.2.2.2.2.2.2.2.2.2
theorem edX8_text_0 : (decode cX8_text 0 = .ok (.aload_n 0, 1)) ∧ (decode cX8_text 1 = .ok (.iconst 0, 1)) ∧ (decode cX8_text 2 = .ok (.putfield 195, 3)) ∧ (decode cX8_text 5 = .ok (.aload_n 0, 1)) ∧ (decode cX8_text 6 = .ok (.iconst (-1), 1)) ∧ (decode cX8_text 7 = .ok (.putfield 201, 3)) ∧ (decode cX8_text 10 = .ok (.aload_n 0, 1)) ∧ (decode cX8_text 11 = .ok (.invokevirtual 219, 3)) ∧ (decode cX8_text 14 = .ok (.aload_n 0, 1)) ∧ (decode cX8_text 15 = .ok (.invokevirtual 249, 3)) ∧ (decode cX8_text 18 = .ok (.ifCond .eq 14, 3)) ∧ (decode cX8_text 21 = .ok (.aload_n 0, 1)) ∧ (decode cX8_text 22 = .ok (.invokevirtual 252, 3)) ∧ (decode cX8_text 25 = .ok (.ifCond .eq 7, 3)) ∧ (decode cX8_text 28 = .ok (.iconst 1, 1)) ∧ (decode cX8_text 29 = .ok (.goto 4, 3)) ∧ (decode cX8_text 32 = .ok (.iconst 0, 1)) ∧ (decode cX8_text 33 = .ok (.istore_n 1, 1)) ∧ (decode cX8_text 34 = .ok (.aload_n 0, 1)) ∧ (decode cX8_text 35 = .ok (.iconst 0, 1)) ∧ (decode cX8_text 36 = .ok (.putfield 192, 3)) ∧ (decode cX8_text 39 = .ok (.iload_n 1, 1)) ∧ (decode cX8_text 40 = .ok (.ifCond .ne 11, 3)) ∧ (decode cX8_text 43 = .ok (.bipush (-100), 2)) := by decide +kernel
theorem dX8_text_0 : decode cX8_text 0 = .ok (.aload_n 0, 1) := edX8_text_0.1
theorem dX8_text_1 : decode cX8_text 1 = .ok (.iconst 0, 1) := edX8_text_0.2.1
theorem dX8_text_2 : decode cX8_text 2 = .ok (.putfield 195, 3) := edX8_text_0.2.2.1
theorem dX8_text_5 : decode cX8_text 5 = .ok (.aload_n 0, 1) := edX8_text_0.2.2.2.1
theorem dX8_text_6 : decode cX8_text 6 = .ok (.iconst (-1), 1) := edX8_text_0.2.2.2.2.1
theorem dX8_text_7 : decode cX8_text 7 = .ok (.putfield 201, 3) := edX8_text_0.2.2.2.2.2.1
theorem dX8_text_10 : decode cX8_text 10 = .ok (.aload_n 0, 1) := edX8_text_0.2.2.2.2.2.2.1
theorem dX8_text_11 : decode cX8_text 11 = .ok (.invokevirtual 219, 3) := edX8_text_0.2.2.2.2.2.2.2.1
theorem dX8_text_14 : decode cX8_text 14 = .ok (.aload_n 0, 1) := edX8_text_0.2.2.2.2.2.2.2.2.1
theorem dX8_text_15 : decode cX8_text 15 = .ok (.invokevirtual 249, 3) := edX8_text_0.2.2.2.2.2.2.2.2.2.1
theorem dX8_text_18 : decode cX8_text 18 = .ok (.ifCond .eq 14, 3) := edX8_text_0.2.2.2.2.2.2.2.2.2.2.1
theorem dX8_text_21 : decode cX8_text 21 = .ok (.aload_n 0, 1) := edX8_text_0.2.2.2.2.2.2.2.2.2.2.2.1
theorem dX8_text_22 : decode cX8_text 22 = .ok (.invokevirtual 252, 3) := edX8_text_0.2.2.2.2.2.2.2.2.2.2.2.2.1
theorem dX8_text_25 : decode cX8_text 25 = .ok (.ifCond .eq 7, 3) := edX8_text_0.2.2.2.2.2.2.2.2.2.2.2.2.2.1
theorem dX8_text_28 : decode cX8_text 28 = .ok (.iconst 1, 1) := edX8_text_0.2.2.2.2.2.2.2.2.2.2.2.2.2.2.1
theorem dX8_text_29 : decode cX8_text 29 = .ok (.goto 4, 3) := edX8_text_0.2.2.2.2.2.2.2.2.2.2.2.2.2.2.2.1
theorem dX8_text_32 : decode cX8_text 32 = .ok (.iconst 0, 1) := edX8_text_0.2.2.2.2.2.2.2.2.2.2.2.2.2.2.2.2.1
theorem dX8_text_33 : decode cX8_text 33 = .ok (.istore_n 1, 1) := edX8_text_0.2.2.2.2.2.2.2.2.2.2.2.2.2.2.2.2.2.1
theorem dX8_text_34 : decode cX8_text 34 = .ok (.aload_n 0, 1) := edX8_text_0.2.2.2.2.2.2.2.2.2.2.2.2.2.2.2.2.2.2.1
theorem dX8_text_35 : decode cX8_text 35 = .ok (.iconst 0, 1) := edX8_text_0.2.2.2.2.2.2.2.2.2.2.2.2.2.2.2.2.2.2.2.1
theorem dX8_text_36 : decode cX8_text 36 = .ok (.putfield 192, 3) := edX8_text_0.2.2.2.2.2.2.2.2.2.2.2.2.2.2.2.2.2.2.2.2.1
theorem dX8_text_39 : decode cX8_text 39 = .ok (.iload_n 1, 1) := edX8_text_0.2.2.2.2.2.2.2.2.2.2.2.2.2.2.2.2.2.2.2.2.2.1
theorem dX8_text_40 : decode cX8_text 40 = .ok (.ifCond .ne 11, 3) := edX8_text_0.2.2.2.2.2.2.2.2.2.2.2.2.2.2.2.2.2.2.2.2.2.2.1
theorem dX8_text_43 : decode cX8_text 43 = .ok (.bipush (-100), 2) := edX8_text_0.2.2.2.2.2.2.2.2.2.2.2.2.2.2.2.2.2.2.2.2.2.2.2
theorem edX8_text_45 : (decode cX8_text 45 = .ok (.aload_n 0, 1)) ∧ (decode cX8_text 46 = .ok (.getfield 198, 3)) ∧ (decode cX8_text 49 = .ok (.isub, 1)) ∧ (decode cX8_text 50 = .ok (.ireturn, 1)) ∧ (decode cX8_text 51 = .ok (.aload_n 0, 1)) ∧ (decode cX8_text 52 = .ok (.getfield 9, 3)) ∧ (decode cX8_text 55 = .ok (.bipush 7, 2)) ∧ (decode cX8_text 57 = .ok (.iaload, 1)) ∧ (decode cX8_text 58 = .ok (.bipush 14, 2)) ∧ (decode cX8_text 60 = .ok (.if_icmp .ne 6, 3)) ∧ (decode cX8_text 63 = .ok (.ldc 92, 2)) ∧ (decode cX8_text 65 = .ok (.ireturn, 1)) ∧ (decode cX8_text 66 = .ok (.aload_n 0, 1)) ∧ (decode cX8_text 67 = .ok (.getfield 9, 3)) ∧ (decode cX8_text 70 = .ok (.bipush 7, 2)) ∧ (decode cX8_text 72 = .ok (.iaload, 1)) ∧ (decode cX8_text 73 = .ok (.istore_n 2, 1)) ∧ (decode cX8_text 74 = .ok (.aload_n 0, 1)) ∧ (decode cX8_text 75 = .ok (.getfield 9, 3)) ∧ (decode cX8_text 78 = .ok (.bipush 62, 2)) ∧ (decode cX8_text 80 = .ok (.iconst 2, 1)) ∧ (decode cX8_text 81 = .ok (.iload_n 2, 1)) ∧ (decode cX8_text 82 = .ok (.imul, 1)) ∧ (decode cX8_text 83 = .ok (.iadd, 1)) := by decide +kernel
theorem dX8_text_45 : decode cX8_text 45 = .ok (.aload_n 0, 1) := edX8_text_45.1
theorem dX8_text_46 : decode cX8_text 46 = .ok (.getfield 198, 3) := edX8_text_45.2.1
theorem dX8_text_49 : decode cX8_text 49 = .ok (.isub, 1) := edX8_text_45.2.2.1
theorem dX8_text_50 : decode cX8_text 50 = .ok (.ireturn, 1) := edX8_text_45.2.2.2.1
theorem dX8_text_51 : decode cX8_text 51 = .ok (.aload_n 0, 1) := edX8_text_45.2.2.2.2.1
theorem dX8_text_52 : decode cX8_text 52 = .ok (.getfield 9, 3) := edX8_text_45.2.2.2.2.2.1
theorem dX8_text_55 : decode cX8_text 55 = .ok (.bipush 7, 2) := edX8_text_45.2.2.2.2.2.2.1
theorem dX8_text_57 : decode cX8_text 57 = .ok (.iaload, 1) := edX8_text_45.2.2.2.2.2.2.2.1
theorem dX8_text_58 : decode cX8_text 58 = .ok (.bipush 14, 2) := edX8_text_45.2.2.2.2.2.2.2.2.1
theorem dX8_text_60 : decode cX8_text 60 = .ok (.if_icmp .ne 6, 3) := edX8_text_45.2.2.2.2.2.2.2.2.2.1
theorem dX8_text_63 : decode cX8_text 63 = .ok (.ldc 92, 2) := edX8_text_45.2.2.2.2.2.2.2.2.2.2.1
theorem dX8_text_65 : decode cX8_text 65 = .ok (.ireturn, 1) := edX8_text_45.2.2.2.2.2.2.2.2.2.2.2.1
theorem dX8_text_66 : decode cX8_text 66 = .ok (.aload_n 0, 1) := edX8_text_45.2.2.2.2.2.2.2.2.2.2.2.2.1
theorem dX8_text_67 : decode cX8_text 67 = .ok (.getfield 9, 3) := edX8_text_45.2.2.2.2.2.2.2.2.2.2.2.2.2.1
theorem dX8_text_70 : decode cX8_text 70 = .ok (.bipush 7, 2) := edX8_text_45.2.2.2.2.2.2.2.2.2.2.2.2.2.2.1
theorem dX8_text_72 : decode cX8_text 72 = .ok (.iaload, 1) := edX8_text_45.2.2.2.2.2.2.2.2.2.2.2.2.2.2.2.1
theorem dX8_text_73 : decode cX8_text 73 = .ok (.istore_n 2, 1) := edX8_text_45.2.2.2.2.2.2.2.2.2.2.2.2.2.2.2.2.1
theorem dX8_text_74 : decode cX8_text 74 = .ok (.aload_n 0, 1) := edX8_text_45.2.2.2.2.2.2.2.2.2.2.2.2.2.2.2.2.2.1
theorem dX8_text_75 : decode cX8_text 75 = .ok (.getfield 9, 3) := edX8_text_45.2.2.2.2.2.2.2.2.2.2.2.2.2.2.2.2.2.2.1
theorem dX8_text_78 : decode cX8_text 78 = .ok (.bipush 62, 2) := edX8_text_45.2.2.2.2.2.2.2.2.2.2.2.2.2.2.2.2.2.2.2.1
theorem dX8_text_80 : decode cX8_text 80 = .ok (.iconst 2, 1) := edX8_text_45.2.2.2.2.2.2.2.2.2.2.2.2.2.2.2.2.2.2.2.2.1
theorem dX8_text_81 : decode cX8_text 81 = .ok (.iload_n 2, 1) := edX8_text_45.2.2.2.2.2.2.2.2.2.2.2.2.2.2.2.2.2.2.2.2.2.1
theorem dX8_text_82 : decode cX8_text 82 = .ok (.imul, 1) := edX8_text_45.2.2.2.2.2.2.2.2.2.2.2.2.2.2.2.2.2.2.2.2.2.2.1
theorem dX8_text_83 : decode cX8_text 83 = .ok (.iadd, 1) := edX8_text_45.2.2.2.2.2.2.2.2.2.2.2.2.2.2.2.2.2.2.2.2.2.2.2
theorem edX8_text_84 : (decode cX8_text 84 = .ok (.sipush 1000, 3)) ∧ (decode cX8_text 87 = .ok (.aload_n 0, 1)) ∧ (decode cX8_text 88 = .ok (.getfield 216, 3)) ∧ (decode cX8_text 91 = .ok (.imul, 1)) ∧ (decode cX8_text 92 = .ok (.aload_n 0, 1)) ∧ (decode cX8_text 93 = .ok (.getfield 228, 3)) ∧ (decode cX8_text 96 = .ok (.iadd, 1)) ∧ (decode cX8_text 97 = .ok (.iastore, 1)) ∧ (decode cX8_text 98 = .ok (.aload_n 0, 1)) ∧ (decode cX8_text 99 = .ok (.getfield 9, 3)) ∧ (decode cX8_text 102 = .ok (.bipush 62, 2)) ∧ (decode cX8_text 104 = .ok (.iconst 2, 1)) ∧ (decode cX8_text 105 = .ok (.iload_n 2, 1)) ∧ (decode cX8_text 106 = .ok (.imul, 1)) ∧ (decode cX8_text 107 = .ok (.iadd, 1)) ∧ (decode cX8_text 108 = .ok (.iconst 1, 1)) ∧ (decode cX8_text 109 = .ok (.iadd, 1)) ∧ (decode cX8_text 110 = .ok (.aload_n 0, 1)) ∧ (decode cX8_text 111 = .ok (.getfield 234, 3)) ∧ (decode cX8_text 114 = .ok (.iastore, 1)) ∧ (decode cX8_text 115 = .ok (.iconst 0, 1)) ∧ (decode cX8_text 116 = .ok (.istore_n 3, 1)) ∧ (decode cX8_text 117 = .ok (.iload_n 3, 1)) ∧ (decode cX8_text 118 = .ok (.aload_n 0, 1)) := by decide +kernel
theorem dX8_text_84 : decode cX8_text 84 = .ok (.sipush 1000, 3) := edX8_text_84.1
theorem dX8_text_87 : decode cX8_text 87 = .ok (.aload_n 0, 1) := edX8_text_84.2.1
theorem dX8_text_88 : decode cX8_text 88 = .ok (.getfield 216, 3) := edX8_text_84.2.2.1
theorem dX8_text_91 : decode cX8_text 91 = .ok (.imul, 1) := edX8_text_84.2.2.2.1
theorem dX8_text_92 : decode cX8_text 92 = .ok (.aload_n 0, 1) := edX8_text_84.2.2.2.2.1
theorem dX8_text_93 : decode cX8_text 93 = .ok (.getfield 228, 3) := edX8_text_84.2.2.2.2.2.1
theorem dX8_text_96 : decode cX8_text 96 = .ok (.iadd, 1) := edX8_text_84.2.2.2.2.2.2.1
theorem dX8_text_97 : decode cX8_text 97 = .ok (.iastore, 1) := edX8_text_84.2.2.2.2.2.2.2.1
theorem dX8_text_98 : decode cX8_text 98 = .ok (.aload_n 0, 1) := edX8_text_84.2.2.2.2.2.2.2.2.1
theorem dX8_text_99 : decode cX8_text 99 = .ok (.getfield 9, 3) := edX8_text_84.2.2.2.2.2.2.2.2.2.1
theorem dX8_text_102 : decode cX8_text 102 = .ok (.bipush 62, 2) := edX8_text_84.2.2.2.2.2.2.2.2.2.2.1
theorem dX8_text_104 : decode cX8_text 104 = .ok (.iconst 2, 1) := edX8_text_84.2.2.2.2.2.2.2.2.2.2.2.1
theorem dX8_text_105 : decode cX8_text 105 = .ok (.iload_n 2, 1) := edX8_text_84.2.2.2.2.2.2.2.2.2.2.2.2.1
theorem dX8_text_106 : decode cX8_text 106 = .ok (.imul, 1) := edX8_text_84.2.2.2.2.2.2.2.2.2.2.2.2.2.1
theorem dX8_text_107 : decode cX8_text 107 = .ok (.iadd, 1) := edX8_text_84.2.2.2.2.2.2.2.2.2.2.2.2.2.2.1
theorem dX8_text_108 : decode cX8_text 108 = .ok (.iconst 1, 1) := edX8_text_84.2.2.2.2.2.2.2.2.2.2.2.2.2.2.2.1
theorem dX8_text_109 : decode cX8_text 109 = .ok (.iadd, 1) := edX8_text_84.2.2.2.2.2.2.2.2.2.2.2.2.2.2.2.2.1
theorem dX8_text_110 : decode cX8_text 110 = .ok (.aload_n 0, 1) := edX8_text_84.2.2.2.2.2.2.2.2.2.2.2.2.2.2.2.2.2.1
theorem dX8_text_111 : decode cX8_text 111 = .ok (.getfield 234, 3) := edX8_text_84.2.2.2.2.2.2.2.2.2.2.2.2.2.2.2.2.2.2.1
theorem dX8_text_114 : decode cX8_text 114 = .ok (.iastore, 1) := edX8_text_84.2.2.2.2.2.2.2.2.2.2.2.2.2.2.2.2.2.2.2.1
theorem dX8_text_115 : decode cX8_text 115 = .ok (.iconst 0, 1) := edX8_text_84.2.2.2.2.2.2.2.2.2.2.2.2.2.2.2.2.2.2.2.2.1
theorem dX8_text_116 : decode cX8_text 116 = .ok (.istore_n 3, 1) := edX8_text_84.2.2.2.2.2.2.2.2.2.2.2.2.2.2.2.2.2.2.2.2.2.1
theorem dX8_text_117 : decode cX8_text 117 = .ok (.iload_n 3, 1) := edX8_text_84.2.2.2.2.2.2.2.2.2.2.2.2.2.2.2.2.2.2.2.2.2.2.1
theorem dX8_text_118 : decode cX8_text 118 = .ok (.aload_n 0, 1) := edX8_text_84.2.2.2.2.2.2.2.2.2.2.2.2.2.2.2.2.2.2.2.2.2.2.2
theorem edX8_text_119 : (decode cX8_text 119 = .ok (.getfield 228, 3)) ∧ (decode cX8_text 122 = .ok (.if_icmp .ge 29, 3)) ∧ (decode cX8_text 125 = .ok (.aload_n 0, 1)) ∧ (decode cX8_text 126 = .ok (.getfield 9, 3)) ∧ (decode cX8_text 129 = .ok (.bipush 90, 2)) ∧ (decode cX8_text 131 = .ok (.bipush 96, 2)) ∧ (decode cX8_text 133 = .ok (.iload_n 2, 1)) ∧ (decode cX8_text 134 = .ok (.imul, 1)) ∧ (decode cX8_text 135 = .ok (.iadd, 1)) ∧ (decode cX8_text 136 = .ok (.iload_n 3, 1)) ∧ (decode cX8_text 137 = .ok (.iadd, 1)) ∧ (decode cX8_text 138 = .ok (.aload_n 0, 1)) ∧ (decode cX8_text 139 = .ok (.getfield 39, 3)) ∧ (decode cX8_text 142 = .ok (.iload_n 3, 1)) ∧ (decode cX8_text 143 = .ok (.iaload, 1)) ∧ (decode cX8_text 144 = .ok (.iastore, 1)) ∧ (decode cX8_text 145 = .ok (.iinc 3 1, 3)) ∧ (decode cX8_text 148 = .ok (.goto (-31), 3)) ∧ (decode cX8_text 151 = .ok (.aload_n 0, 1)) ∧ (decode cX8_text 152 = .ok (.getfield 9, 3)) ∧ (decode cX8_text 155 = .ok (.bipush 7, 2)) ∧ (decode cX8_text 157 = .ok (.dup2, 1)) ∧ (decode cX8_text 158 = .ok (.iaload, 1)) ∧ (decode cX8_text 159 = .ok (.iconst 1, 1)) := by decide +kernel
theorem dX8_text_119 : decode cX8_text 119 = .ok (.getfield 228, 3) := edX8_text_119.1
theorem dX8_text_122 : decode cX8_text 122 = .ok (.if_icmp .ge 29, 3) := edX8_text_119.2.1
theorem dX8_text_125 : decode cX8_text 125 = .ok (.aload_n 0, 1) := edX8_text_119.2.2.1
theorem dX8_text_126 : decode cX8_text 126 = .ok (.getfield 9, 3) := edX8_text_119.2.2.2.1
theorem dX8_text_129 : decode cX8_text 129 = .ok (.bipush 90, 2) := edX8_text_119.2.2.2.2.1
theorem dX8_text_131 : decode cX8_text 131 = .ok (.bipush 96, 2) := edX8_text_119.2.2.2.2.2.1
theorem dX8_text_133 : decode cX8_text 133 = .ok (.iload_n 2, 1) := edX8_text_119.2.2.2.2.2.2.1
theorem dX8_text_134 : decode cX8_text 134 = .ok (.imul, 1) := edX8_text_119.2.2.2.2.2.2.2.1
theorem dX8_text_135 : decode cX8_text 135 = .ok (.iadd, 1) := edX8_text_119.2.2.2.2.2.2.2.2.1
theorem dX8_text_136 : decode cX8_text 136 = .ok (.iload_n 3, 1) := edX8_text_119.2.2.2.2.2.2.2.2.2.1
theorem dX8_text_137 : decode cX8_text 137 = .ok (.iadd, 1) := edX8_text_119.2.2.2.2.2.2.2.2.2.2.1
theorem dX8_text_138 : decode cX8_text 138 = .ok (.aload_n 0, 1) := edX8_text_119.2.2.2.2.2.2.2.2.2.2.2.1
theorem dX8_text_139 : decode cX8_text 139 = .ok (.getfield 39, 3) := edX8_text_119.2.2.2.2.2.2.2.2.2.2.2.2.1
theorem dX8_text_142 : decode cX8_text 142 = .ok (.iload_n 3, 1) := edX8_text_119.2.2.2.2.2.2.2.2.2.2.2.2.2.1
theorem dX8_text_143 : decode cX8_text 143 = .ok (.iaload, 1) := edX8_text_119.2.2.2.2.2.2.2.2.2.2.2.2.2.2.1
theorem dX8_text_144 : decode cX8_text 144 = .ok (.iastore, 1) := edX8_text_119.2.2.2.2.2.2.2.2.2.2.2.2.2.2.2.1
theorem dX8_text_145 : decode cX8_text 145 = .ok (.iinc 3 1, 3) := edX8_text_119.2.2.2.2.2.2.2.2.2.2.2.2.2.2.2.2.1
theorem dX8_text_148 : decode cX8_text 148 = .ok (.goto (-31), 3) := edX8_text_119.2.2.2.2.2.2.2.2.2.2.2.2.2.2.2.2.2.1
theorem dX8_text_151 : decode cX8_text 151 = .ok (.aload_n 0, 1) := edX8_text_119.2.2.2.2.2.2.2.2.2.2.2.2.2.2.2.2.2.2.1
theorem dX8_text_152 : decode cX8_text 152 = .ok (.getfield 9, 3) := edX8_text_119.2.2.2.2.2.2.2.2.2.2.2.2.2.2.2.2.2.2.2.1
theorem dX8_text_155 : decode cX8_text 155 = .ok (.bipush 7, 2) := edX8_text_119.2.2.2.2.2.2.2.2.2.2.2.2.2.2.2.2.2.2.2.2.1
theorem dX8_text_157 : decode cX8_text 157 = .ok (.dup2, 1) := edX8_text_119.2.2.2.2.2.2.2.2.2.2.2.2.2.2.2.2.2.2.2.2.2.1
theorem dX8_text_158 : decode cX8_text 158 = .ok (.iaload, 1) := edX8_text_119.2.2.2.2.2.2.2.2.2.2.2.2.2.2.2.2.2.2.2.2.2.2.1
theorem dX8_text_159 : decode cX8_text 159 = .ok (.iconst 1, 1) := edX8_text_119.2.2.2.2.2.2.2.2.2.2.2.2.2.2.2.2.2.2.2.2.2.2.2
theorem edX8_text_160 : (decode cX8_text 160 = .ok (.iadd, 1)) ∧ (decode cX8_text 161 = .ok (.iastore, 1)) ∧ (decode cX8_text 162 = .ok (.iload_n 2, 1)) ∧ (decode cX8_text 163 = .ok (.ireturn, 1)) := by decide +kernel
theorem dX8_text_160 : decode cX8_text 160 = .ok (.iadd, 1) := edX8_text_160.1
theorem dX8_text_161 : decode cX8_text 161 = .ok (.iastore, 1) := edX8_text_160.2.1
theorem dX8_text_162 : decode cX8_text 162 = .ok (.iload_n 2, 1) := edX8_text_160.2.2.1
theorem dX8_text_163 : decode cX8_text 163 = .ok (.ireturn, 1) := edX8_text_160.2.2.2
theorem edX8_textTold_0 : (decode cX8_textTold 0 = .ok (.iload_n 1, 1)) ∧ (decode cX8_textTold 1 = .ok (.iconst 0, 1)) ∧ (decode cX8_textTold 2 = .ok (.aload_n 0, 1)) ∧ (decode cX8_textTold 3 = .ok (.getfield 9, 3)) ∧ (decode cX8_textTold 6 = .ok (.bipush 7, 2)) ∧ (decode cX8_textTold 8 = .ok (.iaload, 1)) ∧ (decode cX8_textTold 9 = .ok (.iconst 1, 1)) ∧ (decode cX8_textTold 10 = .ok (.isub, 1)) ∧ (decode cX8_textTold 11 = .ok (.invokestatic 83, 3)) ∧ (decode cX8_textTold 14 = .ok (.ifCond .eq 12, 3)) ∧ (decode cX8_textTold 17 = .ok (.iload_n 2, 1)) ∧ (decode cX8_textTold 18 = .ok (.iconst 0, 1)) ∧ (decode cX8_textTold 19 = .ok (.iconst 1, 1)) ∧ (decode cX8_textTold 20 = .ok (.invokestatic 83, 3)) ∧ (decode cX8_textTold 23 = .ok (.ifCond .ne 6, 3)) ∧ (decode cX8_textTold 26 = .ok (.ldc 91, 2)) ∧ (decode cX8_textTold 28 = .ok (.ireturn, 1)) ∧ (decode cX8_textTold 29 = .ok (.iload_n 2, 1)) ∧ (decode cX8_textTold 30 = .ok (.ifCond .ne 21, 3)) ∧ (decode cX8_textTold 33 = .ok (.aload_n 0, 1)) ∧ (decode cX8_textTold 34 = .ok (.getfield 9, 3)) ∧ (decode cX8_textTold 37 = .ok (.bipush 62, 2)) ∧ (decode cX8_textTold 39 = .ok (.iconst 2, 1)) ∧ (decode cX8_textTold 40 = .ok (.iload_n 1, 1)) := by decide +kernel
theorem dX8_textTold_0 : decode cX8_textTold 0 = .ok (.iload_n 1, 1) := edX8_textTold_0.1
theorem dX8_textTold_1 : decode cX8_textTold 1 = .ok (.iconst 0, 1) := edX8_textTold_0.2.1
theorem dX8_textTold_2 : decode cX8_textTold 2 = .ok (.aload_n 0, 1) := edX8_textTold_0.2.2.1
theorem dX8_textTold_3 : decode cX8_textTold 3 = .ok (.getfield 9, 3) := edX8_textTold_0.2.2.2.1
theorem dX8_textTold_6 : decode cX8_textTold 6 = .ok (.bipush 7, 2) := edX8_textTold_0.2.2.2.2.1
theorem dX8_textTold_8 : decode cX8_textTold 8 = .ok (.iaload, 1) := edX8_textTold_0.2.2.2.2.2.1
theorem dX8_textTold_9 : decode cX8_textTold 9 = .ok (.iconst 1, 1) := edX8_textTold_0.2.2.2.2.2.2.1
theorem dX8_textTold_10 : decode cX8_textTold 10 = .ok (.isub, 1) := edX8_textTold_0.2.2.2.2.2.2.2.1
theorem dX8_textTold_11 : decode cX8_textTold 11 = .ok (.invokestatic 83, 3) := edX8_textTold_0.2.2.2.2.2.2.2.2.1
theorem dX8_textTold_14 : decode cX8_textTold 14 = .ok (.ifCond .eq 12, 3) := edX8_textTold_0.2.2.2.2.2.2.2.2.2.1
theorem dX8_textTold_17 : decode cX8_textTold 17 = .ok (.iload_n 2, 1) := edX8_textTold_0.2.2.2.2.2.2.2.2.2.2.1
theorem dX8_textTold_18 : decode cX8_textTold 18 = .ok (.iconst 0, 1) := edX8_textTold_0.2.2.2.2.2.2.2.2.2.2.2.1
theorem dX8_textTold_19 : decode cX8_textTold 19 = .ok (.iconst 1, 1) := edX8_textTold_0.2.2.2.2.2.2.2.2.2.2.2.2.1
theorem dX8_textTold_20 : decode cX8_textTold 20 = .ok (.invokestatic 83, 3) := edX8_textTold_0.2.2.2.2.2.2.2.2.2.2.2.2.2.1
theorem dX8_textTold_23 : decode cX8_textTold 23 = .ok (.ifCond .ne 6, 3) := edX8_textTold_0.2.2.2.2.2.2.2.2.2.2.2.2.2.2.1
theorem dX8_textTold_26 : decode cX8_textTold 26 = .ok (.ldc 91, 2) := edX8_textTold_0.2.2.2.2.2.2.2.2.2.2.2.2.2.2.2.1
theorem dX8_textTold_28 : decode cX8_textTold 28 = .ok (.ireturn, 1) := edX8_textTold_0.2.2.2.2.2.2.2.2.2.2.2.2.2.2.2.2.1
theorem dX8_textTold_29 : decode cX8_textTold 29 = .ok (.iload_n 2, 1) := edX8_textTold_0.2.2.2.2.2.2.2.2.2.2.2.2.2.2.2.2.2.1
theorem dX8_textTold_30 : decode cX8_textTold 30 = .ok (.ifCond .ne 21, 3) := edX8_textTold_0.2.2.2.2.2.2.2.2.2.2.2.2.2.2.2.2.2.2.1
theorem dX8_textTold_33 : decode cX8_textTold 33 = .ok (.aload_n 0, 1) := edX8_textTold_0.2.2.2.2.2.2.2.2.2.2.2.2.2.2.2.2.2.2.2.1
theorem dX8_textTold_34 : decode cX8_textTold 34 = .ok (.getfield 9, 3) := edX8_textTold_0.2.2.2.2.2.2.2.2.2.2.2.2.2.2.2.2.2.2.2.2.1
theorem dX8_textTold_37 : decode cX8_textTold 37 = .ok (.bipush 62, 2) := edX8_textTold_0.2.2.2.2.2.2.2.2.2.2.2.2.2.2.2.2.2.2.2.2.2.1
theorem dX8_textTold_39 : decode cX8_textTold 39 = .ok (.iconst 2, 1) := edX8_textTold_0.2.2.2.2.2.2.2.2.2.2.2.2.2.2.2.2.2.2.2.2.2.2.1
theorem dX8_textTold_40 : decode cX8_textTold 40 = .ok (.iload_n 1, 1) := edX8_textTold_0.2.2.2.2.2.2.2.2.2.2.2.2.2.2.2.2.2.2.2.2.2.2.2
theorem edX8_textTold_41 : (decode cX8_textTold 41 = .ok (.imul, 1)) ∧ (decode cX8_textTold 42 = .ok (.iadd, 1)) ∧ (decode cX8_textTold 43 = .ok (.iaload, 1)) ∧ (decode cX8_textTold 44 = .ok (.sipush 1000, 3)) ∧ (decode cX8_textTold 47 = .ok (.idiv, 1)) ∧ (decode cX8_textTold 48 = .ok (.goto 16, 3)) ∧ (decode cX8_textTold 51 = .ok (.aload_n 0, 1)) ∧ (decode cX8_textTold 52 = .ok (.getfield 9, 3)) ∧ (decode cX8_textTold 55 = .ok (.bipush 62, 2)) ∧ (decode cX8_textTold 57 = .ok (.iconst 2, 1)) ∧ (decode cX8_textTold 58 = .ok (.iload_n 1, 1)) ∧ (decode cX8_textTold 59 = .ok (.imul, 1)) ∧ (decode cX8_textTold 60 = .ok (.iadd, 1)) ∧ (decode cX8_textTold 61 = .ok (.iconst 1, 1)) ∧ (decode cX8_textTold 62 = .ok (.iadd, 1)) ∧ (decode cX8_textTold 63 = .ok (.iaload, 1)) ∧ (decode cX8_textTold 64 = .ok (.ireturn, 1)) := by decide +kernel
theorem dX8_textTold_41 : decode cX8_textTold 41 = .ok (.imul, 1) := edX8_textTold_41.1
theorem dX8_textTold_42 : decode cX8_textTold 42 = .ok (.iadd, 1) := edX8_textTold_41.2.1
theorem dX8_textTold_43 : decode cX8_textTold 43 = .ok (.iaload, 1) := edX8_textTold_41.2.2.1
theorem dX8_textTold_44 : decode cX8_textTold 44 = .ok (.sipush 1000, 3) := edX8_textTold_41.2.2.2.1
theorem dX8_textTold_47 : decode cX8_textTold 47 = .ok (.idiv, 1) := edX8_textTold_41.2.2.2.2.1
theorem dX8_textTold_48 : decode cX8_textTold 48 = .ok (.goto 16, 3) := edX8_textTold_41.2.2.2.2.2.1
theorem dX8_textTold_51 : decode cX8_textTold 51 = .ok (.aload_n 0, 1) := edX8_textTold_41.2.2.2.2.2.2.1
theorem dX8_textTold_52 : decode cX8_textTold 52 = .ok (.getfield 9, 3) := edX8_textTold_41.2.2.2.2.2.2.2.1
theorem dX8_textTold_55 : decode cX8_textTold 55 = .ok (.bipush 62, 2) := edX8_textTold_41.2.2.2.2.2.2.2.2.1
theorem dX8_textTold_57 : decode cX8_textTold 57 = .ok (.iconst 2, 1) := edX8_textTold_41.2.2.2.2.2.2.2.2.2.1
theorem dX8_textTold_58 : decode cX8_textTold 58 = .ok (.iload_n 1, 1) := edX8_textTold_41.2.2.2.2.2.2.2.2.2.2.1
theorem dX8_textTold_59 : decode cX8_textTold 59 = .ok (.imul, 1) := edX8_textTold_41.2.2.2.2.2.2.2.2.2.2.2.1
theorem dX8_textTold_60 : decode cX8_textTold 60 = .ok (.iadd, 1) := edX8_textTold_41.2.2.2.2.2.2.2.2.2.2.2.2.1
theorem dX8_textTold_61 : decode cX8_textTold 61 = .ok (.iconst 1, 1) := edX8_textTold_41.2.2.2.2.2.2.2.2.2.2.2.2.2.1
theorem dX8_textTold_62 : decode cX8_textTold 62 = .ok (.iadd, 1) := edX8_textTold_41.2.2.2.2.2.2.2.2.2.2.2.2.2.2.1
theorem dX8_textTold_63 : decode cX8_textTold 63 = .ok (.iaload, 1) := edX8_textTold_41.2.2.2.2.2.2.2.2.2.2.2.2.2.2.2.1
theorem dX8_textTold_64 : decode cX8_textTold 64 = .ok (.ireturn, 1) := edX8_textTold_41.2.2.2.2.2.2.2.2.2.2.2.2.2.2.2.2
theorem edX8_counts_0 : (decode cX8_counts 0 = .ok (.aload_n 0, 1)) ∧ (decode cX8_counts 1 = .ok (.getfield 9, 3)) ∧ (decode cX8_counts 4 = .ok (.bipush 7, 2)) ∧ (decode cX8_counts 6 = .ok (.iaload, 1)) ∧ (decode cX8_counts 7 = .ok (.iconst 1, 1)) ∧ (decode cX8_counts 8 = .ok (.isub, 1)) ∧ (decode cX8_counts 9 = .ok (.istore_n 2, 1)) ∧ (decode cX8_counts 10 = .ok (.iload_n 2, 1)) ∧ (decode cX8_counts 11 = .ok (.ifCond .lt 30, 3)) ∧ (decode cX8_counts 14 = .ok (.aload_n 0, 1)) ∧ (decode cX8_counts 15 = .ok (.getfield 9, 3)) ∧ (decode cX8_counts 18 = .ok (.bipush 62, 2)) ∧ (decode cX8_counts 20 = .ok (.iconst 2, 1)) ∧ (decode cX8_counts 21 = .ok (.iload_n 2, 1)) ∧ (decode cX8_counts 22 = .ok (.imul, 1)) ∧ (decode cX8_counts 23 = .ok (.iadd, 1)) ∧ (decode cX8_counts 24 = .ok (.iaload, 1)) ∧ (decode cX8_counts 25 = .ok (.sipush 1000, 3)) ∧ (decode cX8_counts 28 = .ok (.idiv, 1)) ∧ (decode cX8_counts 29 = .ok (.iload_n 1, 1)) ∧ (decode cX8_counts 30 = .ok (.if_icmp .ne 5, 3)) ∧ (decode cX8_counts 33 = .ok (.iload_n 2, 1)) ∧ (decode cX8_counts 34 = .ok (.ireturn, 1)) ∧ (decode cX8_counts 35 = .ok (.iinc 2 (-1), 3)) := by decide +kernel
theorem dX8_counts_0 : decode cX8_counts 0 = .ok (.aload_n 0, 1) := edX8_counts_0.1
theorem dX8_counts_1 : decode cX8_counts 1 = .ok (.getfield 9, 3) := edX8_counts_0.2.1
theorem dX8_counts_4 : decode cX8_counts 4 = .ok (.bipush 7, 2) := edX8_counts_0.2.2.1
theorem dX8_counts_6 : decode cX8_counts 6 = .ok (.iaload, 1) := edX8_counts_0.2.2.2.1
theorem dX8_counts_7 : decode cX8_counts 7 = .ok (.iconst 1, 1) := edX8_counts_0.2.2.2.2.1
theorem dX8_counts_8 : decode cX8_counts 8 = .ok (.isub, 1) := edX8_counts_0.2.2.2.2.2.1
theorem dX8_counts_9 : decode cX8_counts 9 = .ok (.istore_n 2, 1) := edX8_counts_0.2.2.2.2.2.2.1
theorem dX8_counts_10 : decode cX8_counts 10 = .ok (.iload_n 2, 1) := edX8_counts_0.2.2.2.2.2.2.2.1
theorem dX8_counts_11 : decode cX8_counts 11 = .ok (.ifCond .lt 30, 3) := edX8_counts_0.2.2.2.2.2.2.2.2.1
theorem dX8_counts_14 : decode cX8_counts 14 = .ok (.aload_n 0, 1) := edX8_counts_0.2.2.2.2.2.2.2.2.2.1
theorem dX8_counts_15 : decode cX8_counts 15 = .ok (.getfield 9, 3) := edX8_counts_0.2.2.2.2.2.2.2.2.2.2.1
theorem dX8_counts_18 : decode cX8_counts 18 = .ok (.bipush 62, 2) := edX8_counts_0.2.2.2.2.2.2.2.2.2.2.2.1
theorem dX8_counts_20 : decode cX8_counts 20 = .ok (.iconst 2, 1) := edX8_counts_0.2.2.2.2.2.2.2.2.2.2.2.2.1
theorem dX8_counts_21 : decode cX8_counts 21 = .ok (.iload_n 2, 1) := edX8_counts_0.2.2.2.2.2.2.2.2.2.2.2.2.2.1
theorem dX8_counts_22 : decode cX8_counts 22 = .ok (.imul, 1) := edX8_counts_0.2.2.2.2.2.2.2.2.2.2.2.2.2.2.1
theorem dX8_counts_23 : decode cX8_counts 23 = .ok (.iadd, 1) := edX8_counts_0.2.2.2.2.2.2.2.2.2.2.2.2.2.2.2.1
theorem dX8_counts_24 : decode cX8_counts 24 = .ok (.iaload, 1) := edX8_counts_0.2.2.2.2.2.2.2.2.2.2.2.2.2.2.2.2.1
theorem dX8_counts_25 : decode cX8_counts 25 = .ok (.sipush 1000, 3) := edX8_counts_0.2.2.2.2.2.2.2.2.2.2.2.2.2.2.2.2.2.1
theorem dX8_counts_28 : decode cX8_counts 28 = .ok (.idiv, 1) := edX8_counts_0.2.2.2.2.2.2.2.2.2.2.2.2.2.2.2.2.2.2.1
theorem dX8_counts_29 : decode cX8_counts 29 = .ok (.iload_n 1, 1) := edX8_counts_0.2.2.2.2.2.2.2.2.2.2.2.2.2.2.2.2.2.2.2.1
theorem dX8_counts_30 : decode cX8_counts 30 = .ok (.if_icmp .ne 5, 3) := edX8_counts_0.2.2.2.2.2.2.2.2.2.2.2.2.2.2.2.2.2.2.2.2.1
theorem dX8_counts_33 : decode cX8_counts 33 = .ok (.iload_n 2, 1) := edX8_counts_0.2.2.2.2.2.2.2.2.2.2.2.2.2.2.2.2.2.2.2.2.2.1
theorem dX8_counts_34 : decode cX8_counts 34 = .ok (.ireturn, 1) := edX8_counts_0.2.2.2.2.2.2.2.2.2.2.2.2.2.2.2.2.2.2.2.2.2.2.1
theorem dX8_counts_35 : decode cX8_counts 35 = .ok (.iinc 2 (-1), 3) := edX8_counts_0.2.2.2.2.2.2.2.2.2.2.2.2.2.2.2.2.2.2.2.2.2.2.2
theorem edX8_counts_38 : (decode cX8_counts 38 = .ok (.goto (-28), 3)) ∧ (decode cX8_counts 41 = .ok (.iconst (-1), 1)) ∧ (decode cX8_counts 42 = .ok (.ireturn, 1)) := by decide +kernel
theorem dX8_counts_38 : decode cX8_counts 38 = .ok (.goto (-28), 3) := edX8_counts_38.1
theorem dX8_counts_41 : decode cX8_counts 41 = .ok (.iconst (-1), 1) := edX8_counts_38.2.1
theorem dX8_counts_42 : decode cX8_counts 42 = .ok (.ireturn, 1) := edX8_counts_38.2.2
theorem edX8_why_0 : (decode cX8_why 0 = .ok (.iload_n 1, 1)) ∧ (decode cX8_why 1 = .ok (.iconst 0, 1)) ∧ (decode cX8_why 2 = .ok (.iconst 2, 1)) ∧ (decode cX8_why 3 = .ok (.invokestatic 83, 3)) ∧ (decode cX8_why 6 = .ok (.ifCond .ne 6, 3)) ∧ (decode cX8_why 9 = .ok (.ldc 91, 2)) ∧ (decode cX8_why 11 = .ok (.ireturn, 1)) ∧ (decode cX8_why 12 = .ok (.aload_n 0, 1)) ∧ (decode cX8_why 13 = .ok (.iload_n 1, 1)) ∧ (decode cX8_why 14 = .ok (.invokevirtual 97, 3)) ∧ (decode cX8_why 17 = .ok (.istore_n 2, 1)) ∧ (decode cX8_why 18 = .ok (.iload_n 2, 1)) ∧ (decode cX8_why 19 = .ok (.ifCond .ge 8, 3)) ∧ (decode cX8_why 22 = .ok (.ldc 82, 2)) ∧ (decode cX8_why 24 = .ok (.goto 4, 3)) ∧ (decode cX8_why 27 = .ok (.iload_n 2, 1)) ∧ (decode cX8_why 28 = .ok (.ireturn, 1)) := by decide +kernel
theorem dX8_why_0 : decode cX8_why 0 = .ok (.iload_n 1, 1) := edX8_why_0.1
theorem dX8_why_1 : decode cX8_why 1 = .ok (.iconst 0, 1) := edX8_why_0.2.1
theorem dX8_why_2 : decode cX8_why 2 = .ok (.iconst 2, 1) := edX8_why_0.2.2.1
theorem dX8_why_3 : decode cX8_why 3 = .ok (.invokestatic 83, 3) := edX8_why_0.2.2.2.1
theorem dX8_why_6 : decode cX8_why 6 = .ok (.ifCond .ne 6, 3) := edX8_why_0.2.2.2.2.1
theorem dX8_why_9 : decode cX8_why 9 = .ok (.ldc 91, 2) := edX8_why_0.2.2.2.2.2.1
theorem dX8_why_11 : decode cX8_why 11 = .ok (.ireturn, 1) := edX8_why_0.2.2.2.2.2.2.1
theorem dX8_why_12 : decode cX8_why 12 = .ok (.aload_n 0, 1) := edX8_why_0.2.2.2.2.2.2.2.1
theorem dX8_why_13 : decode cX8_why 13 = .ok (.iload_n 1, 1) := edX8_why_0.2.2.2.2.2.2.2.2.1
theorem dX8_why_14 : decode cX8_why 14 = .ok (.invokevirtual 97, 3) := edX8_why_0.2.2.2.2.2.2.2.2.2.1
theorem dX8_why_17 : decode cX8_why 17 = .ok (.istore_n 2, 1) := edX8_why_0.2.2.2.2.2.2.2.2.2.2.1
theorem dX8_why_18 : decode cX8_why 18 = .ok (.iload_n 2, 1) := edX8_why_0.2.2.2.2.2.2.2.2.2.2.2.1
theorem dX8_why_19 : decode cX8_why 19 = .ok (.ifCond .ge 8, 3) := edX8_why_0.2.2.2.2.2.2.2.2.2.2.2.2.1
theorem dX8_why_22 : decode cX8_why 22 = .ok (.ldc 82, 2) := edX8_why_0.2.2.2.2.2.2.2.2.2.2.2.2.2.1
theorem dX8_why_24 : decode cX8_why 24 = .ok (.goto 4, 3) := edX8_why_0.2.2.2.2.2.2.2.2.2.2.2.2.2.2.1
theorem dX8_why_27 : decode cX8_why 27 = .ok (.iload_n 2, 1) := edX8_why_0.2.2.2.2.2.2.2.2.2.2.2.2.2.2.2.1
theorem dX8_why_28 : decode cX8_why 28 = .ok (.ireturn, 1) := edX8_why_0.2.2.2.2.2.2.2.2.2.2.2.2.2.2.2.2
theorem edX8_two_0 : (decode cX8_two 0 = .ok (.iload_n 0, 1)) ∧ (decode cX8_two 1 = .ok (.tableswitch 120 (-8) (-1) #[116, 112, 108, 97, 86, 75, 61, 47], 47)) ∧ (decode cX8_two 48 = .ok (.iload_n 1, 1)) ∧ (decode cX8_two 49 = .ok (.ifCond .ne 7, 3)) ∧ (decode cX8_two 52 = .ok (.iload_n 2, 1)) ∧ (decode cX8_two 53 = .ok (.ifCond .eq 7, 3)) ∧ (decode cX8_two 56 = .ok (.iconst 1, 1)) ∧ (decode cX8_two 57 = .ok (.goto 4, 3)) ∧ (decode cX8_two 60 = .ok (.iconst 0, 1)) ∧ (decode cX8_two 61 = .ok (.ireturn, 1)) ∧ (decode cX8_two 62 = .ok (.iload_n 1, 1)) ∧ (decode cX8_two 63 = .ok (.ifCond .eq 11, 3)) ∧ (decode cX8_two 66 = .ok (.iload_n 2, 1)) ∧ (decode cX8_two 67 = .ok (.ifCond .eq 7, 3)) ∧ (decode cX8_two 70 = .ok (.iconst 1, 1)) ∧ (decode cX8_two 71 = .ok (.goto 4, 3)) ∧ (decode cX8_two 74 = .ok (.iconst 0, 1)) ∧ (decode cX8_two 75 = .ok (.ireturn, 1)) ∧ (decode cX8_two 76 = .ok (.iload_n 1, 1)) ∧ (decode cX8_two 77 = .ok (.iload_n 2, 1)) ∧ (decode cX8_two 78 = .ok (.if_icmp .ge 7, 3)) ∧ (decode cX8_two 81 = .ok (.iconst 1, 1)) ∧ (decode cX8_two 82 = .ok (.goto 4, 3)) ∧ (decode cX8_two 85 = .ok (.iconst 0, 1)) := by decide +kernel
theorem dX8_two_0 : decode cX8_two 0 = .ok (.iload_n 0, 1) := edX8_two_0.1
theorem dX8_two_1 : decode cX8_two 1 = .ok (.tableswitch 120 (-8) (-1) #[116, 112, 108, 97, 86, 75, 61, 47], 47) := edX8_two_0.2.1
theorem dX8_two_48 : decode cX8_two 48 = .ok (.iload_n 1, 1) := edX8_two_0.2.2.1
theorem dX8_two_49 : decode cX8_two 49 = .ok (.ifCond .ne 7, 3) := edX8_two_0.2.2.2.1
theorem dX8_two_52 : decode cX8_two 52 = .ok (.iload_n 2, 1) := edX8_two_0.2.2.2.2.1
theorem dX8_two_53 : decode cX8_two 53 = .ok (.ifCond .eq 7, 3) := edX8_two_0.2.2.2.2.2.1
theorem dX8_two_56 : decode cX8_two 56 = .ok (.iconst 1, 1) := edX8_two_0.2.2.2.2.2.2.1
theorem dX8_two_57 : decode cX8_two 57 = .ok (.goto 4, 3) := edX8_two_0.2.2.2.2.2.2.2.1
theorem dX8_two_60 : decode cX8_two 60 = .ok (.iconst 0, 1) := edX8_two_0.2.2.2.2.2.2.2.2.1
theorem dX8_two_61 : decode cX8_two 61 = .ok (.ireturn, 1) := edX8_two_0.2.2.2.2.2.2.2.2.2.1
theorem dX8_two_62 : decode cX8_two 62 = .ok (.iload_n 1, 1) := edX8_two_0.2.2.2.2.2.2.2.2.2.2.1
theorem dX8_two_63 : decode cX8_two 63 = .ok (.ifCond .eq 11, 3) := edX8_two_0.2.2.2.2.2.2.2.2.2.2.2.1
theorem dX8_two_66 : decode cX8_two 66 = .ok (.iload_n 2, 1) := edX8_two_0.2.2.2.2.2.2.2.2.2.2.2.2.1
theorem dX8_two_67 : decode cX8_two 67 = .ok (.ifCond .eq 7, 3) := edX8_two_0.2.2.2.2.2.2.2.2.2.2.2.2.2.1
theorem dX8_two_70 : decode cX8_two 70 = .ok (.iconst 1, 1) := edX8_two_0.2.2.2.2.2.2.2.2.2.2.2.2.2.2.1
theorem dX8_two_71 : decode cX8_two 71 = .ok (.goto 4, 3) := edX8_two_0.2.2.2.2.2.2.2.2.2.2.2.2.2.2.2.1
theorem dX8_two_74 : decode cX8_two 74 = .ok (.iconst 0, 1) := edX8_two_0.2.2.2.2.2.2.2.2.2.2.2.2.2.2.2.2.1
theorem dX8_two_75 : decode cX8_two 75 = .ok (.ireturn, 1) := edX8_two_0.2.2.2.2.2.2.2.2.2.2.2.2.2.2.2.2.2.1
theorem dX8_two_76 : decode cX8_two 76 = .ok (.iload_n 1, 1) := edX8_two_0.2.2.2.2.2.2.2.2.2.2.2.2.2.2.2.2.2.2.1
theorem dX8_two_77 : decode cX8_two 77 = .ok (.iload_n 2, 1) := edX8_two_0.2.2.2.2.2.2.2.2.2.2.2.2.2.2.2.2.2.2.2.1
theorem dX8_two_78 : decode cX8_two 78 = .ok (.if_icmp .ge 7, 3) := edX8_two_0.2.2.2.2.2.2.2.2.2.2.2.2.2.2.2.2.2.2.2.2.1
theorem dX8_two_81 : decode cX8_two 81 = .ok (.iconst 1, 1) := edX8_two_0.2.2.2.2.2.2.2.2.2.2.2.2.2.2.2.2.2.2.2.2.2.1
theorem dX8_two_82 : decode cX8_two 82 = .ok (.goto 4, 3) := edX8_two_0.2.2.2.2.2.2.2.2.2.2.2.2.2.2.2.2.2.2.2.2.2.2.1
theorem dX8_two_85 : decode cX8_two 85 = .ok (.iconst 0, 1) := edX8_two_0.2.2.2.2.2.2.2.2.2.2.2.2.2.2.2.2.2.2.2.2.2.2.2
theorem edX8_two_86 : (decode cX8_two 86 = .ok (.ireturn, 1)) ∧ (decode cX8_two 87 = .ok (.iload_n 1, 1)) ∧ (decode cX8_two 88 = .ok (.iload_n 2, 1)) ∧ (decode cX8_two 89 = .ok (.if_icmp .ne 7, 3)) ∧ (decode cX8_two 92 = .ok (.iconst 1, 1)) ∧ (decode cX8_two 93 = .ok (.goto 4, 3)) ∧ (decode cX8_two 96 = .ok (.iconst 0, 1)) ∧ (decode cX8_two 97 = .ok (.ireturn, 1)) ∧ (decode cX8_two 98 = .ok (.iload_n 1, 1)) ∧ (decode cX8_two 99 = .ok (.iload_n 2, 1)) ∧ (decode cX8_two 100 = .ok (.if_icmp .le 7, 3)) ∧ (decode cX8_two 103 = .ok (.iconst 1, 1)) ∧ (decode cX8_two 104 = .ok (.goto 4, 3)) ∧ (decode cX8_two 107 = .ok (.iconst 0, 1)) ∧ (decode cX8_two 108 = .ok (.ireturn, 1)) ∧ (decode cX8_two 109 = .ok (.iload_n 1, 1)) ∧ (decode cX8_two 110 = .ok (.iload_n 2, 1)) ∧ (decode cX8_two 111 = .ok (.iadd, 1)) ∧ (decode cX8_two 112 = .ok (.ireturn, 1)) ∧ (decode cX8_two 113 = .ok (.iload_n 1, 1)) ∧ (decode cX8_two 114 = .ok (.iload_n 2, 1)) ∧ (decode cX8_two 115 = .ok (.isub, 1)) ∧ (decode cX8_two 116 = .ok (.ireturn, 1)) ∧ (decode cX8_two 117 = .ok (.iload_n 1, 1)) := by decide +kernel
theorem dX8_two_86 : decode cX8_two 86 = .ok (.ireturn, 1) := edX8_two_86.1
theorem dX8_two_87 : decode cX8_two 87 = .ok (.iload_n 1, 1) := edX8_two_86.2.1
theorem dX8_two_88 : decode cX8_two 88 = .ok (.iload_n 2, 1) := edX8_two_86.2.2.1
theorem dX8_two_89 : decode cX8_two 89 = .ok (.if_icmp .ne 7, 3) := edX8_two_86.2.2.2.1
theorem dX8_two_92 : decode cX8_two 92 = .ok (.iconst 1, 1) := edX8_two_86.2.2.2.2.1
theorem dX8_two_93 : decode cX8_two 93 = .ok (.goto 4, 3) := edX8_two_86.2.2.2.2.2.1
theorem dX8_two_96 : decode cX8_two 96 = .ok (.iconst 0, 1) := edX8_two_86.2.2.2.2.2.2.1
theorem dX8_two_97 : decode cX8_two 97 = .ok (.ireturn, 1) := edX8_two_86.2.2.2.2.2.2.2.1
theorem dX8_two_98 : decode cX8_two 98 = .ok (.iload_n 1, 1) := edX8_two_86.2.2.2.2.2.2.2.2.1
theorem dX8_two_99 : decode cX8_two 99 = .ok (.iload_n 2, 1) := edX8_two_86.2.2.2.2.2.2.2.2.2.1
theorem dX8_two_100 : decode cX8_two 100 = .ok (.if_icmp .le 7, 3) := edX8_two_86.2.2.2.2.2.2.2.2.2.2.1
theorem dX8_two_103 : decode cX8_two 103 = .ok (.iconst 1, 1) := edX8_two_86.2.2.2.2.2.2.2.2.2.2.2.1
theorem dX8_two_104 : decode cX8_two 104 = .ok (.goto 4, 3) := edX8_two_86.2.2.2.2.2.2.2.2.2.2.2.2.1
theorem dX8_two_107 : decode cX8_two 107 = .ok (.iconst 0, 1) := edX8_two_86.2.2.2.2.2.2.2.2.2.2.2.2.2.1
theorem dX8_two_108 : decode cX8_two 108 = .ok (.ireturn, 1) := edX8_two_86.2.2.2.2.2.2.2.2.2.2.2.2.2.2.1
theorem dX8_two_109 : decode cX8_two 109 = .ok (.iload_n 1, 1) := edX8_two_86.2.2.2.2.2.2.2.2.2.2.2.2.2.2.2.1
theorem dX8_two_110 : decode cX8_two 110 = .ok (.iload_n 2, 1) := edX8_two_86.2.2.2.2.2.2.2.2.2.2.2.2.2.2.2.2.1
theorem dX8_two_111 : decode cX8_two 111 = .ok (.iadd, 1) := edX8_two_86.2.2.2.2.2.2.2.2.2.2.2.2.2.2.2.2.2.1
theorem dX8_two_112 : decode cX8_two 112 = .ok (.ireturn, 1) := edX8_two_86.2.2.2.2.2.2.2.2.2.2.2.2.2.2.2.2.2.2.1
theorem dX8_two_113 : decode cX8_two 113 = .ok (.iload_n 1, 1) := edX8_two_86.2.2.2.2.2.2.2.2.2.2.2.2.2.2.2.2.2.2.2.1
theorem dX8_two_114 : decode cX8_two 114 = .ok (.iload_n 2, 1) := edX8_two_86.2.2.2.2.2.2.2.2.2.2.2.2.2.2.2.2.2.2.2.2.1
theorem dX8_two_115 : decode cX8_two 115 = .ok (.isub, 1) := edX8_two_86.2.2.2.2.2.2.2.2.2.2.2.2.2.2.2.2.2.2.2.2.2.1
theorem dX8_two_116 : decode cX8_two 116 = .ok (.ireturn, 1) := edX8_two_86.2.2.2.2.2.2.2.2.2.2.2.2.2.2.2.2.2.2.2.2.2.2.1
theorem dX8_two_117 : decode cX8_two 117 = .ok (.iload_n 1, 1) := edX8_two_86.2.2.2.2.2.2.2.2.2.2.2.2.2.2.2.2.2.2.2.2.2.2.2
theorem edX8_two_118 : (decode cX8_two 118 = .ok (.iload_n 2, 1)) ∧ (decode cX8_two 119 = .ok (.imul, 1)) ∧ (decode cX8_two 120 = .ok (.ireturn, 1)) ∧ (decode cX8_two 121 = .ok (.iload_n 2, 1)) ∧ (decode cX8_two 122 = .ok (.ifCond .ne 7, 3)) ∧ (decode cX8_two 125 = .ok (.iconst 0, 1)) ∧ (decode cX8_two 126 = .ok (.goto 6, 3)) ∧ (decode cX8_two 129 = .ok (.iload_n 1, 1)) ∧ (decode cX8_two 130 = .ok (.iload_n 2, 1)) ∧ (decode cX8_two 131 = .ok (.idiv, 1)) ∧ (decode cX8_two 132 = .ok (.ireturn, 1)) := by decide +kernel
theorem dX8_two_118 : decode cX8_two 118 = .ok (.iload_n 2, 1) := edX8_two_118.1
theorem dX8_two_119 : decode cX8_two 119 = .ok (.imul, 1) := edX8_two_118.2.1
theorem dX8_two_120 : decode cX8_two 120 = .ok (.ireturn, 1) := edX8_two_118.2.2.1
theorem dX8_two_121 : decode cX8_two 121 = .ok (.iload_n 2, 1) := edX8_two_118.2.2.2.1
theorem dX8_two_122 : decode cX8_two 122 = .ok (.ifCond .ne 7, 3) := edX8_two_118.2.2.2.2.1
theorem dX8_two_125 : decode cX8_two 125 = .ok (.iconst 0, 1) := edX8_two_118.2.2.2.2.2.1
theorem dX8_two_126 : decode cX8_two 126 = .ok (.goto 6, 3) := edX8_two_118.2.2.2.2.2.2.1
theorem dX8_two_129 : decode cX8_two 129 = .ok (.iload_n 1, 1) := edX8_two_118.2.2.2.2.2.2.2.1
theorem dX8_two_130 : decode cX8_two 130 = .ok (.iload_n 2, 1) := edX8_two_118.2.2.2.2.2.2.2.2.1
theorem dX8_two_131 : decode cX8_two 131 = .ok (.idiv, 1) := edX8_two_118.2.2.2.2.2.2.2.2.2.1
theorem dX8_two_132 : decode cX8_two 132 = .ok (.ireturn, 1) := edX8_two_118.2.2.2.2.2.2.2.2.2.2
theorem edX8_worksOut_0 : (decode cX8_worksOut 0 = .ok (.iconst 0, 1)) ∧ (decode cX8_worksOut 1 = .ok (.istore_n 2, 1)) ∧ (decode cX8_worksOut 2 = .ok (.aload_n 0, 1)) ∧ (decode cX8_worksOut 3 = .ok (.getfield 9, 3)) ∧ (decode cX8_worksOut 6 = .ok (.bipush 62, 2)) ∧ (decode cX8_worksOut 8 = .ok (.iconst 2, 1)) ∧ (decode cX8_worksOut 9 = .ok (.iload_n 1, 1)) ∧ (decode cX8_worksOut 10 = .ok (.imul, 1)) ∧ (decode cX8_worksOut 11 = .ok (.iadd, 1)) ∧ (decode cX8_worksOut 12 = .ok (.iaload, 1)) ∧ (decode cX8_worksOut 13 = .ok (.sipush 1000, 3)) ∧ (decode cX8_worksOut 16 = .ok (.irem, 1)) ∧ (decode cX8_worksOut 17 = .ok (.istore_n 3, 1)) ∧ (decode cX8_worksOut 18 = .ok (.iconst 0, 1)) ∧ (decode cX8_worksOut 19 = .ok (.istore 4, 2)) ∧ (decode cX8_worksOut 21 = .ok (.iload 4, 2)) ∧ (decode cX8_worksOut 23 = .ok (.iload_n 3, 1)) ∧ (decode cX8_worksOut 24 = .ok (.if_icmp .ge 131, 3)) ∧ (decode cX8_worksOut 27 = .ok (.aload_n 0, 1)) ∧ (decode cX8_worksOut 28 = .ok (.getfield 9, 3)) ∧ (decode cX8_worksOut 31 = .ok (.bipush 90, 2)) ∧ (decode cX8_worksOut 33 = .ok (.bipush 96, 2)) ∧ (decode cX8_worksOut 35 = .ok (.iload_n 1, 1)) ∧ (decode cX8_worksOut 36 = .ok (.imul, 1)) := by decide +kernel
theorem dX8_worksOut_0 : decode cX8_worksOut 0 = .ok (.iconst 0, 1) := edX8_worksOut_0.1
theorem dX8_worksOut_1 : decode cX8_worksOut 1 = .ok (.istore_n 2, 1) := edX8_worksOut_0.2.1
theorem dX8_worksOut_2 : decode cX8_worksOut 2 = .ok (.aload_n 0, 1) := edX8_worksOut_0.2.2.1
theorem dX8_worksOut_3 : decode cX8_worksOut 3 = .ok (.getfield 9, 3) := edX8_worksOut_0.2.2.2.1
theorem dX8_worksOut_6 : decode cX8_worksOut 6 = .ok (.bipush 62, 2) := edX8_worksOut_0.2.2.2.2.1
theorem dX8_worksOut_8 : decode cX8_worksOut 8 = .ok (.iconst 2, 1) := edX8_worksOut_0.2.2.2.2.2.1
theorem dX8_worksOut_9 : decode cX8_worksOut 9 = .ok (.iload_n 1, 1) := edX8_worksOut_0.2.2.2.2.2.2.1
theorem dX8_worksOut_10 : decode cX8_worksOut 10 = .ok (.imul, 1) := edX8_worksOut_0.2.2.2.2.2.2.2.1
theorem dX8_worksOut_11 : decode cX8_worksOut 11 = .ok (.iadd, 1) := edX8_worksOut_0.2.2.2.2.2.2.2.2.1
theorem dX8_worksOut_12 : decode cX8_worksOut 12 = .ok (.iaload, 1) := edX8_worksOut_0.2.2.2.2.2.2.2.2.2.1
theorem dX8_worksOut_13 : decode cX8_worksOut 13 = .ok (.sipush 1000, 3) := edX8_worksOut_0.2.2.2.2.2.2.2.2.2.2.1
theorem dX8_worksOut_16 : decode cX8_worksOut 16 = .ok (.irem, 1) := edX8_worksOut_0.2.2.2.2.2.2.2.2.2.2.2.1
theorem dX8_worksOut_17 : decode cX8_worksOut 17 = .ok (.istore_n 3, 1) := edX8_worksOut_0.2.2.2.2.2.2.2.2.2.2.2.2.1
theorem dX8_worksOut_18 : decode cX8_worksOut 18 = .ok (.iconst 0, 1) := edX8_worksOut_0.2.2.2.2.2.2.2.2.2.2.2.2.2.1
theorem dX8_worksOut_19 : decode cX8_worksOut 19 = .ok (.istore 4, 2) := edX8_worksOut_0.2.2.2.2.2.2.2.2.2.2.2.2.2.2.1
theorem dX8_worksOut_21 : decode cX8_worksOut 21 = .ok (.iload 4, 2) := edX8_worksOut_0.2.2.2.2.2.2.2.2.2.2.2.2.2.2.2.1
theorem dX8_worksOut_23 : decode cX8_worksOut 23 = .ok (.iload_n 3, 1) := edX8_worksOut_0.2.2.2.2.2.2.2.2.2.2.2.2.2.2.2.2.1
theorem dX8_worksOut_24 : decode cX8_worksOut 24 = .ok (.if_icmp .ge 131, 3) := edX8_worksOut_0.2.2.2.2.2.2.2.2.2.2.2.2.2.2.2.2.2.1
theorem dX8_worksOut_27 : decode cX8_worksOut 27 = .ok (.aload_n 0, 1) := edX8_worksOut_0.2.2.2.2.2.2.2.2.2.2.2.2.2.2.2.2.2.2.1
theorem dX8_worksOut_28 : decode cX8_worksOut 28 = .ok (.getfield 9, 3) := edX8_worksOut_0.2.2.2.2.2.2.2.2.2.2.2.2.2.2.2.2.2.2.2.1
theorem dX8_worksOut_31 : decode cX8_worksOut 31 = .ok (.bipush 90, 2) := edX8_worksOut_0.2.2.2.2.2.2.2.2.2.2.2.2.2.2.2.2.2.2.2.2.1
theorem dX8_worksOut_33 : decode cX8_worksOut 33 = .ok (.bipush 96, 2) := edX8_worksOut_0.2.2.2.2.2.2.2.2.2.2.2.2.2.2.2.2.2.2.2.2.2.1
theorem dX8_worksOut_35 : decode cX8_worksOut 35 = .ok (.iload_n 1, 1) := edX8_worksOut_0.2.2.2.2.2.2.2.2.2.2.2.2.2.2.2.2.2.2.2.2.2.2.1
theorem dX8_worksOut_36 : decode cX8_worksOut 36 = .ok (.imul, 1) := edX8_worksOut_0.2.2.2.2.2.2.2.2.2.2.2.2.2.2.2.2.2.2.2.2.2.2.2
theorem edX8_worksOut_37 : (decode cX8_worksOut 37 = .ok (.iadd, 1)) ∧ (decode cX8_worksOut 38 = .ok (.iload 4, 2)) ∧ (decode cX8_worksOut 40 = .ok (.iadd, 1)) ∧ (decode cX8_worksOut 41 = .ok (.iaload, 1)) ∧ (decode cX8_worksOut 42 = .ok (.istore 5, 2)) ∧ (decode cX8_worksOut 44 = .ok (.iload 5, 2)) ∧ (decode cX8_worksOut 46 = .ok (.ifCond .lt 39, 3)) ∧ (decode cX8_worksOut 49 = .ok (.aload_n 0, 1)) ∧ (decode cX8_worksOut 50 = .ok (.getfield 49, 3)) ∧ (decode cX8_worksOut 53 = .ok (.iload_n 2, 1)) ∧ (decode cX8_worksOut 54 = .ok (.iload 5, 2)) ∧ (decode cX8_worksOut 56 = .ok (.sipush 10000, 3)) ∧ (decode cX8_worksOut 59 = .ok (.if_icmp .ge 8, 3)) ∧ (decode cX8_worksOut 62 = .ok (.iload 5, 2)) ∧ (decode cX8_worksOut 64 = .ok (.goto 14, 3)) ∧ (decode cX8_worksOut 67 = .ok (.aload_n 0, 1)) ∧ (decode cX8_worksOut 68 = .ok (.getfield 52, 3)) ∧ (decode cX8_worksOut 71 = .ok (.iload 5, 2)) ∧ (decode cX8_worksOut 73 = .ok (.sipush 10000, 3)) ∧ (decode cX8_worksOut 76 = .ok (.isub, 1)) ∧ (decode cX8_worksOut 77 = .ok (.iaload, 1)) ∧ (decode cX8_worksOut 78 = .ok (.iastore, 1)) ∧ (decode cX8_worksOut 79 = .ok (.iinc 2 1, 3)) ∧ (decode cX8_worksOut 82 = .ok (.goto 67, 3)) := by decide +kernel
theorem dX8_worksOut_37 : decode cX8_worksOut 37 = .ok (.iadd, 1) := edX8_worksOut_37.1
theorem dX8_worksOut_38 : decode cX8_worksOut 38 = .ok (.iload 4, 2) := edX8_worksOut_37.2.1
theorem dX8_worksOut_40 : decode cX8_worksOut 40 = .ok (.iadd, 1) := edX8_worksOut_37.2.2.1
theorem dX8_worksOut_41 : decode cX8_worksOut 41 = .ok (.iaload, 1) := edX8_worksOut_37.2.2.2.1
theorem dX8_worksOut_42 : decode cX8_worksOut 42 = .ok (.istore 5, 2) := edX8_worksOut_37.2.2.2.2.1
theorem dX8_worksOut_44 : decode cX8_worksOut 44 = .ok (.iload 5, 2) := edX8_worksOut_37.2.2.2.2.2.1
theorem dX8_worksOut_46 : decode cX8_worksOut 46 = .ok (.ifCond .lt 39, 3) := edX8_worksOut_37.2.2.2.2.2.2.1
theorem dX8_worksOut_49 : decode cX8_worksOut 49 = .ok (.aload_n 0, 1) := edX8_worksOut_37.2.2.2.2.2.2.2.1
theorem dX8_worksOut_50 : decode cX8_worksOut 50 = .ok (.getfield 49, 3) := edX8_worksOut_37.2.2.2.2.2.2.2.2.1
theorem dX8_worksOut_53 : decode cX8_worksOut 53 = .ok (.iload_n 2, 1) := edX8_worksOut_37.2.2.2.2.2.2.2.2.2.1
theorem dX8_worksOut_54 : decode cX8_worksOut 54 = .ok (.iload 5, 2) := edX8_worksOut_37.2.2.2.2.2.2.2.2.2.2.1
theorem dX8_worksOut_56 : decode cX8_worksOut 56 = .ok (.sipush 10000, 3) := edX8_worksOut_37.2.2.2.2.2.2.2.2.2.2.2.1
theorem dX8_worksOut_59 : decode cX8_worksOut 59 = .ok (.if_icmp .ge 8, 3) := edX8_worksOut_37.2.2.2.2.2.2.2.2.2.2.2.2.1
theorem dX8_worksOut_62 : decode cX8_worksOut 62 = .ok (.iload 5, 2) := edX8_worksOut_37.2.2.2.2.2.2.2.2.2.2.2.2.2.1
theorem dX8_worksOut_64 : decode cX8_worksOut 64 = .ok (.goto 14, 3) := edX8_worksOut_37.2.2.2.2.2.2.2.2.2.2.2.2.2.2.1
theorem dX8_worksOut_67 : decode cX8_worksOut 67 = .ok (.aload_n 0, 1) := edX8_worksOut_37.2.2.2.2.2.2.2.2.2.2.2.2.2.2.2.1
theorem dX8_worksOut_68 : decode cX8_worksOut 68 = .ok (.getfield 52, 3) := edX8_worksOut_37.2.2.2.2.2.2.2.2.2.2.2.2.2.2.2.2.1
theorem dX8_worksOut_71 : decode cX8_worksOut 71 = .ok (.iload 5, 2) := edX8_worksOut_37.2.2.2.2.2.2.2.2.2.2.2.2.2.2.2.2.2.1
theorem dX8_worksOut_73 : decode cX8_worksOut 73 = .ok (.sipush 10000, 3) := edX8_worksOut_37.2.2.2.2.2.2.2.2.2.2.2.2.2.2.2.2.2.2.1
theorem dX8_worksOut_76 : decode cX8_worksOut 76 = .ok (.isub, 1) := edX8_worksOut_37.2.2.2.2.2.2.2.2.2.2.2.2.2.2.2.2.2.2.2.1
theorem dX8_worksOut_77 : decode cX8_worksOut 77 = .ok (.iaload, 1) := edX8_worksOut_37.2.2.2.2.2.2.2.2.2.2.2.2.2.2.2.2.2.2.2.2.1
theorem dX8_worksOut_78 : decode cX8_worksOut 78 = .ok (.iastore, 1) := edX8_worksOut_37.2.2.2.2.2.2.2.2.2.2.2.2.2.2.2.2.2.2.2.2.2.1
theorem dX8_worksOut_79 : decode cX8_worksOut 79 = .ok (.iinc 2 1, 3) := edX8_worksOut_37.2.2.2.2.2.2.2.2.2.2.2.2.2.2.2.2.2.2.2.2.2.2.1
theorem dX8_worksOut_82 : decode cX8_worksOut 82 = .ok (.goto 67, 3) := edX8_worksOut_37.2.2.2.2.2.2.2.2.2.2.2.2.2.2.2.2.2.2.2.2.2.2.2
theorem edX8_worksOut_85 : (decode cX8_worksOut 85 = .ok (.iload 5, 2)) ∧ (decode cX8_worksOut 87 = .ok (.bipush (-10), 2)) ∧ (decode cX8_worksOut 89 = .ok (.if_icmp .ne 30, 3)) ∧ (decode cX8_worksOut 92 = .ok (.aload_n 0, 1)) ∧ (decode cX8_worksOut 93 = .ok (.getfield 49, 3)) ∧ (decode cX8_worksOut 96 = .ok (.iload_n 2, 1)) ∧ (decode cX8_worksOut 97 = .ok (.iconst 1, 1)) ∧ (decode cX8_worksOut 98 = .ok (.isub, 1)) ∧ (decode cX8_worksOut 99 = .ok (.aload_n 0, 1)) ∧ (decode cX8_worksOut 100 = .ok (.getfield 49, 3)) ∧ (decode cX8_worksOut 103 = .ok (.iload_n 2, 1)) ∧ (decode cX8_worksOut 104 = .ok (.iconst 1, 1)) ∧ (decode cX8_worksOut 105 = .ok (.isub, 1)) ∧ (decode cX8_worksOut 106 = .ok (.iaload, 1)) ∧ (decode cX8_worksOut 107 = .ok (.ifCond .ne 7, 3)) ∧ (decode cX8_worksOut 110 = .ok (.iconst 1, 1)) ∧ (decode cX8_worksOut 111 = .ok (.goto 4, 3)) ∧ (decode cX8_worksOut 114 = .ok (.iconst 0, 1)) ∧ (decode cX8_worksOut 115 = .ok (.iastore, 1)) ∧ (decode cX8_worksOut 116 = .ok (.goto 33, 3)) ∧ (decode cX8_worksOut 119 = .ok (.iinc 2 (-1), 3)) ∧ (decode cX8_worksOut 122 = .ok (.aload_n 0, 1)) ∧ (decode cX8_worksOut 123 = .ok (.getfield 49, 3)) ∧ (decode cX8_worksOut 126 = .ok (.iload_n 2, 1)) := by decide +kernel
theorem dX8_worksOut_85 : decode cX8_worksOut 85 = .ok (.iload 5, 2) := edX8_worksOut_85.1
theorem dX8_worksOut_87 : decode cX8_worksOut 87 = .ok (.bipush (-10), 2) := edX8_worksOut_85.2.1
theorem dX8_worksOut_89 : decode cX8_worksOut 89 = .ok (.if_icmp .ne 30, 3) := edX8_worksOut_85.2.2.1
theorem dX8_worksOut_92 : decode cX8_worksOut 92 = .ok (.aload_n 0, 1) := edX8_worksOut_85.2.2.2.1
theorem dX8_worksOut_93 : decode cX8_worksOut 93 = .ok (.getfield 49, 3) := edX8_worksOut_85.2.2.2.2.1
theorem dX8_worksOut_96 : decode cX8_worksOut 96 = .ok (.iload_n 2, 1) := edX8_worksOut_85.2.2.2.2.2.1
theorem dX8_worksOut_97 : decode cX8_worksOut 97 = .ok (.iconst 1, 1) := edX8_worksOut_85.2.2.2.2.2.2.1
theorem dX8_worksOut_98 : decode cX8_worksOut 98 = .ok (.isub, 1) := edX8_worksOut_85.2.2.2.2.2.2.2.1
theorem dX8_worksOut_99 : decode cX8_worksOut 99 = .ok (.aload_n 0, 1) := edX8_worksOut_85.2.2.2.2.2.2.2.2.1
theorem dX8_worksOut_100 : decode cX8_worksOut 100 = .ok (.getfield 49, 3) := edX8_worksOut_85.2.2.2.2.2.2.2.2.2.1
theorem dX8_worksOut_103 : decode cX8_worksOut 103 = .ok (.iload_n 2, 1) := edX8_worksOut_85.2.2.2.2.2.2.2.2.2.2.1
theorem dX8_worksOut_104 : decode cX8_worksOut 104 = .ok (.iconst 1, 1) := edX8_worksOut_85.2.2.2.2.2.2.2.2.2.2.2.1
theorem dX8_worksOut_105 : decode cX8_worksOut 105 = .ok (.isub, 1) := edX8_worksOut_85.2.2.2.2.2.2.2.2.2.2.2.2.1
theorem dX8_worksOut_106 : decode cX8_worksOut 106 = .ok (.iaload, 1) := edX8_worksOut_85.2.2.2.2.2.2.2.2.2.2.2.2.2.1
theorem dX8_worksOut_107 : decode cX8_worksOut 107 = .ok (.ifCond .ne 7, 3) := edX8_worksOut_85.2.2.2.2.2.2.2.2.2.2.2.2.2.2.1
theorem dX8_worksOut_110 : decode cX8_worksOut 110 = .ok (.iconst 1, 1) := edX8_worksOut_85.2.2.2.2.2.2.2.2.2.2.2.2.2.2.2.1
theorem dX8_worksOut_111 : decode cX8_worksOut 111 = .ok (.goto 4, 3) := edX8_worksOut_85.2.2.2.2.2.2.2.2.2.2.2.2.2.2.2.2.1
theorem dX8_worksOut_114 : decode cX8_worksOut 114 = .ok (.iconst 0, 1) := edX8_worksOut_85.2.2.2.2.2.2.2.2.2.2.2.2.2.2.2.2.2.1
theorem dX8_worksOut_115 : decode cX8_worksOut 115 = .ok (.iastore, 1) := edX8_worksOut_85.2.2.2.2.2.2.2.2.2.2.2.2.2.2.2.2.2.2.1
theorem dX8_worksOut_116 : decode cX8_worksOut 116 = .ok (.goto 33, 3) := edX8_worksOut_85.2.2.2.2.2.2.2.2.2.2.2.2.2.2.2.2.2.2.2.1
theorem dX8_worksOut_119 : decode cX8_worksOut 119 = .ok (.iinc 2 (-1), 3) := edX8_worksOut_85.2.2.2.2.2.2.2.2.2.2.2.2.2.2.2.2.2.2.2.2.1
theorem dX8_worksOut_122 : decode cX8_worksOut 122 = .ok (.aload_n 0, 1) := edX8_worksOut_85.2.2.2.2.2.2.2.2.2.2.2.2.2.2.2.2.2.2.2.2.2.1
theorem dX8_worksOut_123 : decode cX8_worksOut 123 = .ok (.getfield 49, 3) := edX8_worksOut_85.2.2.2.2.2.2.2.2.2.2.2.2.2.2.2.2.2.2.2.2.2.2.1
theorem dX8_worksOut_126 : decode cX8_worksOut 126 = .ok (.iload_n 2, 1) := edX8_worksOut_85.2.2.2.2.2.2.2.2.2.2.2.2.2.2.2.2.2.2.2.2.2.2.2
theorem edX8_worksOut_127 : (decode cX8_worksOut 127 = .ok (.iconst 1, 1)) ∧ (decode cX8_worksOut 128 = .ok (.isub, 1)) ∧ (decode cX8_worksOut 129 = .ok (.iload 5, 2)) ∧ (decode cX8_worksOut 131 = .ok (.aload_n 0, 1)) ∧ (decode cX8_worksOut 132 = .ok (.getfield 49, 3)) ∧ (decode cX8_worksOut 135 = .ok (.iload_n 2, 1)) ∧ (decode cX8_worksOut 136 = .ok (.iconst 1, 1)) ∧ (decode cX8_worksOut 137 = .ok (.isub, 1)) ∧ (decode cX8_worksOut 138 = .ok (.iaload, 1)) ∧ (decode cX8_worksOut 139 = .ok (.aload_n 0, 1)) ∧ (decode cX8_worksOut 140 = .ok (.getfield 49, 3)) ∧ (decode cX8_worksOut 143 = .ok (.iload_n 2, 1)) ∧ (decode cX8_worksOut 144 = .ok (.iaload, 1)) ∧ (decode cX8_worksOut 145 = .ok (.invokestatic 255, 3)) ∧ (decode cX8_worksOut 148 = .ok (.iastore, 1)) ∧ (decode cX8_worksOut 149 = .ok (.iinc 4 1, 3)) ∧ (decode cX8_worksOut 152 = .ok (.goto (-131), 3)) ∧ (decode cX8_worksOut 155 = .ok (.aload_n 0, 1)) ∧ (decode cX8_worksOut 156 = .ok (.getfield 49, 3)) ∧ (decode cX8_worksOut 159 = .ok (.iconst 0, 1)) ∧ (decode cX8_worksOut 160 = .ok (.iaload, 1)) ∧ (decode cX8_worksOut 161 = .ok (.ireturn, 1)) := by decide +kernel
theorem dX8_worksOut_127 : decode cX8_worksOut 127 = .ok (.iconst 1, 1) := edX8_worksOut_127.1
theorem dX8_worksOut_128 : decode cX8_worksOut 128 = .ok (.isub, 1) := edX8_worksOut_127.2.1
theorem dX8_worksOut_129 : decode cX8_worksOut 129 = .ok (.iload 5, 2) := edX8_worksOut_127.2.2.1
theorem dX8_worksOut_131 : decode cX8_worksOut 131 = .ok (.aload_n 0, 1) := edX8_worksOut_127.2.2.2.1
theorem dX8_worksOut_132 : decode cX8_worksOut 132 = .ok (.getfield 49, 3) := edX8_worksOut_127.2.2.2.2.1
theorem dX8_worksOut_135 : decode cX8_worksOut 135 = .ok (.iload_n 2, 1) := edX8_worksOut_127.2.2.2.2.2.1
theorem dX8_worksOut_136 : decode cX8_worksOut 136 = .ok (.iconst 1, 1) := edX8_worksOut_127.2.2.2.2.2.2.1
theorem dX8_worksOut_137 : decode cX8_worksOut 137 = .ok (.isub, 1) := edX8_worksOut_127.2.2.2.2.2.2.2.1
theorem dX8_worksOut_138 : decode cX8_worksOut 138 = .ok (.iaload, 1) := edX8_worksOut_127.2.2.2.2.2.2.2.2.1
theorem dX8_worksOut_139 : decode cX8_worksOut 139 = .ok (.aload_n 0, 1) := edX8_worksOut_127.2.2.2.2.2.2.2.2.2.1
theorem dX8_worksOut_140 : decode cX8_worksOut 140 = .ok (.getfield 49, 3) := edX8_worksOut_127.2.2.2.2.2.2.2.2.2.2.1
theorem dX8_worksOut_143 : decode cX8_worksOut 143 = .ok (.iload_n 2, 1) := edX8_worksOut_127.2.2.2.2.2.2.2.2.2.2.2.1
theorem dX8_worksOut_144 : decode cX8_worksOut 144 = .ok (.iaload, 1) := edX8_worksOut_127.2.2.2.2.2.2.2.2.2.2.2.2.1
theorem dX8_worksOut_145 : decode cX8_worksOut 145 = .ok (.invokestatic 255, 3) := edX8_worksOut_127.2.2.2.2.2.2.2.2.2.2.2.2.2.1
theorem dX8_worksOut_148 : decode cX8_worksOut 148 = .ok (.iastore, 1) := edX8_worksOut_127.2.2.2.2.2.2.2.2.2.2.2.2.2.2.1
theorem dX8_worksOut_149 : decode cX8_worksOut 149 = .ok (.iinc 4 1, 3) := edX8_worksOut_127.2.2.2.2.2.2.2.2.2.2.2.2.2.2.2.1
theorem dX8_worksOut_152 : decode cX8_worksOut 152 = .ok (.goto (-131), 3) := edX8_worksOut_127.2.2.2.2.2.2.2.2.2.2.2.2.2.2.2.2.1
theorem dX8_worksOut_155 : decode cX8_worksOut 155 = .ok (.aload_n 0, 1) := edX8_worksOut_127.2.2.2.2.2.2.2.2.2.2.2.2.2.2.2.2.2.1
theorem dX8_worksOut_156 : decode cX8_worksOut 156 = .ok (.getfield 49, 3) := edX8_worksOut_127.2.2.2.2.2.2.2.2.2.2.2.2.2.2.2.2.2.2.1
theorem dX8_worksOut_159 : decode cX8_worksOut 159 = .ok (.iconst 0, 1) := edX8_worksOut_127.2.2.2.2.2.2.2.2.2.2.2.2.2.2.2.2.2.2.2.1
theorem dX8_worksOut_160 : decode cX8_worksOut 160 = .ok (.iaload, 1) := edX8_worksOut_127.2.2.2.2.2.2.2.2.2.2.2.2.2.2.2.2.2.2.2.2.1
theorem dX8_worksOut_161 : decode cX8_worksOut 161 = .ok (.ireturn, 1) := edX8_worksOut_127.2.2.2.2.2.2.2.2.2.2.2.2.2.2.2.2.2.2.2.2.2
theorem edX8_isSheet_0 : (decode cX8_isSheet 0 = .ok (.iload_n 0, 1)) ∧ (decode cX8_isSheet 1 = .ok (.iconst 0, 1)) ∧ (decode cX8_isSheet 2 = .ok (.iconst 3, 1)) ∧ (decode cX8_isSheet 3 = .ok (.invokestatic 83, 3)) ∧ (decode cX8_isSheet 6 = .ok (.ireturn, 1)) := by decide +kernel
theorem dX8_isSheet_0 : decode cX8_isSheet 0 = .ok (.iload_n 0, 1) := edX8_isSheet_0.1
theorem dX8_isSheet_1 : decode cX8_isSheet 1 = .ok (.iconst 0, 1) := edX8_isSheet_0.2.1
theorem dX8_isSheet_2 : decode cX8_isSheet 2 = .ok (.iconst 3, 1) := edX8_isSheet_0.2.2.1
theorem dX8_isSheet_3 : decode cX8_isSheet 3 = .ok (.invokestatic 83, 3) := edX8_isSheet_0.2.2.2.1
theorem dX8_isSheet_6 : decode cX8_isSheet 6 = .ok (.ireturn, 1) := edX8_isSheet_0.2.2.2.2
theorem edX8_isSlot_0 : (decode cX8_isSlot 0 = .ok (.iload_n 0, 1)) ∧ (decode cX8_isSlot 1 = .ok (.iconst 0, 1)) ∧ (decode cX8_isSlot 2 = .ok (.iconst 4, 1)) ∧ (decode cX8_isSlot 3 = .ok (.invokestatic 83, 3)) ∧ (decode cX8_isSlot 6 = .ok (.ireturn, 1)) := by decide +kernel
theorem dX8_isSlot_0 : decode cX8_isSlot 0 = .ok (.iload_n 0, 1) := edX8_isSlot_0.1
theorem dX8_isSlot_1 : decode cX8_isSlot 1 = .ok (.iconst 0, 1) := edX8_isSlot_0.2.1
theorem dX8_isSlot_2 : decode cX8_isSlot 2 = .ok (.iconst 4, 1) := edX8_isSlot_0.2.2.1
theorem dX8_isSlot_3 : decode cX8_isSlot 3 = .ok (.invokestatic 83, 3) := edX8_isSlot_0.2.2.2.1
theorem dX8_isSlot_6 : decode cX8_isSlot 6 = .ok (.ireturn, 1) := edX8_isSlot_0.2.2.2.2
theorem edX8_sheet_0 : (decode cX8_sheet 0 = .ok (.iload_n 1, 1)) ∧ (decode cX8_sheet 1 = .ok (.invokestatic 184, 3)) ∧ (decode cX8_sheet 4 = .ok (.ifCond .eq 22, 3)) ∧ (decode cX8_sheet 7 = .ok (.iload_n 2, 1)) ∧ (decode cX8_sheet 8 = .ok (.iconst (-1), 1)) ∧ (decode cX8_sheet 9 = .ok (.iconst 1, 1)) ∧ (decode cX8_sheet 10 = .ok (.invokestatic 83, 3)) ∧ (decode cX8_sheet 13 = .ok (.ifCond .eq 13, 3)) ∧ (decode cX8_sheet 16 = .ok (.iload_n 2, 1)) ∧ (decode cX8_sheet 17 = .ok (.ifCond .lt 12, 3)) ∧ (decode cX8_sheet 20 = .ok (.iload_n 3, 1)) ∧ (decode cX8_sheet 21 = .ok (.bipush 24, 2)) ∧ (decode cX8_sheet 23 = .ok (.if_icmp .le 6, 3)) ∧ (decode cX8_sheet 26 = .ok (.ldc 91, 2)) ∧ (decode cX8_sheet 28 = .ok (.ireturn, 1)) ∧ (decode cX8_sheet 29 = .ok (.iload_n 2, 1)) ∧ (decode cX8_sheet 30 = .ok (.ifCond .lt 11, 3)) ∧ (decode cX8_sheet 33 = .ok (.iload_n 3, 1)) ∧ (decode cX8_sheet 34 = .ok (.ifCond .ge 7, 3)) ∧ (decode cX8_sheet 37 = .ok (.ldc_w 258, 3)) ∧ (decode cX8_sheet 40 = .ok (.ireturn, 1)) ∧ (decode cX8_sheet 41 = .ok (.aload_n 0, 1)) ∧ (decode cX8_sheet 42 = .ok (.getfield 55, 3)) ∧ (decode cX8_sheet 45 = .ok (.iload_n 1, 1)) := by decide +kernel
theorem dX8_sheet_0 : decode cX8_sheet 0 = .ok (.iload_n 1, 1) := edX8_sheet_0.1
theorem dX8_sheet_1 : decode cX8_sheet 1 = .ok (.invokestatic 184, 3) := edX8_sheet_0.2.1
theorem dX8_sheet_4 : decode cX8_sheet 4 = .ok (.ifCond .eq 22, 3) := edX8_sheet_0.2.2.1
theorem dX8_sheet_7 : decode cX8_sheet 7 = .ok (.iload_n 2, 1) := edX8_sheet_0.2.2.2.1
theorem dX8_sheet_8 : decode cX8_sheet 8 = .ok (.iconst (-1), 1) := edX8_sheet_0.2.2.2.2.1
theorem dX8_sheet_9 : decode cX8_sheet 9 = .ok (.iconst 1, 1) := edX8_sheet_0.2.2.2.2.2.1
theorem dX8_sheet_10 : decode cX8_sheet 10 = .ok (.invokestatic 83, 3) := edX8_sheet_0.2.2.2.2.2.2.1
theorem dX8_sheet_13 : decode cX8_sheet 13 = .ok (.ifCond .eq 13, 3) := edX8_sheet_0.2.2.2.2.2.2.2.1
theorem dX8_sheet_16 : decode cX8_sheet 16 = .ok (.iload_n 2, 1) := edX8_sheet_0.2.2.2.2.2.2.2.2.1
theorem dX8_sheet_17 : decode cX8_sheet 17 = .ok (.ifCond .lt 12, 3) := edX8_sheet_0.2.2.2.2.2.2.2.2.2.1
theorem dX8_sheet_20 : decode cX8_sheet 20 = .ok (.iload_n 3, 1) := edX8_sheet_0.2.2.2.2.2.2.2.2.2.2.1
theorem dX8_sheet_21 : decode cX8_sheet 21 = .ok (.bipush 24, 2) := edX8_sheet_0.2.2.2.2.2.2.2.2.2.2.2.1
theorem dX8_sheet_23 : decode cX8_sheet 23 = .ok (.if_icmp .le 6, 3) := edX8_sheet_0.2.2.2.2.2.2.2.2.2.2.2.2.1
theorem dX8_sheet_26 : decode cX8_sheet 26 = .ok (.ldc 91, 2) := edX8_sheet_0.2.2.2.2.2.2.2.2.2.2.2.2.2.1
theorem dX8_sheet_28 : decode cX8_sheet 28 = .ok (.ireturn, 1) := edX8_sheet_0.2.2.2.2.2.2.2.2.2.2.2.2.2.2.1
theorem dX8_sheet_29 : decode cX8_sheet 29 = .ok (.iload_n 2, 1) := edX8_sheet_0.2.2.2.2.2.2.2.2.2.2.2.2.2.2.2.1
theorem dX8_sheet_30 : decode cX8_sheet 30 = .ok (.ifCond .lt 11, 3) := edX8_sheet_0.2.2.2.2.2.2.2.2.2.2.2.2.2.2.2.2.1
theorem dX8_sheet_33 : decode cX8_sheet 33 = .ok (.iload_n 3, 1) := edX8_sheet_0.2.2.2.2.2.2.2.2.2.2.2.2.2.2.2.2.2.1
theorem dX8_sheet_34 : decode cX8_sheet 34 = .ok (.ifCond .ge 7, 3) := edX8_sheet_0.2.2.2.2.2.2.2.2.2.2.2.2.2.2.2.2.2.2.1
theorem dX8_sheet_37 : decode cX8_sheet 37 = .ok (.ldc_w 258, 3) := edX8_sheet_0.2.2.2.2.2.2.2.2.2.2.2.2.2.2.2.2.2.2.2.1
theorem dX8_sheet_40 : decode cX8_sheet 40 = .ok (.ireturn, 1) := edX8_sheet_0.2.2.2.2.2.2.2.2.2.2.2.2.2.2.2.2.2.2.2.2.1
theorem dX8_sheet_41 : decode cX8_sheet 41 = .ok (.aload_n 0, 1) := edX8_sheet_0.2.2.2.2.2.2.2.2.2.2.2.2.2.2.2.2.2.2.2.2.2.1
theorem dX8_sheet_42 : decode cX8_sheet 42 = .ok (.getfield 55, 3) := edX8_sheet_0.2.2.2.2.2.2.2.2.2.2.2.2.2.2.2.2.2.2.2.2.2.2.1
theorem dX8_sheet_45 : decode cX8_sheet 45 = .ok (.iload_n 1, 1) := edX8_sheet_0.2.2.2.2.2.2.2.2.2.2.2.2.2.2.2.2.2.2.2.2.2.2.2
theorem edX8_sheet_46 : (decode cX8_sheet 46 = .ok (.iload_n 2, 1)) ∧ (decode cX8_sheet 47 = .ok (.iastore, 1)) ∧ (decode cX8_sheet 48 = .ok (.aload_n 0, 1)) ∧ (decode cX8_sheet 49 = .ok (.getfield 58, 3)) ∧ (decode cX8_sheet 52 = .ok (.iload_n 1, 1)) ∧ (decode cX8_sheet 53 = .ok (.iload_n 2, 1)) ∧ (decode cX8_sheet 54 = .ok (.ifCond .ge 7, 3)) ∧ (decode cX8_sheet 57 = .ok (.iconst 0, 1)) ∧ (decode cX8_sheet 58 = .ok (.goto 4, 3)) ∧ (decode cX8_sheet 61 = .ok (.iload_n 3, 1)) ∧ (decode cX8_sheet 62 = .ok (.iastore, 1)) ∧ (decode cX8_sheet 63 = .ok (.iconst 0, 1)) ∧ (decode cX8_sheet 64 = .ok (.istore 4, 2)) ∧ (decode cX8_sheet 66 = .ok (.iload 4, 2)) ∧ (decode cX8_sheet 68 = .ok (.bipush 24, 2)) ∧ (decode cX8_sheet 70 = .ok (.if_icmp .ge 22, 3)) ∧ (decode cX8_sheet 73 = .ok (.aload_n 0, 1)) ∧ (decode cX8_sheet 74 = .ok (.getfield 61, 3)) ∧ (decode cX8_sheet 77 = .ok (.bipush 24, 2)) ∧ (decode cX8_sheet 79 = .ok (.iload_n 1, 1)) ∧ (decode cX8_sheet 80 = .ok (.imul, 1)) ∧ (decode cX8_sheet 81 = .ok (.iload 4, 2)) ∧ (decode cX8_sheet 83 = .ok (.iadd, 1)) ∧ (decode cX8_sheet 84 = .ok (.iconst 0, 1)) := by decide +kernel
theorem dX8_sheet_46 : decode cX8_sheet 46 = .ok (.iload_n 2, 1) := edX8_sheet_46.1
theorem dX8_sheet_47 : decode cX8_sheet 47 = .ok (.iastore, 1) := edX8_sheet_46.2.1
theorem dX8_sheet_48 : decode cX8_sheet 48 = .ok (.aload_n 0, 1) := edX8_sheet_46.2.2.1
theorem dX8_sheet_49 : decode cX8_sheet 49 = .ok (.getfield 58, 3) := edX8_sheet_46.2.2.2.1
theorem dX8_sheet_52 : decode cX8_sheet 52 = .ok (.iload_n 1, 1) := edX8_sheet_46.2.2.2.2.1
theorem dX8_sheet_53 : decode cX8_sheet 53 = .ok (.iload_n 2, 1) := edX8_sheet_46.2.2.2.2.2.1
theorem dX8_sheet_54 : decode cX8_sheet 54 = .ok (.ifCond .ge 7, 3) := edX8_sheet_46.2.2.2.2.2.2.1
theorem dX8_sheet_57 : decode cX8_sheet 57 = .ok (.iconst 0, 1) := edX8_sheet_46.2.2.2.2.2.2.2.1
theorem dX8_sheet_58 : decode cX8_sheet 58 = .ok (.goto 4, 3) := edX8_sheet_46.2.2.2.2.2.2.2.2.1
theorem dX8_sheet_61 : decode cX8_sheet 61 = .ok (.iload_n 3, 1) := edX8_sheet_46.2.2.2.2.2.2.2.2.2.1
theorem dX8_sheet_62 : decode cX8_sheet 62 = .ok (.iastore, 1) := edX8_sheet_46.2.2.2.2.2.2.2.2.2.2.1
theorem dX8_sheet_63 : decode cX8_sheet 63 = .ok (.iconst 0, 1) := edX8_sheet_46.2.2.2.2.2.2.2.2.2.2.2.1
theorem dX8_sheet_64 : decode cX8_sheet 64 = .ok (.istore 4, 2) := edX8_sheet_46.2.2.2.2.2.2.2.2.2.2.2.2.1
theorem dX8_sheet_66 : decode cX8_sheet 66 = .ok (.iload 4, 2) := edX8_sheet_46.2.2.2.2.2.2.2.2.2.2.2.2.2.1
theorem dX8_sheet_68 : decode cX8_sheet 68 = .ok (.bipush 24, 2) := edX8_sheet_46.2.2.2.2.2.2.2.2.2.2.2.2.2.2.1
theorem dX8_sheet_70 : decode cX8_sheet 70 = .ok (.if_icmp .ge 22, 3) := edX8_sheet_46.2.2.2.2.2.2.2.2.2.2.2.2.2.2.2.1
theorem dX8_sheet_73 : decode cX8_sheet 73 = .ok (.aload_n 0, 1) := edX8_sheet_46.2.2.2.2.2.2.2.2.2.2.2.2.2.2.2.2.1
theorem dX8_sheet_74 : decode cX8_sheet 74 = .ok (.getfield 61, 3) := edX8_sheet_46.2.2.2.2.2.2.2.2.2.2.2.2.2.2.2.2.2.1
theorem dX8_sheet_77 : decode cX8_sheet 77 = .ok (.bipush 24, 2) := edX8_sheet_46.2.2.2.2.2.2.2.2.2.2.2.2.2.2.2.2.2.2.1
theorem dX8_sheet_79 : decode cX8_sheet 79 = .ok (.iload_n 1, 1) := edX8_sheet_46.2.2.2.2.2.2.2.2.2.2.2.2.2.2.2.2.2.2.2.1
theorem dX8_sheet_80 : decode cX8_sheet 80 = .ok (.imul, 1) := edX8_sheet_46.2.2.2.2.2.2.2.2.2.2.2.2.2.2.2.2.2.2.2.2.1
theorem dX8_sheet_81 : decode cX8_sheet 81 = .ok (.iload 4, 2) := edX8_sheet_46.2.2.2.2.2.2.2.2.2.2.2.2.2.2.2.2.2.2.2.2.2.1
theorem dX8_sheet_83 : decode cX8_sheet 83 = .ok (.iadd, 1) := edX8_sheet_46.2.2.2.2.2.2.2.2.2.2.2.2.2.2.2.2.2.2.2.2.2.2.1
theorem dX8_sheet_84 : decode cX8_sheet 84 = .ok (.iconst 0, 1) := edX8_sheet_46.2.2.2.2.2.2.2.2.2.2.2.2.2.2.2.2.2.2.2.2.2.2.2
theorem edX8_sheet_85 : (decode cX8_sheet 85 = .ok (.iastore, 1)) ∧ (decode cX8_sheet 86 = .ok (.iinc 4 1, 3)) ∧ (decode cX8_sheet 89 = .ok (.goto (-23), 3)) ∧ (decode cX8_sheet 92 = .ok (.aload_n 0, 1)) ∧ (decode cX8_sheet 93 = .ok (.getfield 58, 3)) ∧ (decode cX8_sheet 96 = .ok (.iload_n 1, 1)) ∧ (decode cX8_sheet 97 = .ok (.iaload, 1)) ∧ (decode cX8_sheet 98 = .ok (.ireturn, 1)) := by decide +kernel
theorem dX8_sheet_85 : decode cX8_sheet 85 = .ok (.iastore, 1) := edX8_sheet_85.1
theorem dX8_sheet_86 : decode cX8_sheet 86 = .ok (.iinc 4 1, 3) := edX8_sheet_85.2.1
theorem dX8_sheet_89 : decode cX8_sheet 89 = .ok (.goto (-23), 3) := edX8_sheet_85.2.2.1
theorem dX8_sheet_92 : decode cX8_sheet 92 = .ok (.aload_n 0, 1) := edX8_sheet_85.2.2.2.1
theorem dX8_sheet_93 : decode cX8_sheet 93 = .ok (.getfield 58, 3) := edX8_sheet_85.2.2.2.2.1
theorem dX8_sheet_96 : decode cX8_sheet 96 = .ok (.iload_n 1, 1) := edX8_sheet_85.2.2.2.2.2.1
theorem dX8_sheet_97 : decode cX8_sheet 97 = .ok (.iaload, 1) := edX8_sheet_85.2.2.2.2.2.2.1
theorem dX8_sheet_98 : decode cX8_sheet 98 = .ok (.ireturn, 1) := edX8_sheet_85.2.2.2.2.2.2.2
theorem edX8_mark_0 : (decode cX8_mark 0 = .ok (.iload_n 1, 1)) ∧ (decode cX8_mark 1 = .ok (.invokestatic 184, 3)) ∧ (decode cX8_mark 4 = .ok (.ifCond .ne 6, 3)) ∧ (decode cX8_mark 7 = .ok (.ldc 91, 2)) ∧ (decode cX8_mark 9 = .ok (.ireturn, 1)) ∧ (decode cX8_mark 10 = .ok (.aload_n 0, 1)) ∧ (decode cX8_mark 11 = .ok (.getfield 55, 3)) ∧ (decode cX8_mark 14 = .ok (.iload_n 1, 1)) ∧ (decode cX8_mark 15 = .ok (.iaload, 1)) ∧ (decode cX8_mark 16 = .ok (.ifCond .ge 6, 3)) ∧ (decode cX8_mark 19 = .ok (.ldc 187, 2)) ∧ (decode cX8_mark 21 = .ok (.ireturn, 1)) ∧ (decode cX8_mark 22 = .ok (.iload_n 2, 1)) ∧ (decode cX8_mark 23 = .ok (.iconst 0, 1)) ∧ (decode cX8_mark 24 = .ok (.aload_n 0, 1)) ∧ (decode cX8_mark 25 = .ok (.getfield 58, 3)) ∧ (decode cX8_mark 28 = .ok (.iload_n 1, 1)) ∧ (decode cX8_mark 29 = .ok (.iaload, 1)) ∧ (decode cX8_mark 30 = .ok (.iconst 1, 1)) ∧ (decode cX8_mark 31 = .ok (.isub, 1)) ∧ (decode cX8_mark 32 = .ok (.invokestatic 83, 3)) ∧ (decode cX8_mark 35 = .ok (.ifCond .ne 7, 3)) ∧ (decode cX8_mark 38 = .ok (.ldc_w 259, 3)) ∧ (decode cX8_mark 41 = .ok (.ireturn, 1)) := by decide +kernel
theorem dX8_mark_0 : decode cX8_mark 0 = .ok (.iload_n 1, 1) := edX8_mark_0.1
theorem dX8_mark_1 : decode cX8_mark 1 = .ok (.invokestatic 184, 3) := edX8_mark_0.2.1
theorem dX8_mark_4 : decode cX8_mark 4 = .ok (.ifCond .ne 6, 3) := edX8_mark_0.2.2.1
theorem dX8_mark_7 : decode cX8_mark 7 = .ok (.ldc 91, 2) := edX8_mark_0.2.2.2.1
theorem dX8_mark_9 : decode cX8_mark 9 = .ok (.ireturn, 1) := edX8_mark_0.2.2.2.2.1
theorem dX8_mark_10 : decode cX8_mark 10 = .ok (.aload_n 0, 1) := edX8_mark_0.2.2.2.2.2.1
theorem dX8_mark_11 : decode cX8_mark 11 = .ok (.getfield 55, 3) := edX8_mark_0.2.2.2.2.2.2.1
theorem dX8_mark_14 : decode cX8_mark 14 = .ok (.iload_n 1, 1) := edX8_mark_0.2.2.2.2.2.2.2.1
theorem dX8_mark_15 : decode cX8_mark 15 = .ok (.iaload, 1) := edX8_mark_0.2.2.2.2.2.2.2.2.1
theorem dX8_mark_16 : decode cX8_mark 16 = .ok (.ifCond .ge 6, 3) := edX8_mark_0.2.2.2.2.2.2.2.2.2.1
theorem dX8_mark_19 : decode cX8_mark 19 = .ok (.ldc 187, 2) := edX8_mark_0.2.2.2.2.2.2.2.2.2.2.1
theorem dX8_mark_21 : decode cX8_mark 21 = .ok (.ireturn, 1) := edX8_mark_0.2.2.2.2.2.2.2.2.2.2.2.1
theorem dX8_mark_22 : decode cX8_mark 22 = .ok (.iload_n 2, 1) := edX8_mark_0.2.2.2.2.2.2.2.2.2.2.2.2.1
theorem dX8_mark_23 : decode cX8_mark 23 = .ok (.iconst 0, 1) := edX8_mark_0.2.2.2.2.2.2.2.2.2.2.2.2.2.1
theorem dX8_mark_24 : decode cX8_mark 24 = .ok (.aload_n 0, 1) := edX8_mark_0.2.2.2.2.2.2.2.2.2.2.2.2.2.2.1
theorem dX8_mark_25 : decode cX8_mark 25 = .ok (.getfield 58, 3) := edX8_mark_0.2.2.2.2.2.2.2.2.2.2.2.2.2.2.2.1
theorem dX8_mark_28 : decode cX8_mark 28 = .ok (.iload_n 1, 1) := edX8_mark_0.2.2.2.2.2.2.2.2.2.2.2.2.2.2.2.2.1
theorem dX8_mark_29 : decode cX8_mark 29 = .ok (.iaload, 1) := edX8_mark_0.2.2.2.2.2.2.2.2.2.2.2.2.2.2.2.2.2.1
theorem dX8_mark_30 : decode cX8_mark 30 = .ok (.iconst 1, 1) := edX8_mark_0.2.2.2.2.2.2.2.2.2.2.2.2.2.2.2.2.2.2.1
theorem dX8_mark_31 : decode cX8_mark 31 = .ok (.isub, 1) := edX8_mark_0.2.2.2.2.2.2.2.2.2.2.2.2.2.2.2.2.2.2.2.1
theorem dX8_mark_32 : decode cX8_mark 32 = .ok (.invokestatic 83, 3) := edX8_mark_0.2.2.2.2.2.2.2.2.2.2.2.2.2.2.2.2.2.2.2.2.1
theorem dX8_mark_35 : decode cX8_mark 35 = .ok (.ifCond .ne 7, 3) := edX8_mark_0.2.2.2.2.2.2.2.2.2.2.2.2.2.2.2.2.2.2.2.2.2.1
theorem dX8_mark_38 : decode cX8_mark 38 = .ok (.ldc_w 259, 3) := edX8_mark_0.2.2.2.2.2.2.2.2.2.2.2.2.2.2.2.2.2.2.2.2.2.2.1
theorem dX8_mark_41 : decode cX8_mark 41 = .ok (.ireturn, 1) := edX8_mark_0.2.2.2.2.2.2.2.2.2.2.2.2.2.2.2.2.2.2.2.2.2.2.2
theorem edX8_mark_42 : (decode cX8_mark 42 = .ok (.aload_n 0, 1)) ∧ (decode cX8_mark 43 = .ok (.getfield 55, 3)) ∧ (decode cX8_mark 46 = .ok (.iload_n 1, 1)) ∧ (decode cX8_mark 47 = .ok (.iaload, 1)) ∧ (decode cX8_mark 48 = .ok (.ifCond .ne 12, 3)) ∧ (decode cX8_mark 51 = .ok (.iload_n 3, 1)) ∧ (decode cX8_mark 52 = .ok (.ldc 82, 2)) ∧ (decode cX8_mark 54 = .ok (.if_icmp .ne 6, 3)) ∧ (decode cX8_mark 57 = .ok (.ldc 134, 2)) ∧ (decode cX8_mark 59 = .ok (.ireturn, 1)) ∧ (decode cX8_mark 60 = .ok (.aload_n 0, 1)) ∧ (decode cX8_mark 61 = .ok (.getfield 55, 3)) ∧ (decode cX8_mark 64 = .ok (.iload_n 1, 1)) ∧ (decode cX8_mark 65 = .ok (.iaload, 1)) ∧ (decode cX8_mark 66 = .ok (.iconst 1, 1)) ∧ (decode cX8_mark 67 = .ok (.if_icmp .ne 25, 3)) ∧ (decode cX8_mark 70 = .ok (.iload_n 3, 1)) ∧ (decode cX8_mark 71 = .ok (.ldc 82, 2)) ∧ (decode cX8_mark 73 = .ok (.if_icmp .eq 19, 3)) ∧ (decode cX8_mark 76 = .ok (.iload_n 3, 1)) ∧ (decode cX8_mark 77 = .ok (.ldc_w 260, 3)) ∧ (decode cX8_mark 80 = .ok (.ldc_w 261, 3)) ∧ (decode cX8_mark 83 = .ok (.invokestatic 83, 3)) ∧ (decode cX8_mark 86 = .ok (.ifCond .ne 6, 3)) := by decide +kernel
theorem dX8_mark_42 : decode cX8_mark 42 = .ok (.aload_n 0, 1) := edX8_mark_42.1
theorem dX8_mark_43 : decode cX8_mark 43 = .ok (.getfield 55, 3) := edX8_mark_42.2.1
theorem dX8_mark_46 : decode cX8_mark 46 = .ok (.iload_n 1, 1) := edX8_mark_42.2.2.1
theorem dX8_mark_47 : decode cX8_mark 47 = .ok (.iaload, 1) := edX8_mark_42.2.2.2.1
theorem dX8_mark_48 : decode cX8_mark 48 = .ok (.ifCond .ne 12, 3) := edX8_mark_42.2.2.2.2.1
theorem dX8_mark_51 : decode cX8_mark 51 = .ok (.iload_n 3, 1) := edX8_mark_42.2.2.2.2.2.1
theorem dX8_mark_52 : decode cX8_mark 52 = .ok (.ldc 82, 2) := edX8_mark_42.2.2.2.2.2.2.1
theorem dX8_mark_54 : decode cX8_mark 54 = .ok (.if_icmp .ne 6, 3) := edX8_mark_42.2.2.2.2.2.2.2.1
theorem dX8_mark_57 : decode cX8_mark 57 = .ok (.ldc 134, 2) := edX8_mark_42.2.2.2.2.2.2.2.2.1
theorem dX8_mark_59 : decode cX8_mark 59 = .ok (.ireturn, 1) := edX8_mark_42.2.2.2.2.2.2.2.2.2.1
theorem dX8_mark_60 : decode cX8_mark 60 = .ok (.aload_n 0, 1) := edX8_mark_42.2.2.2.2.2.2.2.2.2.2.1
theorem dX8_mark_61 : decode cX8_mark 61 = .ok (.getfield 55, 3) := edX8_mark_42.2.2.2.2.2.2.2.2.2.2.2.1
theorem dX8_mark_64 : decode cX8_mark 64 = .ok (.iload_n 1, 1) := edX8_mark_42.2.2.2.2.2.2.2.2.2.2.2.2.1
theorem dX8_mark_65 : decode cX8_mark 65 = .ok (.iaload, 1) := edX8_mark_42.2.2.2.2.2.2.2.2.2.2.2.2.2.1
theorem dX8_mark_66 : decode cX8_mark 66 = .ok (.iconst 1, 1) := edX8_mark_42.2.2.2.2.2.2.2.2.2.2.2.2.2.2.1
theorem dX8_mark_67 : decode cX8_mark 67 = .ok (.if_icmp .ne 25, 3) := edX8_mark_42.2.2.2.2.2.2.2.2.2.2.2.2.2.2.2.1
theorem dX8_mark_70 : decode cX8_mark 70 = .ok (.iload_n 3, 1) := edX8_mark_42.2.2.2.2.2.2.2.2.2.2.2.2.2.2.2.2.1
theorem dX8_mark_71 : decode cX8_mark 71 = .ok (.ldc 82, 2) := edX8_mark_42.2.2.2.2.2.2.2.2.2.2.2.2.2.2.2.2.2.1
theorem dX8_mark_73 : decode cX8_mark 73 = .ok (.if_icmp .eq 19, 3) := edX8_mark_42.2.2.2.2.2.2.2.2.2.2.2.2.2.2.2.2.2.2.1
theorem dX8_mark_76 : decode cX8_mark 76 = .ok (.iload_n 3, 1) := edX8_mark_42.2.2.2.2.2.2.2.2.2.2.2.2.2.2.2.2.2.2.2.1
theorem dX8_mark_77 : decode cX8_mark 77 = .ok (.ldc_w 260, 3) := edX8_mark_42.2.2.2.2.2.2.2.2.2.2.2.2.2.2.2.2.2.2.2.2.1
theorem dX8_mark_80 : decode cX8_mark 80 = .ok (.ldc_w 261, 3) := edX8_mark_42.2.2.2.2.2.2.2.2.2.2.2.2.2.2.2.2.2.2.2.2.2.1
theorem dX8_mark_83 : decode cX8_mark 83 = .ok (.invokestatic 83, 3) := edX8_mark_42.2.2.2.2.2.2.2.2.2.2.2.2.2.2.2.2.2.2.2.2.2.2.1
theorem dX8_mark_86 : decode cX8_mark 86 = .ok (.ifCond .ne 6, 3) := edX8_mark_42.2.2.2.2.2.2.2.2.2.2.2.2.2.2.2.2.2.2.2.2.2.2.2
theorem edX8_mark_89 : (decode cX8_mark 89 = .ok (.ldc 91, 2)) ∧ (decode cX8_mark 91 = .ok (.ireturn, 1)) ∧ (decode cX8_mark 92 = .ok (.aload_n 0, 1)) ∧ (decode cX8_mark 93 = .ok (.getfield 61, 3)) ∧ (decode cX8_mark 96 = .ok (.bipush 24, 2)) ∧ (decode cX8_mark 98 = .ok (.iload_n 1, 1)) ∧ (decode cX8_mark 99 = .ok (.imul, 1)) ∧ (decode cX8_mark 100 = .ok (.iload_n 2, 1)) ∧ (decode cX8_mark 101 = .ok (.iadd, 1)) ∧ (decode cX8_mark 102 = .ok (.aload_n 0, 1)) ∧ (decode cX8_mark 103 = .ok (.getfield 55, 3)) ∧ (decode cX8_mark 106 = .ok (.iload_n 1, 1)) ∧ (decode cX8_mark 107 = .ok (.iaload, 1)) ∧ (decode cX8_mark 108 = .ok (.ifCond .ne 8, 3)) ∧ (decode cX8_mark 111 = .ok (.iload_n 3, 1)) ∧ (decode cX8_mark 112 = .ok (.i2s, 1)) ∧ (decode cX8_mark 113 = .ok (.goto 4, 3)) ∧ (decode cX8_mark 116 = .ok (.iload_n 3, 1)) ∧ (decode cX8_mark 117 = .ok (.iastore, 1)) ∧ (decode cX8_mark 118 = .ok (.iconst 1, 1)) ∧ (decode cX8_mark 119 = .ok (.ireturn, 1)) := by decide +kernel
theorem dX8_mark_89 : decode cX8_mark 89 = .ok (.ldc 91, 2) := edX8_mark_89.1
theorem dX8_mark_91 : decode cX8_mark 91 = .ok (.ireturn, 1) := edX8_mark_89.2.1
theorem dX8_mark_92 : decode cX8_mark 92 = .ok (.aload_n 0, 1) := edX8_mark_89.2.2.1
theorem dX8_mark_93 : decode cX8_mark 93 = .ok (.getfield 61, 3) := edX8_mark_89.2.2.2.1
theorem dX8_mark_96 : decode cX8_mark 96 = .ok (.bipush 24, 2) := edX8_mark_89.2.2.2.2.1
theorem dX8_mark_98 : decode cX8_mark 98 = .ok (.iload_n 1, 1) := edX8_mark_89.2.2.2.2.2.1
theorem dX8_mark_99 : decode cX8_mark 99 = .ok (.imul, 1) := edX8_mark_89.2.2.2.2.2.2.1
theorem dX8_mark_100 : decode cX8_mark 100 = .ok (.iload_n 2, 1) := edX8_mark_89.2.2.2.2.2.2.2.1
theorem dX8_mark_101 : decode cX8_mark 101 = .ok (.iadd, 1) := edX8_mark_89.2.2.2.2.2.2.2.2.1
theorem dX8_mark_102 : decode cX8_mark 102 = .ok (.aload_n 0, 1) := edX8_mark_89.2.2.2.2.2.2.2.2.2.1
theorem dX8_mark_103 : decode cX8_mark 103 = .ok (.getfield 55, 3) := edX8_mark_89.2.2.2.2.2.2.2.2.2.2.1
theorem dX8_mark_106 : decode cX8_mark 106 = .ok (.iload_n 1, 1) := edX8_mark_89.2.2.2.2.2.2.2.2.2.2.2.1
theorem dX8_mark_107 : decode cX8_mark 107 = .ok (.iaload, 1) := edX8_mark_89.2.2.2.2.2.2.2.2.2.2.2.2.1
theorem dX8_mark_108 : decode cX8_mark 108 = .ok (.ifCond .ne 8, 3) := edX8_mark_89.2.2.2.2.2.2.2.2.2.2.2.2.2.1
theorem dX8_mark_111 : decode cX8_mark 111 = .ok (.iload_n 3, 1) := edX8_mark_89.2.2.2.2.2.2.2.2.2.2.2.2.2.2.1
theorem dX8_mark_112 : decode cX8_mark 112 = .ok (.i2s, 1) := edX8_mark_89.2.2.2.2.2.2.2.2.2.2.2.2.2.2.2.1
theorem dX8_mark_113 : decode cX8_mark 113 = .ok (.goto 4, 3) := edX8_mark_89.2.2.2.2.2.2.2.2.2.2.2.2.2.2.2.2.1
theorem dX8_mark_116 : decode cX8_mark 116 = .ok (.iload_n 3, 1) := edX8_mark_89.2.2.2.2.2.2.2.2.2.2.2.2.2.2.2.2.2.1
theorem dX8_mark_117 : decode cX8_mark 117 = .ok (.iastore, 1) := edX8_mark_89.2.2.2.2.2.2.2.2.2.2.2.2.2.2.2.2.2.2.1
theorem dX8_mark_118 : decode cX8_mark 118 = .ok (.iconst 1, 1) := edX8_mark_89.2.2.2.2.2.2.2.2.2.2.2.2.2.2.2.2.2.2.2.1
theorem dX8_mark_119 : decode cX8_mark 119 = .ok (.ireturn, 1) := edX8_mark_89.2.2.2.2.2.2.2.2.2.2.2.2.2.2.2.2.2.2.2.2
theorem edX8_pour_0 : (decode cX8_pour 0 = .ok (.iload_n 1, 1)) ∧ (decode cX8_pour 1 = .ok (.invokestatic 184, 3)) ∧ (decode cX8_pour 4 = .ok (.ifCond .ne 6, 3)) ∧ (decode cX8_pour 7 = .ok (.ldc 91, 2)) ∧ (decode cX8_pour 9 = .ok (.ireturn, 1)) ∧ (decode cX8_pour 10 = .ok (.aload_n 0, 1)) ∧ (decode cX8_pour 11 = .ok (.getfield 55, 3)) ∧ (decode cX8_pour 14 = .ok (.iload_n 1, 1)) ∧ (decode cX8_pour 15 = .ok (.iaload, 1)) ∧ (decode cX8_pour 16 = .ok (.ifCond .ge 6, 3)) ∧ (decode cX8_pour 19 = .ok (.ldc 187, 2)) ∧ (decode cX8_pour 21 = .ok (.ireturn, 1)) ∧ (decode cX8_pour 22 = .ok (.iconst 0, 1)) ∧ (decode cX8_pour 23 = .ok (.istore_n 2, 1)) ∧ (decode cX8_pour 24 = .ok (.iconst 0, 1)) ∧ (decode cX8_pour 25 = .ok (.istore_n 3, 1)) ∧ (decode cX8_pour 26 = .ok (.iload_n 3, 1)) ∧ (decode cX8_pour 27 = .ok (.aload_n 0, 1)) ∧ (decode cX8_pour 28 = .ok (.getfield 58, 3)) ∧ (decode cX8_pour 31 = .ok (.iload_n 1, 1)) ∧ (decode cX8_pour 32 = .ok (.iaload, 1)) ∧ (decode cX8_pour 33 = .ok (.if_icmp .ge 79, 3)) ∧ (decode cX8_pour 36 = .ok (.iload_n 3, 1)) ∧ (decode cX8_pour 37 = .ok (.iconst 4, 1)) := by decide +kernel
theorem dX8_pour_0 : decode cX8_pour 0 = .ok (.iload_n 1, 1) := edX8_pour_0.1
theorem dX8_pour_1 : decode cX8_pour 1 = .ok (.invokestatic 184, 3) := edX8_pour_0.2.1
theorem dX8_pour_4 : decode cX8_pour 4 = .ok (.ifCond .ne 6, 3) := edX8_pour_0.2.2.1
theorem dX8_pour_7 : decode cX8_pour 7 = .ok (.ldc 91, 2) := edX8_pour_0.2.2.2.1
theorem dX8_pour_9 : decode cX8_pour 9 = .ok (.ireturn, 1) := edX8_pour_0.2.2.2.2.1
theorem dX8_pour_10 : decode cX8_pour 10 = .ok (.aload_n 0, 1) := edX8_pour_0.2.2.2.2.2.1
theorem dX8_pour_11 : decode cX8_pour 11 = .ok (.getfield 55, 3) := edX8_pour_0.2.2.2.2.2.2.1
theorem dX8_pour_14 : decode cX8_pour 14 = .ok (.iload_n 1, 1) := edX8_pour_0.2.2.2.2.2.2.2.1
theorem dX8_pour_15 : decode cX8_pour 15 = .ok (.iaload, 1) := edX8_pour_0.2.2.2.2.2.2.2.2.1
theorem dX8_pour_16 : decode cX8_pour 16 = .ok (.ifCond .ge 6, 3) := edX8_pour_0.2.2.2.2.2.2.2.2.2.1
theorem dX8_pour_19 : decode cX8_pour 19 = .ok (.ldc 187, 2) := edX8_pour_0.2.2.2.2.2.2.2.2.2.2.1
theorem dX8_pour_21 : decode cX8_pour 21 = .ok (.ireturn, 1) := edX8_pour_0.2.2.2.2.2.2.2.2.2.2.2.1
theorem dX8_pour_22 : decode cX8_pour 22 = .ok (.iconst 0, 1) := edX8_pour_0.2.2.2.2.2.2.2.2.2.2.2.2.1
theorem dX8_pour_23 : decode cX8_pour 23 = .ok (.istore_n 2, 1) := edX8_pour_0.2.2.2.2.2.2.2.2.2.2.2.2.2.1
theorem dX8_pour_24 : decode cX8_pour 24 = .ok (.iconst 0, 1) := edX8_pour_0.2.2.2.2.2.2.2.2.2.2.2.2.2.2.1
theorem dX8_pour_25 : decode cX8_pour 25 = .ok (.istore_n 3, 1) := edX8_pour_0.2.2.2.2.2.2.2.2.2.2.2.2.2.2.2.1
theorem dX8_pour_26 : decode cX8_pour 26 = .ok (.iload_n 3, 1) := edX8_pour_0.2.2.2.2.2.2.2.2.2.2.2.2.2.2.2.2.1
theorem dX8_pour_27 : decode cX8_pour 27 = .ok (.aload_n 0, 1) := edX8_pour_0.2.2.2.2.2.2.2.2.2.2.2.2.2.2.2.2.2.1
theorem dX8_pour_28 : decode cX8_pour 28 = .ok (.getfield 58, 3) := edX8_pour_0.2.2.2.2.2.2.2.2.2.2.2.2.2.2.2.2.2.2.1
theorem dX8_pour_31 : decode cX8_pour 31 = .ok (.iload_n 1, 1) := edX8_pour_0.2.2.2.2.2.2.2.2.2.2.2.2.2.2.2.2.2.2.2.1
theorem dX8_pour_32 : decode cX8_pour 32 = .ok (.iaload, 1) := edX8_pour_0.2.2.2.2.2.2.2.2.2.2.2.2.2.2.2.2.2.2.2.2.1
theorem dX8_pour_33 : decode cX8_pour 33 = .ok (.if_icmp .ge 79, 3) := edX8_pour_0.2.2.2.2.2.2.2.2.2.2.2.2.2.2.2.2.2.2.2.2.2.1
theorem dX8_pour_36 : decode cX8_pour 36 = .ok (.iload_n 3, 1) := edX8_pour_0.2.2.2.2.2.2.2.2.2.2.2.2.2.2.2.2.2.2.2.2.2.2.1
theorem dX8_pour_37 : decode cX8_pour 37 = .ok (.iconst 4, 1) := edX8_pour_0.2.2.2.2.2.2.2.2.2.2.2.2.2.2.2.2.2.2.2.2.2.2.2
theorem edX8_pour_38 : (decode cX8_pour 38 = .ok (.if_icmp .ge 74, 3)) ∧ (decode cX8_pour 41 = .ok (.aload_n 0, 1)) ∧ (decode cX8_pour 42 = .ok (.getfield 61, 3)) ∧ (decode cX8_pour 45 = .ok (.bipush 24, 2)) ∧ (decode cX8_pour 47 = .ok (.iload_n 1, 1)) ∧ (decode cX8_pour 48 = .ok (.imul, 1)) ∧ (decode cX8_pour 49 = .ok (.iload_n 3, 1)) ∧ (decode cX8_pour 50 = .ok (.iadd, 1)) ∧ (decode cX8_pour 51 = .ok (.iaload, 1)) ∧ (decode cX8_pour 52 = .ok (.istore 4, 2)) ∧ (decode cX8_pour 54 = .ok (.iload 4, 2)) ∧ (decode cX8_pour 56 = .ok (.ldc 82, 2)) ∧ (decode cX8_pour 58 = .ok (.if_icmp .ne 15, 3)) ∧ (decode cX8_pour 61 = .ok (.aload_n 0, 1)) ∧ (decode cX8_pour 62 = .ok (.getfield 9, 3)) ∧ (decode cX8_pour 65 = .ok (.bipush 8, 2)) ∧ (decode cX8_pour 67 = .ok (.iload_n 3, 1)) ∧ (decode cX8_pour 68 = .ok (.iadd, 1)) ∧ (decode cX8_pour 69 = .ok (.iaload, 1)) ∧ (decode cX8_pour 70 = .ok (.goto 11, 3)) ∧ (decode cX8_pour 73 = .ok (.iload 4, 2)) ∧ (decode cX8_pour 75 = .ok (.iconst 0, 1)) ∧ (decode cX8_pour 76 = .ok (.bipush 9, 2)) ∧ (decode cX8_pour 78 = .ok (.invokestatic 108, 3)) := by decide +kernel
theorem dX8_pour_38 : decode cX8_pour 38 = .ok (.if_icmp .ge 74, 3) := edX8_pour_38.1
theorem dX8_pour_41 : decode cX8_pour 41 = .ok (.aload_n 0, 1) := edX8_pour_38.2.1
theorem dX8_pour_42 : decode cX8_pour 42 = .ok (.getfield 61, 3) := edX8_pour_38.2.2.1
theorem dX8_pour_45 : decode cX8_pour 45 = .ok (.bipush 24, 2) := edX8_pour_38.2.2.2.1
theorem dX8_pour_47 : decode cX8_pour 47 = .ok (.iload_n 1, 1) := edX8_pour_38.2.2.2.2.1
theorem dX8_pour_48 : decode cX8_pour 48 = .ok (.imul, 1) := edX8_pour_38.2.2.2.2.2.1
theorem dX8_pour_49 : decode cX8_pour 49 = .ok (.iload_n 3, 1) := edX8_pour_38.2.2.2.2.2.2.1
theorem dX8_pour_50 : decode cX8_pour 50 = .ok (.iadd, 1) := edX8_pour_38.2.2.2.2.2.2.2.1
theorem dX8_pour_51 : decode cX8_pour 51 = .ok (.iaload, 1) := edX8_pour_38.2.2.2.2.2.2.2.2.1
theorem dX8_pour_52 : decode cX8_pour 52 = .ok (.istore 4, 2) := edX8_pour_38.2.2.2.2.2.2.2.2.2.1
theorem dX8_pour_54 : decode cX8_pour 54 = .ok (.iload 4, 2) := edX8_pour_38.2.2.2.2.2.2.2.2.2.2.1
theorem dX8_pour_56 : decode cX8_pour 56 = .ok (.ldc 82, 2) := edX8_pour_38.2.2.2.2.2.2.2.2.2.2.2.1
theorem dX8_pour_58 : decode cX8_pour 58 = .ok (.if_icmp .ne 15, 3) := edX8_pour_38.2.2.2.2.2.2.2.2.2.2.2.2.1
theorem dX8_pour_61 : decode cX8_pour 61 = .ok (.aload_n 0, 1) := edX8_pour_38.2.2.2.2.2.2.2.2.2.2.2.2.2.1
theorem dX8_pour_62 : decode cX8_pour 62 = .ok (.getfield 9, 3) := edX8_pour_38.2.2.2.2.2.2.2.2.2.2.2.2.2.2.1
theorem dX8_pour_65 : decode cX8_pour 65 = .ok (.bipush 8, 2) := edX8_pour_38.2.2.2.2.2.2.2.2.2.2.2.2.2.2.2.1
theorem dX8_pour_67 : decode cX8_pour 67 = .ok (.iload_n 3, 1) := edX8_pour_38.2.2.2.2.2.2.2.2.2.2.2.2.2.2.2.2.1
theorem dX8_pour_68 : decode cX8_pour 68 = .ok (.iadd, 1) := edX8_pour_38.2.2.2.2.2.2.2.2.2.2.2.2.2.2.2.2.2.1
theorem dX8_pour_69 : decode cX8_pour 69 = .ok (.iaload, 1) := edX8_pour_38.2.2.2.2.2.2.2.2.2.2.2.2.2.2.2.2.2.2.1
theorem dX8_pour_70 : decode cX8_pour 70 = .ok (.goto 11, 3) := edX8_pour_38.2.2.2.2.2.2.2.2.2.2.2.2.2.2.2.2.2.2.2.1
theorem dX8_pour_73 : decode cX8_pour 73 = .ok (.iload 4, 2) := edX8_pour_38.2.2.2.2.2.2.2.2.2.2.2.2.2.2.2.2.2.2.2.2.1
theorem dX8_pour_75 : decode cX8_pour 75 = .ok (.iconst 0, 1) := edX8_pour_38.2.2.2.2.2.2.2.2.2.2.2.2.2.2.2.2.2.2.2.2.2.1
theorem dX8_pour_76 : decode cX8_pour 76 = .ok (.bipush 9, 2) := edX8_pour_38.2.2.2.2.2.2.2.2.2.2.2.2.2.2.2.2.2.2.2.2.2.2.1
theorem dX8_pour_78 : decode cX8_pour 78 = .ok (.invokestatic 108, 3) := edX8_pour_38.2.2.2.2.2.2.2.2.2.2.2.2.2.2.2.2.2.2.2.2.2.2.2
theorem edX8_pour_81 : (decode cX8_pour 81 = .ok (.istore 5, 2)) ∧ (decode cX8_pour 83 = .ok (.iload_n 2, 1)) ∧ (decode cX8_pour 84 = .ok (.aload_n 0, 1)) ∧ (decode cX8_pour 85 = .ok (.bipush 8, 2)) ∧ (decode cX8_pour 87 = .ok (.iload_n 3, 1)) ∧ (decode cX8_pour 88 = .ok (.iadd, 1)) ∧ (decode cX8_pour 89 = .ok (.iload 5, 2)) ∧ (decode cX8_pour 91 = .ok (.invokevirtual 135, 3)) ∧ (decode cX8_pour 94 = .ok (.iload 5, 2)) ∧ (decode cX8_pour 96 = .ok (.if_icmp .ne 7, 3)) ∧ (decode cX8_pour 99 = .ok (.iconst 0, 1)) ∧ (decode cX8_pour 100 = .ok (.goto 4, 3)) ∧ (decode cX8_pour 103 = .ok (.iconst 1, 1)) ∧ (decode cX8_pour 104 = .ok (.iadd, 1)) ∧ (decode cX8_pour 105 = .ok (.istore_n 2, 1)) ∧ (decode cX8_pour 106 = .ok (.iinc 3 1, 3)) ∧ (decode cX8_pour 109 = .ok (.goto (-83), 3)) ∧ (decode cX8_pour 112 = .ok (.iload_n 2, 1)) ∧ (decode cX8_pour 113 = .ok (.ireturn, 1)) := by decide +kernel
theorem dX8_pour_81 : decode cX8_pour 81 = .ok (.istore 5, 2) := edX8_pour_81.1
theorem dX8_pour_83 : decode cX8_pour 83 = .ok (.iload_n 2, 1) := edX8_pour_81.2.1
theorem dX8_pour_84 : decode cX8_pour 84 = .ok (.aload_n 0, 1) := edX8_pour_81.2.2.1
theorem dX8_pour_85 : decode cX8_pour 85 = .ok (.bipush 8, 2) := edX8_pour_81.2.2.2.1
theorem dX8_pour_87 : decode cX8_pour 87 = .ok (.iload_n 3, 1) := edX8_pour_81.2.2.2.2.1
theorem dX8_pour_88 : decode cX8_pour 88 = .ok (.iadd, 1) := edX8_pour_81.2.2.2.2.2.1
theorem dX8_pour_89 : decode cX8_pour 89 = .ok (.iload 5, 2) := edX8_pour_81.2.2.2.2.2.2.1
theorem dX8_pour_91 : decode cX8_pour 91 = .ok (.invokevirtual 135, 3) := edX8_pour_81.2.2.2.2.2.2.2.1
theorem dX8_pour_94 : decode cX8_pour 94 = .ok (.iload 5, 2) := edX8_pour_81.2.2.2.2.2.2.2.2.1
theorem dX8_pour_96 : decode cX8_pour 96 = .ok (.if_icmp .ne 7, 3) := edX8_pour_81.2.2.2.2.2.2.2.2.2.1
theorem dX8_pour_99 : decode cX8_pour 99 = .ok (.iconst 0, 1) := edX8_pour_81.2.2.2.2.2.2.2.2.2.2.1
theorem dX8_pour_100 : decode cX8_pour 100 = .ok (.goto 4, 3) := edX8_pour_81.2.2.2.2.2.2.2.2.2.2.2.1
theorem dX8_pour_103 : decode cX8_pour 103 = .ok (.iconst 1, 1) := edX8_pour_81.2.2.2.2.2.2.2.2.2.2.2.2.1
theorem dX8_pour_104 : decode cX8_pour 104 = .ok (.iadd, 1) := edX8_pour_81.2.2.2.2.2.2.2.2.2.2.2.2.2.1
theorem dX8_pour_105 : decode cX8_pour 105 = .ok (.istore_n 2, 1) := edX8_pour_81.2.2.2.2.2.2.2.2.2.2.2.2.2.2.1
theorem dX8_pour_106 : decode cX8_pour 106 = .ok (.iinc 3 1, 3) := edX8_pour_81.2.2.2.2.2.2.2.2.2.2.2.2.2.2.2.1
theorem dX8_pour_109 : decode cX8_pour 109 = .ok (.goto (-83), 3) := edX8_pour_81.2.2.2.2.2.2.2.2.2.2.2.2.2.2.2.2.1
theorem dX8_pour_112 : decode cX8_pour 112 = .ok (.iload_n 2, 1) := edX8_pour_81.2.2.2.2.2.2.2.2.2.2.2.2.2.2.2.2.2.1
theorem dX8_pour_113 : decode cX8_pour 113 = .ok (.ireturn, 1) := edX8_pour_81.2.2.2.2.2.2.2.2.2.2.2.2.2.2.2.2.2.2
theorem edX8_reads_0 : (decode cX8_reads 0 = .ok (.iload_n 1, 1)) ∧ (decode cX8_reads 1 = .ok (.invokestatic 184, 3)) ∧ (decode cX8_reads 4 = .ok (.ifCond .ne 6, 3)) ∧ (decode cX8_reads 7 = .ok (.ldc 91, 2)) ∧ (decode cX8_reads 9 = .ok (.ireturn, 1)) ∧ (decode cX8_reads 10 = .ok (.aload_n 0, 1)) ∧ (decode cX8_reads 11 = .ok (.getfield 55, 3)) ∧ (decode cX8_reads 14 = .ok (.iload_n 1, 1)) ∧ (decode cX8_reads 15 = .ok (.iaload, 1)) ∧ (decode cX8_reads 16 = .ok (.ifCond .ge 6, 3)) ∧ (decode cX8_reads 19 = .ok (.ldc 187, 2)) ∧ (decode cX8_reads 21 = .ok (.ireturn, 1)) ∧ (decode cX8_reads 22 = .ok (.aload_n 0, 1)) ∧ (decode cX8_reads 23 = .ok (.invokevirtual 169, 3)) ∧ (decode cX8_reads 26 = .ok (.iconst 0, 1)) ∧ (decode cX8_reads 27 = .ok (.istore_n 2, 1)) ∧ (decode cX8_reads 28 = .ok (.iload_n 2, 1)) ∧ (decode cX8_reads 29 = .ok (.aload_n 0, 1)) ∧ (decode cX8_reads 30 = .ok (.getfield 58, 3)) ∧ (decode cX8_reads 33 = .ok (.iload_n 1, 1)) ∧ (decode cX8_reads 34 = .ok (.iaload, 1)) ∧ (decode cX8_reads 35 = .ok (.if_icmp .ge 47, 3)) ∧ (decode cX8_reads 38 = .ok (.aload_n 0, 1)) ∧ (decode cX8_reads 39 = .ok (.getfield 61, 3)) := by decide +kernel
theorem dX8_reads_0 : decode cX8_reads 0 = .ok (.iload_n 1, 1) := edX8_reads_0.1
theorem dX8_reads_1 : decode cX8_reads 1 = .ok (.invokestatic 184, 3) := edX8_reads_0.2.1
theorem dX8_reads_4 : decode cX8_reads 4 = .ok (.ifCond .ne 6, 3) := edX8_reads_0.2.2.1
theorem dX8_reads_7 : decode cX8_reads 7 = .ok (.ldc 91, 2) := edX8_reads_0.2.2.2.1
theorem dX8_reads_9 : decode cX8_reads 9 = .ok (.ireturn, 1) := edX8_reads_0.2.2.2.2.1
theorem dX8_reads_10 : decode cX8_reads 10 = .ok (.aload_n 0, 1) := edX8_reads_0.2.2.2.2.2.1
theorem dX8_reads_11 : decode cX8_reads 11 = .ok (.getfield 55, 3) := edX8_reads_0.2.2.2.2.2.2.1
theorem dX8_reads_14 : decode cX8_reads 14 = .ok (.iload_n 1, 1) := edX8_reads_0.2.2.2.2.2.2.2.1
theorem dX8_reads_15 : decode cX8_reads 15 = .ok (.iaload, 1) := edX8_reads_0.2.2.2.2.2.2.2.2.1
theorem dX8_reads_16 : decode cX8_reads 16 = .ok (.ifCond .ge 6, 3) := edX8_reads_0.2.2.2.2.2.2.2.2.2.1
theorem dX8_reads_19 : decode cX8_reads 19 = .ok (.ldc 187, 2) := edX8_reads_0.2.2.2.2.2.2.2.2.2.2.1
theorem dX8_reads_21 : decode cX8_reads 21 = .ok (.ireturn, 1) := edX8_reads_0.2.2.2.2.2.2.2.2.2.2.2.1
theorem dX8_reads_22 : decode cX8_reads 22 = .ok (.aload_n 0, 1) := edX8_reads_0.2.2.2.2.2.2.2.2.2.2.2.2.1
theorem dX8_reads_23 : decode cX8_reads 23 = .ok (.invokevirtual 169, 3) := edX8_reads_0.2.2.2.2.2.2.2.2.2.2.2.2.2.1
theorem dX8_reads_26 : decode cX8_reads 26 = .ok (.iconst 0, 1) := edX8_reads_0.2.2.2.2.2.2.2.2.2.2.2.2.2.2.1
theorem dX8_reads_27 : decode cX8_reads 27 = .ok (.istore_n 2, 1) := edX8_reads_0.2.2.2.2.2.2.2.2.2.2.2.2.2.2.2.1
theorem dX8_reads_28 : decode cX8_reads 28 = .ok (.iload_n 2, 1) := edX8_reads_0.2.2.2.2.2.2.2.2.2.2.2.2.2.2.2.2.1
theorem dX8_reads_29 : decode cX8_reads 29 = .ok (.aload_n 0, 1) := edX8_reads_0.2.2.2.2.2.2.2.2.2.2.2.2.2.2.2.2.2.1
theorem dX8_reads_30 : decode cX8_reads 30 = .ok (.getfield 58, 3) := edX8_reads_0.2.2.2.2.2.2.2.2.2.2.2.2.2.2.2.2.2.2.1
theorem dX8_reads_33 : decode cX8_reads 33 = .ok (.iload_n 1, 1) := edX8_reads_0.2.2.2.2.2.2.2.2.2.2.2.2.2.2.2.2.2.2.2.1
theorem dX8_reads_34 : decode cX8_reads 34 = .ok (.iaload, 1) := edX8_reads_0.2.2.2.2.2.2.2.2.2.2.2.2.2.2.2.2.2.2.2.2.1
theorem dX8_reads_35 : decode cX8_reads 35 = .ok (.if_icmp .ge 47, 3) := edX8_reads_0.2.2.2.2.2.2.2.2.2.2.2.2.2.2.2.2.2.2.2.2.2.1
theorem dX8_reads_38 : decode cX8_reads 38 = .ok (.aload_n 0, 1) := edX8_reads_0.2.2.2.2.2.2.2.2.2.2.2.2.2.2.2.2.2.2.2.2.2.2.1
theorem dX8_reads_39 : decode cX8_reads 39 = .ok (.getfield 61, 3) := edX8_reads_0.2.2.2.2.2.2.2.2.2.2.2.2.2.2.2.2.2.2.2.2.2.2.2
theorem edX8_reads_42 : (decode cX8_reads 42 = .ok (.bipush 24, 2)) ∧ (decode cX8_reads 44 = .ok (.iload_n 1, 1)) ∧ (decode cX8_reads 45 = .ok (.imul, 1)) ∧ (decode cX8_reads 46 = .ok (.iload_n 2, 1)) ∧ (decode cX8_reads 47 = .ok (.iadd, 1)) ∧ (decode cX8_reads 48 = .ok (.iaload, 1)) ∧ (decode cX8_reads 49 = .ok (.ldc 82, 2)) ∧ (decode cX8_reads 51 = .ok (.if_icmp .eq 21, 3)) ∧ (decode cX8_reads 54 = .ok (.aload_n 0, 1)) ∧ (decode cX8_reads 55 = .ok (.getfield 61, 3)) ∧ (decode cX8_reads 58 = .ok (.bipush 24, 2)) ∧ (decode cX8_reads 60 = .ok (.iload_n 1, 1)) ∧ (decode cX8_reads 61 = .ok (.imul, 1)) ∧ (decode cX8_reads 62 = .ok (.iload_n 2, 1)) ∧ (decode cX8_reads 63 = .ok (.iadd, 1)) ∧ (decode cX8_reads 64 = .ok (.iaload, 1)) ∧ (decode cX8_reads 65 = .ok (.aload_n 0, 1)) ∧ (decode cX8_reads 66 = .ok (.invokevirtual 166, 3)) ∧ (decode cX8_reads 69 = .ok (.if_icmp .ne 13, 3)) ∧ (decode cX8_reads 72 = .ok (.aload_n 0, 1)) ∧ (decode cX8_reads 73 = .ok (.invokevirtual 157, 3)) ∧ (decode cX8_reads 76 = .ok (.iinc 2 1, 3)) ∧ (decode cX8_reads 79 = .ok (.goto (-51), 3)) ∧ (decode cX8_reads 82 = .ok (.aload_n 0, 1)) := by decide +kernel
theorem dX8_reads_42 : decode cX8_reads 42 = .ok (.bipush 24, 2) := edX8_reads_42.1
theorem dX8_reads_44 : decode cX8_reads 44 = .ok (.iload_n 1, 1) := edX8_reads_42.2.1
theorem dX8_reads_45 : decode cX8_reads 45 = .ok (.imul, 1) := edX8_reads_42.2.2.1
theorem dX8_reads_46 : decode cX8_reads 46 = .ok (.iload_n 2, 1) := edX8_reads_42.2.2.2.1
theorem dX8_reads_47 : decode cX8_reads 47 = .ok (.iadd, 1) := edX8_reads_42.2.2.2.2.1
theorem dX8_reads_48 : decode cX8_reads 48 = .ok (.iaload, 1) := edX8_reads_42.2.2.2.2.2.1
theorem dX8_reads_49 : decode cX8_reads 49 = .ok (.ldc 82, 2) := edX8_reads_42.2.2.2.2.2.2.1
theorem dX8_reads_51 : decode cX8_reads 51 = .ok (.if_icmp .eq 21, 3) := edX8_reads_42.2.2.2.2.2.2.2.1
theorem dX8_reads_54 : decode cX8_reads 54 = .ok (.aload_n 0, 1) := edX8_reads_42.2.2.2.2.2.2.2.2.1
theorem dX8_reads_55 : decode cX8_reads 55 = .ok (.getfield 61, 3) := edX8_reads_42.2.2.2.2.2.2.2.2.2.1
theorem dX8_reads_58 : decode cX8_reads 58 = .ok (.bipush 24, 2) := edX8_reads_42.2.2.2.2.2.2.2.2.2.2.1
theorem dX8_reads_60 : decode cX8_reads 60 = .ok (.iload_n 1, 1) := edX8_reads_42.2.2.2.2.2.2.2.2.2.2.2.1
theorem dX8_reads_61 : decode cX8_reads 61 = .ok (.imul, 1) := edX8_reads_42.2.2.2.2.2.2.2.2.2.2.2.2.1
theorem dX8_reads_62 : decode cX8_reads 62 = .ok (.iload_n 2, 1) := edX8_reads_42.2.2.2.2.2.2.2.2.2.2.2.2.2.1
theorem dX8_reads_63 : decode cX8_reads 63 = .ok (.iadd, 1) := edX8_reads_42.2.2.2.2.2.2.2.2.2.2.2.2.2.2.1
theorem dX8_reads_64 : decode cX8_reads 64 = .ok (.iaload, 1) := edX8_reads_42.2.2.2.2.2.2.2.2.2.2.2.2.2.2.2.1
theorem dX8_reads_65 : decode cX8_reads 65 = .ok (.aload_n 0, 1) := edX8_reads_42.2.2.2.2.2.2.2.2.2.2.2.2.2.2.2.2.1
theorem dX8_reads_66 : decode cX8_reads 66 = .ok (.invokevirtual 166, 3) := edX8_reads_42.2.2.2.2.2.2.2.2.2.2.2.2.2.2.2.2.2.1
theorem dX8_reads_69 : decode cX8_reads 69 = .ok (.if_icmp .ne 13, 3) := edX8_reads_42.2.2.2.2.2.2.2.2.2.2.2.2.2.2.2.2.2.2.1
theorem dX8_reads_72 : decode cX8_reads 72 = .ok (.aload_n 0, 1) := edX8_reads_42.2.2.2.2.2.2.2.2.2.2.2.2.2.2.2.2.2.2.2.1
theorem dX8_reads_73 : decode cX8_reads 73 = .ok (.invokevirtual 157, 3) := edX8_reads_42.2.2.2.2.2.2.2.2.2.2.2.2.2.2.2.2.2.2.2.2.1
theorem dX8_reads_76 : decode cX8_reads 76 = .ok (.iinc 2 1, 3) := edX8_reads_42.2.2.2.2.2.2.2.2.2.2.2.2.2.2.2.2.2.2.2.2.2.1
theorem dX8_reads_79 : decode cX8_reads 79 = .ok (.goto (-51), 3) := edX8_reads_42.2.2.2.2.2.2.2.2.2.2.2.2.2.2.2.2.2.2.2.2.2.2.1
theorem dX8_reads_82 : decode cX8_reads 82 = .ok (.aload_n 0, 1) := edX8_reads_42.2.2.2.2.2.2.2.2.2.2.2.2.2.2.2.2.2.2.2.2.2.2.2
theorem edX8_reads_83 : (decode cX8_reads 83 = .ok (.invokevirtual 175, 3)) ∧ (decode cX8_reads 86 = .ok (.iload_n 2, 1)) ∧ (decode cX8_reads 87 = .ok (.aload_n 0, 1)) ∧ (decode cX8_reads 88 = .ok (.getfield 58, 3)) ∧ (decode cX8_reads 91 = .ok (.iload_n 1, 1)) ∧ (decode cX8_reads 92 = .ok (.iaload, 1)) ∧ (decode cX8_reads 93 = .ok (.if_icmp .ge 7, 3)) ∧ (decode cX8_reads 96 = .ok (.iload_n 2, 1)) ∧ (decode cX8_reads 97 = .ok (.goto 5, 3)) ∧ (decode cX8_reads 100 = .ok (.ldc 82, 2)) ∧ (decode cX8_reads 102 = .ok (.ireturn, 1)) := by decide +kernel
theorem dX8_reads_83 : decode cX8_reads 83 = .ok (.invokevirtual 175, 3) := edX8_reads_83.1
theorem dX8_reads_86 : decode cX8_reads 86 = .ok (.iload_n 2, 1) := edX8_reads_83.2.1
theorem dX8_reads_87 : decode cX8_reads 87 = .ok (.aload_n 0, 1) := edX8_reads_83.2.2.1
theorem dX8_reads_88 : decode cX8_reads 88 = .ok (.getfield 58, 3) := edX8_reads_83.2.2.2.1
theorem dX8_reads_91 : decode cX8_reads 91 = .ok (.iload_n 1, 1) := edX8_reads_83.2.2.2.2.1
theorem dX8_reads_92 : decode cX8_reads 92 = .ok (.iaload, 1) := edX8_reads_83.2.2.2.2.2.1
theorem dX8_reads_93 : decode cX8_reads 93 = .ok (.if_icmp .ge 7, 3) := edX8_reads_83.2.2.2.2.2.2.1
theorem dX8_reads_96 : decode cX8_reads 96 = .ok (.iload_n 2, 1) := edX8_reads_83.2.2.2.2.2.2.2.1
theorem dX8_reads_97 : decode cX8_reads 97 = .ok (.goto 5, 3) := edX8_reads_83.2.2.2.2.2.2.2.2.1
theorem dX8_reads_100 : decode cX8_reads 100 = .ok (.ldc 82, 2) := edX8_reads_83.2.2.2.2.2.2.2.2.2.1
theorem dX8_reads_102 : decode cX8_reads 102 = .ok (.ireturn, 1) := edX8_reads_83.2.2.2.2.2.2.2.2.2.2
theorem edX8_copy_0 : (decode cX8_copy 0 = .ok (.iload_n 1, 1)) ∧ (decode cX8_copy 1 = .ok (.invokestatic 184, 3)) ∧ (decode cX8_copy 4 = .ok (.ifCond .eq 10, 3)) ∧ (decode cX8_copy 7 = .ok (.iload_n 3, 1)) ∧ (decode cX8_copy 8 = .ok (.invokestatic 184, 3)) ∧ (decode cX8_copy 11 = .ok (.ifCond .ne 6, 3)) ∧ (decode cX8_copy 14 = .ok (.ldc 91, 2)) ∧ (decode cX8_copy 16 = .ok (.ireturn, 1)) ∧ (decode cX8_copy 17 = .ok (.aload_n 0, 1)) ∧ (decode cX8_copy 18 = .ok (.getfield 55, 3)) ∧ (decode cX8_copy 21 = .ok (.iload_n 1, 1)) ∧ (decode cX8_copy 22 = .ok (.iaload, 1)) ∧ (decode cX8_copy 23 = .ok (.ifCond .lt 12, 3)) ∧ (decode cX8_copy 26 = .ok (.aload_n 0, 1)) ∧ (decode cX8_copy 27 = .ok (.getfield 55, 3)) ∧ (decode cX8_copy 30 = .ok (.iload_n 3, 1)) ∧ (decode cX8_copy 31 = .ok (.iaload, 1)) ∧ (decode cX8_copy 32 = .ok (.ifCond .ge 6, 3)) ∧ (decode cX8_copy 35 = .ok (.ldc 187, 2)) ∧ (decode cX8_copy 37 = .ok (.ireturn, 1)) ∧ (decode cX8_copy 38 = .ok (.aload_n 0, 1)) ∧ (decode cX8_copy 39 = .ok (.getfield 55, 3)) ∧ (decode cX8_copy 42 = .ok (.iload_n 1, 1)) ∧ (decode cX8_copy 43 = .ok (.iaload, 1)) := by decide +kernel
theorem dX8_copy_0 : decode cX8_copy 0 = .ok (.iload_n 1, 1) := edX8_copy_0.1
theorem dX8_copy_1 : decode cX8_copy 1 = .ok (.invokestatic 184, 3) := edX8_copy_0.2.1
theorem dX8_copy_4 : decode cX8_copy 4 = .ok (.ifCond .eq 10, 3) := edX8_copy_0.2.2.1
theorem dX8_copy_7 : decode cX8_copy 7 = .ok (.iload_n 3, 1) := edX8_copy_0.2.2.2.1
theorem dX8_copy_8 : decode cX8_copy 8 = .ok (.invokestatic 184, 3) := edX8_copy_0.2.2.2.2.1
theorem dX8_copy_11 : decode cX8_copy 11 = .ok (.ifCond .ne 6, 3) := edX8_copy_0.2.2.2.2.2.1
theorem dX8_copy_14 : decode cX8_copy 14 = .ok (.ldc 91, 2) := edX8_copy_0.2.2.2.2.2.2.1
theorem dX8_copy_16 : decode cX8_copy 16 = .ok (.ireturn, 1) := edX8_copy_0.2.2.2.2.2.2.2.1
theorem dX8_copy_17 : decode cX8_copy 17 = .ok (.aload_n 0, 1) := edX8_copy_0.2.2.2.2.2.2.2.2.1
theorem dX8_copy_18 : decode cX8_copy 18 = .ok (.getfield 55, 3) := edX8_copy_0.2.2.2.2.2.2.2.2.2.1
theorem dX8_copy_21 : decode cX8_copy 21 = .ok (.iload_n 1, 1) := edX8_copy_0.2.2.2.2.2.2.2.2.2.2.1
theorem dX8_copy_22 : decode cX8_copy 22 = .ok (.iaload, 1) := edX8_copy_0.2.2.2.2.2.2.2.2.2.2.2.1
theorem dX8_copy_23 : decode cX8_copy 23 = .ok (.ifCond .lt 12, 3) := edX8_copy_0.2.2.2.2.2.2.2.2.2.2.2.2.1
theorem dX8_copy_26 : decode cX8_copy 26 = .ok (.aload_n 0, 1) := edX8_copy_0.2.2.2.2.2.2.2.2.2.2.2.2.2.1
theorem dX8_copy_27 : decode cX8_copy 27 = .ok (.getfield 55, 3) := edX8_copy_0.2.2.2.2.2.2.2.2.2.2.2.2.2.2.1
theorem dX8_copy_30 : decode cX8_copy 30 = .ok (.iload_n 3, 1) := edX8_copy_0.2.2.2.2.2.2.2.2.2.2.2.2.2.2.2.1
theorem dX8_copy_31 : decode cX8_copy 31 = .ok (.iaload, 1) := edX8_copy_0.2.2.2.2.2.2.2.2.2.2.2.2.2.2.2.2.1
theorem dX8_copy_32 : decode cX8_copy 32 = .ok (.ifCond .ge 6, 3) := edX8_copy_0.2.2.2.2.2.2.2.2.2.2.2.2.2.2.2.2.2.1
theorem dX8_copy_35 : decode cX8_copy 35 = .ok (.ldc 187, 2) := edX8_copy_0.2.2.2.2.2.2.2.2.2.2.2.2.2.2.2.2.2.2.1
theorem dX8_copy_37 : decode cX8_copy 37 = .ok (.ireturn, 1) := edX8_copy_0.2.2.2.2.2.2.2.2.2.2.2.2.2.2.2.2.2.2.2.1
theorem dX8_copy_38 : decode cX8_copy 38 = .ok (.aload_n 0, 1) := edX8_copy_0.2.2.2.2.2.2.2.2.2.2.2.2.2.2.2.2.2.2.2.2.1
theorem dX8_copy_39 : decode cX8_copy 39 = .ok (.getfield 55, 3) := edX8_copy_0.2.2.2.2.2.2.2.2.2.2.2.2.2.2.2.2.2.2.2.2.2.1
theorem dX8_copy_42 : decode cX8_copy 42 = .ok (.iload_n 1, 1) := edX8_copy_0.2.2.2.2.2.2.2.2.2.2.2.2.2.2.2.2.2.2.2.2.2.2.1
theorem dX8_copy_43 : decode cX8_copy 43 = .ok (.iaload, 1) := edX8_copy_0.2.2.2.2.2.2.2.2.2.2.2.2.2.2.2.2.2.2.2.2.2.2.2
theorem edX8_copy_44 : (decode cX8_copy 44 = .ok (.aload_n 0, 1)) ∧ (decode cX8_copy 45 = .ok (.getfield 55, 3)) ∧ (decode cX8_copy 48 = .ok (.iload_n 3, 1)) ∧ (decode cX8_copy 49 = .ok (.iaload, 1)) ∧ (decode cX8_copy 50 = .ok (.if_icmp .eq 6, 3)) ∧ (decode cX8_copy 53 = .ok (.ldc 134, 2)) ∧ (decode cX8_copy 55 = .ok (.ireturn, 1)) ∧ (decode cX8_copy 56 = .ok (.iload_n 2, 1)) ∧ (decode cX8_copy 57 = .ok (.ifCond .lt 40, 3)) ∧ (decode cX8_copy 60 = .ok (.iload 4, 2)) ∧ (decode cX8_copy 62 = .ok (.ifCond .lt 35, 3)) ∧ (decode cX8_copy 65 = .ok (.iload 5, 2)) ∧ (decode cX8_copy 67 = .ok (.ifCond .lt 30, 3)) ∧ (decode cX8_copy 70 = .ok (.iload_n 2, 1)) ∧ (decode cX8_copy 71 = .ok (.aload_n 0, 1)) ∧ (decode cX8_copy 72 = .ok (.getfield 58, 3)) ∧ (decode cX8_copy 75 = .ok (.iload_n 1, 1)) ∧ (decode cX8_copy 76 = .ok (.iaload, 1)) ∧ (decode cX8_copy 77 = .ok (.iload 5, 2)) ∧ (decode cX8_copy 79 = .ok (.isub, 1)) ∧ (decode cX8_copy 80 = .ok (.if_icmp .gt 17, 3)) ∧ (decode cX8_copy 83 = .ok (.iload 4, 2)) ∧ (decode cX8_copy 85 = .ok (.aload_n 0, 1)) ∧ (decode cX8_copy 86 = .ok (.getfield 58, 3)) := by decide +kernel
theorem dX8_copy_44 : decode cX8_copy 44 = .ok (.aload_n 0, 1) := edX8_copy_44.1
theorem dX8_copy_45 : decode cX8_copy 45 = .ok (.getfield 55, 3) := edX8_copy_44.2.1
theorem dX8_copy_48 : decode cX8_copy 48 = .ok (.iload_n 3, 1) := edX8_copy_44.2.2.1
theorem dX8_copy_49 : decode cX8_copy 49 = .ok (.iaload, 1) := edX8_copy_44.2.2.2.1
theorem dX8_copy_50 : decode cX8_copy 50 = .ok (.if_icmp .eq 6, 3) := edX8_copy_44.2.2.2.2.1
theorem dX8_copy_53 : decode cX8_copy 53 = .ok (.ldc 134, 2) := edX8_copy_44.2.2.2.2.2.1
theorem dX8_copy_55 : decode cX8_copy 55 = .ok (.ireturn, 1) := edX8_copy_44.2.2.2.2.2.2.1
theorem dX8_copy_56 : decode cX8_copy 56 = .ok (.iload_n 2, 1) := edX8_copy_44.2.2.2.2.2.2.2.1
theorem dX8_copy_57 : decode cX8_copy 57 = .ok (.ifCond .lt 40, 3) := edX8_copy_44.2.2.2.2.2.2.2.2.1
theorem dX8_copy_60 : decode cX8_copy 60 = .ok (.iload 4, 2) := edX8_copy_44.2.2.2.2.2.2.2.2.2.1
theorem dX8_copy_62 : decode cX8_copy 62 = .ok (.ifCond .lt 35, 3) := edX8_copy_44.2.2.2.2.2.2.2.2.2.2.1
theorem dX8_copy_65 : decode cX8_copy 65 = .ok (.iload 5, 2) := edX8_copy_44.2.2.2.2.2.2.2.2.2.2.2.1
theorem dX8_copy_67 : decode cX8_copy 67 = .ok (.ifCond .lt 30, 3) := edX8_copy_44.2.2.2.2.2.2.2.2.2.2.2.2.1
theorem dX8_copy_70 : decode cX8_copy 70 = .ok (.iload_n 2, 1) := edX8_copy_44.2.2.2.2.2.2.2.2.2.2.2.2.2.1
theorem dX8_copy_71 : decode cX8_copy 71 = .ok (.aload_n 0, 1) := edX8_copy_44.2.2.2.2.2.2.2.2.2.2.2.2.2.2.1
theorem dX8_copy_72 : decode cX8_copy 72 = .ok (.getfield 58, 3) := edX8_copy_44.2.2.2.2.2.2.2.2.2.2.2.2.2.2.2.1
theorem dX8_copy_75 : decode cX8_copy 75 = .ok (.iload_n 1, 1) := edX8_copy_44.2.2.2.2.2.2.2.2.2.2.2.2.2.2.2.2.1
theorem dX8_copy_76 : decode cX8_copy 76 = .ok (.iaload, 1) := edX8_copy_44.2.2.2.2.2.2.2.2.2.2.2.2.2.2.2.2.2.1
theorem dX8_copy_77 : decode cX8_copy 77 = .ok (.iload 5, 2) := edX8_copy_44.2.2.2.2.2.2.2.2.2.2.2.2.2.2.2.2.2.2.1
theorem dX8_copy_79 : decode cX8_copy 79 = .ok (.isub, 1) := edX8_copy_44.2.2.2.2.2.2.2.2.2.2.2.2.2.2.2.2.2.2.2.1
theorem dX8_copy_80 : decode cX8_copy 80 = .ok (.if_icmp .gt 17, 3) := edX8_copy_44.2.2.2.2.2.2.2.2.2.2.2.2.2.2.2.2.2.2.2.2.1
theorem dX8_copy_83 : decode cX8_copy 83 = .ok (.iload 4, 2) := edX8_copy_44.2.2.2.2.2.2.2.2.2.2.2.2.2.2.2.2.2.2.2.2.2.1
theorem dX8_copy_85 : decode cX8_copy 85 = .ok (.aload_n 0, 1) := edX8_copy_44.2.2.2.2.2.2.2.2.2.2.2.2.2.2.2.2.2.2.2.2.2.2.1
theorem dX8_copy_86 : decode cX8_copy 86 = .ok (.getfield 58, 3) := edX8_copy_44.2.2.2.2.2.2.2.2.2.2.2.2.2.2.2.2.2.2.2.2.2.2.2
theorem edX8_copy_89 : (decode cX8_copy 89 = .ok (.iload_n 3, 1)) ∧ (decode cX8_copy 90 = .ok (.iaload, 1)) ∧ (decode cX8_copy 91 = .ok (.iload 5, 2)) ∧ (decode cX8_copy 93 = .ok (.isub, 1)) ∧ (decode cX8_copy 94 = .ok (.if_icmp .le 7, 3)) ∧ (decode cX8_copy 97 = .ok (.ldc_w 259, 3)) ∧ (decode cX8_copy 100 = .ok (.ireturn, 1)) ∧ (decode cX8_copy 101 = .ok (.iconst 0, 1)) ∧ (decode cX8_copy 102 = .ok (.istore 6, 2)) ∧ (decode cX8_copy 104 = .ok (.iload 6, 2)) ∧ (decode cX8_copy 106 = .ok (.iload 5, 2)) ∧ (decode cX8_copy 108 = .ok (.if_icmp .ge 30, 3)) ∧ (decode cX8_copy 111 = .ok (.aload_n 0, 1)) ∧ (decode cX8_copy 112 = .ok (.getfield 76, 3)) ∧ (decode cX8_copy 115 = .ok (.iload 6, 2)) ∧ (decode cX8_copy 117 = .ok (.aload_n 0, 1)) ∧ (decode cX8_copy 118 = .ok (.getfield 61, 3)) ∧ (decode cX8_copy 121 = .ok (.bipush 24, 2)) ∧ (decode cX8_copy 123 = .ok (.iload_n 1, 1)) ∧ (decode cX8_copy 124 = .ok (.imul, 1)) ∧ (decode cX8_copy 125 = .ok (.iload_n 2, 1)) ∧ (decode cX8_copy 126 = .ok (.iadd, 1)) ∧ (decode cX8_copy 127 = .ok (.iload 6, 2)) ∧ (decode cX8_copy 129 = .ok (.iadd, 1)) := by decide +kernel
theorem dX8_copy_89 : decode cX8_copy 89 = .ok (.iload_n 3, 1) := edX8_copy_89.1
theorem dX8_copy_90 : decode cX8_copy 90 = .ok (.iaload, 1) := edX8_copy_89.2.1
theorem dX8_copy_91 : decode cX8_copy 91 = .ok (.iload 5, 2) := edX8_copy_89.2.2.1
theorem dX8_copy_93 : decode cX8_copy 93 = .ok (.isub, 1) := edX8_copy_89.2.2.2.1
theorem dX8_copy_94 : decode cX8_copy 94 = .ok (.if_icmp .le 7, 3) := edX8_copy_89.2.2.2.2.1
theorem dX8_copy_97 : decode cX8_copy 97 = .ok (.ldc_w 259, 3) := edX8_copy_89.2.2.2.2.2.1
theorem dX8_copy_100 : decode cX8_copy 100 = .ok (.ireturn, 1) := edX8_copy_89.2.2.2.2.2.2.1
theorem dX8_copy_101 : decode cX8_copy 101 = .ok (.iconst 0, 1) := edX8_copy_89.2.2.2.2.2.2.2.1
theorem dX8_copy_102 : decode cX8_copy 102 = .ok (.istore 6, 2) := edX8_copy_89.2.2.2.2.2.2.2.2.1
theorem dX8_copy_104 : decode cX8_copy 104 = .ok (.iload 6, 2) := edX8_copy_89.2.2.2.2.2.2.2.2.2.1
theorem dX8_copy_106 : decode cX8_copy 106 = .ok (.iload 5, 2) := edX8_copy_89.2.2.2.2.2.2.2.2.2.2.1
theorem dX8_copy_108 : decode cX8_copy 108 = .ok (.if_icmp .ge 30, 3) := edX8_copy_89.2.2.2.2.2.2.2.2.2.2.2.1
theorem dX8_copy_111 : decode cX8_copy 111 = .ok (.aload_n 0, 1) := edX8_copy_89.2.2.2.2.2.2.2.2.2.2.2.2.1
theorem dX8_copy_112 : decode cX8_copy 112 = .ok (.getfield 76, 3) := edX8_copy_89.2.2.2.2.2.2.2.2.2.2.2.2.2.1
theorem dX8_copy_115 : decode cX8_copy 115 = .ok (.iload 6, 2) := edX8_copy_89.2.2.2.2.2.2.2.2.2.2.2.2.2.2.1
theorem dX8_copy_117 : decode cX8_copy 117 = .ok (.aload_n 0, 1) := edX8_copy_89.2.2.2.2.2.2.2.2.2.2.2.2.2.2.2.1
theorem dX8_copy_118 : decode cX8_copy 118 = .ok (.getfield 61, 3) := edX8_copy_89.2.2.2.2.2.2.2.2.2.2.2.2.2.2.2.2.1
theorem dX8_copy_121 : decode cX8_copy 121 = .ok (.bipush 24, 2) := edX8_copy_89.2.2.2.2.2.2.2.2.2.2.2.2.2.2.2.2.2.1
theorem dX8_copy_123 : decode cX8_copy 123 = .ok (.iload_n 1, 1) := edX8_copy_89.2.2.2.2.2.2.2.2.2.2.2.2.2.2.2.2.2.2.1
theorem dX8_copy_124 : decode cX8_copy 124 = .ok (.imul, 1) := edX8_copy_89.2.2.2.2.2.2.2.2.2.2.2.2.2.2.2.2.2.2.2.1
theorem dX8_copy_125 : decode cX8_copy 125 = .ok (.iload_n 2, 1) := edX8_copy_89.2.2.2.2.2.2.2.2.2.2.2.2.2.2.2.2.2.2.2.2.1
theorem dX8_copy_126 : decode cX8_copy 126 = .ok (.iadd, 1) := edX8_copy_89.2.2.2.2.2.2.2.2.2.2.2.2.2.2.2.2.2.2.2.2.2.1
theorem dX8_copy_127 : decode cX8_copy 127 = .ok (.iload 6, 2) := edX8_copy_89.2.2.2.2.2.2.2.2.2.2.2.2.2.2.2.2.2.2.2.2.2.2.1
theorem dX8_copy_129 : decode cX8_copy 129 = .ok (.iadd, 1) := edX8_copy_89.2.2.2.2.2.2.2.2.2.2.2.2.2.2.2.2.2.2.2.2.2.2.2
theorem edX8_copy_130 : (decode cX8_copy 130 = .ok (.iaload, 1)) ∧ (decode cX8_copy 131 = .ok (.iastore, 1)) ∧ (decode cX8_copy 132 = .ok (.iinc 6 1, 3)) ∧ (decode cX8_copy 135 = .ok (.goto (-31), 3)) ∧ (decode cX8_copy 138 = .ok (.iconst 0, 1)) ∧ (decode cX8_copy 139 = .ok (.istore 6, 2)) ∧ (decode cX8_copy 141 = .ok (.iload 6, 2)) ∧ (decode cX8_copy 143 = .ok (.iload 5, 2)) ∧ (decode cX8_copy 145 = .ok (.if_icmp .ge 31, 3)) ∧ (decode cX8_copy 148 = .ok (.aload_n 0, 1)) ∧ (decode cX8_copy 149 = .ok (.getfield 61, 3)) ∧ (decode cX8_copy 152 = .ok (.bipush 24, 2)) ∧ (decode cX8_copy 154 = .ok (.iload_n 3, 1)) ∧ (decode cX8_copy 155 = .ok (.imul, 1)) ∧ (decode cX8_copy 156 = .ok (.iload 4, 2)) ∧ (decode cX8_copy 158 = .ok (.iadd, 1)) ∧ (decode cX8_copy 159 = .ok (.iload 6, 2)) ∧ (decode cX8_copy 161 = .ok (.iadd, 1)) ∧ (decode cX8_copy 162 = .ok (.aload_n 0, 1)) ∧ (decode cX8_copy 163 = .ok (.getfield 76, 3)) ∧ (decode cX8_copy 166 = .ok (.iload 6, 2)) ∧ (decode cX8_copy 168 = .ok (.iaload, 1)) ∧ (decode cX8_copy 169 = .ok (.iastore, 1)) ∧ (decode cX8_copy 170 = .ok (.iinc 6 1, 3)) := by decide +kernel
theorem dX8_copy_130 : decode cX8_copy 130 = .ok (.iaload, 1) := edX8_copy_130.1
theorem dX8_copy_131 : decode cX8_copy 131 = .ok (.iastore, 1) := edX8_copy_130.2.1
theorem dX8_copy_132 : decode cX8_copy 132 = .ok (.iinc 6 1, 3) := edX8_copy_130.2.2.1
theorem dX8_copy_135 : decode cX8_copy 135 = .ok (.goto (-31), 3) := edX8_copy_130.2.2.2.1
theorem dX8_copy_138 : decode cX8_copy 138 = .ok (.iconst 0, 1) := edX8_copy_130.2.2.2.2.1
theorem dX8_copy_139 : decode cX8_copy 139 = .ok (.istore 6, 2) := edX8_copy_130.2.2.2.2.2.1
theorem dX8_copy_141 : decode cX8_copy 141 = .ok (.iload 6, 2) := edX8_copy_130.2.2.2.2.2.2.1
theorem dX8_copy_143 : decode cX8_copy 143 = .ok (.iload 5, 2) := edX8_copy_130.2.2.2.2.2.2.2.1
theorem dX8_copy_145 : decode cX8_copy 145 = .ok (.if_icmp .ge 31, 3) := edX8_copy_130.2.2.2.2.2.2.2.2.1
theorem dX8_copy_148 : decode cX8_copy 148 = .ok (.aload_n 0, 1) := edX8_copy_130.2.2.2.2.2.2.2.2.2.1
theorem dX8_copy_149 : decode cX8_copy 149 = .ok (.getfield 61, 3) := edX8_copy_130.2.2.2.2.2.2.2.2.2.2.1
theorem dX8_copy_152 : decode cX8_copy 152 = .ok (.bipush 24, 2) := edX8_copy_130.2.2.2.2.2.2.2.2.2.2.2.1
theorem dX8_copy_154 : decode cX8_copy 154 = .ok (.iload_n 3, 1) := edX8_copy_130.2.2.2.2.2.2.2.2.2.2.2.2.1
theorem dX8_copy_155 : decode cX8_copy 155 = .ok (.imul, 1) := edX8_copy_130.2.2.2.2.2.2.2.2.2.2.2.2.2.1
theorem dX8_copy_156 : decode cX8_copy 156 = .ok (.iload 4, 2) := edX8_copy_130.2.2.2.2.2.2.2.2.2.2.2.2.2.2.1
theorem dX8_copy_158 : decode cX8_copy 158 = .ok (.iadd, 1) := edX8_copy_130.2.2.2.2.2.2.2.2.2.2.2.2.2.2.2.1
theorem dX8_copy_159 : decode cX8_copy 159 = .ok (.iload 6, 2) := edX8_copy_130.2.2.2.2.2.2.2.2.2.2.2.2.2.2.2.2.1
theorem dX8_copy_161 : decode cX8_copy 161 = .ok (.iadd, 1) := edX8_copy_130.2.2.2.2.2.2.2.2.2.2.2.2.2.2.2.2.2.1
theorem dX8_copy_162 : decode cX8_copy 162 = .ok (.aload_n 0, 1) := edX8_copy_130.2.2.2.2.2.2.2.2.2.2.2.2.2.2.2.2.2.2.1
theorem dX8_copy_163 : decode cX8_copy 163 = .ok (.getfield 76, 3) := edX8_copy_130.2.2.2.2.2.2.2.2.2.2.2.2.2.2.2.2.2.2.2.1
theorem dX8_copy_166 : decode cX8_copy 166 = .ok (.iload 6, 2) := edX8_copy_130.2.2.2.2.2.2.2.2.2.2.2.2.2.2.2.2.2.2.2.2.1
theorem dX8_copy_168 : decode cX8_copy 168 = .ok (.iaload, 1) := edX8_copy_130.2.2.2.2.2.2.2.2.2.2.2.2.2.2.2.2.2.2.2.2.2.1
theorem dX8_copy_169 : decode cX8_copy 169 = .ok (.iastore, 1) := edX8_copy_130.2.2.2.2.2.2.2.2.2.2.2.2.2.2.2.2.2.2.2.2.2.2.1
theorem dX8_copy_170 : decode cX8_copy 170 = .ok (.iinc 6 1, 3) := edX8_copy_130.2.2.2.2.2.2.2.2.2.2.2.2.2.2.2.2.2.2.2.2.2.2.2
theorem edX8_copy_173 : (decode cX8_copy 173 = .ok (.goto (-32), 3)) ∧ (decode cX8_copy 176 = .ok (.iload 5, 2)) ∧ (decode cX8_copy 178 = .ok (.ireturn, 1)) := by decide +kernel
theorem dX8_copy_173 : decode cX8_copy 173 = .ok (.goto (-32), 3) := edX8_copy_173.1
theorem dX8_copy_176 : decode cX8_copy 176 = .ok (.iload 5, 2) := edX8_copy_173.2.1
theorem dX8_copy_178 : decode cX8_copy 178 = .ok (.ireturn, 1) := edX8_copy_173.2.2
theorem edX8_lay_0 : (decode cX8_lay 0 = .ok (.iload_n 1, 1)) ∧ (decode cX8_lay 1 = .ok (.invokestatic 262, 3)) ∧ (decode cX8_lay 4 = .ok (.ifCond .eq 37, 3)) ∧ (decode cX8_lay 7 = .ok (.iload_n 2, 1)) ∧ (decode cX8_lay 8 = .ok (.iconst 0, 1)) ∧ (decode cX8_lay 9 = .ok (.iconst 3, 1)) ∧ (decode cX8_lay 10 = .ok (.invokestatic 83, 3)) ∧ (decode cX8_lay 13 = .ok (.ifCond .eq 28, 3)) ∧ (decode cX8_lay 16 = .ok (.iload_n 2, 1)) ∧ (decode cX8_lay 17 = .ok (.iconst 1, 1)) ∧ (decode cX8_lay 18 = .ok (.if_icmp .ne 11, 3)) ∧ (decode cX8_lay 21 = .ok (.aload_n 0, 1)) ∧ (decode cX8_lay 22 = .ok (.iload_n 3, 1)) ∧ (decode cX8_lay 23 = .ok (.invokevirtual 114, 3)) ∧ (decode cX8_lay 26 = .ok (.ifCond .eq 15, 3)) ∧ (decode cX8_lay 29 = .ok (.iload_n 2, 1)) ∧ (decode cX8_lay 30 = .ok (.iconst 2, 1)) ∧ (decode cX8_lay 31 = .ok (.if_icmp .ne 13, 3)) ∧ (decode cX8_lay 34 = .ok (.iload_n 3, 1)) ∧ (decode cX8_lay 35 = .ok (.invokestatic 184, 3)) ∧ (decode cX8_lay 38 = .ok (.ifCond .ne 6, 3)) ∧ (decode cX8_lay 41 = .ok (.ldc 91, 2)) ∧ (decode cX8_lay 43 = .ok (.ireturn, 1)) ∧ (decode cX8_lay 44 = .ok (.iload_n 2, 1)) := by decide +kernel
theorem dX8_lay_0 : decode cX8_lay 0 = .ok (.iload_n 1, 1) := edX8_lay_0.1
theorem dX8_lay_1 : decode cX8_lay 1 = .ok (.invokestatic 262, 3) := edX8_lay_0.2.1
theorem dX8_lay_4 : decode cX8_lay 4 = .ok (.ifCond .eq 37, 3) := edX8_lay_0.2.2.1
theorem dX8_lay_7 : decode cX8_lay 7 = .ok (.iload_n 2, 1) := edX8_lay_0.2.2.2.1
theorem dX8_lay_8 : decode cX8_lay 8 = .ok (.iconst 0, 1) := edX8_lay_0.2.2.2.2.1
theorem dX8_lay_9 : decode cX8_lay 9 = .ok (.iconst 3, 1) := edX8_lay_0.2.2.2.2.2.1
theorem dX8_lay_10 : decode cX8_lay 10 = .ok (.invokestatic 83, 3) := edX8_lay_0.2.2.2.2.2.2.1
theorem dX8_lay_13 : decode cX8_lay 13 = .ok (.ifCond .eq 28, 3) := edX8_lay_0.2.2.2.2.2.2.2.1
theorem dX8_lay_16 : decode cX8_lay 16 = .ok (.iload_n 2, 1) := edX8_lay_0.2.2.2.2.2.2.2.2.1
theorem dX8_lay_17 : decode cX8_lay 17 = .ok (.iconst 1, 1) := edX8_lay_0.2.2.2.2.2.2.2.2.2.1
theorem dX8_lay_18 : decode cX8_lay 18 = .ok (.if_icmp .ne 11, 3) := edX8_lay_0.2.2.2.2.2.2.2.2.2.2.1
theorem dX8_lay_21 : decode cX8_lay 21 = .ok (.aload_n 0, 1) := edX8_lay_0.2.2.2.2.2.2.2.2.2.2.2.1
theorem dX8_lay_22 : decode cX8_lay 22 = .ok (.iload_n 3, 1) := edX8_lay_0.2.2.2.2.2.2.2.2.2.2.2.2.1
theorem dX8_lay_23 : decode cX8_lay 23 = .ok (.invokevirtual 114, 3) := edX8_lay_0.2.2.2.2.2.2.2.2.2.2.2.2.2.1
theorem dX8_lay_26 : decode cX8_lay 26 = .ok (.ifCond .eq 15, 3) := edX8_lay_0.2.2.2.2.2.2.2.2.2.2.2.2.2.2.1
theorem dX8_lay_29 : decode cX8_lay 29 = .ok (.iload_n 2, 1) := edX8_lay_0.2.2.2.2.2.2.2.2.2.2.2.2.2.2.2.1
theorem dX8_lay_30 : decode cX8_lay 30 = .ok (.iconst 2, 1) := edX8_lay_0.2.2.2.2.2.2.2.2.2.2.2.2.2.2.2.2.1
theorem dX8_lay_31 : decode cX8_lay 31 = .ok (.if_icmp .ne 13, 3) := edX8_lay_0.2.2.2.2.2.2.2.2.2.2.2.2.2.2.2.2.2.1
theorem dX8_lay_34 : decode cX8_lay 34 = .ok (.iload_n 3, 1) := edX8_lay_0.2.2.2.2.2.2.2.2.2.2.2.2.2.2.2.2.2.2.1
theorem dX8_lay_35 : decode cX8_lay 35 = .ok (.invokestatic 184, 3) := edX8_lay_0.2.2.2.2.2.2.2.2.2.2.2.2.2.2.2.2.2.2.2.1
theorem dX8_lay_38 : decode cX8_lay 38 = .ok (.ifCond .ne 6, 3) := edX8_lay_0.2.2.2.2.2.2.2.2.2.2.2.2.2.2.2.2.2.2.2.2.1
theorem dX8_lay_41 : decode cX8_lay 41 = .ok (.ldc 91, 2) := edX8_lay_0.2.2.2.2.2.2.2.2.2.2.2.2.2.2.2.2.2.2.2.2.2.1
theorem dX8_lay_43 : decode cX8_lay 43 = .ok (.ireturn, 1) := edX8_lay_0.2.2.2.2.2.2.2.2.2.2.2.2.2.2.2.2.2.2.2.2.2.2.1
theorem dX8_lay_44 : decode cX8_lay 44 = .ok (.iload_n 2, 1) := edX8_lay_0.2.2.2.2.2.2.2.2.2.2.2.2.2.2.2.2.2.2.2.2.2.2.2
theorem edX8_lay_45 : (decode cX8_lay 45 = .ok (.iconst 2, 1)) ∧ (decode cX8_lay 46 = .ok (.if_icmp .ne 15, 3)) ∧ (decode cX8_lay 49 = .ok (.aload_n 0, 1)) ∧ (decode cX8_lay 50 = .ok (.getfield 55, 3)) ∧ (decode cX8_lay 53 = .ok (.iload_n 3, 1)) ∧ (decode cX8_lay 54 = .ok (.iaload, 1)) ∧ (decode cX8_lay 55 = .ok (.ifCond .ge 6, 3)) ∧ (decode cX8_lay 58 = .ok (.ldc 187, 2)) ∧ (decode cX8_lay 60 = .ok (.ireturn, 1)) ∧ (decode cX8_lay 61 = .ok (.aload_n 0, 1)) ∧ (decode cX8_lay 62 = .ok (.getfield 64, 3)) ∧ (decode cX8_lay 65 = .ok (.iload_n 1, 1)) ∧ (decode cX8_lay 66 = .ok (.iaload, 1)) ∧ (decode cX8_lay 67 = .ok (.istore 4, 2)) ∧ (decode cX8_lay 69 = .ok (.aload_n 0, 1)) ∧ (decode cX8_lay 70 = .ok (.getfield 64, 3)) ∧ (decode cX8_lay 73 = .ok (.iload_n 1, 1)) ∧ (decode cX8_lay 74 = .ok (.iload_n 2, 1)) ∧ (decode cX8_lay 75 = .ok (.iastore, 1)) ∧ (decode cX8_lay 76 = .ok (.aload_n 0, 1)) ∧ (decode cX8_lay 77 = .ok (.getfield 67, 3)) ∧ (decode cX8_lay 80 = .ok (.iload_n 1, 1)) ∧ (decode cX8_lay 81 = .ok (.iload_n 2, 1)) ∧ (decode cX8_lay 82 = .ok (.iconst 1, 1)) := by decide +kernel
theorem dX8_lay_45 : decode cX8_lay 45 = .ok (.iconst 2, 1) := edX8_lay_45.1
theorem dX8_lay_46 : decode cX8_lay 46 = .ok (.if_icmp .ne 15, 3) := edX8_lay_45.2.1
theorem dX8_lay_49 : decode cX8_lay 49 = .ok (.aload_n 0, 1) := edX8_lay_45.2.2.1
theorem dX8_lay_50 : decode cX8_lay 50 = .ok (.getfield 55, 3) := edX8_lay_45.2.2.2.1
theorem dX8_lay_53 : decode cX8_lay 53 = .ok (.iload_n 3, 1) := edX8_lay_45.2.2.2.2.1
theorem dX8_lay_54 : decode cX8_lay 54 = .ok (.iaload, 1) := edX8_lay_45.2.2.2.2.2.1
theorem dX8_lay_55 : decode cX8_lay 55 = .ok (.ifCond .ge 6, 3) := edX8_lay_45.2.2.2.2.2.2.1
theorem dX8_lay_58 : decode cX8_lay 58 = .ok (.ldc 187, 2) := edX8_lay_45.2.2.2.2.2.2.2.1
theorem dX8_lay_60 : decode cX8_lay 60 = .ok (.ireturn, 1) := edX8_lay_45.2.2.2.2.2.2.2.2.1
theorem dX8_lay_61 : decode cX8_lay 61 = .ok (.aload_n 0, 1) := edX8_lay_45.2.2.2.2.2.2.2.2.2.1
theorem dX8_lay_62 : decode cX8_lay 62 = .ok (.getfield 64, 3) := edX8_lay_45.2.2.2.2.2.2.2.2.2.2.1
theorem dX8_lay_65 : decode cX8_lay 65 = .ok (.iload_n 1, 1) := edX8_lay_45.2.2.2.2.2.2.2.2.2.2.2.1
theorem dX8_lay_66 : decode cX8_lay 66 = .ok (.iaload, 1) := edX8_lay_45.2.2.2.2.2.2.2.2.2.2.2.2.1
theorem dX8_lay_67 : decode cX8_lay 67 = .ok (.istore 4, 2) := edX8_lay_45.2.2.2.2.2.2.2.2.2.2.2.2.2.1
theorem dX8_lay_69 : decode cX8_lay 69 = .ok (.aload_n 0, 1) := edX8_lay_45.2.2.2.2.2.2.2.2.2.2.2.2.2.2.1
theorem dX8_lay_70 : decode cX8_lay 70 = .ok (.getfield 64, 3) := edX8_lay_45.2.2.2.2.2.2.2.2.2.2.2.2.2.2.2.1
theorem dX8_lay_73 : decode cX8_lay 73 = .ok (.iload_n 1, 1) := edX8_lay_45.2.2.2.2.2.2.2.2.2.2.2.2.2.2.2.2.1
theorem dX8_lay_74 : decode cX8_lay 74 = .ok (.iload_n 2, 1) := edX8_lay_45.2.2.2.2.2.2.2.2.2.2.2.2.2.2.2.2.2.1
theorem dX8_lay_75 : decode cX8_lay 75 = .ok (.iastore, 1) := edX8_lay_45.2.2.2.2.2.2.2.2.2.2.2.2.2.2.2.2.2.2.1
theorem dX8_lay_76 : decode cX8_lay 76 = .ok (.aload_n 0, 1) := edX8_lay_45.2.2.2.2.2.2.2.2.2.2.2.2.2.2.2.2.2.2.2.1
theorem dX8_lay_77 : decode cX8_lay 77 = .ok (.getfield 67, 3) := edX8_lay_45.2.2.2.2.2.2.2.2.2.2.2.2.2.2.2.2.2.2.2.2.1
theorem dX8_lay_80 : decode cX8_lay 80 = .ok (.iload_n 1, 1) := edX8_lay_45.2.2.2.2.2.2.2.2.2.2.2.2.2.2.2.2.2.2.2.2.2.1
theorem dX8_lay_81 : decode cX8_lay 81 = .ok (.iload_n 2, 1) := edX8_lay_45.2.2.2.2.2.2.2.2.2.2.2.2.2.2.2.2.2.2.2.2.2.2.1
theorem dX8_lay_82 : decode cX8_lay 82 = .ok (.iconst 1, 1) := edX8_lay_45.2.2.2.2.2.2.2.2.2.2.2.2.2.2.2.2.2.2.2.2.2.2.2
theorem edX8_lay_83 : (decode cX8_lay 83 = .ok (.if_icmp .ne 12, 3)) ∧ (decode cX8_lay 86 = .ok (.aload_n 0, 1)) ∧ (decode cX8_lay 87 = .ok (.iload_n 3, 1)) ∧ (decode cX8_lay 88 = .ok (.iconst 0, 1)) ∧ (decode cX8_lay 89 = .ok (.invokevirtual 101, 3)) ∧ (decode cX8_lay 92 = .ok (.goto 18, 3)) ∧ (decode cX8_lay 95 = .ok (.iload_n 2, 1)) ∧ (decode cX8_lay 96 = .ok (.iconst 2, 1)) ∧ (decode cX8_lay 97 = .ok (.if_icmp .ne 12, 3)) ∧ (decode cX8_lay 100 = .ok (.aload_n 0, 1)) ∧ (decode cX8_lay 101 = .ok (.getfield 58, 3)) ∧ (decode cX8_lay 104 = .ok (.iload_n 3, 1)) ∧ (decode cX8_lay 105 = .ok (.iaload, 1)) ∧ (decode cX8_lay 106 = .ok (.goto 4, 3)) ∧ (decode cX8_lay 109 = .ok (.iload_n 3, 1)) ∧ (decode cX8_lay 110 = .ok (.iastore, 1)) ∧ (decode cX8_lay 111 = .ok (.aload_n 0, 1)) ∧ (decode cX8_lay 112 = .ok (.getfield 70, 3)) ∧ (decode cX8_lay 115 = .ok (.iload_n 1, 1)) ∧ (decode cX8_lay 116 = .ok (.iload_n 2, 1)) ∧ (decode cX8_lay 117 = .ok (.iconst 1, 1)) ∧ (decode cX8_lay 118 = .ok (.if_icmp .ne 11, 3)) ∧ (decode cX8_lay 121 = .ok (.aload_n 0, 1)) ∧ (decode cX8_lay 122 = .ok (.iload_n 3, 1)) := by decide +kernel
theorem dX8_lay_83 : decode cX8_lay 83 = .ok (.if_icmp .ne 12, 3) := edX8_lay_83.1
theorem dX8_lay_86 : decode cX8_lay 86 = .ok (.aload_n 0, 1) := edX8_lay_83.2.1
theorem dX8_lay_87 : decode cX8_lay 87 = .ok (.iload_n 3, 1) := edX8_lay_83.2.2.1
theorem dX8_lay_88 : decode cX8_lay 88 = .ok (.iconst 0, 1) := edX8_lay_83.2.2.2.1
theorem dX8_lay_89 : decode cX8_lay 89 = .ok (.invokevirtual 101, 3) := edX8_lay_83.2.2.2.2.1
theorem dX8_lay_92 : decode cX8_lay 92 = .ok (.goto 18, 3) := edX8_lay_83.2.2.2.2.2.1
theorem dX8_lay_95 : decode cX8_lay 95 = .ok (.iload_n 2, 1) := edX8_lay_83.2.2.2.2.2.2.1
theorem dX8_lay_96 : decode cX8_lay 96 = .ok (.iconst 2, 1) := edX8_lay_83.2.2.2.2.2.2.2.1
theorem dX8_lay_97 : decode cX8_lay 97 = .ok (.if_icmp .ne 12, 3) := edX8_lay_83.2.2.2.2.2.2.2.2.1
theorem dX8_lay_100 : decode cX8_lay 100 = .ok (.aload_n 0, 1) := edX8_lay_83.2.2.2.2.2.2.2.2.2.1
theorem dX8_lay_101 : decode cX8_lay 101 = .ok (.getfield 58, 3) := edX8_lay_83.2.2.2.2.2.2.2.2.2.2.1
theorem dX8_lay_104 : decode cX8_lay 104 = .ok (.iload_n 3, 1) := edX8_lay_83.2.2.2.2.2.2.2.2.2.2.2.1
theorem dX8_lay_105 : decode cX8_lay 105 = .ok (.iaload, 1) := edX8_lay_83.2.2.2.2.2.2.2.2.2.2.2.2.1
theorem dX8_lay_106 : decode cX8_lay 106 = .ok (.goto 4, 3) := edX8_lay_83.2.2.2.2.2.2.2.2.2.2.2.2.2.1
theorem dX8_lay_109 : decode cX8_lay 109 = .ok (.iload_n 3, 1) := edX8_lay_83.2.2.2.2.2.2.2.2.2.2.2.2.2.2.1
theorem dX8_lay_110 : decode cX8_lay 110 = .ok (.iastore, 1) := edX8_lay_83.2.2.2.2.2.2.2.2.2.2.2.2.2.2.2.1
theorem dX8_lay_111 : decode cX8_lay 111 = .ok (.aload_n 0, 1) := edX8_lay_83.2.2.2.2.2.2.2.2.2.2.2.2.2.2.2.2.1
theorem dX8_lay_112 : decode cX8_lay 112 = .ok (.getfield 70, 3) := edX8_lay_83.2.2.2.2.2.2.2.2.2.2.2.2.2.2.2.2.2.1
theorem dX8_lay_115 : decode cX8_lay 115 = .ok (.iload_n 1, 1) := edX8_lay_83.2.2.2.2.2.2.2.2.2.2.2.2.2.2.2.2.2.2.1
theorem dX8_lay_116 : decode cX8_lay 116 = .ok (.iload_n 2, 1) := edX8_lay_83.2.2.2.2.2.2.2.2.2.2.2.2.2.2.2.2.2.2.2.1
theorem dX8_lay_117 : decode cX8_lay 117 = .ok (.iconst 1, 1) := edX8_lay_83.2.2.2.2.2.2.2.2.2.2.2.2.2.2.2.2.2.2.2.2.1
theorem dX8_lay_118 : decode cX8_lay 118 = .ok (.if_icmp .ne 11, 3) := edX8_lay_83.2.2.2.2.2.2.2.2.2.2.2.2.2.2.2.2.2.2.2.2.2.1
theorem dX8_lay_121 : decode cX8_lay 121 = .ok (.aload_n 0, 1) := edX8_lay_83.2.2.2.2.2.2.2.2.2.2.2.2.2.2.2.2.2.2.2.2.2.2.1
theorem dX8_lay_122 : decode cX8_lay 122 = .ok (.iload_n 3, 1) := edX8_lay_83.2.2.2.2.2.2.2.2.2.2.2.2.2.2.2.2.2.2.2.2.2.2.2
theorem edX8_lay_123 : (decode cX8_lay 123 = .ok (.invokevirtual 127, 3)) ∧ (decode cX8_lay 126 = .ok (.goto 4, 3)) ∧ (decode cX8_lay 129 = .ok (.iconst 0, 1)) ∧ (decode cX8_lay 130 = .ok (.iastore, 1)) ∧ (decode cX8_lay 131 = .ok (.iconst 0, 1)) ∧ (decode cX8_lay 132 = .ok (.istore 5, 2)) ∧ (decode cX8_lay 134 = .ok (.iload 5, 2)) ∧ (decode cX8_lay 136 = .ok (.bipush 24, 2)) ∧ (decode cX8_lay 138 = .ok (.if_icmp .ge 38, 3)) ∧ (decode cX8_lay 141 = .ok (.iload_n 2, 1)) ∧ (decode cX8_lay 142 = .ok (.iconst 2, 1)) ∧ (decode cX8_lay 143 = .ok (.if_icmp .ne 33, 3)) ∧ (decode cX8_lay 146 = .ok (.aload_n 0, 1)) ∧ (decode cX8_lay 147 = .ok (.getfield 73, 3)) ∧ (decode cX8_lay 150 = .ok (.bipush 24, 2)) ∧ (decode cX8_lay 152 = .ok (.iload_n 1, 1)) ∧ (decode cX8_lay 153 = .ok (.imul, 1)) ∧ (decode cX8_lay 154 = .ok (.iload 5, 2)) ∧ (decode cX8_lay 156 = .ok (.iadd, 1)) ∧ (decode cX8_lay 157 = .ok (.aload_n 0, 1)) ∧ (decode cX8_lay 158 = .ok (.getfield 61, 3)) ∧ (decode cX8_lay 161 = .ok (.bipush 24, 2)) ∧ (decode cX8_lay 163 = .ok (.iload_n 3, 1)) ∧ (decode cX8_lay 164 = .ok (.imul, 1)) := by decide +kernel
theorem dX8_lay_123 : decode cX8_lay 123 = .ok (.invokevirtual 127, 3) := edX8_lay_123.1
theorem dX8_lay_126 : decode cX8_lay 126 = .ok (.goto 4, 3) := edX8_lay_123.2.1
theorem dX8_lay_129 : decode cX8_lay 129 = .ok (.iconst 0, 1) := edX8_lay_123.2.2.1
theorem dX8_lay_130 : decode cX8_lay 130 = .ok (.iastore, 1) := edX8_lay_123.2.2.2.1
theorem dX8_lay_131 : decode cX8_lay 131 = .ok (.iconst 0, 1) := edX8_lay_123.2.2.2.2.1
theorem dX8_lay_132 : decode cX8_lay 132 = .ok (.istore 5, 2) := edX8_lay_123.2.2.2.2.2.1
theorem dX8_lay_134 : decode cX8_lay 134 = .ok (.iload 5, 2) := edX8_lay_123.2.2.2.2.2.2.1
theorem dX8_lay_136 : decode cX8_lay 136 = .ok (.bipush 24, 2) := edX8_lay_123.2.2.2.2.2.2.2.1
theorem dX8_lay_138 : decode cX8_lay 138 = .ok (.if_icmp .ge 38, 3) := edX8_lay_123.2.2.2.2.2.2.2.2.1
theorem dX8_lay_141 : decode cX8_lay 141 = .ok (.iload_n 2, 1) := edX8_lay_123.2.2.2.2.2.2.2.2.2.1
theorem dX8_lay_142 : decode cX8_lay 142 = .ok (.iconst 2, 1) := edX8_lay_123.2.2.2.2.2.2.2.2.2.2.1
theorem dX8_lay_143 : decode cX8_lay 143 = .ok (.if_icmp .ne 33, 3) := edX8_lay_123.2.2.2.2.2.2.2.2.2.2.2.1
theorem dX8_lay_146 : decode cX8_lay 146 = .ok (.aload_n 0, 1) := edX8_lay_123.2.2.2.2.2.2.2.2.2.2.2.2.1
theorem dX8_lay_147 : decode cX8_lay 147 = .ok (.getfield 73, 3) := edX8_lay_123.2.2.2.2.2.2.2.2.2.2.2.2.2.1
theorem dX8_lay_150 : decode cX8_lay 150 = .ok (.bipush 24, 2) := edX8_lay_123.2.2.2.2.2.2.2.2.2.2.2.2.2.2.1
theorem dX8_lay_152 : decode cX8_lay 152 = .ok (.iload_n 1, 1) := edX8_lay_123.2.2.2.2.2.2.2.2.2.2.2.2.2.2.2.1
theorem dX8_lay_153 : decode cX8_lay 153 = .ok (.imul, 1) := edX8_lay_123.2.2.2.2.2.2.2.2.2.2.2.2.2.2.2.2.1
theorem dX8_lay_154 : decode cX8_lay 154 = .ok (.iload 5, 2) := edX8_lay_123.2.2.2.2.2.2.2.2.2.2.2.2.2.2.2.2.2.1
theorem dX8_lay_156 : decode cX8_lay 156 = .ok (.iadd, 1) := edX8_lay_123.2.2.2.2.2.2.2.2.2.2.2.2.2.2.2.2.2.2.1
theorem dX8_lay_157 : decode cX8_lay 157 = .ok (.aload_n 0, 1) := edX8_lay_123.2.2.2.2.2.2.2.2.2.2.2.2.2.2.2.2.2.2.2.1
theorem dX8_lay_158 : decode cX8_lay 158 = .ok (.getfield 61, 3) := edX8_lay_123.2.2.2.2.2.2.2.2.2.2.2.2.2.2.2.2.2.2.2.2.1
theorem dX8_lay_161 : decode cX8_lay 161 = .ok (.bipush 24, 2) := edX8_lay_123.2.2.2.2.2.2.2.2.2.2.2.2.2.2.2.2.2.2.2.2.2.1
theorem dX8_lay_163 : decode cX8_lay 163 = .ok (.iload_n 3, 1) := edX8_lay_123.2.2.2.2.2.2.2.2.2.2.2.2.2.2.2.2.2.2.2.2.2.2.1
theorem dX8_lay_164 : decode cX8_lay 164 = .ok (.imul, 1) := edX8_lay_123.2.2.2.2.2.2.2.2.2.2.2.2.2.2.2.2.2.2.2.2.2.2.2
theorem edX8_lay_165 : (decode cX8_lay 165 = .ok (.iload 5, 2)) ∧ (decode cX8_lay 167 = .ok (.iadd, 1)) ∧ (decode cX8_lay 168 = .ok (.iaload, 1)) ∧ (decode cX8_lay 169 = .ok (.iastore, 1)) ∧ (decode cX8_lay 170 = .ok (.iinc 5 1, 3)) ∧ (decode cX8_lay 173 = .ok (.goto (-39), 3)) ∧ (decode cX8_lay 176 = .ok (.iload 4, 2)) ∧ (decode cX8_lay 178 = .ok (.ireturn, 1)) := by decide +kernel
theorem dX8_lay_165 : decode cX8_lay 165 = .ok (.iload 5, 2) := edX8_lay_165.1
theorem dX8_lay_167 : decode cX8_lay 167 = .ok (.iadd, 1) := edX8_lay_165.2.1
theorem dX8_lay_168 : decode cX8_lay 168 = .ok (.iaload, 1) := edX8_lay_165.2.2.1
theorem dX8_lay_169 : decode cX8_lay 169 = .ok (.iastore, 1) := edX8_lay_165.2.2.2.1
theorem dX8_lay_170 : decode cX8_lay 170 = .ok (.iinc 5 1, 3) := edX8_lay_165.2.2.2.2.1
theorem dX8_lay_173 : decode cX8_lay 173 = .ok (.goto (-39), 3) := edX8_lay_165.2.2.2.2.2.1
theorem dX8_lay_176 : decode cX8_lay 176 = .ok (.iload 4, 2) := edX8_lay_165.2.2.2.2.2.2.1
theorem dX8_lay_178 : decode cX8_lay 178 = .ok (.ireturn, 1) := edX8_lay_165.2.2.2.2.2.2.2
theorem edX8_ask_0 : (decode cX8_ask 0 = .ok (.iload_n 1, 1)) ∧ (decode cX8_ask 1 = .ok (.invokestatic 262, 3)) ∧ (decode cX8_ask 4 = .ok (.ifCond .eq 12, 3)) ∧ (decode cX8_ask 7 = .ok (.iload_n 2, 1)) ∧ (decode cX8_ask 8 = .ok (.iconst 0, 1)) ∧ (decode cX8_ask 9 = .ok (.iconst 5, 1)) ∧ (decode cX8_ask 10 = .ok (.invokestatic 83, 3)) ∧ (decode cX8_ask 13 = .ok (.ifCond .ne 6, 3)) ∧ (decode cX8_ask 16 = .ok (.ldc 91, 2)) ∧ (decode cX8_ask 18 = .ok (.ireturn, 1)) ∧ (decode cX8_ask 19 = .ok (.aload_n 0, 1)) ∧ (decode cX8_ask 20 = .ok (.getfield 64, 3)) ∧ (decode cX8_ask 23 = .ok (.iload_n 1, 1)) ∧ (decode cX8_ask 24 = .ok (.iaload, 1)) ∧ (decode cX8_ask 25 = .ok (.ifCond .ne 6, 3)) ∧ (decode cX8_ask 28 = .ok (.ldc 187, 2)) ∧ (decode cX8_ask 30 = .ok (.ireturn, 1)) ∧ (decode cX8_ask 31 = .ok (.aload_n 0, 1)) ∧ (decode cX8_ask 32 = .ok (.getfield 64, 3)) ∧ (decode cX8_ask 35 = .ok (.iload_n 1, 1)) ∧ (decode cX8_ask 36 = .ok (.iaload, 1)) ∧ (decode cX8_ask 37 = .ok (.iconst 1, 1)) ∧ (decode cX8_ask 38 = .ok (.if_icmp .ne 25, 3)) ∧ (decode cX8_ask 41 = .ok (.aload_n 0, 1)) := by decide +kernel
theorem dX8_ask_0 : decode cX8_ask 0 = .ok (.iload_n 1, 1) := edX8_ask_0.1
theorem dX8_ask_1 : decode cX8_ask 1 = .ok (.invokestatic 262, 3) := edX8_ask_0.2.1
theorem dX8_ask_4 : decode cX8_ask 4 = .ok (.ifCond .eq 12, 3) := edX8_ask_0.2.2.1
theorem dX8_ask_7 : decode cX8_ask 7 = .ok (.iload_n 2, 1) := edX8_ask_0.2.2.2.1
theorem dX8_ask_8 : decode cX8_ask 8 = .ok (.iconst 0, 1) := edX8_ask_0.2.2.2.2.1
theorem dX8_ask_9 : decode cX8_ask 9 = .ok (.iconst 5, 1) := edX8_ask_0.2.2.2.2.2.1
theorem dX8_ask_10 : decode cX8_ask 10 = .ok (.invokestatic 83, 3) := edX8_ask_0.2.2.2.2.2.2.1
theorem dX8_ask_13 : decode cX8_ask 13 = .ok (.ifCond .ne 6, 3) := edX8_ask_0.2.2.2.2.2.2.2.1
theorem dX8_ask_16 : decode cX8_ask 16 = .ok (.ldc 91, 2) := edX8_ask_0.2.2.2.2.2.2.2.2.1
theorem dX8_ask_18 : decode cX8_ask 18 = .ok (.ireturn, 1) := edX8_ask_0.2.2.2.2.2.2.2.2.2.1
theorem dX8_ask_19 : decode cX8_ask 19 = .ok (.aload_n 0, 1) := edX8_ask_0.2.2.2.2.2.2.2.2.2.2.1
theorem dX8_ask_20 : decode cX8_ask 20 = .ok (.getfield 64, 3) := edX8_ask_0.2.2.2.2.2.2.2.2.2.2.2.1
theorem dX8_ask_23 : decode cX8_ask 23 = .ok (.iload_n 1, 1) := edX8_ask_0.2.2.2.2.2.2.2.2.2.2.2.2.1
theorem dX8_ask_24 : decode cX8_ask 24 = .ok (.iaload, 1) := edX8_ask_0.2.2.2.2.2.2.2.2.2.2.2.2.2.1
theorem dX8_ask_25 : decode cX8_ask 25 = .ok (.ifCond .ne 6, 3) := edX8_ask_0.2.2.2.2.2.2.2.2.2.2.2.2.2.2.1
theorem dX8_ask_28 : decode cX8_ask 28 = .ok (.ldc 187, 2) := edX8_ask_0.2.2.2.2.2.2.2.2.2.2.2.2.2.2.2.1
theorem dX8_ask_30 : decode cX8_ask 30 = .ok (.ireturn, 1) := edX8_ask_0.2.2.2.2.2.2.2.2.2.2.2.2.2.2.2.2.1
theorem dX8_ask_31 : decode cX8_ask 31 = .ok (.aload_n 0, 1) := edX8_ask_0.2.2.2.2.2.2.2.2.2.2.2.2.2.2.2.2.2.1
theorem dX8_ask_32 : decode cX8_ask 32 = .ok (.getfield 64, 3) := edX8_ask_0.2.2.2.2.2.2.2.2.2.2.2.2.2.2.2.2.2.2.1
theorem dX8_ask_35 : decode cX8_ask 35 = .ok (.iload_n 1, 1) := edX8_ask_0.2.2.2.2.2.2.2.2.2.2.2.2.2.2.2.2.2.2.2.1
theorem dX8_ask_36 : decode cX8_ask 36 = .ok (.iaload, 1) := edX8_ask_0.2.2.2.2.2.2.2.2.2.2.2.2.2.2.2.2.2.2.2.2.1
theorem dX8_ask_37 : decode cX8_ask 37 = .ok (.iconst 1, 1) := edX8_ask_0.2.2.2.2.2.2.2.2.2.2.2.2.2.2.2.2.2.2.2.2.2.1
theorem dX8_ask_38 : decode cX8_ask 38 = .ok (.if_icmp .ne 25, 3) := edX8_ask_0.2.2.2.2.2.2.2.2.2.2.2.2.2.2.2.2.2.2.2.2.2.2.1
theorem dX8_ask_41 : decode cX8_ask 41 = .ok (.aload_n 0, 1) := edX8_ask_0.2.2.2.2.2.2.2.2.2.2.2.2.2.2.2.2.2.2.2.2.2.2.2
theorem edX8_ask_42 : (decode cX8_ask 42 = .ok (.getfield 67, 3)) ∧ (decode cX8_ask 45 = .ok (.iload_n 1, 1)) ∧ (decode cX8_ask 46 = .ok (.iaload, 1)) ∧ (decode cX8_ask 47 = .ok (.iload_n 2, 1)) ∧ (decode cX8_ask 48 = .ok (.invokestatic 130, 3)) ∧ (decode cX8_ask 51 = .ok (.ifCond .eq 12, 3)) ∧ (decode cX8_ask 54 = .ok (.aload_n 0, 1)) ∧ (decode cX8_ask 55 = .ok (.getfield 70, 3)) ∧ (decode cX8_ask 58 = .ok (.iload_n 1, 1)) ∧ (decode cX8_ask 59 = .ok (.iaload, 1)) ∧ (decode cX8_ask 60 = .ok (.goto 5, 3)) ∧ (decode cX8_ask 63 = .ok (.ldc 134, 2)) ∧ (decode cX8_ask 65 = .ok (.ireturn, 1)) := by decide +kernel
theorem dX8_ask_42 : decode cX8_ask 42 = .ok (.getfield 67, 3) := edX8_ask_42.1
theorem dX8_ask_45 : decode cX8_ask 45 = .ok (.iload_n 1, 1) := edX8_ask_42.2.1
theorem dX8_ask_46 : decode cX8_ask 46 = .ok (.iaload, 1) := edX8_ask_42.2.2.1
theorem dX8_ask_47 : decode cX8_ask 47 = .ok (.iload_n 2, 1) := edX8_ask_42.2.2.2.1
theorem dX8_ask_48 : decode cX8_ask 48 = .ok (.invokestatic 130, 3) := edX8_ask_42.2.2.2.2.1
theorem dX8_ask_51 : decode cX8_ask 51 = .ok (.ifCond .eq 12, 3) := edX8_ask_42.2.2.2.2.2.1
theorem dX8_ask_54 : decode cX8_ask 54 = .ok (.aload_n 0, 1) := edX8_ask_42.2.2.2.2.2.2.1
theorem dX8_ask_55 : decode cX8_ask 55 = .ok (.getfield 70, 3) := edX8_ask_42.2.2.2.2.2.2.2.1
theorem dX8_ask_58 : decode cX8_ask 58 = .ok (.iload_n 1, 1) := edX8_ask_42.2.2.2.2.2.2.2.2.1
theorem dX8_ask_59 : decode cX8_ask 59 = .ok (.iaload, 1) := edX8_ask_42.2.2.2.2.2.2.2.2.2.1
theorem dX8_ask_60 : decode cX8_ask 60 = .ok (.goto 5, 3) := edX8_ask_42.2.2.2.2.2.2.2.2.2.2.1
theorem dX8_ask_63 : decode cX8_ask 63 = .ok (.ldc 134, 2) := edX8_ask_42.2.2.2.2.2.2.2.2.2.2.2.1
theorem dX8_ask_65 : decode cX8_ask 65 = .ok (.ireturn, 1) := edX8_ask_42.2.2.2.2.2.2.2.2.2.2.2.2
theorem edX8_item_0 : (decode cX8_item 0 = .ok (.iload_n 1, 1)) ∧ (decode cX8_item 1 = .ok (.invokestatic 262, 3)) ∧ (decode cX8_item 4 = .ok (.ifCond .ne 6, 3)) ∧ (decode cX8_item 7 = .ok (.ldc 91, 2)) ∧ (decode cX8_item 9 = .ok (.ireturn, 1)) ∧ (decode cX8_item 10 = .ok (.aload_n 0, 1)) ∧ (decode cX8_item 11 = .ok (.getfield 64, 3)) ∧ (decode cX8_item 14 = .ok (.iload_n 1, 1)) ∧ (decode cX8_item 15 = .ok (.iaload, 1)) ∧ (decode cX8_item 16 = .ok (.ifCond .ne 6, 3)) ∧ (decode cX8_item 19 = .ok (.ldc 187, 2)) ∧ (decode cX8_item 21 = .ok (.ireturn, 1)) ∧ (decode cX8_item 22 = .ok (.aload_n 0, 1)) ∧ (decode cX8_item 23 = .ok (.getfield 64, 3)) ∧ (decode cX8_item 26 = .ok (.iload_n 1, 1)) ∧ (decode cX8_item 27 = .ok (.iaload, 1)) ∧ (decode cX8_item 28 = .ok (.iconst 2, 1)) ∧ (decode cX8_item 29 = .ok (.if_icmp .eq 6, 3)) ∧ (decode cX8_item 32 = .ok (.ldc 134, 2)) ∧ (decode cX8_item 34 = .ok (.ireturn, 1)) ∧ (decode cX8_item 35 = .ok (.iload_n 2, 1)) ∧ (decode cX8_item 36 = .ok (.iconst 0, 1)) ∧ (decode cX8_item 37 = .ok (.aload_n 0, 1)) ∧ (decode cX8_item 38 = .ok (.getfield 67, 3)) := by decide +kernel
theorem dX8_item_0 : decode cX8_item 0 = .ok (.iload_n 1, 1) := edX8_item_0.1
theorem dX8_item_1 : decode cX8_item 1 = .ok (.invokestatic 262, 3) := edX8_item_0.2.1
theorem dX8_item_4 : decode cX8_item 4 = .ok (.ifCond .ne 6, 3) := edX8_item_0.2.2.1
theorem dX8_item_7 : decode cX8_item 7 = .ok (.ldc 91, 2) := edX8_item_0.2.2.2.1
theorem dX8_item_9 : decode cX8_item 9 = .ok (.ireturn, 1) := edX8_item_0.2.2.2.2.1
theorem dX8_item_10 : decode cX8_item 10 = .ok (.aload_n 0, 1) := edX8_item_0.2.2.2.2.2.1
theorem dX8_item_11 : decode cX8_item 11 = .ok (.getfield 64, 3) := edX8_item_0.2.2.2.2.2.2.1
theorem dX8_item_14 : decode cX8_item 14 = .ok (.iload_n 1, 1) := edX8_item_0.2.2.2.2.2.2.2.1
theorem dX8_item_15 : decode cX8_item 15 = .ok (.iaload, 1) := edX8_item_0.2.2.2.2.2.2.2.2.1
theorem dX8_item_16 : decode cX8_item 16 = .ok (.ifCond .ne 6, 3) := edX8_item_0.2.2.2.2.2.2.2.2.2.1
theorem dX8_item_19 : decode cX8_item 19 = .ok (.ldc 187, 2) := edX8_item_0.2.2.2.2.2.2.2.2.2.2.1
theorem dX8_item_21 : decode cX8_item 21 = .ok (.ireturn, 1) := edX8_item_0.2.2.2.2.2.2.2.2.2.2.2.1
theorem dX8_item_22 : decode cX8_item 22 = .ok (.aload_n 0, 1) := edX8_item_0.2.2.2.2.2.2.2.2.2.2.2.2.1
theorem dX8_item_23 : decode cX8_item 23 = .ok (.getfield 64, 3) := edX8_item_0.2.2.2.2.2.2.2.2.2.2.2.2.2.1
theorem dX8_item_26 : decode cX8_item 26 = .ok (.iload_n 1, 1) := edX8_item_0.2.2.2.2.2.2.2.2.2.2.2.2.2.2.1
theorem dX8_item_27 : decode cX8_item 27 = .ok (.iaload, 1) := edX8_item_0.2.2.2.2.2.2.2.2.2.2.2.2.2.2.2.1
theorem dX8_item_28 : decode cX8_item 28 = .ok (.iconst 2, 1) := edX8_item_0.2.2.2.2.2.2.2.2.2.2.2.2.2.2.2.2.1
theorem dX8_item_29 : decode cX8_item 29 = .ok (.if_icmp .eq 6, 3) := edX8_item_0.2.2.2.2.2.2.2.2.2.2.2.2.2.2.2.2.2.1
theorem dX8_item_32 : decode cX8_item 32 = .ok (.ldc 134, 2) := edX8_item_0.2.2.2.2.2.2.2.2.2.2.2.2.2.2.2.2.2.2.1
theorem dX8_item_34 : decode cX8_item 34 = .ok (.ireturn, 1) := edX8_item_0.2.2.2.2.2.2.2.2.2.2.2.2.2.2.2.2.2.2.2.1
theorem dX8_item_35 : decode cX8_item 35 = .ok (.iload_n 2, 1) := edX8_item_0.2.2.2.2.2.2.2.2.2.2.2.2.2.2.2.2.2.2.2.2.1
theorem dX8_item_36 : decode cX8_item 36 = .ok (.iconst 0, 1) := edX8_item_0.2.2.2.2.2.2.2.2.2.2.2.2.2.2.2.2.2.2.2.2.2.1
theorem dX8_item_37 : decode cX8_item 37 = .ok (.aload_n 0, 1) := edX8_item_0.2.2.2.2.2.2.2.2.2.2.2.2.2.2.2.2.2.2.2.2.2.2.1
theorem dX8_item_38 : decode cX8_item 38 = .ok (.getfield 67, 3) := edX8_item_0.2.2.2.2.2.2.2.2.2.2.2.2.2.2.2.2.2.2.2.2.2.2.2
theorem edX8_item_41 : (decode cX8_item 41 = .ok (.iload_n 1, 1)) ∧ (decode cX8_item 42 = .ok (.iaload, 1)) ∧ (decode cX8_item 43 = .ok (.iconst 1, 1)) ∧ (decode cX8_item 44 = .ok (.isub, 1)) ∧ (decode cX8_item 45 = .ok (.invokestatic 83, 3)) ∧ (decode cX8_item 48 = .ok (.ifCond .ne 7, 3)) ∧ (decode cX8_item 51 = .ok (.ldc_w 259, 3)) ∧ (decode cX8_item 54 = .ok (.ireturn, 1)) ∧ (decode cX8_item 55 = .ok (.aload_n 0, 1)) ∧ (decode cX8_item 56 = .ok (.getfield 73, 3)) ∧ (decode cX8_item 59 = .ok (.bipush 24, 2)) ∧ (decode cX8_item 61 = .ok (.iload_n 1, 1)) ∧ (decode cX8_item 62 = .ok (.imul, 1)) ∧ (decode cX8_item 63 = .ok (.iload_n 2, 1)) ∧ (decode cX8_item 64 = .ok (.iadd, 1)) ∧ (decode cX8_item 65 = .ok (.iaload, 1)) ∧ (decode cX8_item 66 = .ok (.istore_n 3, 1)) ∧ (decode cX8_item 67 = .ok (.iload_n 3, 1)) ∧ (decode cX8_item 68 = .ok (.ldc 82, 2)) ∧ (decode cX8_item 70 = .ok (.if_icmp .ne 8, 3)) ∧ (decode cX8_item 73 = .ok (.ldc 134, 2)) ∧ (decode cX8_item 75 = .ok (.goto 4, 3)) ∧ (decode cX8_item 78 = .ok (.iload_n 3, 1)) ∧ (decode cX8_item 79 = .ok (.ireturn, 1)) := by decide +kernel
theorem dX8_item_41 : decode cX8_item 41 = .ok (.iload_n 1, 1) := edX8_item_41.1
theorem dX8_item_42 : decode cX8_item 42 = .ok (.iaload, 1) := edX8_item_41.2.1
theorem dX8_item_43 : decode cX8_item 43 = .ok (.iconst 1, 1) := edX8_item_41.2.2.1
theorem dX8_item_44 : decode cX8_item 44 = .ok (.isub, 1) := edX8_item_41.2.2.2.1
theorem dX8_item_45 : decode cX8_item 45 = .ok (.invokestatic 83, 3) := edX8_item_41.2.2.2.2.1
theorem dX8_item_48 : decode cX8_item 48 = .ok (.ifCond .ne 7, 3) := edX8_item_41.2.2.2.2.2.1
theorem dX8_item_51 : decode cX8_item 51 = .ok (.ldc_w 259, 3) := edX8_item_41.2.2.2.2.2.2.1
theorem dX8_item_54 : decode cX8_item 54 = .ok (.ireturn, 1) := edX8_item_41.2.2.2.2.2.2.2.1
theorem dX8_item_55 : decode cX8_item 55 = .ok (.aload_n 0, 1) := edX8_item_41.2.2.2.2.2.2.2.2.1
theorem dX8_item_56 : decode cX8_item 56 = .ok (.getfield 73, 3) := edX8_item_41.2.2.2.2.2.2.2.2.2.1
theorem dX8_item_59 : decode cX8_item 59 = .ok (.bipush 24, 2) := edX8_item_41.2.2.2.2.2.2.2.2.2.2.1
theorem dX8_item_61 : decode cX8_item 61 = .ok (.iload_n 1, 1) := edX8_item_41.2.2.2.2.2.2.2.2.2.2.2.1
theorem dX8_item_62 : decode cX8_item 62 = .ok (.imul, 1) := edX8_item_41.2.2.2.2.2.2.2.2.2.2.2.2.1
theorem dX8_item_63 : decode cX8_item 63 = .ok (.iload_n 2, 1) := edX8_item_41.2.2.2.2.2.2.2.2.2.2.2.2.2.1
theorem dX8_item_64 : decode cX8_item 64 = .ok (.iadd, 1) := edX8_item_41.2.2.2.2.2.2.2.2.2.2.2.2.2.2.1
theorem dX8_item_65 : decode cX8_item 65 = .ok (.iaload, 1) := edX8_item_41.2.2.2.2.2.2.2.2.2.2.2.2.2.2.2.1
theorem dX8_item_66 : decode cX8_item 66 = .ok (.istore_n 3, 1) := edX8_item_41.2.2.2.2.2.2.2.2.2.2.2.2.2.2.2.2.1
theorem dX8_item_67 : decode cX8_item 67 = .ok (.iload_n 3, 1) := edX8_item_41.2.2.2.2.2.2.2.2.2.2.2.2.2.2.2.2.2.1
theorem dX8_item_68 : decode cX8_item 68 = .ok (.ldc 82, 2) := edX8_item_41.2.2.2.2.2.2.2.2.2.2.2.2.2.2.2.2.2.2.1
theorem dX8_item_70 : decode cX8_item 70 = .ok (.if_icmp .ne 8, 3) := edX8_item_41.2.2.2.2.2.2.2.2.2.2.2.2.2.2.2.2.2.2.2.1
theorem dX8_item_73 : decode cX8_item 73 = .ok (.ldc 134, 2) := edX8_item_41.2.2.2.2.2.2.2.2.2.2.2.2.2.2.2.2.2.2.2.2.1
theorem dX8_item_75 : decode cX8_item 75 = .ok (.goto 4, 3) := edX8_item_41.2.2.2.2.2.2.2.2.2.2.2.2.2.2.2.2.2.2.2.2.2.1
theorem dX8_item_78 : decode cX8_item 78 = .ok (.iload_n 3, 1) := edX8_item_41.2.2.2.2.2.2.2.2.2.2.2.2.2.2.2.2.2.2.2.2.2.2.1
theorem dX8_item_79 : decode cX8_item 79 = .ok (.ireturn, 1) := edX8_item_41.2.2.2.2.2.2.2.2.2.2.2.2.2.2.2.2.2.2.2.2.2.2.2
theorem edX8_rest_0 : (decode cX8_rest 0 = .ok (.iload_n 1, 1)) ∧ (decode cX8_rest 1 = .ok (.invokestatic 262, 3)) ∧ (decode cX8_rest 4 = .ok (.ifCond .ne 6, 3)) ∧ (decode cX8_rest 7 = .ok (.ldc 91, 2)) ∧ (decode cX8_rest 9 = .ok (.ireturn, 1)) ∧ (decode cX8_rest 10 = .ok (.aload_n 0, 1)) ∧ (decode cX8_rest 11 = .ok (.getfield 64, 3)) ∧ (decode cX8_rest 14 = .ok (.iload_n 1, 1)) ∧ (decode cX8_rest 15 = .ok (.iaload, 1)) ∧ (decode cX8_rest 16 = .ok (.ifCond .ne 6, 3)) ∧ (decode cX8_rest 19 = .ok (.ldc 187, 2)) ∧ (decode cX8_rest 21 = .ok (.ireturn, 1)) ∧ (decode cX8_rest 22 = .ok (.aload_n 0, 1)) ∧ (decode cX8_rest 23 = .ok (.getfield 64, 3)) ∧ (decode cX8_rest 26 = .ok (.iload_n 1, 1)) ∧ (decode cX8_rest 27 = .ok (.iaload, 1)) ∧ (decode cX8_rest 28 = .ok (.iconst 3, 1)) ∧ (decode cX8_rest 29 = .ok (.if_icmp .eq 6, 3)) ∧ (decode cX8_rest 32 = .ok (.ldc 134, 2)) ∧ (decode cX8_rest 34 = .ok (.ireturn, 1)) ∧ (decode cX8_rest 35 = .ok (.iload_n 2, 1)) ∧ (decode cX8_rest 36 = .ok (.ifCond .ne 9, 3)) ∧ (decode cX8_rest 39 = .ok (.ldc_w 265, 3)) ∧ (decode cX8_rest 42 = .ok (.goto 20, 3)) := by decide +kernel
theorem dX8_rest_0 : decode cX8_rest 0 = .ok (.iload_n 1, 1) := edX8_rest_0.1
theorem dX8_rest_1 : decode cX8_rest 1 = .ok (.invokestatic 262, 3) := edX8_rest_0.2.1
theorem dX8_rest_4 : decode cX8_rest 4 = .ok (.ifCond .ne 6, 3) := edX8_rest_0.2.2.1
theorem dX8_rest_7 : decode cX8_rest 7 = .ok (.ldc 91, 2) := edX8_rest_0.2.2.2.1
theorem dX8_rest_9 : decode cX8_rest 9 = .ok (.ireturn, 1) := edX8_rest_0.2.2.2.2.1
theorem dX8_rest_10 : decode cX8_rest 10 = .ok (.aload_n 0, 1) := edX8_rest_0.2.2.2.2.2.1
theorem dX8_rest_11 : decode cX8_rest 11 = .ok (.getfield 64, 3) := edX8_rest_0.2.2.2.2.2.2.1
theorem dX8_rest_14 : decode cX8_rest 14 = .ok (.iload_n 1, 1) := edX8_rest_0.2.2.2.2.2.2.2.1
theorem dX8_rest_15 : decode cX8_rest 15 = .ok (.iaload, 1) := edX8_rest_0.2.2.2.2.2.2.2.2.1
theorem dX8_rest_16 : decode cX8_rest 16 = .ok (.ifCond .ne 6, 3) := edX8_rest_0.2.2.2.2.2.2.2.2.2.1
theorem dX8_rest_19 : decode cX8_rest 19 = .ok (.ldc 187, 2) := edX8_rest_0.2.2.2.2.2.2.2.2.2.2.1
theorem dX8_rest_21 : decode cX8_rest 21 = .ok (.ireturn, 1) := edX8_rest_0.2.2.2.2.2.2.2.2.2.2.2.1
theorem dX8_rest_22 : decode cX8_rest 22 = .ok (.aload_n 0, 1) := edX8_rest_0.2.2.2.2.2.2.2.2.2.2.2.2.1
theorem dX8_rest_23 : decode cX8_rest 23 = .ok (.getfield 64, 3) := edX8_rest_0.2.2.2.2.2.2.2.2.2.2.2.2.2.1
theorem dX8_rest_26 : decode cX8_rest 26 = .ok (.iload_n 1, 1) := edX8_rest_0.2.2.2.2.2.2.2.2.2.2.2.2.2.2.1
theorem dX8_rest_27 : decode cX8_rest 27 = .ok (.iaload, 1) := edX8_rest_0.2.2.2.2.2.2.2.2.2.2.2.2.2.2.2.1
theorem dX8_rest_28 : decode cX8_rest 28 = .ok (.iconst 3, 1) := edX8_rest_0.2.2.2.2.2.2.2.2.2.2.2.2.2.2.2.2.1
theorem dX8_rest_29 : decode cX8_rest 29 = .ok (.if_icmp .eq 6, 3) := edX8_rest_0.2.2.2.2.2.2.2.2.2.2.2.2.2.2.2.2.2.1
theorem dX8_rest_32 : decode cX8_rest 32 = .ok (.ldc 134, 2) := edX8_rest_0.2.2.2.2.2.2.2.2.2.2.2.2.2.2.2.2.2.2.1
theorem dX8_rest_34 : decode cX8_rest 34 = .ok (.ireturn, 1) := edX8_rest_0.2.2.2.2.2.2.2.2.2.2.2.2.2.2.2.2.2.2.2.1
theorem dX8_rest_35 : decode cX8_rest 35 = .ok (.iload_n 2, 1) := edX8_rest_0.2.2.2.2.2.2.2.2.2.2.2.2.2.2.2.2.2.2.2.2.1
theorem dX8_rest_36 : decode cX8_rest 36 = .ok (.ifCond .ne 9, 3) := edX8_rest_0.2.2.2.2.2.2.2.2.2.2.2.2.2.2.2.2.2.2.2.2.2.1
theorem dX8_rest_39 : decode cX8_rest 39 = .ok (.ldc_w 265, 3) := edX8_rest_0.2.2.2.2.2.2.2.2.2.2.2.2.2.2.2.2.2.2.2.2.2.2.1
theorem dX8_rest_42 : decode cX8_rest 42 = .ok (.goto 20, 3) := edX8_rest_0.2.2.2.2.2.2.2.2.2.2.2.2.2.2.2.2.2.2.2.2.2.2.2
theorem edX8_rest_45 : (decode cX8_rest 45 = .ok (.iload_n 2, 1)) ∧ (decode cX8_rest 46 = .ok (.iconst (-1), 1)) ∧ (decode cX8_rest 47 = .ok (.if_icmp .ne 7, 3)) ∧ (decode cX8_rest 50 = .ok (.iconst 0, 1)) ∧ (decode cX8_rest 51 = .ok (.goto 11, 3)) ∧ (decode cX8_rest 54 = .ok (.aload_n 0, 1)) ∧ (decode cX8_rest 55 = .ok (.getfield 67, 3)) ∧ (decode cX8_rest 58 = .ok (.iload_n 1, 1)) ∧ (decode cX8_rest 59 = .ok (.iaload, 1)) ∧ (decode cX8_rest 60 = .ok (.iload_n 2, 1)) ∧ (decode cX8_rest 61 = .ok (.irem, 1)) ∧ (decode cX8_rest 62 = .ok (.ireturn, 1)) := by decide +kernel
theorem dX8_rest_45 : decode cX8_rest 45 = .ok (.iload_n 2, 1) := edX8_rest_45.1
theorem dX8_rest_46 : decode cX8_rest 46 = .ok (.iconst (-1), 1) := edX8_rest_45.2.1
theorem dX8_rest_47 : decode cX8_rest 47 = .ok (.if_icmp .ne 7, 3) := edX8_rest_45.2.2.1
theorem dX8_rest_50 : decode cX8_rest 50 = .ok (.iconst 0, 1) := edX8_rest_45.2.2.2.1
theorem dX8_rest_51 : decode cX8_rest 51 = .ok (.goto 11, 3) := edX8_rest_45.2.2.2.2.1
theorem dX8_rest_54 : decode cX8_rest 54 = .ok (.aload_n 0, 1) := edX8_rest_45.2.2.2.2.2.1
theorem dX8_rest_55 : decode cX8_rest 55 = .ok (.getfield 67, 3) := edX8_rest_45.2.2.2.2.2.2.1
theorem dX8_rest_58 : decode cX8_rest 58 = .ok (.iload_n 1, 1) := edX8_rest_45.2.2.2.2.2.2.2.1
theorem dX8_rest_59 : decode cX8_rest 59 = .ok (.iaload, 1) := edX8_rest_45.2.2.2.2.2.2.2.2.1
theorem dX8_rest_60 : decode cX8_rest 60 = .ok (.iload_n 2, 1) := edX8_rest_45.2.2.2.2.2.2.2.2.2.1
theorem dX8_rest_61 : decode cX8_rest 61 = .ok (.irem, 1) := edX8_rest_45.2.2.2.2.2.2.2.2.2.2.1
theorem dX8_rest_62 : decode cX8_rest 62 = .ok (.ireturn, 1) := edX8_rest_45.2.2.2.2.2.2.2.2.2.2.2
theorem edX8_tell_0 : (decode cX8_tell 0 = .ok (.aload_n 0, 1)) ∧ (decode cX8_tell 1 = .ok (.getfield 266, 3)) ∧ (decode cX8_tell 4 = .ok (.bipush 60, 2)) ∧ (decode cX8_tell 6 = .ok (.if_icmp .ne 6, 3)) ∧ (decode cX8_tell 9 = .ok (.ldc 92, 2)) ∧ (decode cX8_tell 11 = .ok (.ireturn, 1)) ∧ (decode cX8_tell 12 = .ok (.aload_n 0, 1)) ∧ (decode cX8_tell 13 = .ok (.getfield 79, 3)) ∧ (decode cX8_tell 16 = .ok (.aload_n 0, 1)) ∧ (decode cX8_tell 17 = .ok (.getfield 266, 3)) ∧ (decode cX8_tell 20 = .ok (.iload_n 1, 1)) ∧ (decode cX8_tell 21 = .ok (.iastore, 1)) ∧ (decode cX8_tell 22 = .ok (.aload_n 0, 1)) ∧ (decode cX8_tell 23 = .ok (.dup, 1)) ∧ (decode cX8_tell 24 = .ok (.getfield 266, 3)) ∧ (decode cX8_tell 27 = .ok (.iconst 1, 1)) ∧ (decode cX8_tell 28 = .ok (.iadd, 1)) ∧ (decode cX8_tell 29 = .ok (.putfield 266, 3)) ∧ (decode cX8_tell 32 = .ok (.aload_n 0, 1)) ∧ (decode cX8_tell 33 = .ok (.getfield 266, 3)) ∧ (decode cX8_tell 36 = .ok (.ireturn, 1)) := by decide +kernel
theorem dX8_tell_0 : decode cX8_tell 0 = .ok (.aload_n 0, 1) := edX8_tell_0.1
theorem dX8_tell_1 : decode cX8_tell 1 = .ok (.getfield 266, 3) := edX8_tell_0.2.1
theorem dX8_tell_4 : decode cX8_tell 4 = .ok (.bipush 60, 2) := edX8_tell_0.2.2.1
theorem dX8_tell_6 : decode cX8_tell 6 = .ok (.if_icmp .ne 6, 3) := edX8_tell_0.2.2.2.1
theorem dX8_tell_9 : decode cX8_tell 9 = .ok (.ldc 92, 2) := edX8_tell_0.2.2.2.2.1
theorem dX8_tell_11 : decode cX8_tell 11 = .ok (.ireturn, 1) := edX8_tell_0.2.2.2.2.2.1
theorem dX8_tell_12 : decode cX8_tell 12 = .ok (.aload_n 0, 1) := edX8_tell_0.2.2.2.2.2.2.1
theorem dX8_tell_13 : decode cX8_tell 13 = .ok (.getfield 79, 3) := edX8_tell_0.2.2.2.2.2.2.2.1
theorem dX8_tell_16 : decode cX8_tell 16 = .ok (.aload_n 0, 1) := edX8_tell_0.2.2.2.2.2.2.2.2.1
theorem dX8_tell_17 : decode cX8_tell 17 = .ok (.getfield 266, 3) := edX8_tell_0.2.2.2.2.2.2.2.2.2.1
theorem dX8_tell_20 : decode cX8_tell 20 = .ok (.iload_n 1, 1) := edX8_tell_0.2.2.2.2.2.2.2.2.2.2.1
theorem dX8_tell_21 : decode cX8_tell 21 = .ok (.iastore, 1) := edX8_tell_0.2.2.2.2.2.2.2.2.2.2.2.1
theorem dX8_tell_22 : decode cX8_tell 22 = .ok (.aload_n 0, 1) := edX8_tell_0.2.2.2.2.2.2.2.2.2.2.2.2.1
theorem dX8_tell_23 : decode cX8_tell 23 = .ok (.dup, 1) := edX8_tell_0.2.2.2.2.2.2.2.2.2.2.2.2.2.1
theorem dX8_tell_24 : decode cX8_tell 24 = .ok (.getfield 266, 3) := edX8_tell_0.2.2.2.2.2.2.2.2.2.2.2.2.2.2.1
theorem dX8_tell_27 : decode cX8_tell 27 = .ok (.iconst 1, 1) := edX8_tell_0.2.2.2.2.2.2.2.2.2.2.2.2.2.2.2.1
theorem dX8_tell_28 : decode cX8_tell 28 = .ok (.iadd, 1) := edX8_tell_0.2.2.2.2.2.2.2.2.2.2.2.2.2.2.2.2.1
theorem dX8_tell_29 : decode cX8_tell 29 = .ok (.putfield 266, 3) := edX8_tell_0.2.2.2.2.2.2.2.2.2.2.2.2.2.2.2.2.2.1
theorem dX8_tell_32 : decode cX8_tell 32 = .ok (.aload_n 0, 1) := edX8_tell_0.2.2.2.2.2.2.2.2.2.2.2.2.2.2.2.2.2.2.1
theorem dX8_tell_33 : decode cX8_tell 33 = .ok (.getfield 266, 3) := edX8_tell_0.2.2.2.2.2.2.2.2.2.2.2.2.2.2.2.2.2.2.2.1
theorem dX8_tell_36 : decode cX8_tell 36 = .ok (.ireturn, 1) := edX8_tell_0.2.2.2.2.2.2.2.2.2.2.2.2.2.2.2.2.2.2.2.2
