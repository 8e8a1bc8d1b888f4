theorem edX8_termOf_54 : (decode cX8_termOf 54 = .ok (.iload_n 3, 1)) ∧ (decode cX8_termOf 55 = .ok (.invokevirtual 111, 3)) ∧ (decode cX8_termOf 58 = .ok (.if_icmp .ge 8, 3)) ∧ (decode cX8_termOf 61 = .ok (.iload 4, 2)) ∧ (decode cX8_termOf 63 = .ok (.goto 4, 3)) ∧ (decode cX8_termOf 66 = .ok (.iload_n 3, 1)) ∧ (decode cX8_termOf 67 = .ok (.istore_n 3, 1)) ∧ (decode cX8_termOf 68 = .ok (.iinc 4 1, 3)) ∧ (decode cX8_termOf 71 = .ok (.goto (-50), 3)) ∧ (decode cX8_termOf 74 = .ok (.iload_n 3, 1)) ∧ (decode cX8_termOf 75 = .ok (.ireturn, 1)) ∧ True := dc_cj [(54, .iload_n 3, 1), (55, .invokevirtual 111, 3), (58, .if_icmp .ge 8, 3), (61, .iload 4, 2), (63, .goto 4, 3), (66, .iload_n 3, 1), (67, .istore_n 3, 1), (68, .iinc 4 1, 3), (71, .goto (-50), 3), (74, .iload_n 3, 1), (75, .ireturn, 1)] (by decide +kernel)
theorem dX8_termOf_54 : decode cX8_termOf 54 = .ok (.iload_n 3, 1) := edX8_termOf_54.1
theorem dX8_termOf_55 : decode cX8_termOf 55 = .ok (.invokevirtual 111, 3) := edX8_termOf_54.2.1
theorem dX8_termOf_58 : decode cX8_termOf 58 = .ok (.if_icmp .ge 8, 3) := edX8_termOf_54.2.2.1
theorem dX8_termOf_61 : decode cX8_termOf 61 = .ok (.iload 4, 2) := edX8_termOf_54.2.2.2.1
theorem dX8_termOf_63 : decode cX8_termOf 63 = .ok (.goto 4, 3) := edX8_termOf_54.2.2.2.2.1
theorem dX8_termOf_66 : decode cX8_termOf 66 = .ok (.iload_n 3, 1) := edX8_termOf_54.2.2.2.2.2.1
theorem dX8_termOf_67 : decode cX8_termOf 67 = .ok (.istore_n 3, 1) := edX8_termOf_54.2.2.2.2.2.2.1
theorem dX8_termOf_68 : decode cX8_termOf 68 = .ok (.iinc 4 1, 3) := edX8_termOf_54.2.2.2.2.2.2.2.1
theorem dX8_termOf_71 : decode cX8_termOf 71 = .ok (.goto (-50), 3) := edX8_termOf_54.2.2.2.2.2.2.2.2.1
theorem dX8_termOf_74 : decode cX8_termOf 74 = .ok (.iload_n 3, 1) := edX8_termOf_54.2.2.2.2.2.2.2.2.2.1
theorem dX8_termOf_75 : decode cX8_termOf 75 = .ok (.ireturn, 1) := edX8_termOf_54.2.2.2.2.2.2.2.2.2.2.1
theorem edX8_worthOf_0 : (decode cX8_worthOf 0 = .ok (.aload_n 0, 1)) ∧ (decode cX8_worthOf 1 = .ok (.iload_n 1, 1)) ∧ (decode cX8_worthOf 2 = .ok (.iconst 2, 1)) ∧ (decode cX8_worthOf 3 = .ok (.invokevirtual 101, 3)) ∧ (decode cX8_worthOf 6 = .ok (.istore_n 2, 1)) ∧ (decode cX8_worthOf 7 = .ok (.aload_n 0, 1)) ∧ (decode cX8_worthOf 8 = .ok (.iload_n 1, 1)) ∧ (decode cX8_worthOf 9 = .ok (.iconst 0, 1)) ∧ (decode cX8_worthOf 10 = .ok (.invokevirtual 101, 3)) ∧ (decode cX8_worthOf 13 = .ok (.tableswitch 58 1 5 #[35, 39, 44, 50, 55], 35)) ∧ (decode cX8_worthOf 48 = .ok (.iload_n 2, 1)) ∧ (decode cX8_worthOf 49 = .ok (.iconst 4, 1)) ∧ (decode cX8_worthOf 50 = .ok (.iadd, 1)) ∧ (decode cX8_worthOf 51 = .ok (.ireturn, 1)) ∧ (decode cX8_worthOf 52 = .ok (.bipush 99, 2)) ∧ (decode cX8_worthOf 54 = .ok (.iload_n 2, 1)) ∧ (decode cX8_worthOf 55 = .ok (.isub, 1)) ∧ (decode cX8_worthOf 56 = .ok (.ireturn, 1)) ∧ (decode cX8_worthOf 57 = .ok (.iconst 2, 1)) ∧ (decode cX8_worthOf 58 = .ok (.iload_n 2, 1)) ∧ (decode cX8_worthOf 59 = .ok (.iconst 4, 1)) ∧ (decode cX8_worthOf 60 = .ok (.iadd, 1)) ∧ (decode cX8_worthOf 61 = .ok (.imul, 1)) ∧ (decode cX8_worthOf 62 = .ok (.ireturn, 1)) ∧ (decode cX8_worthOf 63 = .ok (.bipush 90, 2)) ∧ (decode cX8_worthOf 65 = .ok (.iload_n 2, 1)) ∧ (decode cX8_worthOf 66 = .ok (.isub, 1)) ∧ (decode cX8_worthOf 67 = .ok (.ireturn, 1)) ∧ (decode cX8_worthOf 68 = .ok (.bipush 7, 2)) ∧ (decode cX8_worthOf 70 = .ok (.ireturn, 1)) ∧ (decode cX8_worthOf 71 = .ok (.iload_n 2, 1)) ∧ (decode cX8_worthOf 72 = .ok (.ireturn, 1)) ∧ True := dc_cj [(0, .aload_n 0, 1), (1, .iload_n 1, 1), (2, .iconst 2, 1), (3, .invokevirtual 101, 3), (6, .istore_n 2, 1), (7, .aload_n 0, 1), (8, .iload_n 1, 1), (9, .iconst 0, 1), (10, .invokevirtual 101, 3), (13, .tableswitch 58 1 5 #[35, 39, 44, 50, 55], 35), (48, .iload_n 2, 1), (49, .iconst 4, 1), (50, .iadd, 1), (51, .ireturn, 1), (52, .bipush 99, 2), (54, .iload_n 2, 1), (55, .isub, 1), (56, .ireturn, 1), (57, .iconst 2, 1), (58, .iload_n 2, 1), (59, .iconst 4, 1), (60, .iadd, 1), (61, .imul, 1), (62, .ireturn, 1), (63, .bipush 90, 2), (65, .iload_n 2, 1), (66, .isub, 1), (67, .ireturn, 1), (68, .bipush 7, 2), (70, .ireturn, 1), (71, .iload_n 2, 1), (72, .ireturn, 1)] (by decide +kernel)
theorem dX8_worthOf_0 : decode cX8_worthOf 0 = .ok (.aload_n 0, 1) := edX8_worthOf_0.1
theorem dX8_worthOf_1 : decode cX8_worthOf 1 = .ok (.iload_n 1, 1) := edX8_worthOf_0.2.1
theorem dX8_worthOf_2 : decode cX8_worthOf 2 = .ok (.iconst 2, 1) := edX8_worthOf_0.2.2.1
theorem dX8_worthOf_3 : decode cX8_worthOf 3 = .ok (.invokevirtual 101, 3) := edX8_worthOf_0.2.2.2.1
theorem dX8_worthOf_6 : decode cX8_worthOf 6 = .ok (.istore_n 2, 1) := edX8_worthOf_0.2.2.2.2.1
theorem dX8_worthOf_7 : decode cX8_worthOf 7 = .ok (.aload_n 0, 1) := edX8_worthOf_0.2.2.2.2.2.1
theorem dX8_worthOf_8 : decode cX8_worthOf 8 = .ok (.iload_n 1, 1) := edX8_worthOf_0.2.2.2.2.2.2.1
theorem dX8_worthOf_9 : decode cX8_worthOf 9 = .ok (.iconst 0, 1) := edX8_worthOf_0.2.2.2.2.2.2.2.1
theorem dX8_worthOf_10 : decode cX8_worthOf 10 = .ok (.invokevirtual 101, 3) := edX8_worthOf_0.2.2.2.2.2.2.2.2.1
theorem dX8_worthOf_13 : decode cX8_worthOf 13 = .ok (.tableswitch 58 1 5 #[35, 39, 44, 50, 55], 35) := edX8_worthOf_0.2.2.2.2.2.2.2.2.2.1
theorem dX8_worthOf_48 : decode cX8_worthOf 48 = .ok (.iload_n 2, 1) := edX8_worthOf_0.2.2.2.2.2.2.2.2.2.2.1
theorem dX8_worthOf_49 : decode cX8_worthOf 49 = .ok (.iconst 4, 1) := edX8_worthOf_0.2.2.2.2.2.2.2.2.2.2.2.1
theorem dX8_worthOf_50 : decode cX8_worthOf 50 = .ok (.iadd, 1) := edX8_worthOf_0.2.2.2.2.2.2.2.2.2.2.2.2.1
theorem dX8_worthOf_51 : decode cX8_worthOf 51 = .ok (.ireturn, 1) := edX8_worthOf_0.2.2.2.2.2.2.2.2.2.2.2.2.2.1
theorem dX8_worthOf_52 : decode cX8_worthOf 52 = .ok (.bipush 99, 2) := edX8_worthOf_0.2.2.2.2.2.2.2.2.2.2.2.2.2.2.1
theorem dX8_worthOf_54 : decode cX8_worthOf 54 = .ok (.iload_n 2, 1) := edX8_worthOf_0.2.2.2.2.2.2.2.2.2.2.2.2.2.2.2.1
theorem dX8_worthOf_55 : decode cX8_worthOf 55 = .ok (.isub, 1) := edX8_worthOf_0.2.2.2.2.2.2.2.2.2.2.2.2.2.2.2.2.1
theorem dX8_worthOf_56 : decode cX8_worthOf 56 = .ok (.ireturn, 1) := edX8_worthOf_0.2.2.2.2.2.2.2.2.2.2.2.2.2.2.2.2.2.1
theorem dX8_worthOf_57 : decode cX8_worthOf 57 = .ok (.iconst 2, 1) := edX8_worthOf_0.2.2.2.2.2.2.2.2.2.2.2.2.2.2.2.2.2.2.1
theorem dX8_worthOf_58 : decode cX8_worthOf 58 = .ok (.iload_n 2, 1) := edX8_worthOf_0.2.2.2.2.2.2.2.2.2.2.2.2.2.2.2.2.2.2.2.1
theorem dX8_worthOf_59 : decode cX8_worthOf 59 = .ok (.iconst 4, 1) := edX8_worthOf_0.2.2.2.2.2.2.2.2.2.2.2.2.2.2.2.2.2.2.2.2.1
theorem dX8_worthOf_60 : decode cX8_worthOf 60 = .ok (.iadd, 1) := edX8_worthOf_0.2.2.2.2.2.2.2.2.2.2.2.2.2.2.2.2.2.2.2.2.2.1
theorem dX8_worthOf_61 : decode cX8_worthOf 61 = .ok (.imul, 1) := edX8_worthOf_0.2.2.2.2.2.2.2.2.2.2.2.2.2.2.2.2.2.2.2.2.2.2.1
theorem dX8_worthOf_62 : decode cX8_worthOf 62 = .ok (.ireturn, 1) := edX8_worthOf_0.2.2.2.2.2.2.2.2.2.2.2.2.2.2.2.2.2.2.2.2.2.2.2.1
theorem dX8_worthOf_63 : decode cX8_worthOf 63 = .ok (.bipush 90, 2) := edX8_worthOf_0.2.2.2.2.2.2.2.2.2.2.2.2.2.2.2.2.2.2.2.2.2.2.2.2.1
theorem dX8_worthOf_65 : decode cX8_worthOf 65 = .ok (.iload_n 2, 1) := edX8_worthOf_0.2.2.2.2.2.2.2.2.2.2.2.2.2.2.2.2.2.2.2.2.2.2.2.2.2.1
theorem dX8_worthOf_66 : decode cX8_worthOf 66 = .ok (.isub, 1) := edX8_worthOf_0.2.2.2.2.2.2.2.2.2.2.2.2.2.2.2.2.2.2.2.2.2.2.2.2.2.2.1
theorem dX8_worthOf_67 : decode cX8_worthOf 67 = .ok (.ireturn, 1) := edX8_worthOf_0.2.2.2.2.2.2.2.2.2.2.2.2.2.2.2.2.2.2.2.2.2.2.2.2.2.2.2.1
theorem dX8_worthOf_68 : decode cX8_worthOf 68 = .ok (.bipush 7, 2) := edX8_worthOf_0.2.2.2.2.2.2.2.2.2.2.2.2.2.2.2.2.2.2.2.2.2.2.2.2.2.2.2.2.1
theorem dX8_worthOf_70 : decode cX8_worthOf 70 = .ok (.ireturn, 1) := edX8_worthOf_0.2.2.2.2.2.2.2.2.2.2.2.2.2.2.2.2.2.2.2.2.2.2.2.2.2.2.2.2.2.1
theorem dX8_worthOf_71 : decode cX8_worthOf 71 = .ok (.iload_n 2, 1) := edX8_worthOf_0.2.2.2.2.2.2.2.2.2.2.2.2.2.2.2.2.2.2.2.2.2.2.2.2.2.2.2.2.2.2.1
theorem dX8_worthOf_72 : decode cX8_worthOf 72 = .ok (.ireturn, 1) := edX8_worthOf_0.2.2.2.2.2.2.2.2.2.2.2.2.2.2.2.2.2.2.2.2.2.2.2.2.2.2.2.2.2.2.2.1
theorem edX8_told_0 : (decode cX8_told 0 = .ok (.aload_n 0, 1)) ∧ (decode cX8_told 1 = .ok (.iload_n 1, 1)) ∧ (decode cX8_told 2 = .ok (.invokevirtual 114, 3)) ∧ (decode cX8_told 5 = .ok (.ifCond .eq 13, 3)) ∧ (decode cX8_told 8 = .ok (.iload_n 2, 1)) ∧ (decode cX8_told 9 = .ok (.iconst 0, 1)) ∧ (decode cX8_told 10 = .ok (.bipush 7, 2)) ∧ (decode cX8_told 12 = .ok (.invokestatic 83, 3)) ∧ (decode cX8_told 15 = .ok (.ifCond .ne 6, 3)) ∧ (decode cX8_told 18 = .ok (.ldc 91, 2)) ∧ (decode cX8_told 20 = .ok (.ireturn, 1)) ∧ (decode cX8_told 21 = .ok (.iload_n 2, 1)) ∧ (decode cX8_told 22 = .ok (.iconst 5, 1)) ∧ (decode cX8_told 23 = .ok (.if_icmp .ge 12, 3)) ∧ (decode cX8_told 26 = .ok (.aload_n 0, 1)) ∧ (decode cX8_told 27 = .ok (.iload_n 1, 1)) ∧ (decode cX8_told 28 = .ok (.iload_n 2, 1)) ∧ (decode cX8_told 29 = .ok (.invokevirtual 101, 3)) ∧ (decode cX8_told 32 = .ok (.goto 38, 3)) ∧ (decode cX8_told 35 = .ok (.iload_n 2, 1)) ∧ (decode cX8_told 36 = .ok (.iconst 5, 1)) ∧ (decode cX8_told 37 = .ok (.if_icmp .ne 11, 3)) ∧ (decode cX8_told 40 = .ok (.aload_n 0, 1)) ∧ (decode cX8_told 41 = .ok (.iload_n 1, 1)) ∧ (decode cX8_told 42 = .ok (.invokevirtual 118, 3)) ∧ (decode cX8_told 45 = .ok (.goto 25, 3)) ∧ (decode cX8_told 48 = .ok (.iload_n 2, 1)) ∧ (decode cX8_told 49 = .ok (.bipush 6, 2)) ∧ (decode cX8_told 51 = .ok (.if_icmp .ne 14, 3)) ∧ (decode cX8_told 54 = .ok (.aload_n 0, 1)) ∧ (decode cX8_told 55 = .ok (.iload_n 1, 1)) ∧ (decode cX8_told 56 = .ok (.invokevirtual 121, 3)) ∧ True := dc_cj [(0, .aload_n 0, 1), (1, .iload_n 1, 1), (2, .invokevirtual 114, 3), (5, .ifCond .eq 13, 3), (8, .iload_n 2, 1), (9, .iconst 0, 1), (10, .bipush 7, 2), (12, .invokestatic 83, 3), (15, .ifCond .ne 6, 3), (18, .ldc 91, 2), (20, .ireturn, 1), (21, .iload_n 2, 1), (22, .iconst 5, 1), (23, .if_icmp .ge 12, 3), (26, .aload_n 0, 1), (27, .iload_n 1, 1), (28, .iload_n 2, 1), (29, .invokevirtual 101, 3), (32, .goto 38, 3), (35, .iload_n 2, 1), (36, .iconst 5, 1), (37, .if_icmp .ne 11, 3), (40, .aload_n 0, 1), (41, .iload_n 1, 1), (42, .invokevirtual 118, 3), (45, .goto 25, 3), (48, .iload_n 2, 1), (49, .bipush 6, 2), (51, .if_icmp .ne 14, 3), (54, .aload_n 0, 1), (55, .iload_n 1, 1), (56, .invokevirtual 121, 3)] (by decide +kernel)
theorem dX8_told_0 : decode cX8_told 0 = .ok (.aload_n 0, 1) := edX8_told_0.1
theorem dX8_told_1 : decode cX8_told 1 = .ok (.iload_n 1, 1) := edX8_told_0.2.1
theorem dX8_told_2 : decode cX8_told 2 = .ok (.invokevirtual 114, 3) := edX8_told_0.2.2.1
theorem dX8_told_5 : decode cX8_told 5 = .ok (.ifCond .eq 13, 3) := edX8_told_0.2.2.2.1
theorem dX8_told_8 : decode cX8_told 8 = .ok (.iload_n 2, 1) := edX8_told_0.2.2.2.2.1
theorem dX8_told_9 : decode cX8_told 9 = .ok (.iconst 0, 1) := edX8_told_0.2.2.2.2.2.1
theorem dX8_told_10 : decode cX8_told 10 = .ok (.bipush 7, 2) := edX8_told_0.2.2.2.2.2.2.1
theorem dX8_told_12 : decode cX8_told 12 = .ok (.invokestatic 83, 3) := edX8_told_0.2.2.2.2.2.2.2.1
theorem dX8_told_15 : decode cX8_told 15 = .ok (.ifCond .ne 6, 3) := edX8_told_0.2.2.2.2.2.2.2.2.1
theorem dX8_told_18 : decode cX8_told 18 = .ok (.ldc 91, 2) := edX8_told_0.2.2.2.2.2.2.2.2.2.1
theorem dX8_told_20 : decode cX8_told 20 = .ok (.ireturn, 1) := edX8_told_0.2.2.2.2.2.2.2.2.2.2.1
theorem dX8_told_21 : decode cX8_told 21 = .ok (.iload_n 2, 1) := edX8_told_0.2.2.2.2.2.2.2.2.2.2.2.1
theorem dX8_told_22 : decode cX8_told 22 = .ok (.iconst 5, 1) := edX8_told_0.2.2.2.2.2.2.2.2.2.2.2.2.1
theorem dX8_told_23 : decode cX8_told 23 = .ok (.if_icmp .ge 12, 3) := edX8_told_0.2.2.2.2.2.2.2.2.2.2.2.2.2.1
theorem dX8_told_26 : decode cX8_told 26 = .ok (.aload_n 0, 1) := edX8_told_0.2.2.2.2.2.2.2.2.2.2.2.2.2.2.1
theorem dX8_told_27 : decode cX8_told 27 = .ok (.iload_n 1, 1) := edX8_told_0.2.2.2.2.2.2.2.2.2.2.2.2.2.2.2.1
theorem dX8_told_28 : decode cX8_told 28 = .ok (.iload_n 2, 1) := edX8_told_0.2.2.2.2.2.2.2.2.2.2.2.2.2.2.2.2.1
theorem dX8_told_29 : decode cX8_told 29 = .ok (.invokevirtual 101, 3) := edX8_told_0.2.2.2.2.2.2.2.2.2.2.2.2.2.2.2.2.2.1
theorem dX8_told_32 : decode cX8_told 32 = .ok (.goto 38, 3) := edX8_told_0.2.2.2.2.2.2.2.2.2.2.2.2.2.2.2.2.2.2.1
theorem dX8_told_35 : decode cX8_told 35 = .ok (.iload_n 2, 1) := edX8_told_0.2.2.2.2.2.2.2.2.2.2.2.2.2.2.2.2.2.2.2.1
theorem dX8_told_36 : decode cX8_told 36 = .ok (.iconst 5, 1) := edX8_told_0.2.2.2.2.2.2.2.2.2.2.2.2.2.2.2.2.2.2.2.2.1
theorem dX8_told_37 : decode cX8_told 37 = .ok (.if_icmp .ne 11, 3) := edX8_told_0.2.2.2.2.2.2.2.2.2.2.2.2.2.2.2.2.2.2.2.2.2.1
theorem dX8_told_40 : decode cX8_told 40 = .ok (.aload_n 0, 1) := edX8_told_0.2.2.2.2.2.2.2.2.2.2.2.2.2.2.2.2.2.2.2.2.2.2.1
theorem dX8_told_41 : decode cX8_told 41 = .ok (.iload_n 1, 1) := edX8_told_0.2.2.2.2.2.2.2.2.2.2.2.2.2.2.2.2.2.2.2.2.2.2.2.1
theorem dX8_told_42 : decode cX8_told 42 = .ok (.invokevirtual 118, 3) := edX8_told_0.2.2.2.2.2.2.2.2.2.2.2.2.2.2.2.2.2.2.2.2.2.2.2.2.1
theorem dX8_told_45 : decode cX8_told 45 = .ok (.goto 25, 3) := edX8_told_0.2.2.2.2.2.2.2.2.2.2.2.2.2.2.2.2.2.2.2.2.2.2.2.2.2.1
theorem dX8_told_48 : decode cX8_told 48 = .ok (.iload_n 2, 1) := edX8_told_0.2.2.2.2.2.2.2.2.2.2.2.2.2.2.2.2.2.2.2.2.2.2.2.2.2.2.1
theorem dX8_told_49 : decode cX8_told 49 = .ok (.bipush 6, 2) := edX8_told_0.2.2.2.2.2.2.2.2.2.2.2.2.2.2.2.2.2.2.2.2.2.2.2.2.2.2.2.1
theorem dX8_told_51 : decode cX8_told 51 = .ok (.if_icmp .ne 14, 3) := edX8_told_0.2.2.2.2.2.2.2.2.2.2.2.2.2.2.2.2.2.2.2.2.2.2.2.2.2.2.2.2.1
theorem dX8_told_54 : decode cX8_told 54 = .ok (.aload_n 0, 1) := edX8_told_0.2.2.2.2.2.2.2.2.2.2.2.2.2.2.2.2.2.2.2.2.2.2.2.2.2.2.2.2.2.1
theorem dX8_told_55 : decode cX8_told 55 = .ok (.iload_n 1, 1) := edX8_told_0.2.2.2.2.2.2.2.2.2.2.2.2.2.2.2.2.2.2.2.2.2.2.2.2.2.2.2.2.2.2.1
theorem dX8_told_56 : decode cX8_told 56 = .ok (.invokevirtual 121, 3) := edX8_told_0.2.2.2.2.2.2.2.2.2.2.2.2.2.2.2.2.2.2.2.2.2.2.2.2.2.2.2.2.2.2.2.1
theorem edX8_told_59 : (decode cX8_told 59 = .ok (.invokestatic 124, 3)) ∧ (decode cX8_told 62 = .ok (.goto 8, 3)) ∧ (decode cX8_told 65 = .ok (.aload_n 0, 1)) ∧ (decode cX8_told 66 = .ok (.iload_n 1, 1)) ∧ (decode cX8_told 67 = .ok (.invokevirtual 127, 3)) ∧ (decode cX8_told 70 = .ok (.ireturn, 1)) ∧ True := dc_cj [(59, .invokestatic 124, 3), (62, .goto 8, 3), (65, .aload_n 0, 1), (66, .iload_n 1, 1), (67, .invokevirtual 127, 3), (70, .ireturn, 1)] (by decide +kernel)
theorem dX8_told_59 : decode cX8_told 59 = .ok (.invokestatic 124, 3) := edX8_told_59.1
theorem dX8_told_62 : decode cX8_told 62 = .ok (.goto 8, 3) := edX8_told_59.2.1
theorem dX8_told_65 : decode cX8_told 65 = .ok (.aload_n 0, 1) := edX8_told_59.2.2.1
theorem dX8_told_66 : decode cX8_told 66 = .ok (.iload_n 1, 1) := edX8_told_59.2.2.2.1
theorem dX8_told_67 : decode cX8_told 67 = .ok (.invokevirtual 127, 3) := edX8_told_59.2.2.2.2.1
theorem dX8_told_70 : decode cX8_told 70 = .ok (.ireturn, 1) := edX8_told_59.2.2.2.2.2.1
theorem edX8_isUnder_0 : (decode cX8_isUnder 0 = .ok (.iload_n 1, 1)) ∧ (decode cX8_isUnder 1 = .ok (.ifCond .eq 28, 3)) ∧ (decode cX8_isUnder 4 = .ok (.iload_n 0, 1)) ∧ (decode cX8_isUnder 5 = .ok (.iload_n 1, 1)) ∧ (decode cX8_isUnder 6 = .ok (.if_icmp .eq 23, 3)) ∧ (decode cX8_isUnder 9 = .ok (.iload_n 1, 1)) ∧ (decode cX8_isUnder 10 = .ok (.iconst 1, 1)) ∧ (decode cX8_isUnder 11 = .ok (.if_icmp .ne 8, 3)) ∧ (decode cX8_isUnder 14 = .ok (.iload_n 0, 1)) ∧ (decode cX8_isUnder 15 = .ok (.iconst 3, 1)) ∧ (decode cX8_isUnder 16 = .ok (.if_icmp .eq 13, 3)) ∧ (decode cX8_isUnder 19 = .ok (.iload_n 1, 1)) ∧ (decode cX8_isUnder 20 = .ok (.iconst 2, 1)) ∧ (decode cX8_isUnder 21 = .ok (.if_icmp .ne 12, 3)) ∧ (decode cX8_isUnder 24 = .ok (.iload_n 0, 1)) ∧ (decode cX8_isUnder 25 = .ok (.iconst 4, 1)) ∧ (decode cX8_isUnder 26 = .ok (.if_icmp .ne 7, 3)) ∧ (decode cX8_isUnder 29 = .ok (.iconst 1, 1)) ∧ (decode cX8_isUnder 30 = .ok (.goto 4, 3)) ∧ (decode cX8_isUnder 33 = .ok (.iconst 0, 1)) ∧ (decode cX8_isUnder 34 = .ok (.ireturn, 1)) ∧ True := dc_cj [(0, .iload_n 1, 1), (1, .ifCond .eq 28, 3), (4, .iload_n 0, 1), (5, .iload_n 1, 1), (6, .if_icmp .eq 23, 3), (9, .iload_n 1, 1), (10, .iconst 1, 1), (11, .if_icmp .ne 8, 3), (14, .iload_n 0, 1), (15, .iconst 3, 1), (16, .if_icmp .eq 13, 3), (19, .iload_n 1, 1), (20, .iconst 2, 1), (21, .if_icmp .ne 12, 3), (24, .iload_n 0, 1), (25, .iconst 4, 1), (26, .if_icmp .ne 7, 3), (29, .iconst 1, 1), (30, .goto 4, 3), (33, .iconst 0, 1), (34, .ireturn, 1)] (by decide +kernel)
theorem dX8_isUnder_0 : decode cX8_isUnder 0 = .ok (.iload_n 1, 1) := edX8_isUnder_0.1
theorem dX8_isUnder_1 : decode cX8_isUnder 1 = .ok (.ifCond .eq 28, 3) := edX8_isUnder_0.2.1
theorem dX8_isUnder_4 : decode cX8_isUnder 4 = .ok (.iload_n 0, 1) := edX8_isUnder_0.2.2.1
theorem dX8_isUnder_5 : decode cX8_isUnder 5 = .ok (.iload_n 1, 1) := edX8_isUnder_0.2.2.2.1
theorem dX8_isUnder_6 : decode cX8_isUnder 6 = .ok (.if_icmp .eq 23, 3) := edX8_isUnder_0.2.2.2.2.1
theorem dX8_isUnder_9 : decode cX8_isUnder 9 = .ok (.iload_n 1, 1) := edX8_isUnder_0.2.2.2.2.2.1
theorem dX8_isUnder_10 : decode cX8_isUnder 10 = .ok (.iconst 1, 1) := edX8_isUnder_0.2.2.2.2.2.2.1
theorem dX8_isUnder_11 : decode cX8_isUnder 11 = .ok (.if_icmp .ne 8, 3) := edX8_isUnder_0.2.2.2.2.2.2.2.1
theorem dX8_isUnder_14 : decode cX8_isUnder 14 = .ok (.iload_n 0, 1) := edX8_isUnder_0.2.2.2.2.2.2.2.2.1
theorem dX8_isUnder_15 : decode cX8_isUnder 15 = .ok (.iconst 3, 1) := edX8_isUnder_0.2.2.2.2.2.2.2.2.2.1
theorem dX8_isUnder_16 : decode cX8_isUnder 16 = .ok (.if_icmp .eq 13, 3) := edX8_isUnder_0.2.2.2.2.2.2.2.2.2.2.1
theorem dX8_isUnder_19 : decode cX8_isUnder 19 = .ok (.iload_n 1, 1) := edX8_isUnder_0.2.2.2.2.2.2.2.2.2.2.2.1
theorem dX8_isUnder_20 : decode cX8_isUnder 20 = .ok (.iconst 2, 1) := edX8_isUnder_0.2.2.2.2.2.2.2.2.2.2.2.2.1
theorem dX8_isUnder_21 : decode cX8_isUnder 21 = .ok (.if_icmp .ne 12, 3) := edX8_isUnder_0.2.2.2.2.2.2.2.2.2.2.2.2.2.1
theorem dX8_isUnder_24 : decode cX8_isUnder 24 = .ok (.iload_n 0, 1) := edX8_isUnder_0.2.2.2.2.2.2.2.2.2.2.2.2.2.2.1
theorem dX8_isUnder_25 : decode cX8_isUnder 25 = .ok (.iconst 4, 1) := edX8_isUnder_0.2.2.2.2.2.2.2.2.2.2.2.2.2.2.2.1
theorem dX8_isUnder_26 : decode cX8_isUnder 26 = .ok (.if_icmp .ne 7, 3) := edX8_isUnder_0.2.2.2.2.2.2.2.2.2.2.2.2.2.2.2.2.1
theorem dX8_isUnder_29 : decode cX8_isUnder 29 = .ok (.iconst 1, 1) := edX8_isUnder_0.2.2.2.2.2.2.2.2.2.2.2.2.2.2.2.2.2.1
theorem dX8_isUnder_30 : decode cX8_isUnder 30 = .ok (.goto 4, 3) := edX8_isUnder_0.2.2.2.2.2.2.2.2.2.2.2.2.2.2.2.2.2.2.1
theorem dX8_isUnder_33 : decode cX8_isUnder 33 = .ok (.iconst 0, 1) := edX8_isUnder_0.2.2.2.2.2.2.2.2.2.2.2.2.2.2.2.2.2.2.2.1
theorem dX8_isUnder_34 : decode cX8_isUnder 34 = .ok (.ireturn, 1) := edX8_isUnder_0.2.2.2.2.2.2.2.2.2.2.2.2.2.2.2.2.2.2.2.2.1
theorem edX8_as_0 : (decode cX8_as 0 = .ok (.aload_n 0, 1)) ∧ (decode cX8_as 1 = .ok (.iload_n 1, 1)) ∧ (decode cX8_as 2 = .ok (.invokevirtual 114, 3)) ∧ (decode cX8_as 5 = .ok (.ifCond .eq 12, 3)) ∧ (decode cX8_as 8 = .ok (.iload_n 2, 1)) ∧ (decode cX8_as 9 = .ok (.iconst 0, 1)) ∧ (decode cX8_as 10 = .ok (.iconst 5, 1)) ∧ (decode cX8_as 11 = .ok (.invokestatic 83, 3)) ∧ (decode cX8_as 14 = .ok (.ifCond .ne 6, 3)) ∧ (decode cX8_as 17 = .ok (.ldc 91, 2)) ∧ (decode cX8_as 19 = .ok (.ireturn, 1)) ∧ (decode cX8_as 20 = .ok (.aload_n 0, 1)) ∧ (decode cX8_as 21 = .ok (.iload_n 1, 1)) ∧ (decode cX8_as 22 = .ok (.iconst 0, 1)) ∧ (decode cX8_as 23 = .ok (.invokevirtual 101, 3)) ∧ (decode cX8_as 26 = .ok (.iload_n 2, 1)) ∧ (decode cX8_as 27 = .ok (.invokestatic 130, 3)) ∧ (decode cX8_as 30 = .ok (.ifCond .eq 12, 3)) ∧ (decode cX8_as 33 = .ok (.aload_n 0, 1)) ∧ (decode cX8_as 34 = .ok (.iload_n 1, 1)) ∧ (decode cX8_as 35 = .ok (.iconst 2, 1)) ∧ (decode cX8_as 36 = .ok (.invokevirtual 101, 3)) ∧ (decode cX8_as 39 = .ok (.goto 5, 3)) ∧ (decode cX8_as 42 = .ok (.ldc 134, 2)) ∧ (decode cX8_as 44 = .ok (.ireturn, 1)) ∧ True := dc_cj [(0, .aload_n 0, 1), (1, .iload_n 1, 1), (2, .invokevirtual 114, 3), (5, .ifCond .eq 12, 3), (8, .iload_n 2, 1), (9, .iconst 0, 1), (10, .iconst 5, 1), (11, .invokestatic 83, 3), (14, .ifCond .ne 6, 3), (17, .ldc 91, 2), (19, .ireturn, 1), (20, .aload_n 0, 1), (21, .iload_n 1, 1), (22, .iconst 0, 1), (23, .invokevirtual 101, 3), (26, .iload_n 2, 1), (27, .invokestatic 130, 3), (30, .ifCond .eq 12, 3), (33, .aload_n 0, 1), (34, .iload_n 1, 1), (35, .iconst 2, 1), (36, .invokevirtual 101, 3), (39, .goto 5, 3), (42, .ldc 134, 2), (44, .ireturn, 1)] (by decide +kernel)
theorem dX8_as_0 : decode cX8_as 0 = .ok (.aload_n 0, 1) := edX8_as_0.1
theorem dX8_as_1 : decode cX8_as 1 = .ok (.iload_n 1, 1) := edX8_as_0.2.1
theorem dX8_as_2 : decode cX8_as 2 = .ok (.invokevirtual 114, 3) := edX8_as_0.2.2.1
theorem dX8_as_5 : decode cX8_as 5 = .ok (.ifCond .eq 12, 3) := edX8_as_0.2.2.2.1
theorem dX8_as_8 : decode cX8_as 8 = .ok (.iload_n 2, 1) := edX8_as_0.2.2.2.2.1
theorem dX8_as_9 : decode cX8_as 9 = .ok (.iconst 0, 1) := edX8_as_0.2.2.2.2.2.1
theorem dX8_as_10 : decode cX8_as 10 = .ok (.iconst 5, 1) := edX8_as_0.2.2.2.2.2.2.1
theorem dX8_as_11 : decode cX8_as 11 = .ok (.invokestatic 83, 3) := edX8_as_0.2.2.2.2.2.2.2.1
theorem dX8_as_14 : decode cX8_as 14 = .ok (.ifCond .ne 6, 3) := edX8_as_0.2.2.2.2.2.2.2.2.1
theorem dX8_as_17 : decode cX8_as 17 = .ok (.ldc 91, 2) := edX8_as_0.2.2.2.2.2.2.2.2.2.1
theorem dX8_as_19 : decode cX8_as 19 = .ok (.ireturn, 1) := edX8_as_0.2.2.2.2.2.2.2.2.2.2.1
theorem dX8_as_20 : decode cX8_as 20 = .ok (.aload_n 0, 1) := edX8_as_0.2.2.2.2.2.2.2.2.2.2.2.1
theorem dX8_as_21 : decode cX8_as 21 = .ok (.iload_n 1, 1) := edX8_as_0.2.2.2.2.2.2.2.2.2.2.2.2.1
theorem dX8_as_22 : decode cX8_as 22 = .ok (.iconst 0, 1) := edX8_as_0.2.2.2.2.2.2.2.2.2.2.2.2.2.1
theorem dX8_as_23 : decode cX8_as 23 = .ok (.invokevirtual 101, 3) := edX8_as_0.2.2.2.2.2.2.2.2.2.2.2.2.2.2.1
theorem dX8_as_26 : decode cX8_as 26 = .ok (.iload_n 2, 1) := edX8_as_0.2.2.2.2.2.2.2.2.2.2.2.2.2.2.2.1
theorem dX8_as_27 : decode cX8_as 27 = .ok (.invokestatic 130, 3) := edX8_as_0.2.2.2.2.2.2.2.2.2.2.2.2.2.2.2.2.1
theorem dX8_as_30 : decode cX8_as 30 = .ok (.ifCond .eq 12, 3) := edX8_as_0.2.2.2.2.2.2.2.2.2.2.2.2.2.2.2.2.2.1
theorem dX8_as_33 : decode cX8_as 33 = .ok (.aload_n 0, 1) := edX8_as_0.2.2.2.2.2.2.2.2.2.2.2.2.2.2.2.2.2.2.1
theorem dX8_as_34 : decode cX8_as 34 = .ok (.iload_n 1, 1) := edX8_as_0.2.2.2.2.2.2.2.2.2.2.2.2.2.2.2.2.2.2.2.1
theorem dX8_as_35 : decode cX8_as 35 = .ok (.iconst 2, 1) := edX8_as_0.2.2.2.2.2.2.2.2.2.2.2.2.2.2.2.2.2.2.2.2.1
theorem dX8_as_36 : decode cX8_as 36 = .ok (.invokevirtual 101, 3) := edX8_as_0.2.2.2.2.2.2.2.2.2.2.2.2.2.2.2.2.2.2.2.2.2.1
theorem dX8_as_39 : decode cX8_as 39 = .ok (.goto 5, 3) := edX8_as_0.2.2.2.2.2.2.2.2.2.2.2.2.2.2.2.2.2.2.2.2.2.2.1
theorem dX8_as_42 : decode cX8_as 42 = .ok (.ldc 134, 2) := edX8_as_0.2.2.2.2.2.2.2.2.2.2.2.2.2.2.2.2.2.2.2.2.2.2.2.1
theorem dX8_as_44 : decode cX8_as 44 = .ok (.ireturn, 1) := edX8_as_0.2.2.2.2.2.2.2.2.2.2.2.2.2.2.2.2.2.2.2.2.2.2.2.2.1
theorem edX8_turns_0 : (decode cX8_turns 0 = .ok (.aload_n 0, 1)) ∧ (decode cX8_turns 1 = .ok (.iload_n 1, 1)) ∧ (decode cX8_turns 2 = .ok (.invokevirtual 114, 3)) ∧ (decode cX8_turns 5 = .ok (.ifCond .eq 26, 3)) ∧ (decode cX8_turns 8 = .ok (.iload_n 2, 1)) ∧ (decode cX8_turns 9 = .ok (.iconst 0, 1)) ∧ (decode cX8_turns 10 = .ok (.iconst 5, 1)) ∧ (decode cX8_turns 11 = .ok (.invokestatic 83, 3)) ∧ (decode cX8_turns 14 = .ok (.ifCond .eq 17, 3)) ∧ (decode cX8_turns 17 = .ok (.aload_n 0, 1)) ∧ (decode cX8_turns 18 = .ok (.bipush 22, 2)) ∧ (decode cX8_turns 20 = .ok (.iconst 5, 1)) ∧ (decode cX8_turns 21 = .ok (.iload_n 1, 1)) ∧ (decode cX8_turns 22 = .ok (.imul, 1)) ∧ (decode cX8_turns 23 = .ok (.iadd, 1)) ∧ (decode cX8_turns 24 = .ok (.iload_n 2, 1)) ∧ (decode cX8_turns 25 = .ok (.invokevirtual 135, 3)) ∧ (decode cX8_turns 28 = .ok (.goto 5, 3)) ∧ (decode cX8_turns 31 = .ok (.ldc 91, 2)) ∧ (decode cX8_turns 33 = .ok (.ireturn, 1)) ∧ True := dc_cj [(0, .aload_n 0, 1), (1, .iload_n 1, 1), (2, .invokevirtual 114, 3), (5, .ifCond .eq 26, 3), (8, .iload_n 2, 1), (9, .iconst 0, 1), (10, .iconst 5, 1), (11, .invokestatic 83, 3), (14, .ifCond .eq 17, 3), (17, .aload_n 0, 1), (18, .bipush 22, 2), (20, .iconst 5, 1), (21, .iload_n 1, 1), (22, .imul, 1), (23, .iadd, 1), (24, .iload_n 2, 1), (25, .invokevirtual 135, 3), (28, .goto 5, 3), (31, .ldc 91, 2), (33, .ireturn, 1)] (by decide +kernel)
theorem dX8_turns_0 : decode cX8_turns 0 = .ok (.aload_n 0, 1) := edX8_turns_0.1
theorem dX8_turns_1 : decode cX8_turns 1 = .ok (.iload_n 1, 1) := edX8_turns_0.2.1
theorem dX8_turns_2 : decode cX8_turns 2 = .ok (.invokevirtual 114, 3) := edX8_turns_0.2.2.1
theorem dX8_turns_5 : decode cX8_turns 5 = .ok (.ifCond .eq 26, 3) := edX8_turns_0.2.2.2.1
theorem dX8_turns_8 : decode cX8_turns 8 = .ok (.iload_n 2, 1) := edX8_turns_0.2.2.2.2.1
theorem dX8_turns_9 : decode cX8_turns 9 = .ok (.iconst 0, 1) := edX8_turns_0.2.2.2.2.2.1
theorem dX8_turns_10 : decode cX8_turns 10 = .ok (.iconst 5, 1) := edX8_turns_0.2.2.2.2.2.2.1
theorem dX8_turns_11 : decode cX8_turns 11 = .ok (.invokestatic 83, 3) := edX8_turns_0.2.2.2.2.2.2.2.1
theorem dX8_turns_14 : decode cX8_turns 14 = .ok (.ifCond .eq 17, 3) := edX8_turns_0.2.2.2.2.2.2.2.2.1
theorem dX8_turns_17 : decode cX8_turns 17 = .ok (.aload_n 0, 1) := edX8_turns_0.2.2.2.2.2.2.2.2.2.1
theorem dX8_turns_18 : decode cX8_turns 18 = .ok (.bipush 22, 2) := edX8_turns_0.2.2.2.2.2.2.2.2.2.2.1
theorem dX8_turns_20 : decode cX8_turns 20 = .ok (.iconst 5, 1) := edX8_turns_0.2.2.2.2.2.2.2.2.2.2.2.1
theorem dX8_turns_21 : decode cX8_turns 21 = .ok (.iload_n 1, 1) := edX8_turns_0.2.2.2.2.2.2.2.2.2.2.2.2.1
theorem dX8_turns_22 : decode cX8_turns 22 = .ok (.imul, 1) := edX8_turns_0.2.2.2.2.2.2.2.2.2.2.2.2.2.1
theorem dX8_turns_23 : decode cX8_turns 23 = .ok (.iadd, 1) := edX8_turns_0.2.2.2.2.2.2.2.2.2.2.2.2.2.2.1
theorem dX8_turns_24 : decode cX8_turns 24 = .ok (.iload_n 2, 1) := edX8_turns_0.2.2.2.2.2.2.2.2.2.2.2.2.2.2.2.1
theorem dX8_turns_25 : decode cX8_turns 25 = .ok (.invokevirtual 135, 3) := edX8_turns_0.2.2.2.2.2.2.2.2.2.2.2.2.2.2.2.2.1
theorem dX8_turns_28 : decode cX8_turns 28 = .ok (.goto 5, 3) := edX8_turns_0.2.2.2.2.2.2.2.2.2.2.2.2.2.2.2.2.2.1
theorem dX8_turns_31 : decode cX8_turns 31 = .ok (.ldc 91, 2) := edX8_turns_0.2.2.2.2.2.2.2.2.2.2.2.2.2.2.2.2.2.2.1
theorem dX8_turns_33 : decode cX8_turns 33 = .ok (.ireturn, 1) := edX8_turns_0.2.2.2.2.2.2.2.2.2.2.2.2.2.2.2.2.2.2.2.1
theorem edX8_set_0 : (decode cX8_set 0 = .ok (.aload_n 0, 1)) ∧ (decode cX8_set 1 = .ok (.iload_n 1, 1)) ∧ (decode cX8_set 2 = .ok (.invokevirtual 114, 3)) ∧ (decode cX8_set 5 = .ok (.ifCond .eq 47, 3)) ∧ (decode cX8_set 8 = .ok (.iload_n 2, 1)) ∧ (decode cX8_set 9 = .ok (.iconst 1, 1)) ∧ (decode cX8_set 10 = .ok (.iconst 2, 1)) ∧ (decode cX8_set 11 = .ok (.invokestatic 83, 3)) ∧ (decode cX8_set 14 = .ok (.ifCond .eq 38, 3)) ∧ (decode cX8_set 17 = .ok (.iload_n 3, 1)) ∧ (decode cX8_set 18 = .ok (.iconst 0, 1)) ∧ (decode cX8_set 19 = .ok (.iload_n 2, 1)) ∧ (decode cX8_set 20 = .ok (.iconst 1, 1)) ∧ (decode cX8_set 21 = .ok (.if_icmp .ne 7, 3)) ∧ (decode cX8_set 24 = .ok (.iconst 1, 1)) ∧ (decode cX8_set 25 = .ok (.goto 5, 3)) ∧ (decode cX8_set 28 = .ok (.bipush 99, 2)) ∧ (decode cX8_set 30 = .ok (.invokestatic 83, 3)) ∧ (decode cX8_set 33 = .ok (.ifCond .eq 19, 3)) ∧ (decode cX8_set 36 = .ok (.aload_n 0, 1)) ∧ (decode cX8_set 37 = .ok (.bipush 22, 2)) ∧ (decode cX8_set 39 = .ok (.iconst 5, 1)) ∧ (decode cX8_set 40 = .ok (.iload_n 1, 1)) ∧ (decode cX8_set 41 = .ok (.imul, 1)) ∧ (decode cX8_set 42 = .ok (.iadd, 1)) ∧ (decode cX8_set 43 = .ok (.iload_n 2, 1)) ∧ (decode cX8_set 44 = .ok (.iadd, 1)) ∧ (decode cX8_set 45 = .ok (.iload_n 3, 1)) ∧ (decode cX8_set 46 = .ok (.invokevirtual 135, 3)) ∧ (decode cX8_set 49 = .ok (.goto 5, 3)) ∧ (decode cX8_set 52 = .ok (.ldc 91, 2)) ∧ (decode cX8_set 54 = .ok (.ireturn, 1)) ∧ True := dc_cj [(0, .aload_n 0, 1), (1, .iload_n 1, 1), (2, .invokevirtual 114, 3), (5, .ifCond .eq 47, 3), (8, .iload_n 2, 1), (9, .iconst 1, 1), (10, .iconst 2, 1), (11, .invokestatic 83, 3), (14, .ifCond .eq 38, 3), (17, .iload_n 3, 1), (18, .iconst 0, 1), (19, .iload_n 2, 1), (20, .iconst 1, 1), (21, .if_icmp .ne 7, 3), (24, .iconst 1, 1), (25, .goto 5, 3), (28, .bipush 99, 2), (30, .invokestatic 83, 3), (33, .ifCond .eq 19, 3), (36, .aload_n 0, 1), (37, .bipush 22, 2), (39, .iconst 5, 1), (40, .iload_n 1, 1), (41, .imul, 1), (42, .iadd, 1), (43, .iload_n 2, 1), (44, .iadd, 1), (45, .iload_n 3, 1), (46, .invokevirtual 135, 3), (49, .goto 5, 3), (52, .ldc 91, 2), (54, .ireturn, 1)] (by decide +kernel)
theorem dX8_set_0 : decode cX8_set 0 = .ok (.aload_n 0, 1) := edX8_set_0.1
theorem dX8_set_1 : decode cX8_set 1 = .ok (.iload_n 1, 1) := edX8_set_0.2.1
theorem dX8_set_2 : decode cX8_set 2 = .ok (.invokevirtual 114, 3) := edX8_set_0.2.2.1
theorem dX8_set_5 : decode cX8_set 5 = .ok (.ifCond .eq 47, 3) := edX8_set_0.2.2.2.1
theorem dX8_set_8 : decode cX8_set 8 = .ok (.iload_n 2, 1) := edX8_set_0.2.2.2.2.1
theorem dX8_set_9 : decode cX8_set 9 = .ok (.iconst 1, 1) := edX8_set_0.2.2.2.2.2.1
theorem dX8_set_10 : decode cX8_set 10 = .ok (.iconst 2, 1) := edX8_set_0.2.2.2.2.2.2.1
theorem dX8_set_11 : decode cX8_set 11 = .ok (.invokestatic 83, 3) := edX8_set_0.2.2.2.2.2.2.2.1
theorem dX8_set_14 : decode cX8_set 14 = .ok (.ifCond .eq 38, 3) := edX8_set_0.2.2.2.2.2.2.2.2.1
theorem dX8_set_17 : decode cX8_set 17 = .ok (.iload_n 3, 1) := edX8_set_0.2.2.2.2.2.2.2.2.2.1
theorem dX8_set_18 : decode cX8_set 18 = .ok (.iconst 0, 1) := edX8_set_0.2.2.2.2.2.2.2.2.2.2.1
theorem dX8_set_19 : decode cX8_set 19 = .ok (.iload_n 2, 1) := edX8_set_0.2.2.2.2.2.2.2.2.2.2.2.1
theorem dX8_set_20 : decode cX8_set 20 = .ok (.iconst 1, 1) := edX8_set_0.2.2.2.2.2.2.2.2.2.2.2.2.1
theorem dX8_set_21 : decode cX8_set 21 = .ok (.if_icmp .ne 7, 3) := edX8_set_0.2.2.2.2.2.2.2.2.2.2.2.2.2.1
theorem dX8_set_24 : decode cX8_set 24 = .ok (.iconst 1, 1) := edX8_set_0.2.2.2.2.2.2.2.2.2.2.2.2.2.2.1
theorem dX8_set_25 : decode cX8_set 25 = .ok (.goto 5, 3) := edX8_set_0.2.2.2.2.2.2.2.2.2.2.2.2.2.2.2.1
theorem dX8_set_28 : decode cX8_set 28 = .ok (.bipush 99, 2) := edX8_set_0.2.2.2.2.2.2.2.2.2.2.2.2.2.2.2.2.1
theorem dX8_set_30 : decode cX8_set 30 = .ok (.invokestatic 83, 3) := edX8_set_0.2.2.2.2.2.2.2.2.2.2.2.2.2.2.2.2.2.1
theorem dX8_set_33 : decode cX8_set 33 = .ok (.ifCond .eq 19, 3) := edX8_set_0.2.2.2.2.2.2.2.2.2.2.2.2.2.2.2.2.2.2.1
theorem dX8_set_36 : decode cX8_set 36 = .ok (.aload_n 0, 1) := edX8_set_0.2.2.2.2.2.2.2.2.2.2.2.2.2.2.2.2.2.2.2.1
theorem dX8_set_37 : decode cX8_set 37 = .ok (.bipush 22, 2) := edX8_set_0.2.2.2.2.2.2.2.2.2.2.2.2.2.2.2.2.2.2.2.2.1
theorem dX8_set_39 : decode cX8_set 39 = .ok (.iconst 5, 1) := edX8_set_0.2.2.2.2.2.2.2.2.2.2.2.2.2.2.2.2.2.2.2.2.2.1
theorem dX8_set_40 : decode cX8_set 40 = .ok (.iload_n 1, 1) := edX8_set_0.2.2.2.2.2.2.2.2.2.2.2.2.2.2.2.2.2.2.2.2.2.2.1
theorem dX8_set_41 : decode cX8_set 41 = .ok (.imul, 1) := edX8_set_0.2.2.2.2.2.2.2.2.2.2.2.2.2.2.2.2.2.2.2.2.2.2.2.1
theorem dX8_set_42 : decode cX8_set 42 = .ok (.iadd, 1) := edX8_set_0.2.2.2.2.2.2.2.2.2.2.2.2.2.2.2.2.2.2.2.2.2.2.2.2.1
theorem dX8_set_43 : decode cX8_set 43 = .ok (.iload_n 2, 1) := edX8_set_0.2.2.2.2.2.2.2.2.2.2.2.2.2.2.2.2.2.2.2.2.2.2.2.2.2.1
theorem dX8_set_44 : decode cX8_set 44 = .ok (.iadd, 1) := edX8_set_0.2.2.2.2.2.2.2.2.2.2.2.2.2.2.2.2.2.2.2.2.2.2.2.2.2.2.1
theorem dX8_set_45 : decode cX8_set 45 = .ok (.iload_n 3, 1) := edX8_set_0.2.2.2.2.2.2.2.2.2.2.2.2.2.2.2.2.2.2.2.2.2.2.2.2.2.2.2.1
theorem dX8_set_46 : decode cX8_set 46 = .ok (.invokevirtual 135, 3) := edX8_set_0.2.2.2.2.2.2.2.2.2.2.2.2.2.2.2.2.2.2.2.2.2.2.2.2.2.2.2.2.1
theorem dX8_set_49 : decode cX8_set 49 = .ok (.goto 5, 3) := edX8_set_0.2.2.2.2.2.2.2.2.2.2.2.2.2.2.2.2.2.2.2.2.2.2.2.2.2.2.2.2.2.1
theorem dX8_set_52 : decode cX8_set 52 = .ok (.ldc 91, 2) := edX8_set_0.2.2.2.2.2.2.2.2.2.2.2.2.2.2.2.2.2.2.2.2.2.2.2.2.2.2.2.2.2.2.1
theorem dX8_set_54 : decode cX8_set 54 = .ok (.ireturn, 1) := edX8_set_0.2.2.2.2.2.2.2.2.2.2.2.2.2.2.2.2.2.2.2.2.2.2.2.2.2.2.2.2.2.2.2.1
theorem edX8_stand_0 : (decode cX8_stand 0 = .ok (.iload_n 1, 1)) ∧ (decode cX8_stand 1 = .ok (.iconst 0, 1)) ∧ (decode cX8_stand 2 = .ok (.iconst 3, 1)) ∧ (decode cX8_stand 3 = .ok (.invokestatic 83, 3)) ∧ (decode cX8_stand 6 = .ok (.ifCond .eq 25, 3)) ∧ (decode cX8_stand 9 = .ok (.iload_n 2, 1)) ∧ (decode cX8_stand 10 = .ok (.iconst 0, 1)) ∧ (decode cX8_stand 11 = .ok (.bipush 9, 2)) ∧ (decode cX8_stand 13 = .ok (.invokestatic 83, 3)) ∧ (decode cX8_stand 16 = .ok (.ifCond .eq 15, 3)) ∧ (decode cX8_stand 19 = .ok (.aload_n 0, 1)) ∧ (decode cX8_stand 20 = .ok (.bipush 8, 2)) ∧ (decode cX8_stand 22 = .ok (.iload_n 1, 1)) ∧ (decode cX8_stand 23 = .ok (.iadd, 1)) ∧ (decode cX8_stand 24 = .ok (.iload_n 2, 1)) ∧ (decode cX8_stand 25 = .ok (.invokevirtual 135, 3)) ∧ (decode cX8_stand 28 = .ok (.goto 5, 3)) ∧ (decode cX8_stand 31 = .ok (.ldc 91, 2)) ∧ (decode cX8_stand 33 = .ok (.ireturn, 1)) ∧ True := dc_cj [(0, .iload_n 1, 1), (1, .iconst 0, 1), (2, .iconst 3, 1), (3, .invokestatic 83, 3), (6, .ifCond .eq 25, 3), (9, .iload_n 2, 1), (10, .iconst 0, 1), (11, .bipush 9, 2), (13, .invokestatic 83, 3), (16, .ifCond .eq 15, 3), (19, .aload_n 0, 1), (20, .bipush 8, 2), (22, .iload_n 1, 1), (23, .iadd, 1), (24, .iload_n 2, 1), (25, .invokevirtual 135, 3), (28, .goto 5, 3), (31, .ldc 91, 2), (33, .ireturn, 1)] (by decide +kernel)
theorem dX8_stand_0 : decode cX8_stand 0 = .ok (.iload_n 1, 1) := edX8_stand_0.1
theorem dX8_stand_1 : decode cX8_stand 1 = .ok (.iconst 0, 1) := edX8_stand_0.2.1
theorem dX8_stand_2 : decode cX8_stand 2 = .ok (.iconst 3, 1) := edX8_stand_0.2.2.1
theorem dX8_stand_3 : decode cX8_stand 3 = .ok (.invokestatic 83, 3) := edX8_stand_0.2.2.2.1
theorem dX8_stand_6 : decode cX8_stand 6 = .ok (.ifCond .eq 25, 3) := edX8_stand_0.2.2.2.2.1
theorem dX8_stand_9 : decode cX8_stand 9 = .ok (.iload_n 2, 1) := edX8_stand_0.2.2.2.2.2.1
theorem dX8_stand_10 : decode cX8_stand 10 = .ok (.iconst 0, 1) := edX8_stand_0.2.2.2.2.2.2.1
theorem dX8_stand_11 : decode cX8_stand 11 = .ok (.bipush 9, 2) := edX8_stand_0.2.2.2.2.2.2.2.1
theorem dX8_stand_13 : decode cX8_stand 13 = .ok (.invokestatic 83, 3) := edX8_stand_0.2.2.2.2.2.2.2.2.1
theorem dX8_stand_16 : decode cX8_stand 16 = .ok (.ifCond .eq 15, 3) := edX8_stand_0.2.2.2.2.2.2.2.2.2.1
theorem dX8_stand_19 : decode cX8_stand 19 = .ok (.aload_n 0, 1) := edX8_stand_0.2.2.2.2.2.2.2.2.2.2.1
theorem dX8_stand_20 : decode cX8_stand 20 = .ok (.bipush 8, 2) := edX8_stand_0.2.2.2.2.2.2.2.2.2.2.2.1
theorem dX8_stand_22 : decode cX8_stand 22 = .ok (.iload_n 1, 1) := edX8_stand_0.2.2.2.2.2.2.2.2.2.2.2.2.1
theorem dX8_stand_23 : decode cX8_stand 23 = .ok (.iadd, 1) := edX8_stand_0.2.2.2.2.2.2.2.2.2.2.2.2.2.1
theorem dX8_stand_24 : decode cX8_stand 24 = .ok (.iload_n 2, 1) := edX8_stand_0.2.2.2.2.2.2.2.2.2.2.2.2.2.2.1
theorem dX8_stand_25 : decode cX8_stand 25 = .ok (.invokevirtual 135, 3) := edX8_stand_0.2.2.2.2.2.2.2.2.2.2.2.2.2.2.2.1
theorem dX8_stand_28 : decode cX8_stand 28 = .ok (.goto 5, 3) := edX8_stand_0.2.2.2.2.2.2.2.2.2.2.2.2.2.2.2.2.1
theorem dX8_stand_31 : decode cX8_stand 31 = .ok (.ldc 91, 2) := edX8_stand_0.2.2.2.2.2.2.2.2.2.2.2.2.2.2.2.2.2.1
theorem dX8_stand_33 : decode cX8_stand 33 = .ok (.ireturn, 1) := edX8_stand_0.2.2.2.2.2.2.2.2.2.2.2.2.2.2.2.2.2.2.1
theorem edX8_care_0 : (decode cX8_care 0 = .ok (.iload_n 1, 1)) ∧ (decode cX8_care 1 = .ok (.iconst 0, 1)) ∧ (decode cX8_care 2 = .ok (.iconst 1, 1)) ∧ (decode cX8_care 3 = .ok (.invokestatic 83, 3)) ∧ (decode cX8_care 6 = .ok (.ifCond .eq 38, 3)) ∧ (decode cX8_care 9 = .ok (.iload_n 2, 1)) ∧ (decode cX8_care 10 = .ok (.iconst 0, 1)) ∧ (decode cX8_care 11 = .ok (.iconst 3, 1)) ∧ (decode cX8_care 12 = .ok (.invokestatic 83, 3)) ∧ (decode cX8_care 15 = .ok (.ifCond .eq 29, 3)) ∧ (decode cX8_care 18 = .ok (.iload_n 3, 1)) ∧ (decode cX8_care 19 = .ok (.iconst 0, 1)) ∧ (decode cX8_care 20 = .ok (.bipush 9, 2)) ∧ (decode cX8_care 22 = .ok (.invokestatic 83, 3)) ∧ (decode cX8_care 25 = .ok (.ifCond .eq 19, 3)) ∧ (decode cX8_care 28 = .ok (.aload_n 0, 1)) ∧ (decode cX8_care 29 = .ok (.bipush 12, 2)) ∧ (decode cX8_care 31 = .ok (.iconst 4, 1)) ∧ (decode cX8_care 32 = .ok (.iload_n 1, 1)) ∧ (decode cX8_care 33 = .ok (.imul, 1)) ∧ (decode cX8_care 34 = .ok (.iadd, 1)) ∧ (decode cX8_care 35 = .ok (.iload_n 2, 1)) ∧ (decode cX8_care 36 = .ok (.iadd, 1)) ∧ (decode cX8_care 37 = .ok (.iload_n 3, 1)) ∧ (decode cX8_care 38 = .ok (.invokevirtual 135, 3)) ∧ (decode cX8_care 41 = .ok (.goto 5, 3)) ∧ (decode cX8_care 44 = .ok (.ldc 91, 2)) ∧ (decode cX8_care 46 = .ok (.ireturn, 1)) ∧ True := dc_cj [(0, .iload_n 1, 1), (1, .iconst 0, 1), (2, .iconst 1, 1), (3, .invokestatic 83, 3), (6, .ifCond .eq 38, 3), (9, .iload_n 2, 1), (10, .iconst 0, 1), (11, .iconst 3, 1), (12, .invokestatic 83, 3), (15, .ifCond .eq 29, 3), (18, .iload_n 3, 1), (19, .iconst 0, 1), (20, .bipush 9, 2), (22, .invokestatic 83, 3), (25, .ifCond .eq 19, 3), (28, .aload_n 0, 1), (29, .bipush 12, 2), (31, .iconst 4, 1), (32, .iload_n 1, 1), (33, .imul, 1), (34, .iadd, 1), (35, .iload_n 2, 1), (36, .iadd, 1), (37, .iload_n 3, 1), (38, .invokevirtual 135, 3), (41, .goto 5, 3), (44, .ldc 91, 2), (46, .ireturn, 1)] (by decide +kernel)
theorem dX8_care_0 : decode cX8_care 0 = .ok (.iload_n 1, 1) := edX8_care_0.1
theorem dX8_care_1 : decode cX8_care 1 = .ok (.iconst 0, 1) := edX8_care_0.2.1
theorem dX8_care_2 : decode cX8_care 2 = .ok (.iconst 1, 1) := edX8_care_0.2.2.1
theorem dX8_care_3 : decode cX8_care 3 = .ok (.invokestatic 83, 3) := edX8_care_0.2.2.2.1
theorem dX8_care_6 : decode cX8_care 6 = .ok (.ifCond .eq 38, 3) := edX8_care_0.2.2.2.2.1
theorem dX8_care_9 : decode cX8_care 9 = .ok (.iload_n 2, 1) := edX8_care_0.2.2.2.2.2.1
theorem dX8_care_10 : decode cX8_care 10 = .ok (.iconst 0, 1) := edX8_care_0.2.2.2.2.2.2.1
theorem dX8_care_11 : decode cX8_care 11 = .ok (.iconst 3, 1) := edX8_care_0.2.2.2.2.2.2.2.1
theorem dX8_care_12 : decode cX8_care 12 = .ok (.invokestatic 83, 3) := edX8_care_0.2.2.2.2.2.2.2.2.1
theorem dX8_care_15 : decode cX8_care 15 = .ok (.ifCond .eq 29, 3) := edX8_care_0.2.2.2.2.2.2.2.2.2.1
theorem dX8_care_18 : decode cX8_care 18 = .ok (.iload_n 3, 1) := edX8_care_0.2.2.2.2.2.2.2.2.2.2.1
theorem dX8_care_19 : decode cX8_care 19 = .ok (.iconst 0, 1) := edX8_care_0.2.2.2.2.2.2.2.2.2.2.2.1
theorem dX8_care_20 : decode cX8_care 20 = .ok (.bipush 9, 2) := edX8_care_0.2.2.2.2.2.2.2.2.2.2.2.2.1
theorem dX8_care_22 : decode cX8_care 22 = .ok (.invokestatic 83, 3) := edX8_care_0.2.2.2.2.2.2.2.2.2.2.2.2.2.1
theorem dX8_care_25 : decode cX8_care 25 = .ok (.ifCond .eq 19, 3) := edX8_care_0.2.2.2.2.2.2.2.2.2.2.2.2.2.2.1
theorem dX8_care_28 : decode cX8_care 28 = .ok (.aload_n 0, 1) := edX8_care_0.2.2.2.2.2.2.2.2.2.2.2.2.2.2.2.1
theorem dX8_care_29 : decode cX8_care 29 = .ok (.bipush 12, 2) := edX8_care_0.2.2.2.2.2.2.2.2.2.2.2.2.2.2.2.2.1
theorem dX8_care_31 : decode cX8_care 31 = .ok (.iconst 4, 1) := edX8_care_0.2.2.2.2.2.2.2.2.2.2.2.2.2.2.2.2.2.1
theorem dX8_care_32 : decode cX8_care 32 = .ok (.iload_n 1, 1) := edX8_care_0.2.2.2.2.2.2.2.2.2.2.2.2.2.2.2.2.2.2.1
theorem dX8_care_33 : decode cX8_care 33 = .ok (.imul, 1) := edX8_care_0.2.2.2.2.2.2.2.2.2.2.2.2.2.2.2.2.2.2.2.1
theorem dX8_care_34 : decode cX8_care 34 = .ok (.iadd, 1) := edX8_care_0.2.2.2.2.2.2.2.2.2.2.2.2.2.2.2.2.2.2.2.2.1
theorem dX8_care_35 : decode cX8_care 35 = .ok (.iload_n 2, 1) := edX8_care_0.2.2.2.2.2.2.2.2.2.2.2.2.2.2.2.2.2.2.2.2.2.1
theorem dX8_care_36 : decode cX8_care 36 = .ok (.iadd, 1) := edX8_care_0.2.2.2.2.2.2.2.2.2.2.2.2.2.2.2.2.2.2.2.2.2.2.1
theorem dX8_care_37 : decode cX8_care 37 = .ok (.iload_n 3, 1) := edX8_care_0.2.2.2.2.2.2.2.2.2.2.2.2.2.2.2.2.2.2.2.2.2.2.2.1
theorem dX8_care_38 : decode cX8_care 38 = .ok (.invokevirtual 135, 3) := edX8_care_0.2.2.2.2.2.2.2.2.2.2.2.2.2.2.2.2.2.2.2.2.2.2.2.2.1
theorem dX8_care_41 : decode cX8_care 41 = .ok (.goto 5, 3) := edX8_care_0.2.2.2.2.2.2.2.2.2.2.2.2.2.2.2.2.2.2.2.2.2.2.2.2.2.1
theorem dX8_care_44 : decode cX8_care 44 = .ok (.ldc 91, 2) := edX8_care_0.2.2.2.2.2.2.2.2.2.2.2.2.2.2.2.2.2.2.2.2.2.2.2.2.2.2.1
theorem dX8_care_46 : decode cX8_care 46 = .ok (.ireturn, 1) := edX8_care_0.2.2.2.2.2.2.2.2.2.2.2.2.2.2.2.2.2.2.2.2.2.2.2.2.2.2.2.1
theorem edX8_honour_0 : (decode cX8_honour 0 = .ok (.iload_n 1, 1)) ∧ (decode cX8_honour 1 = .ok (.iconst 0, 1)) ∧ (decode cX8_honour 2 = .ok (.iconst 1, 1)) ∧ (decode cX8_honour 3 = .ok (.invokestatic 83, 3)) ∧ (decode cX8_honour 6 = .ok (.ifCond .eq 26, 3)) ∧ (decode cX8_honour 9 = .ok (.iload_n 2, 1)) ∧ (decode cX8_honour 10 = .ok (.iconst 0, 1)) ∧ (decode cX8_honour 11 = .ok (.sipush 400, 3)) ∧ (decode cX8_honour 14 = .ok (.invokestatic 83, 3)) ∧ (decode cX8_honour 17 = .ok (.ifCond .eq 15, 3)) ∧ (decode cX8_honour 20 = .ok (.aload_n 0, 1)) ∧ (decode cX8_honour 21 = .ok (.bipush 20, 2)) ∧ (decode cX8_honour 23 = .ok (.iload_n 1, 1)) ∧ (decode cX8_honour 24 = .ok (.iadd, 1)) ∧ (decode cX8_honour 25 = .ok (.iload_n 2, 1)) ∧ (decode cX8_honour 26 = .ok (.invokevirtual 135, 3)) ∧ (decode cX8_honour 29 = .ok (.goto 5, 3)) ∧ (decode cX8_honour 32 = .ok (.ldc 91, 2)) ∧ (decode cX8_honour 34 = .ok (.ireturn, 1)) ∧ True := dc_cj [(0, .iload_n 1, 1), (1, .iconst 0, 1), (2, .iconst 1, 1), (3, .invokestatic 83, 3), (6, .ifCond .eq 26, 3), (9, .iload_n 2, 1), (10, .iconst 0, 1), (11, .sipush 400, 3), (14, .invokestatic 83, 3), (17, .ifCond .eq 15, 3), (20, .aload_n 0, 1), (21, .bipush 20, 2), (23, .iload_n 1, 1), (24, .iadd, 1), (25, .iload_n 2, 1), (26, .invokevirtual 135, 3), (29, .goto 5, 3), (32, .ldc 91, 2), (34, .ireturn, 1)] (by decide +kernel)
theorem dX8_honour_0 : decode cX8_honour 0 = .ok (.iload_n 1, 1) := edX8_honour_0.1
theorem dX8_honour_1 : decode cX8_honour 1 = .ok (.iconst 0, 1) := edX8_honour_0.2.1
theorem dX8_honour_2 : decode cX8_honour 2 = .ok (.iconst 1, 1) := edX8_honour_0.2.2.1
theorem dX8_honour_3 : decode cX8_honour 3 = .ok (.invokestatic 83, 3) := edX8_honour_0.2.2.2.1
theorem dX8_honour_6 : decode cX8_honour 6 = .ok (.ifCond .eq 26, 3) := edX8_honour_0.2.2.2.2.1
theorem dX8_honour_9 : decode cX8_honour 9 = .ok (.iload_n 2, 1) := edX8_honour_0.2.2.2.2.2.1
theorem dX8_honour_10 : decode cX8_honour 10 = .ok (.iconst 0, 1) := edX8_honour_0.2.2.2.2.2.2.1
theorem dX8_honour_11 : decode cX8_honour 11 = .ok (.sipush 400, 3) := edX8_honour_0.2.2.2.2.2.2.2.1
theorem dX8_honour_14 : decode cX8_honour 14 = .ok (.invokestatic 83, 3) := edX8_honour_0.2.2.2.2.2.2.2.2.1
theorem dX8_honour_17 : decode cX8_honour 17 = .ok (.ifCond .eq 15, 3) := edX8_honour_0.2.2.2.2.2.2.2.2.2.1
theorem dX8_honour_20 : decode cX8_honour 20 = .ok (.aload_n 0, 1) := edX8_honour_0.2.2.2.2.2.2.2.2.2.2.1
theorem dX8_honour_21 : decode cX8_honour 21 = .ok (.bipush 20, 2) := edX8_honour_0.2.2.2.2.2.2.2.2.2.2.2.1
theorem dX8_honour_23 : decode cX8_honour 23 = .ok (.iload_n 1, 1) := edX8_honour_0.2.2.2.2.2.2.2.2.2.2.2.2.1
theorem dX8_honour_24 : decode cX8_honour 24 = .ok (.iadd, 1) := edX8_honour_0.2.2.2.2.2.2.2.2.2.2.2.2.2.1
theorem dX8_honour_25 : decode cX8_honour 25 = .ok (.iload_n 2, 1) := edX8_honour_0.2.2.2.2.2.2.2.2.2.2.2.2.2.2.1
theorem dX8_honour_26 : decode cX8_honour 26 = .ok (.invokevirtual 135, 3) := edX8_honour_0.2.2.2.2.2.2.2.2.2.2.2.2.2.2.2.1
theorem dX8_honour_29 : decode cX8_honour 29 = .ok (.goto 5, 3) := edX8_honour_0.2.2.2.2.2.2.2.2.2.2.2.2.2.2.2.2.1
theorem dX8_honour_32 : decode cX8_honour 32 = .ok (.ldc 91, 2) := edX8_honour_0.2.2.2.2.2.2.2.2.2.2.2.2.2.2.2.2.2.1
theorem dX8_honour_34 : decode cX8_honour 34 = .ok (.ireturn, 1) := edX8_honour_0.2.2.2.2.2.2.2.2.2.2.2.2.2.2.2.2.2.2.1
theorem edX8_rule_0 : (decode cX8_rule 0 = .ok (.iload_n 1, 1)) ∧ (decode cX8_rule 1 = .ok (.iconst 0, 1)) ∧ (decode cX8_rule 2 = .ok (.iconst 2, 1)) ∧ (decode cX8_rule 3 = .ok (.invokestatic 83, 3)) ∧ (decode cX8_rule 6 = .ok (.ifCond .eq 43, 3)) ∧ (decode cX8_rule 9 = .ok (.iload_n 2, 1)) ∧ (decode cX8_rule 10 = .ok (.iload_n 1, 1)) ∧ (decode cX8_rule 11 = .ok (.iconst 1, 1)) ∧ (decode cX8_rule 12 = .ok (.if_icmp .ne 7, 3)) ∧ (decode cX8_rule 15 = .ok (.iconst 1, 1)) ∧ (decode cX8_rule 16 = .ok (.goto 4, 3)) ∧ (decode cX8_rule 19 = .ok (.iconst 0, 1)) ∧ (decode cX8_rule 20 = .ok (.iload_n 1, 1)) ∧ (decode cX8_rule 21 = .ok (.iconst 2, 1)) ∧ (decode cX8_rule 22 = .ok (.if_icmp .ne 8, 3)) ∧ (decode cX8_rule 25 = .ok (.bipush 100, 2)) ∧ (decode cX8_rule 27 = .ok (.goto 5, 3)) ∧ (decode cX8_rule 30 = .ok (.bipush 99, 2)) ∧ (decode cX8_rule 32 = .ok (.invokestatic 83, 3)) ∧ (decode cX8_rule 35 = .ok (.ifCond .eq 14, 3)) ∧ (decode cX8_rule 38 = .ok (.aload_n 0, 1)) ∧ (decode cX8_rule 39 = .ok (.iconst 3, 1)) ∧ (decode cX8_rule 40 = .ok (.iload_n 1, 1)) ∧ (decode cX8_rule 41 = .ok (.iadd, 1)) ∧ (decode cX8_rule 42 = .ok (.iload_n 2, 1)) ∧ (decode cX8_rule 43 = .ok (.invokevirtual 135, 3)) ∧ (decode cX8_rule 46 = .ok (.goto 5, 3)) ∧ (decode cX8_rule 49 = .ok (.ldc 91, 2)) ∧ (decode cX8_rule 51 = .ok (.ireturn, 1)) ∧ True := dc_cj [(0, .iload_n 1, 1), (1, .iconst 0, 1), (2, .iconst 2, 1), (3, .invokestatic 83, 3), (6, .ifCond .eq 43, 3), (9, .iload_n 2, 1), (10, .iload_n 1, 1), (11, .iconst 1, 1), (12, .if_icmp .ne 7, 3), (15, .iconst 1, 1), (16, .goto 4, 3), (19, .iconst 0, 1), (20, .iload_n 1, 1), (21, .iconst 2, 1), (22, .if_icmp .ne 8, 3), (25, .bipush 100, 2), (27, .goto 5, 3), (30, .bipush 99, 2), (32, .invokestatic 83, 3), (35, .ifCond .eq 14, 3), (38, .aload_n 0, 1), (39, .iconst 3, 1), (40, .iload_n 1, 1), (41, .iadd, 1), (42, .iload_n 2, 1), (43, .invokevirtual 135, 3), (46, .goto 5, 3), (49, .ldc 91, 2), (51, .ireturn, 1)] (by decide +kernel)
theorem dX8_rule_0 : decode cX8_rule 0 = .ok (.iload_n 1, 1) := edX8_rule_0.1
theorem dX8_rule_1 : decode cX8_rule 1 = .ok (.iconst 0, 1) := edX8_rule_0.2.1
theorem dX8_rule_2 : decode cX8_rule 2 = .ok (.iconst 2, 1) := edX8_rule_0.2.2.1
theorem dX8_rule_3 : decode cX8_rule 3 = .ok (.invokestatic 83, 3) := edX8_rule_0.2.2.2.1
theorem dX8_rule_6 : decode cX8_rule 6 = .ok (.ifCond .eq 43, 3) := edX8_rule_0.2.2.2.2.1
theorem dX8_rule_9 : decode cX8_rule 9 = .ok (.iload_n 2, 1) := edX8_rule_0.2.2.2.2.2.1
theorem dX8_rule_10 : decode cX8_rule 10 = .ok (.iload_n 1, 1) := edX8_rule_0.2.2.2.2.2.2.1
theorem dX8_rule_11 : decode cX8_rule 11 = .ok (.iconst 1, 1) := edX8_rule_0.2.2.2.2.2.2.2.1
theorem dX8_rule_12 : decode cX8_rule 12 = .ok (.if_icmp .ne 7, 3) := edX8_rule_0.2.2.2.2.2.2.2.2.1
theorem dX8_rule_15 : decode cX8_rule 15 = .ok (.iconst 1, 1) := edX8_rule_0.2.2.2.2.2.2.2.2.2.1
theorem dX8_rule_16 : decode cX8_rule 16 = .ok (.goto 4, 3) := edX8_rule_0.2.2.2.2.2.2.2.2.2.2.1
theorem dX8_rule_19 : decode cX8_rule 19 = .ok (.iconst 0, 1) := edX8_rule_0.2.2.2.2.2.2.2.2.2.2.2.1
theorem dX8_rule_20 : decode cX8_rule 20 = .ok (.iload_n 1, 1) := edX8_rule_0.2.2.2.2.2.2.2.2.2.2.2.2.1
theorem dX8_rule_21 : decode cX8_rule 21 = .ok (.iconst 2, 1) := edX8_rule_0.2.2.2.2.2.2.2.2.2.2.2.2.2.1
theorem dX8_rule_22 : decode cX8_rule 22 = .ok (.if_icmp .ne 8, 3) := edX8_rule_0.2.2.2.2.2.2.2.2.2.2.2.2.2.2.1
theorem dX8_rule_25 : decode cX8_rule 25 = .ok (.bipush 100, 2) := edX8_rule_0.2.2.2.2.2.2.2.2.2.2.2.2.2.2.2.1
theorem dX8_rule_27 : decode cX8_rule 27 = .ok (.goto 5, 3) := edX8_rule_0.2.2.2.2.2.2.2.2.2.2.2.2.2.2.2.2.1
theorem dX8_rule_30 : decode cX8_rule 30 = .ok (.bipush 99, 2) := edX8_rule_0.2.2.2.2.2.2.2.2.2.2.2.2.2.2.2.2.2.1
theorem dX8_rule_32 : decode cX8_rule 32 = .ok (.invokestatic 83, 3) := edX8_rule_0.2.2.2.2.2.2.2.2.2.2.2.2.2.2.2.2.2.2.1
theorem dX8_rule_35 : decode cX8_rule 35 = .ok (.ifCond .eq 14, 3) := edX8_rule_0.2.2.2.2.2.2.2.2.2.2.2.2.2.2.2.2.2.2.2.1
theorem dX8_rule_38 : decode cX8_rule 38 = .ok (.aload_n 0, 1) := edX8_rule_0.2.2.2.2.2.2.2.2.2.2.2.2.2.2.2.2.2.2.2.2.1
theorem dX8_rule_39 : decode cX8_rule 39 = .ok (.iconst 3, 1) := edX8_rule_0.2.2.2.2.2.2.2.2.2.2.2.2.2.2.2.2.2.2.2.2.2.1
theorem dX8_rule_40 : decode cX8_rule 40 = .ok (.iload_n 1, 1) := edX8_rule_0.2.2.2.2.2.2.2.2.2.2.2.2.2.2.2.2.2.2.2.2.2.2.1
theorem dX8_rule_41 : decode cX8_rule 41 = .ok (.iadd, 1) := edX8_rule_0.2.2.2.2.2.2.2.2.2.2.2.2.2.2.2.2.2.2.2.2.2.2.2.1
theorem dX8_rule_42 : decode cX8_rule 42 = .ok (.iload_n 2, 1) := edX8_rule_0.2.2.2.2.2.2.2.2.2.2.2.2.2.2.2.2.2.2.2.2.2.2.2.2.1
theorem dX8_rule_43 : decode cX8_rule 43 = .ok (.invokevirtual 135, 3) := edX8_rule_0.2.2.2.2.2.2.2.2.2.2.2.2.2.2.2.2.2.2.2.2.2.2.2.2.2.1
theorem dX8_rule_46 : decode cX8_rule 46 = .ok (.goto 5, 3) := edX8_rule_0.2.2.2.2.2.2.2.2.2.2.2.2.2.2.2.2.2.2.2.2.2.2.2.2.2.2.1
theorem dX8_rule_49 : decode cX8_rule 49 = .ok (.ldc 91, 2) := edX8_rule_0.2.2.2.2.2.2.2.2.2.2.2.2.2.2.2.2.2.2.2.2.2.2.2.2.2.2.2.1
theorem dX8_rule_51 : decode cX8_rule 51 = .ok (.ireturn, 1) := edX8_rule_0.2.2.2.2.2.2.2.2.2.2.2.2.2.2.2.2.2.2.2.2.2.2.2.2.2.2.2.2.1
theorem edX8_draw_0 : (decode cX8_draw 0 = .ok (.aload_n 0, 1)) ∧ (decode cX8_draw 1 = .ok (.getfield 9, 3)) ∧ (decode cX8_draw 4 = .ok (.iconst 0, 1)) ∧ (decode cX8_draw 5 = .ok (.aload_n 0, 1)) ∧ (decode cX8_draw 6 = .ok (.getfield 9, 3)) ∧ (decode cX8_draw 9 = .ok (.iconst 0, 1)) ∧ (decode cX8_draw 10 = .ok (.iaload, 1)) ∧ (decode cX8_draw 11 = .ok (.ldc 138, 2)) ∧ (decode cX8_draw 13 = .ok (.imul, 1)) ∧ (decode cX8_draw 14 = .ok (.sipush 12345, 3)) ∧ (decode cX8_draw 17 = .ok (.iadd, 1)) ∧ (decode cX8_draw 18 = .ok (.iastore, 1)) ∧ (decode cX8_draw 19 = .ok (.aload_n 0, 1)) ∧ (decode cX8_draw 20 = .ok (.getfield 9, 3)) ∧ (decode cX8_draw 23 = .ok (.iconst 0, 1)) ∧ (decode cX8_draw 24 = .ok (.iaload, 1)) ∧ (decode cX8_draw 25 = .ok (.bipush 8, 2)) ∧ (decode cX8_draw 27 = .ok (.iushr, 1)) ∧ (decode cX8_draw 28 = .ok (.ireturn, 1)) ∧ True := dc_cj [(0, .aload_n 0, 1), (1, .getfield 9, 3), (4, .iconst 0, 1), (5, .aload_n 0, 1), (6, .getfield 9, 3), (9, .iconst 0, 1), (10, .iaload, 1), (11, .ldc 138, 2), (13, .imul, 1), (14, .sipush 12345, 3), (17, .iadd, 1), (18, .iastore, 1), (19, .aload_n 0, 1), (20, .getfield 9, 3), (23, .iconst 0, 1), (24, .iaload, 1), (25, .bipush 8, 2), (27, .iushr, 1), (28, .ireturn, 1)] (by decide +kernel)
theorem dX8_draw_0 : decode cX8_draw 0 = .ok (.aload_n 0, 1) := edX8_draw_0.1
theorem dX8_draw_1 : decode cX8_draw 1 = .ok (.getfield 9, 3) := edX8_draw_0.2.1
theorem dX8_draw_4 : decode cX8_draw 4 = .ok (.iconst 0, 1) := edX8_draw_0.2.2.1
theorem dX8_draw_5 : decode cX8_draw 5 = .ok (.aload_n 0, 1) := edX8_draw_0.2.2.2.1
theorem dX8_draw_6 : decode cX8_draw 6 = .ok (.getfield 9, 3) := edX8_draw_0.2.2.2.2.1
theorem dX8_draw_9 : decode cX8_draw 9 = .ok (.iconst 0, 1) := edX8_draw_0.2.2.2.2.2.1
theorem dX8_draw_10 : decode cX8_draw 10 = .ok (.iaload, 1) := edX8_draw_0.2.2.2.2.2.2.1
theorem dX8_draw_11 : decode cX8_draw 11 = .ok (.ldc 138, 2) := edX8_draw_0.2.2.2.2.2.2.2.1
theorem dX8_draw_13 : decode cX8_draw 13 = .ok (.imul, 1) := edX8_draw_0.2.2.2.2.2.2.2.2.1
theorem dX8_draw_14 : decode cX8_draw 14 = .ok (.sipush 12345, 3) := edX8_draw_0.2.2.2.2.2.2.2.2.2.1
theorem dX8_draw_17 : decode cX8_draw 17 = .ok (.iadd, 1) := edX8_draw_0.2.2.2.2.2.2.2.2.2.2.1
theorem dX8_draw_18 : decode cX8_draw 18 = .ok (.iastore, 1) := edX8_draw_0.2.2.2.2.2.2.2.2.2.2.2.1
theorem dX8_draw_19 : decode cX8_draw 19 = .ok (.aload_n 0, 1) := edX8_draw_0.2.2.2.2.2.2.2.2.2.2.2.2.1
theorem dX8_draw_20 : decode cX8_draw 20 = .ok (.getfield 9, 3) := edX8_draw_0.2.2.2.2.2.2.2.2.2.2.2.2.2.1
theorem dX8_draw_23 : decode cX8_draw 23 = .ok (.iconst 0, 1) := edX8_draw_0.2.2.2.2.2.2.2.2.2.2.2.2.2.2.1
theorem dX8_draw_24 : decode cX8_draw 24 = .ok (.iaload, 1) := edX8_draw_0.2.2.2.2.2.2.2.2.2.2.2.2.2.2.2.1
theorem dX8_draw_25 : decode cX8_draw 25 = .ok (.bipush 8, 2) := edX8_draw_0.2.2.2.2.2.2.2.2.2.2.2.2.2.2.2.2.1
theorem dX8_draw_27 : decode cX8_draw 27 = .ok (.iushr, 1) := edX8_draw_0.2.2.2.2.2.2.2.2.2.2.2.2.2.2.2.2.2.1
theorem dX8_draw_28 : decode cX8_draw 28 = .ok (.ireturn, 1) := edX8_draw_0.2.2.2.2.2.2.2.2.2.2.2.2.2.2.2.2.2.2.1
theorem edX8_deal_0 : (decode cX8_deal 0 = .ok (.iload_n 1, 1)) ∧ (decode cX8_deal 1 = .ok (.iconst 1, 1)) ∧ (decode cX8_deal 2 = .ok (.bipush 8, 2)) ∧ (decode cX8_deal 4 = .ok (.invokestatic 83, 3)) ∧ (decode cX8_deal 7 = .ok (.ifCond .ne 6, 3)) ∧ (decode cX8_deal 10 = .ok (.ldc 91, 2)) ∧ (decode cX8_deal 12 = .ok (.ireturn, 1)) ∧ (decode cX8_deal 13 = .ok (.iconst 0, 1)) ∧ (decode cX8_deal 14 = .ok (.istore_n 2, 1)) ∧ (decode cX8_deal 15 = .ok (.iload_n 2, 1)) ∧ (decode cX8_deal 16 = .ok (.iload_n 1, 1)) ∧ (decode cX8_deal 17 = .ok (.if_icmp .ge 52, 3)) ∧ (decode cX8_deal 20 = .ok (.aload_n 0, 1)) ∧ (decode cX8_deal 21 = .ok (.getfield 9, 3)) ∧ (decode cX8_deal 24 = .ok (.iconst 1, 1)) ∧ (decode cX8_deal 25 = .ok (.iaload, 1)) ∧ (decode cX8_deal 26 = .ok (.bipush 8, 2)) ∧ (decode cX8_deal 28 = .ok (.if_icmp .ge 41, 3)) ∧ (decode cX8_deal 31 = .ok (.aload_n 0, 1)) ∧ (decode cX8_deal 32 = .ok (.invokevirtual 139, 3)) ∧ (decode cX8_deal 35 = .ok (.bipush 6, 2)) ∧ (decode cX8_deal 37 = .ok (.irem, 1)) ∧ (decode cX8_deal 38 = .ok (.istore_n 3, 1)) ∧ (decode cX8_deal 39 = .ok (.aload_n 0, 1)) ∧ (decode cX8_deal 40 = .ok (.invokevirtual 139, 3)) ∧ (decode cX8_deal 43 = .ok (.iconst 2, 1)) ∧ (decode cX8_deal 44 = .ok (.irem, 1)) ∧ (decode cX8_deal 45 = .ok (.istore 4, 2)) ∧ (decode cX8_deal 47 = .ok (.aload_n 0, 1)) ∧ (decode cX8_deal 48 = .ok (.iload_n 3, 1)) ∧ (decode cX8_deal 49 = .ok (.iload 4, 2)) ∧ (decode cX8_deal 51 = .ok (.aload_n 0, 1)) ∧ True := dc_cj [(0, .iload_n 1, 1), (1, .iconst 1, 1), (2, .bipush 8, 2), (4, .invokestatic 83, 3), (7, .ifCond .ne 6, 3), (10, .ldc 91, 2), (12, .ireturn, 1), (13, .iconst 0, 1), (14, .istore_n 2, 1), (15, .iload_n 2, 1), (16, .iload_n 1, 1), (17, .if_icmp .ge 52, 3), (20, .aload_n 0, 1), (21, .getfield 9, 3), (24, .iconst 1, 1), (25, .iaload, 1), (26, .bipush 8, 2), (28, .if_icmp .ge 41, 3), (31, .aload_n 0, 1), (32, .invokevirtual 139, 3), (35, .bipush 6, 2), (37, .irem, 1), (38, .istore_n 3, 1), (39, .aload_n 0, 1), (40, .invokevirtual 139, 3), (43, .iconst 2, 1), (44, .irem, 1), (45, .istore 4, 2), (47, .aload_n 0, 1), (48, .iload_n 3, 1), (49, .iload 4, 2), (51, .aload_n 0, 1)] (by decide +kernel)
theorem dX8_deal_0 : decode cX8_deal 0 = .ok (.iload_n 1, 1) := edX8_deal_0.1
theorem dX8_deal_1 : decode cX8_deal 1 = .ok (.iconst 1, 1) := edX8_deal_0.2.1
theorem dX8_deal_2 : decode cX8_deal 2 = .ok (.bipush 8, 2) := edX8_deal_0.2.2.1
theorem dX8_deal_4 : decode cX8_deal 4 = .ok (.invokestatic 83, 3) := edX8_deal_0.2.2.2.1
theorem dX8_deal_7 : decode cX8_deal 7 = .ok (.ifCond .ne 6, 3) := edX8_deal_0.2.2.2.2.1
theorem dX8_deal_10 : decode cX8_deal 10 = .ok (.ldc 91, 2) := edX8_deal_0.2.2.2.2.2.1
theorem dX8_deal_12 : decode cX8_deal 12 = .ok (.ireturn, 1) := edX8_deal_0.2.2.2.2.2.2.1
theorem dX8_deal_13 : decode cX8_deal 13 = .ok (.iconst 0, 1) := edX8_deal_0.2.2.2.2.2.2.2.1
theorem dX8_deal_14 : decode cX8_deal 14 = .ok (.istore_n 2, 1) := edX8_deal_0.2.2.2.2.2.2.2.2.1
theorem dX8_deal_15 : decode cX8_deal 15 = .ok (.iload_n 2, 1) := edX8_deal_0.2.2.2.2.2.2.2.2.2.1
theorem dX8_deal_16 : decode cX8_deal 16 = .ok (.iload_n 1, 1) := edX8_deal_0.2.2.2.2.2.2.2.2.2.2.1
theorem dX8_deal_17 : decode cX8_deal 17 = .ok (.if_icmp .ge 52, 3) := edX8_deal_0.2.2.2.2.2.2.2.2.2.2.2.1
theorem dX8_deal_20 : decode cX8_deal 20 = .ok (.aload_n 0, 1) := edX8_deal_0.2.2.2.2.2.2.2.2.2.2.2.2.1
theorem dX8_deal_21 : decode cX8_deal 21 = .ok (.getfield 9, 3) := edX8_deal_0.2.2.2.2.2.2.2.2.2.2.2.2.2.1
theorem dX8_deal_24 : decode cX8_deal 24 = .ok (.iconst 1, 1) := edX8_deal_0.2.2.2.2.2.2.2.2.2.2.2.2.2.2.1
theorem dX8_deal_25 : decode cX8_deal 25 = .ok (.iaload, 1) := edX8_deal_0.2.2.2.2.2.2.2.2.2.2.2.2.2.2.2.1
theorem dX8_deal_26 : decode cX8_deal 26 = .ok (.bipush 8, 2) := edX8_deal_0.2.2.2.2.2.2.2.2.2.2.2.2.2.2.2.2.1
theorem dX8_deal_28 : decode cX8_deal 28 = .ok (.if_icmp .ge 41, 3) := edX8_deal_0.2.2.2.2.2.2.2.2.2.2.2.2.2.2.2.2.2.1
theorem dX8_deal_31 : decode cX8_deal 31 = .ok (.aload_n 0, 1) := edX8_deal_0.2.2.2.2.2.2.2.2.2.2.2.2.2.2.2.2.2.2.1
theorem dX8_deal_32 : decode cX8_deal 32 = .ok (.invokevirtual 139, 3) := edX8_deal_0.2.2.2.2.2.2.2.2.2.2.2.2.2.2.2.2.2.2.2.1
theorem dX8_deal_35 : decode cX8_deal 35 = .ok (.bipush 6, 2) := edX8_deal_0.2.2.2.2.2.2.2.2.2.2.2.2.2.2.2.2.2.2.2.2.1
theorem dX8_deal_37 : decode cX8_deal 37 = .ok (.irem, 1) := edX8_deal_0.2.2.2.2.2.2.2.2.2.2.2.2.2.2.2.2.2.2.2.2.2.1
theorem dX8_deal_38 : decode cX8_deal 38 = .ok (.istore_n 3, 1) := edX8_deal_0.2.2.2.2.2.2.2.2.2.2.2.2.2.2.2.2.2.2.2.2.2.2.1
theorem dX8_deal_39 : decode cX8_deal 39 = .ok (.aload_n 0, 1) := edX8_deal_0.2.2.2.2.2.2.2.2.2.2.2.2.2.2.2.2.2.2.2.2.2.2.2.1
theorem dX8_deal_40 : decode cX8_deal 40 = .ok (.invokevirtual 139, 3) := edX8_deal_0.2.2.2.2.2.2.2.2.2.2.2.2.2.2.2.2.2.2.2.2.2.2.2.2.1
theorem dX8_deal_43 : decode cX8_deal 43 = .ok (.iconst 2, 1) := edX8_deal_0.2.2.2.2.2.2.2.2.2.2.2.2.2.2.2.2.2.2.2.2.2.2.2.2.2.1
theorem dX8_deal_44 : decode cX8_deal 44 = .ok (.irem, 1) := edX8_deal_0.2.2.2.2.2.2.2.2.2.2.2.2.2.2.2.2.2.2.2.2.2.2.2.2.2.2.1
theorem dX8_deal_45 : decode cX8_deal 45 = .ok (.istore 4, 2) := edX8_deal_0.2.2.2.2.2.2.2.2.2.2.2.2.2.2.2.2.2.2.2.2.2.2.2.2.2.2.2.1
theorem dX8_deal_47 : decode cX8_deal 47 = .ok (.aload_n 0, 1) := edX8_deal_0.2.2.2.2.2.2.2.2.2.2.2.2.2.2.2.2.2.2.2.2.2.2.2.2.2.2.2.2.1
theorem dX8_deal_48 : decode cX8_deal 48 = .ok (.iload_n 3, 1) := edX8_deal_0.2.2.2.2.2.2.2.2.2.2.2.2.2.2.2.2.2.2.2.2.2.2.2.2.2.2.2.2.2.1
theorem dX8_deal_49 : decode cX8_deal 49 = .ok (.iload 4, 2) := edX8_deal_0.2.2.2.2.2.2.2.2.2.2.2.2.2.2.2.2.2.2.2.2.2.2.2.2.2.2.2.2.2.2.1
theorem dX8_deal_51 : decode cX8_deal 51 = .ok (.aload_n 0, 1) := edX8_deal_0.2.2.2.2.2.2.2.2.2.2.2.2.2.2.2.2.2.2.2.2.2.2.2.2.2.2.2.2.2.2.2.1
theorem edX8_deal_52 : (decode cX8_deal 52 = .ok (.invokevirtual 139, 3)) ∧ (decode cX8_deal 55 = .ok (.bipush 100, 2)) ∧ (decode cX8_deal 57 = .ok (.irem, 1)) ∧ (decode cX8_deal 58 = .ok (.invokevirtual 93, 3)) ∧ (decode cX8_deal 61 = .ok (.istore 5, 2)) ∧ (decode cX8_deal 63 = .ok (.iinc 2 1, 3)) ∧ (decode cX8_deal 66 = .ok (.goto (-51), 3)) ∧ (decode cX8_deal 69 = .ok (.iload_n 2, 1)) ∧ (decode cX8_deal 70 = .ok (.ireturn, 1)) ∧ True := dc_cj [(52, .invokevirtual 139, 3), (55, .bipush 100, 2), (57, .irem, 1), (58, .invokevirtual 93, 3), (61, .istore 5, 2), (63, .iinc 2 1, 3), (66, .goto (-51), 3), (69, .iload_n 2, 1), (70, .ireturn, 1)] (by decide +kernel)
theorem dX8_deal_52 : decode cX8_deal 52 = .ok (.invokevirtual 139, 3) := edX8_deal_52.1
theorem dX8_deal_55 : decode cX8_deal 55 = .ok (.bipush 100, 2) := edX8_deal_52.2.1
theorem dX8_deal_57 : decode cX8_deal 57 = .ok (.irem, 1) := edX8_deal_52.2.2.1
theorem dX8_deal_58 : decode cX8_deal 58 = .ok (.invokevirtual 93, 3) := edX8_deal_52.2.2.2.1
theorem dX8_deal_61 : decode cX8_deal 61 = .ok (.istore 5, 2) := edX8_deal_52.2.2.2.2.1
theorem dX8_deal_63 : decode cX8_deal 63 = .ok (.iinc 2 1, 3) := edX8_deal_52.2.2.2.2.2.1
theorem dX8_deal_66 : decode cX8_deal 66 = .ok (.goto (-51), 3) := edX8_deal_52.2.2.2.2.2.2.1
theorem dX8_deal_69 : decode cX8_deal 69 = .ok (.iload_n 2, 1) := edX8_deal_52.2.2.2.2.2.2.2.1
theorem dX8_deal_70 : decode cX8_deal 70 = .ok (.ireturn, 1) := edX8_deal_52.2.2.2.2.2.2.2.2.1
theorem edX8_seed_0 : (decode cX8_seed 0 = .ok (.aload_n 0, 1)) ∧ (decode cX8_seed 1 = .ok (.iconst 0, 1)) ∧ (decode cX8_seed 2 = .ok (.iload_n 1, 1)) ∧ (decode cX8_seed 3 = .ok (.invokevirtual 135, 3)) ∧ (decode cX8_seed 6 = .ok (.ireturn, 1)) ∧ True := dc_cj [(0, .aload_n 0, 1), (1, .iconst 0, 1), (2, .iload_n 1, 1), (3, .invokevirtual 135, 3), (6, .ireturn, 1)] (by decide +kernel)
theorem dX8_seed_0 : decode cX8_seed 0 = .ok (.aload_n 0, 1) := edX8_seed_0.1
theorem dX8_seed_1 : decode cX8_seed 1 = .ok (.iconst 0, 1) := edX8_seed_0.2.1
theorem dX8_seed_2 : decode cX8_seed 2 = .ok (.iload_n 1, 1) := edX8_seed_0.2.2.1
theorem dX8_seed_3 : decode cX8_seed 3 = .ok (.invokevirtual 135, 3) := edX8_seed_0.2.2.2.1
theorem dX8_seed_6 : decode cX8_seed 6 = .ok (.ireturn, 1) := edX8_seed_0.2.2.2.2.1
theorem edX8_has_0 : (decode cX8_has 0 = .ok (.iconst 0, 1)) ∧ (decode cX8_has 1 = .ok (.istore_n 2, 1)) ∧ (decode cX8_has 2 = .ok (.iconst 0, 1)) ∧ (decode cX8_has 3 = .ok (.istore_n 3, 1)) ∧ (decode cX8_has 4 = .ok (.iload_n 3, 1)) ∧ (decode cX8_has 5 = .ok (.iconst 4, 1)) ∧ (decode cX8_has 6 = .ok (.if_icmp .ge 51, 3)) ∧ (decode cX8_has 9 = .ok (.aload_n 0, 1)) ∧ (decode cX8_has 10 = .ok (.getfield 9, 3)) ∧ (decode cX8_has 13 = .ok (.bipush 8, 2)) ∧ (decode cX8_has 15 = .ok (.iload_n 3, 1)) ∧ (decode cX8_has 16 = .ok (.iadd, 1)) ∧ (decode cX8_has 17 = .ok (.iaload, 1)) ∧ (decode cX8_has 18 = .ok (.istore 4, 2)) ∧ (decode cX8_has 20 = .ok (.iload_n 2, 1)) ∧ (decode cX8_has 21 = .ok (.aload_n 0, 1)) ∧ (decode cX8_has 22 = .ok (.getfield 9, 3)) ∧ (decode cX8_has 25 = .ok (.bipush 12, 2)) ∧ (decode cX8_has 27 = .ok (.iconst 4, 1)) ∧ (decode cX8_has 28 = .ok (.iload_n 1, 1)) ∧ (decode cX8_has 29 = .ok (.imul, 1)) ∧ (decode cX8_has 30 = .ok (.iadd, 1)) ∧ (decode cX8_has 31 = .ok (.iload_n 3, 1)) ∧ (decode cX8_has 32 = .ok (.iadd, 1)) ∧ (decode cX8_has 33 = .ok (.iaload, 1)) ∧ (decode cX8_has 34 = .ok (.iload_n 1, 1)) ∧ (decode cX8_has 35 = .ok (.ifCond .ne 8, 3)) ∧ (decode cX8_has 38 = .ok (.iload 4, 2)) ∧ (decode cX8_has 40 = .ok (.goto 8, 3)) ∧ (decode cX8_has 43 = .ok (.bipush 9, 2)) ∧ (decode cX8_has 45 = .ok (.iload 4, 2)) ∧ (decode cX8_has 47 = .ok (.isub, 1)) ∧ True := dc_cj [(0, .iconst 0, 1), (1, .istore_n 2, 1), (2, .iconst 0, 1), (3, .istore_n 3, 1), (4, .iload_n 3, 1), (5, .iconst 4, 1), (6, .if_icmp .ge 51, 3), (9, .aload_n 0, 1), (10, .getfield 9, 3), (13, .bipush 8, 2), (15, .iload_n 3, 1), (16, .iadd, 1), (17, .iaload, 1), (18, .istore 4, 2), (20, .iload_n 2, 1), (21, .aload_n 0, 1), (22, .getfield 9, 3), (25, .bipush 12, 2), (27, .iconst 4, 1), (28, .iload_n 1, 1), (29, .imul, 1), (30, .iadd, 1), (31, .iload_n 3, 1), (32, .iadd, 1), (33, .iaload, 1), (34, .iload_n 1, 1), (35, .ifCond .ne 8, 3), (38, .iload 4, 2), (40, .goto 8, 3), (43, .bipush 9, 2), (45, .iload 4, 2), (47, .isub, 1)] (by decide +kernel)
theorem dX8_has_0 : decode cX8_has 0 = .ok (.iconst 0, 1) := edX8_has_0.1
theorem dX8_has_1 : decode cX8_has 1 = .ok (.istore_n 2, 1) := edX8_has_0.2.1
theorem dX8_has_2 : decode cX8_has 2 = .ok (.iconst 0, 1) := edX8_has_0.2.2.1
theorem dX8_has_3 : decode cX8_has 3 = .ok (.istore_n 3, 1) := edX8_has_0.2.2.2.1
theorem dX8_has_4 : decode cX8_has 4 = .ok (.iload_n 3, 1) := edX8_has_0.2.2.2.2.1
theorem dX8_has_5 : decode cX8_has 5 = .ok (.iconst 4, 1) := edX8_has_0.2.2.2.2.2.1
theorem dX8_has_6 : decode cX8_has 6 = .ok (.if_icmp .ge 51, 3) := edX8_has_0.2.2.2.2.2.2.1
theorem dX8_has_9 : decode cX8_has 9 = .ok (.aload_n 0, 1) := edX8_has_0.2.2.2.2.2.2.2.1
theorem dX8_has_10 : decode cX8_has 10 = .ok (.getfield 9, 3) := edX8_has_0.2.2.2.2.2.2.2.2.1
theorem dX8_has_13 : decode cX8_has 13 = .ok (.bipush 8, 2) := edX8_has_0.2.2.2.2.2.2.2.2.2.1
theorem dX8_has_15 : decode cX8_has 15 = .ok (.iload_n 3, 1) := edX8_has_0.2.2.2.2.2.2.2.2.2.2.1
theorem dX8_has_16 : decode cX8_has 16 = .ok (.iadd, 1) := edX8_has_0.2.2.2.2.2.2.2.2.2.2.2.1
theorem dX8_has_17 : decode cX8_has 17 = .ok (.iaload, 1) := edX8_has_0.2.2.2.2.2.2.2.2.2.2.2.2.1
theorem dX8_has_18 : decode cX8_has 18 = .ok (.istore 4, 2) := edX8_has_0.2.2.2.2.2.2.2.2.2.2.2.2.2.1
theorem dX8_has_20 : decode cX8_has 20 = .ok (.iload_n 2, 1) := edX8_has_0.2.2.2.2.2.2.2.2.2.2.2.2.2.2.1
theorem dX8_has_21 : decode cX8_has 21 = .ok (.aload_n 0, 1) := edX8_has_0.2.2.2.2.2.2.2.2.2.2.2.2.2.2.2.1
theorem dX8_has_22 : decode cX8_has 22 = .ok (.getfield 9, 3) := edX8_has_0.2.2.2.2.2.2.2.2.2.2.2.2.2.2.2.2.1
theorem dX8_has_25 : decode cX8_has 25 = .ok (.bipush 12, 2) := edX8_has_0.2.2.2.2.2.2.2.2.2.2.2.2.2.2.2.2.2.1
theorem dX8_has_27 : decode cX8_has 27 = .ok (.iconst 4, 1) := edX8_has_0.2.2.2.2.2.2.2.2.2.2.2.2.2.2.2.2.2.2.1
theorem dX8_has_28 : decode cX8_has 28 = .ok (.iload_n 1, 1) := edX8_has_0.2.2.2.2.2.2.2.2.2.2.2.2.2.2.2.2.2.2.2.1
theorem dX8_has_29 : decode cX8_has 29 = .ok (.imul, 1) := edX8_has_0.2.2.2.2.2.2.2.2.2.2.2.2.2.2.2.2.2.2.2.2.1
theorem dX8_has_30 : decode cX8_has 30 = .ok (.iadd, 1) := edX8_has_0.2.2.2.2.2.2.2.2.2.2.2.2.2.2.2.2.2.2.2.2.2.1
theorem dX8_has_31 : decode cX8_has 31 = .ok (.iload_n 3, 1) := edX8_has_0.2.2.2.2.2.2.2.2.2.2.2.2.2.2.2.2.2.2.2.2.2.2.1
theorem dX8_has_32 : decode cX8_has 32 = .ok (.iadd, 1) := edX8_has_0.2.2.2.2.2.2.2.2.2.2.2.2.2.2.2.2.2.2.2.2.2.2.2.1
theorem dX8_has_33 : decode cX8_has 33 = .ok (.iaload, 1) := edX8_has_0.2.2.2.2.2.2.2.2.2.2.2.2.2.2.2.2.2.2.2.2.2.2.2.2.1
theorem dX8_has_34 : decode cX8_has 34 = .ok (.iload_n 1, 1) := edX8_has_0.2.2.2.2.2.2.2.2.2.2.2.2.2.2.2.2.2.2.2.2.2.2.2.2.2.1
theorem dX8_has_35 : decode cX8_has 35 = .ok (.ifCond .ne 8, 3) := edX8_has_0.2.2.2.2.2.2.2.2.2.2.2.2.2.2.2.2.2.2.2.2.2.2.2.2.2.2.1
theorem dX8_has_38 : decode cX8_has 38 = .ok (.iload 4, 2) := edX8_has_0.2.2.2.2.2.2.2.2.2.2.2.2.2.2.2.2.2.2.2.2.2.2.2.2.2.2.2.1
theorem dX8_has_40 : decode cX8_has 40 = .ok (.goto 8, 3) := edX8_has_0.2.2.2.2.2.2.2.2.2.2.2.2.2.2.2.2.2.2.2.2.2.2.2.2.2.2.2.2.1
theorem dX8_has_43 : decode cX8_has 43 = .ok (.bipush 9, 2) := edX8_has_0.2.2.2.2.2.2.2.2.2.2.2.2.2.2.2.2.2.2.2.2.2.2.2.2.2.2.2.2.2.1
theorem dX8_has_45 : decode cX8_has 45 = .ok (.iload 4, 2) := edX8_has_0.2.2.2.2.2.2.2.2.2.2.2.2.2.2.2.2.2.2.2.2.2.2.2.2.2.2.2.2.2.2.1
theorem dX8_has_47 : decode cX8_has 47 = .ok (.isub, 1) := edX8_has_0.2.2.2.2.2.2.2.2.2.2.2.2.2.2.2.2.2.2.2.2.2.2.2.2.2.2.2.2.2.2.2.1
theorem edX8_has_48 : (decode cX8_has 48 = .ok (.imul, 1)) ∧ (decode cX8_has 49 = .ok (.iadd, 1)) ∧ (decode cX8_has 50 = .ok (.istore_n 2, 1)) ∧ (decode cX8_has 51 = .ok (.iinc 3 1, 3)) ∧ (decode cX8_has 54 = .ok (.goto (-50), 3)) ∧ (decode cX8_has 57 = .ok (.iload_n 2, 1)) ∧ (decode cX8_has 58 = .ok (.ireturn, 1)) ∧ True := dc_cj [(48, .imul, 1), (49, .iadd, 1), (50, .istore_n 2, 1), (51, .iinc 3 1, 3), (54, .goto (-50), 3), (57, .iload_n 2, 1), (58, .ireturn, 1)] (by decide +kernel)
theorem dX8_has_48 : decode cX8_has 48 = .ok (.imul, 1) := edX8_has_48.1
theorem dX8_has_49 : decode cX8_has 49 = .ok (.iadd, 1) := edX8_has_48.2.1
theorem dX8_has_50 : decode cX8_has 50 = .ok (.istore_n 2, 1) := edX8_has_48.2.2.1
theorem dX8_has_51 : decode cX8_has 51 = .ok (.iinc 3 1, 3) := edX8_has_48.2.2.2.1
theorem dX8_has_54 : decode cX8_has 54 = .ok (.goto (-50), 3) := edX8_has_48.2.2.2.2.1
theorem dX8_has_57 : decode cX8_has 57 = .ok (.iload_n 2, 1) := edX8_has_48.2.2.2.2.2.1
theorem dX8_has_58 : decode cX8_has 58 = .ok (.ireturn, 1) := edX8_has_48.2.2.2.2.2.2.1
theorem edX8_isPeace_0 : (decode cX8_isPeace 0 = .ok (.aload_n 0, 1)) ∧ (decode cX8_isPeace 1 = .ok (.iconst 0, 1)) ∧ (decode cX8_isPeace 2 = .ok (.invokevirtual 143, 3)) ∧ (decode cX8_isPeace 5 = .ok (.aload_n 0, 1)) ∧ (decode cX8_isPeace 6 = .ok (.getfield 9, 3)) ∧ (decode cX8_isPeace 9 = .ok (.bipush 20, 2)) ∧ (decode cX8_isPeace 11 = .ok (.iaload, 1)) ∧ (decode cX8_isPeace 12 = .ok (.if_icmp .lt 22, 3)) ∧ (decode cX8_isPeace 15 = .ok (.aload_n 0, 1)) ∧ (decode cX8_isPeace 16 = .ok (.iconst 1, 1)) ∧ (decode cX8_isPeace 17 = .ok (.invokevirtual 143, 3)) ∧ (decode cX8_isPeace 20 = .ok (.aload_n 0, 1)) ∧ (decode cX8_isPeace 21 = .ok (.getfield 9, 3)) ∧ (decode cX8_isPeace 24 = .ok (.bipush 21, 2)) ∧ (decode cX8_isPeace 26 = .ok (.iaload, 1)) ∧ (decode cX8_isPeace 27 = .ok (.if_icmp .lt 7, 3)) ∧ (decode cX8_isPeace 30 = .ok (.iconst 1, 1)) ∧ (decode cX8_isPeace 31 = .ok (.goto 4, 3)) ∧ (decode cX8_isPeace 34 = .ok (.iconst 0, 1)) ∧ (decode cX8_isPeace 35 = .ok (.ireturn, 1)) ∧ True := dc_cj [(0, .aload_n 0, 1), (1, .iconst 0, 1), (2, .invokevirtual 143, 3), (5, .aload_n 0, 1), (6, .getfield 9, 3), (9, .bipush 20, 2), (11, .iaload, 1), (12, .if_icmp .lt 22, 3), (15, .aload_n 0, 1), (16, .iconst 1, 1), (17, .invokevirtual 143, 3), (20, .aload_n 0, 1), (21, .getfield 9, 3), (24, .bipush 21, 2), (26, .iaload, 1), (27, .if_icmp .lt 7, 3), (30, .iconst 1, 1), (31, .goto 4, 3), (34, .iconst 0, 1), (35, .ireturn, 1)] (by decide +kernel)
theorem dX8_isPeace_0 : decode cX8_isPeace 0 = .ok (.aload_n 0, 1) := edX8_isPeace_0.1
theorem dX8_isPeace_1 : decode cX8_isPeace 1 = .ok (.iconst 0, 1) := edX8_isPeace_0.2.1
theorem dX8_isPeace_2 : decode cX8_isPeace 2 = .ok (.invokevirtual 143, 3) := edX8_isPeace_0.2.2.1
theorem dX8_isPeace_5 : decode cX8_isPeace 5 = .ok (.aload_n 0, 1) := edX8_isPeace_0.2.2.2.1
theorem dX8_isPeace_6 : decode cX8_isPeace 6 = .ok (.getfield 9, 3) := edX8_isPeace_0.2.2.2.2.1
theorem dX8_isPeace_9 : decode cX8_isPeace 9 = .ok (.bipush 20, 2) := edX8_isPeace_0.2.2.2.2.2.1
theorem dX8_isPeace_11 : decode cX8_isPeace 11 = .ok (.iaload, 1) := edX8_isPeace_0.2.2.2.2.2.2.1
theorem dX8_isPeace_12 : decode cX8_isPeace 12 = .ok (.if_icmp .lt 22, 3) := edX8_isPeace_0.2.2.2.2.2.2.2.1
theorem dX8_isPeace_15 : decode cX8_isPeace 15 = .ok (.aload_n 0, 1) := edX8_isPeace_0.2.2.2.2.2.2.2.2.1
theorem dX8_isPeace_16 : decode cX8_isPeace 16 = .ok (.iconst 1, 1) := edX8_isPeace_0.2.2.2.2.2.2.2.2.2.1
theorem dX8_isPeace_17 : decode cX8_isPeace 17 = .ok (.invokevirtual 143, 3) := edX8_isPeace_0.2.2.2.2.2.2.2.2.2.2.1
theorem dX8_isPeace_20 : decode cX8_isPeace 20 = .ok (.aload_n 0, 1) := edX8_isPeace_0.2.2.2.2.2.2.2.2.2.2.2.1
theorem dX8_isPeace_21 : decode cX8_isPeace 21 = .ok (.getfield 9, 3) := edX8_isPeace_0.2.2.2.2.2.2.2.2.2.2.2.2.1
theorem dX8_isPeace_24 : decode cX8_isPeace 24 = .ok (.bipush 21, 2) := edX8_isPeace_0.2.2.2.2.2.2.2.2.2.2.2.2.2.1
theorem dX8_isPeace_26 : decode cX8_isPeace 26 = .ok (.iaload, 1) := edX8_isPeace_0.2.2.2.2.2.2.2.2.2.2.2.2.2.2.1
theorem dX8_isPeace_27 : decode cX8_isPeace 27 = .ok (.if_icmp .lt 7, 3) := edX8_isPeace_0.2.2.2.2.2.2.2.2.2.2.2.2.2.2.2.1
theorem dX8_isPeace_30 : decode cX8_isPeace 30 = .ok (.iconst 1, 1) := edX8_isPeace_0.2.2.2.2.2.2.2.2.2.2.2.2.2.2.2.2.1
theorem dX8_isPeace_31 : decode cX8_isPeace 31 = .ok (.goto 4, 3) := edX8_isPeace_0.2.2.2.2.2.2.2.2.2.2.2.2.2.2.2.2.2.1
theorem dX8_isPeace_34 : decode cX8_isPeace 34 = .ok (.iconst 0, 1) := edX8_isPeace_0.2.2.2.2.2.2.2.2.2.2.2.2.2.2.2.2.2.2.1
theorem dX8_isPeace_35 : decode cX8_isPeace 35 = .ok (.ireturn, 1) := edX8_isPeace_0.2.2.2.2.2.2.2.2.2.2.2.2.2.2.2.2.2.2.2.1
theorem edX8_letter_0 : (decode cX8_letter 0 = .ok (.aload_n 0, 1)) ∧ (decode cX8_letter 1 = .ok (.iload_n 1, 1)) ∧ (decode cX8_letter 2 = .ok (.iconst 3, 1)) ∧ (decode cX8_letter 3 = .ok (.aload_n 0, 1)) ∧ (decode cX8_letter 4 = .ok (.iload_n 1, 1)) ∧ (decode cX8_letter 5 = .ok (.iconst 3, 1)) ∧ (decode cX8_letter 6 = .ok (.invokevirtual 101, 3)) ∧ (decode cX8_letter 9 = .ok (.iconst 1, 1)) ∧ (decode cX8_letter 10 = .ok (.iadd, 1)) ∧ (decode cX8_letter 11 = .ok (.invokevirtual 87, 3)) ∧ (decode cX8_letter 14 = .ok (.aload_n 0, 1)) ∧ (decode cX8_letter 15 = .ok (.invokevirtual 139, 3)) ∧ (decode cX8_letter 18 = .ok (.bipush 100, 2)) ∧ (decode cX8_letter 20 = .ok (.irem, 1)) ∧ (decode cX8_letter 21 = .ok (.aload_n 0, 1)) ∧ (decode cX8_letter 22 = .ok (.getfield 9, 3)) ∧ (decode cX8_letter 25 = .ok (.iconst 5, 1)) ∧ (decode cX8_letter 26 = .ok (.iaload, 1)) ∧ (decode cX8_letter 27 = .ok (.if_icmp .ge 15, 3)) ∧ (decode cX8_letter 30 = .ok (.aload_n 0, 1)) ∧ (decode cX8_letter 31 = .ok (.getfield 9, 3)) ∧ (decode cX8_letter 34 = .ok (.bipush 6, 2)) ∧ (decode cX8_letter 36 = .ok (.dup2, 1)) ∧ (decode cX8_letter 37 = .ok (.iaload, 1)) ∧ (decode cX8_letter 38 = .ok (.iconst 1, 1)) ∧ (decode cX8_letter 39 = .ok (.iadd, 1)) ∧ (decode cX8_letter 40 = .ok (.iastore, 1)) ∧ (decode cX8_letter 41 = .ok (.return_, 1)) ∧ (decode cX8_letter 42 = .ok (.aload_n 0, 1)) ∧ (decode cX8_letter 43 = .ok (.iload_n 1, 1)) ∧ (decode cX8_letter 44 = .ok (.invokevirtual 118, 3)) ∧ (decode cX8_letter 47 = .ok (.bipush 50, 2)) ∧ True := dc_cj [(0, .aload_n 0, 1), (1, .iload_n 1, 1), (2, .iconst 3, 1), (3, .aload_n 0, 1), (4, .iload_n 1, 1), (5, .iconst 3, 1), (6, .invokevirtual 101, 3), (9, .iconst 1, 1), (10, .iadd, 1), (11, .invokevirtual 87, 3), (14, .aload_n 0, 1), (15, .invokevirtual 139, 3), (18, .bipush 100, 2), (20, .irem, 1), (21, .aload_n 0, 1), (22, .getfield 9, 3), (25, .iconst 5, 1), (26, .iaload, 1), (27, .if_icmp .ge 15, 3), (30, .aload_n 0, 1), (31, .getfield 9, 3), (34, .bipush 6, 2), (36, .dup2, 1), (37, .iaload, 1), (38, .iconst 1, 1), (39, .iadd, 1), (40, .iastore, 1), (41, .return_, 1), (42, .aload_n 0, 1), (43, .iload_n 1, 1), (44, .invokevirtual 118, 3), (47, .bipush 50, 2)] (by decide +kernel)
theorem dX8_letter_0 : decode cX8_letter 0 = .ok (.aload_n 0, 1) := edX8_letter_0.1
theorem dX8_letter_1 : decode cX8_letter 1 = .ok (.iload_n 1, 1) := edX8_letter_0.2.1
theorem dX8_letter_2 : decode cX8_letter 2 = .ok (.iconst 3, 1) := edX8_letter_0.2.2.1
theorem dX8_letter_3 : decode cX8_letter 3 = .ok (.aload_n 0, 1) := edX8_letter_0.2.2.2.1
theorem dX8_letter_4 : decode cX8_letter 4 = .ok (.iload_n 1, 1) := edX8_letter_0.2.2.2.2.1
theorem dX8_letter_5 : decode cX8_letter 5 = .ok (.iconst 3, 1) := edX8_letter_0.2.2.2.2.2.1
theorem dX8_letter_6 : decode cX8_letter 6 = .ok (.invokevirtual 101, 3) := edX8_letter_0.2.2.2.2.2.2.1
theorem dX8_letter_9 : decode cX8_letter 9 = .ok (.iconst 1, 1) := edX8_letter_0.2.2.2.2.2.2.2.1
theorem dX8_letter_10 : decode cX8_letter 10 = .ok (.iadd, 1) := edX8_letter_0.2.2.2.2.2.2.2.2.1
theorem dX8_letter_11 : decode cX8_letter 11 = .ok (.invokevirtual 87, 3) := edX8_letter_0.2.2.2.2.2.2.2.2.2.1
theorem dX8_letter_14 : decode cX8_letter 14 = .ok (.aload_n 0, 1) := edX8_letter_0.2.2.2.2.2.2.2.2.2.2.1
theorem dX8_letter_15 : decode cX8_letter 15 = .ok (.invokevirtual 139, 3) := edX8_letter_0.2.2.2.2.2.2.2.2.2.2.2.1
theorem dX8_letter_18 : decode cX8_letter 18 = .ok (.bipush 100, 2) := edX8_letter_0.2.2.2.2.2.2.2.2.2.2.2.2.1
theorem dX8_letter_20 : decode cX8_letter 20 = .ok (.irem, 1) := edX8_letter_0.2.2.2.2.2.2.2.2.2.2.2.2.2.1
theorem dX8_letter_21 : decode cX8_letter 21 = .ok (.aload_n 0, 1) := edX8_letter_0.2.2.2.2.2.2.2.2.2.2.2.2.2.2.1
theorem dX8_letter_22 : decode cX8_letter 22 = .ok (.getfield 9, 3) := edX8_letter_0.2.2.2.2.2.2.2.2.2.2.2.2.2.2.2.1
theorem dX8_letter_25 : decode cX8_letter 25 = .ok (.iconst 5, 1) := edX8_letter_0.2.2.2.2.2.2.2.2.2.2.2.2.2.2.2.2.1
theorem dX8_letter_26 : decode cX8_letter 26 = .ok (.iaload, 1) := edX8_letter_0.2.2.2.2.2.2.2.2.2.2.2.2.2.2.2.2.2.1
theorem dX8_letter_27 : decode cX8_letter 27 = .ok (.if_icmp .ge 15, 3) := edX8_letter_0.2.2.2.2.2.2.2.2.2.2.2.2.2.2.2.2.2.2.1
theorem dX8_letter_30 : decode cX8_letter 30 = .ok (.aload_n 0, 1) := edX8_letter_0.2.2.2.2.2.2.2.2.2.2.2.2.2.2.2.2.2.2.2.1
theorem dX8_letter_31 : decode cX8_letter 31 = .ok (.getfield 9, 3) := edX8_letter_0.2.2.2.2.2.2.2.2.2.2.2.2.2.2.2.2.2.2.2.2.1
theorem dX8_letter_34 : decode cX8_letter 34 = .ok (.bipush 6, 2) := edX8_letter_0.2.2.2.2.2.2.2.2.2.2.2.2.2.2.2.2.2.2.2.2.2.1
theorem dX8_letter_36 : decode cX8_letter 36 = .ok (.dup2, 1) := edX8_letter_0.2.2.2.2.2.2.2.2.2.2.2.2.2.2.2.2.2.2.2.2.2.2.1
theorem dX8_letter_37 : decode cX8_letter 37 = .ok (.iaload, 1) := edX8_letter_0.2.2.2.2.2.2.2.2.2.2.2.2.2.2.2.2.2.2.2.2.2.2.2.1
theorem dX8_letter_38 : decode cX8_letter 38 = .ok (.iconst 1, 1) := edX8_letter_0.2.2.2.2.2.2.2.2.2.2.2.2.2.2.2.2.2.2.2.2.2.2.2.2.1
theorem dX8_letter_39 : decode cX8_letter 39 = .ok (.iadd, 1) := edX8_letter_0.2.2.2.2.2.2.2.2.2.2.2.2.2.2.2.2.2.2.2.2.2.2.2.2.2.1
theorem dX8_letter_40 : decode cX8_letter 40 = .ok (.iastore, 1) := edX8_letter_0.2.2.2.2.2.2.2.2.2.2.2.2.2.2.2.2.2.2.2.2.2.2.2.2.2.2.1
theorem dX8_letter_41 : decode cX8_letter 41 = .ok (.return_, 1) := edX8_letter_0.2.2.2.2.2.2.2.2.2.2.2.2.2.2.2.2.2.2.2.2.2.2.2.2.2.2.2.1
theorem dX8_letter_42 : decode cX8_letter 42 = .ok (.aload_n 0, 1) := edX8_letter_0.2.2.2.2.2.2.2.2.2.2.2.2.2.2.2.2.2.2.2.2.2.2.2.2.2.2.2.2.1
theorem dX8_letter_43 : decode cX8_letter 43 = .ok (.iload_n 1, 1) := edX8_letter_0.2.2.2.2.2.2.2.2.2.2.2.2.2.2.2.2.2.2.2.2.2.2.2.2.2.2.2.2.2.1
theorem dX8_letter_44 : decode cX8_letter 44 = .ok (.invokevirtual 118, 3) := edX8_letter_0.2.2.2.2.2.2.2.2.2.2.2.2.2.2.2.2.2.2.2.2.2.2.2.2.2.2.2.2.2.2.1
theorem dX8_letter_47 : decode cX8_letter 47 = .ok (.bipush 50, 2) := edX8_letter_0.2.2.2.2.2.2.2.2.2.2.2.2.2.2.2.2.2.2.2.2.2.2.2.2.2.2.2.2.2.2.2.1
theorem edX8_letter_49 : (decode cX8_letter 49 = .ok (.if_icmp .lt 14, 3)) ∧ (decode cX8_letter 52 = .ok (.aload_n 0, 1)) ∧ (decode cX8_letter 53 = .ok (.dup, 1)) ∧ (decode cX8_letter 54 = .ok (.getfield 146, 3)) ∧ (decode cX8_letter 57 = .ok (.iconst 5, 1)) ∧ (decode cX8_letter 58 = .ok (.iadd, 1)) ∧ (decode cX8_letter 59 = .ok (.putfield 146, 3)) ∧ (decode cX8_letter 62 = .ok (.return_, 1)) ∧ (decode cX8_letter 63 = .ok (.aload_n 0, 1)) ∧ (decode cX8_letter 64 = .ok (.iload_n 1, 1)) ∧ (decode cX8_letter 65 = .ok (.invokevirtual 121, 3)) ∧ (decode cX8_letter 68 = .ok (.istore_n 2, 1)) ∧ (decode cX8_letter 69 = .ok (.iload_n 2, 1)) ∧ (decode cX8_letter 70 = .ok (.ifCond .lt 50, 3)) ∧ (decode cX8_letter 73 = .ok (.aload_n 0, 1)) ∧ (decode cX8_letter 74 = .ok (.getfield 23, 3)) ∧ (decode cX8_letter 77 = .ok (.iload_n 2, 1)) ∧ (decode cX8_letter 78 = .ok (.dup2, 1)) ∧ (decode cX8_letter 79 = .ok (.iaload, 1)) ∧ (decode cX8_letter 80 = .ok (.aload_n 0, 1)) ∧ (decode cX8_letter 81 = .ok (.iload_n 1, 1)) ∧ (decode cX8_letter 82 = .ok (.iconst 1, 1)) ∧ (decode cX8_letter 83 = .ok (.invokevirtual 101, 3)) ∧ (decode cX8_letter 86 = .ok (.ifCond .ne 7, 3)) ∧ (decode cX8_letter 89 = .ok (.iconst (-1), 1)) ∧ (decode cX8_letter 90 = .ok (.goto 4, 3)) ∧ (decode cX8_letter 93 = .ok (.iconst 1, 1)) ∧ (decode cX8_letter 94 = .ok (.iadd, 1)) ∧ (decode cX8_letter 95 = .ok (.iastore, 1)) ∧ (decode cX8_letter 96 = .ok (.aload_n 0, 1)) ∧ (decode cX8_letter 97 = .ok (.iload_n 1, 1)) ∧ (decode cX8_letter 98 = .ok (.iconst 4, 1)) ∧ True := dc_cj [(49, .if_icmp .lt 14, 3), (52, .aload_n 0, 1), (53, .dup, 1), (54, .getfield 146, 3), (57, .iconst 5, 1), (58, .iadd, 1), (59, .putfield 146, 3), (62, .return_, 1), (63, .aload_n 0, 1), (64, .iload_n 1, 1), (65, .invokevirtual 121, 3), (68, .istore_n 2, 1), (69, .iload_n 2, 1), (70, .ifCond .lt 50, 3), (73, .aload_n 0, 1), (74, .getfield 23, 3), (77, .iload_n 2, 1), (78, .dup2, 1), (79, .iaload, 1), (80, .aload_n 0, 1), (81, .iload_n 1, 1), (82, .iconst 1, 1), (83, .invokevirtual 101, 3), (86, .ifCond .ne 7, 3), (89, .iconst (-1), 1), (90, .goto 4, 3), (93, .iconst 1, 1), (94, .iadd, 1), (95, .iastore, 1), (96, .aload_n 0, 1), (97, .iload_n 1, 1), (98, .iconst 4, 1)] (by decide +kernel)
theorem dX8_letter_49 : decode cX8_letter 49 = .ok (.if_icmp .lt 14, 3) := edX8_letter_49.1
theorem dX8_letter_52 : decode cX8_letter 52 = .ok (.aload_n 0, 1) := edX8_letter_49.2.1
theorem dX8_letter_53 : decode cX8_letter 53 = .ok (.dup, 1) := edX8_letter_49.2.2.1
theorem dX8_letter_54 : decode cX8_letter 54 = .ok (.getfield 146, 3) := edX8_letter_49.2.2.2.1
theorem dX8_letter_57 : decode cX8_letter 57 = .ok (.iconst 5, 1) := edX8_letter_49.2.2.2.2.1
theorem dX8_letter_58 : decode cX8_letter 58 = .ok (.iadd, 1) := edX8_letter_49.2.2.2.2.2.1
theorem dX8_letter_59 : decode cX8_letter 59 = .ok (.putfield 146, 3) := edX8_letter_49.2.2.2.2.2.2.1
theorem dX8_letter_62 : decode cX8_letter 62 = .ok (.return_, 1) := edX8_letter_49.2.2.2.2.2.2.2.1
theorem dX8_letter_63 : decode cX8_letter 63 = .ok (.aload_n 0, 1) := edX8_letter_49.2.2.2.2.2.2.2.2.1
theorem dX8_letter_64 : decode cX8_letter 64 = .ok (.iload_n 1, 1) := edX8_letter_49.2.2.2.2.2.2.2.2.2.1
theorem dX8_letter_65 : decode cX8_letter 65 = .ok (.invokevirtual 121, 3) := edX8_letter_49.2.2.2.2.2.2.2.2.2.2.1
theorem dX8_letter_68 : decode cX8_letter 68 = .ok (.istore_n 2, 1) := edX8_letter_49.2.2.2.2.2.2.2.2.2.2.2.1
theorem dX8_letter_69 : decode cX8_letter 69 = .ok (.iload_n 2, 1) := edX8_letter_49.2.2.2.2.2.2.2.2.2.2.2.2.1
theorem dX8_letter_70 : decode cX8_letter 70 = .ok (.ifCond .lt 50, 3) := edX8_letter_49.2.2.2.2.2.2.2.2.2.2.2.2.2.1
theorem dX8_letter_73 : decode cX8_letter 73 = .ok (.aload_n 0, 1) := edX8_letter_49.2.2.2.2.2.2.2.2.2.2.2.2.2.2.1
theorem dX8_letter_74 : decode cX8_letter 74 = .ok (.getfield 23, 3) := edX8_letter_49.2.2.2.2.2.2.2.2.2.2.2.2.2.2.2.1
theorem dX8_letter_77 : decode cX8_letter 77 = .ok (.iload_n 2, 1) := edX8_letter_49.2.2.2.2.2.2.2.2.2.2.2.2.2.2.2.2.1
theorem dX8_letter_78 : decode cX8_letter 78 = .ok (.dup2, 1) := edX8_letter_49.2.2.2.2.2.2.2.2.2.2.2.2.2.2.2.2.2.1
theorem dX8_letter_79 : decode cX8_letter 79 = .ok (.iaload, 1) := edX8_letter_49.2.2.2.2.2.2.2.2.2.2.2.2.2.2.2.2.2.2.1
theorem dX8_letter_80 : decode cX8_letter 80 = .ok (.aload_n 0, 1) := edX8_letter_49.2.2.2.2.2.2.2.2.2.2.2.2.2.2.2.2.2.2.2.1
theorem dX8_letter_81 : decode cX8_letter 81 = .ok (.iload_n 1, 1) := edX8_letter_49.2.2.2.2.2.2.2.2.2.2.2.2.2.2.2.2.2.2.2.2.1
theorem dX8_letter_82 : decode cX8_letter 82 = .ok (.iconst 1, 1) := edX8_letter_49.2.2.2.2.2.2.2.2.2.2.2.2.2.2.2.2.2.2.2.2.2.1
theorem dX8_letter_83 : decode cX8_letter 83 = .ok (.invokevirtual 101, 3) := edX8_letter_49.2.2.2.2.2.2.2.2.2.2.2.2.2.2.2.2.2.2.2.2.2.2.1
theorem dX8_letter_86 : decode cX8_letter 86 = .ok (.ifCond .ne 7, 3) := edX8_letter_49.2.2.2.2.2.2.2.2.2.2.2.2.2.2.2.2.2.2.2.2.2.2.2.1
theorem dX8_letter_89 : decode cX8_letter 89 = .ok (.iconst (-1), 1) := edX8_letter_49.2.2.2.2.2.2.2.2.2.2.2.2.2.2.2.2.2.2.2.2.2.2.2.2.1
theorem dX8_letter_90 : decode cX8_letter 90 = .ok (.goto 4, 3) := edX8_letter_49.2.2.2.2.2.2.2.2.2.2.2.2.2.2.2.2.2.2.2.2.2.2.2.2.2.1
theorem dX8_letter_93 : decode cX8_letter 93 = .ok (.iconst 1, 1) := edX8_letter_49.2.2.2.2.2.2.2.2.2.2.2.2.2.2.2.2.2.2.2.2.2.2.2.2.2.2.1
theorem dX8_letter_94 : decode cX8_letter 94 = .ok (.iadd, 1) := edX8_letter_49.2.2.2.2.2.2.2.2.2.2.2.2.2.2.2.2.2.2.2.2.2.2.2.2.2.2.2.1
theorem dX8_letter_95 : decode cX8_letter 95 = .ok (.iastore, 1) := edX8_letter_49.2.2.2.2.2.2.2.2.2.2.2.2.2.2.2.2.2.2.2.2.2.2.2.2.2.2.2.2.1
theorem dX8_letter_96 : decode cX8_letter 96 = .ok (.aload_n 0, 1) := edX8_letter_49.2.2.2.2.2.2.2.2.2.2.2.2.2.2.2.2.2.2.2.2.2.2.2.2.2.2.2.2.2.1
theorem dX8_letter_97 : decode cX8_letter 97 = .ok (.iload_n 1, 1) := edX8_letter_49.2.2.2.2.2.2.2.2.2.2.2.2.2.2.2.2.2.2.2.2.2.2.2.2.2.2.2.2.2.2.1
theorem dX8_letter_98 : decode cX8_letter 98 = .ok (.iconst 4, 1) := edX8_letter_49.2.2.2.2.2.2.2.2.2.2.2.2.2.2.2.2.2.2.2.2.2.2.2.2.2.2.2.2.2.2.2.1
theorem edX8_letter_99 : (decode cX8_letter 99 = .ok (.aload_n 0, 1)) ∧ (decode cX8_letter 100 = .ok (.iload_n 1, 1)) ∧ (decode cX8_letter 101 = .ok (.iconst 4, 1)) ∧ (decode cX8_letter 102 = .ok (.invokevirtual 101, 3)) ∧ (decode cX8_letter 105 = .ok (.iconst 1, 1)) ∧ (decode cX8_letter 106 = .ok (.iadd, 1)) ∧ (decode cX8_letter 107 = .ok (.invokevirtual 87, 3)) ∧ (decode cX8_letter 110 = .ok (.aload_n 0, 1)) ∧ (decode cX8_letter 111 = .ok (.dup, 1)) ∧ (decode cX8_letter 112 = .ok (.getfield 146, 3)) ∧ (decode cX8_letter 115 = .ok (.iconst 1, 1)) ∧ (decode cX8_letter 116 = .ok (.isub, 1)) ∧ (decode cX8_letter 117 = .ok (.putfield 146, 3)) ∧ (decode cX8_letter 120 = .ok (.return_, 1)) ∧ True := dc_cj [(99, .aload_n 0, 1), (100, .iload_n 1, 1), (101, .iconst 4, 1), (102, .invokevirtual 101, 3), (105, .iconst 1, 1), (106, .iadd, 1), (107, .invokevirtual 87, 3), (110, .aload_n 0, 1), (111, .dup, 1), (112, .getfield 146, 3), (115, .iconst 1, 1), (116, .isub, 1), (117, .putfield 146, 3), (120, .return_, 1)] (by decide +kernel)
theorem dX8_letter_99 : decode cX8_letter 99 = .ok (.aload_n 0, 1) := edX8_letter_99.1
theorem dX8_letter_100 : decode cX8_letter 100 = .ok (.iload_n 1, 1) := edX8_letter_99.2.1
theorem dX8_letter_101 : decode cX8_letter 101 = .ok (.iconst 4, 1) := edX8_letter_99.2.2.1
theorem dX8_letter_102 : decode cX8_letter 102 = .ok (.invokevirtual 101, 3) := edX8_letter_99.2.2.2.1
theorem dX8_letter_105 : decode cX8_letter 105 = .ok (.iconst 1, 1) := edX8_letter_99.2.2.2.2.1
theorem dX8_letter_106 : decode cX8_letter 106 = .ok (.iadd, 1) := edX8_letter_99.2.2.2.2.2.1
theorem dX8_letter_107 : decode cX8_letter 107 = .ok (.invokevirtual 87, 3) := edX8_letter_99.2.2.2.2.2.2.1
theorem dX8_letter_110 : decode cX8_letter 110 = .ok (.aload_n 0, 1) := edX8_letter_99.2.2.2.2.2.2.2.1
theorem dX8_letter_111 : decode cX8_letter 111 = .ok (.dup, 1) := edX8_letter_99.2.2.2.2.2.2.2.2.1
theorem dX8_letter_112 : decode cX8_letter 112 = .ok (.getfield 146, 3) := edX8_letter_99.2.2.2.2.2.2.2.2.2.1
theorem dX8_letter_115 : decode cX8_letter 115 = .ok (.iconst 1, 1) := edX8_letter_99.2.2.2.2.2.2.2.2.2.2.1
theorem dX8_letter_116 : decode cX8_letter 116 = .ok (.isub, 1) := edX8_letter_99.2.2.2.2.2.2.2.2.2.2.2.1
theorem dX8_letter_117 : decode cX8_letter 117 = .ok (.putfield 146, 3) := edX8_letter_99.2.2.2.2.2.2.2.2.2.2.2.2.1
theorem dX8_letter_120 : decode cX8_letter 120 = .ok (.return_, 1) := edX8_letter_99.2.2.2.2.2.2.2.2.2.2.2.2.2.1
theorem edX8_post_0 : (decode cX8_post 0 = .ok (.aload_n 0, 1)) ∧ (decode cX8_post 1 = .ok (.getfield 9, 3)) ∧ (decode cX8_post 4 = .ok (.iconst 2, 1)) ∧ (decode cX8_post 5 = .ok (.dup2, 1)) ∧ (decode cX8_post 6 = .ok (.iaload, 1)) ∧ (decode cX8_post 7 = .ok (.iconst 1, 1)) ∧ (decode cX8_post 8 = .ok (.iadd, 1)) ∧ (decode cX8_post 9 = .ok (.iastore, 1)) ∧ (decode cX8_post 10 = .ok (.aload_n 0, 1)) ∧ (decode cX8_post 11 = .ok (.invokevirtual 149, 3)) ∧ (decode cX8_post 14 = .ok (.ifCond .ne 18, 3)) ∧ (decode cX8_post 17 = .ok (.aload_n 0, 1)) ∧ (decode cX8_post 18 = .ok (.getfield 9, 3)) ∧ (decode cX8_post 21 = .ok (.iconst 3, 1)) ∧ (decode cX8_post 22 = .ok (.iaload, 1)) ∧ (decode cX8_post 23 = .ok (.aload_n 0, 1)) ∧ (decode cX8_post 24 = .ok (.getfield 9, 3)) ∧ (decode cX8_post 27 = .ok (.iconst 4, 1)) ∧ (decode cX8_post 28 = .ok (.iaload, 1)) ∧ (decode cX8_post 29 = .ok (.if_icmp .lt 4, 3)) ∧ (decode cX8_post 32 = .ok (.return_, 1)) ∧ (decode cX8_post 33 = .ok (.iconst 0, 1)) ∧ (decode cX8_post 34 = .ok (.istore_n 1, 1)) ∧ (decode cX8_post 35 = .ok (.iload_n 1, 1)) ∧ (decode cX8_post 36 = .ok (.iconst 4, 1)) ∧ (decode cX8_post 37 = .ok (.if_icmp .ge 16, 3)) ∧ (decode cX8_post 40 = .ok (.aload_n 0, 1)) ∧ (decode cX8_post 41 = .ok (.getfield 23, 3)) ∧ (decode cX8_post 44 = .ok (.iload_n 1, 1)) ∧ (decode cX8_post 45 = .ok (.iconst 0, 1)) ∧ (decode cX8_post 46 = .ok (.iastore, 1)) ∧ (decode cX8_post 47 = .ok (.iinc 1 1, 3)) ∧ True := dc_cj [(0, .aload_n 0, 1), (1, .getfield 9, 3), (4, .iconst 2, 1), (5, .dup2, 1), (6, .iaload, 1), (7, .iconst 1, 1), (8, .iadd, 1), (9, .iastore, 1), (10, .aload_n 0, 1), (11, .invokevirtual 149, 3), (14, .ifCond .ne 18, 3), (17, .aload_n 0, 1), (18, .getfield 9, 3), (21, .iconst 3, 1), (22, .iaload, 1), (23, .aload_n 0, 1), (24, .getfield 9, 3), (27, .iconst 4, 1), (28, .iaload, 1), (29, .if_icmp .lt 4, 3), (32, .return_, 1), (33, .iconst 0, 1), (34, .istore_n 1, 1), (35, .iload_n 1, 1), (36, .iconst 4, 1), (37, .if_icmp .ge 16, 3), (40, .aload_n 0, 1), (41, .getfield 23, 3), (44, .iload_n 1, 1), (45, .iconst 0, 1), (46, .iastore, 1), (47, .iinc 1 1, 3)] (by decide +kernel)
theorem dX8_post_0 : decode cX8_post 0 = .ok (.aload_n 0, 1) := edX8_post_0.1
theorem dX8_post_1 : decode cX8_post 1 = .ok (.getfield 9, 3) := edX8_post_0.2.1
theorem dX8_post_4 : decode cX8_post 4 = .ok (.iconst 2, 1) := edX8_post_0.2.2.1
theorem dX8_post_5 : decode cX8_post 5 = .ok (.dup2, 1) := edX8_post_0.2.2.2.1
theorem dX8_post_6 : decode cX8_post 6 = .ok (.iaload, 1) := edX8_post_0.2.2.2.2.1
theorem dX8_post_7 : decode cX8_post 7 = .ok (.iconst 1, 1) := edX8_post_0.2.2.2.2.2.1
theorem dX8_post_8 : decode cX8_post 8 = .ok (.iadd, 1) := edX8_post_0.2.2.2.2.2.2.1
theorem dX8_post_9 : decode cX8_post 9 = .ok (.iastore, 1) := edX8_post_0.2.2.2.2.2.2.2.1
theorem dX8_post_10 : decode cX8_post 10 = .ok (.aload_n 0, 1) := edX8_post_0.2.2.2.2.2.2.2.2.1
theorem dX8_post_11 : decode cX8_post 11 = .ok (.invokevirtual 149, 3) := edX8_post_0.2.2.2.2.2.2.2.2.2.1
theorem dX8_post_14 : decode cX8_post 14 = .ok (.ifCond .ne 18, 3) := edX8_post_0.2.2.2.2.2.2.2.2.2.2.1
theorem dX8_post_17 : decode cX8_post 17 = .ok (.aload_n 0, 1) := edX8_post_0.2.2.2.2.2.2.2.2.2.2.2.1
theorem dX8_post_18 : decode cX8_post 18 = .ok (.getfield 9, 3) := edX8_post_0.2.2.2.2.2.2.2.2.2.2.2.2.1
theorem dX8_post_21 : decode cX8_post 21 = .ok (.iconst 3, 1) := edX8_post_0.2.2.2.2.2.2.2.2.2.2.2.2.2.1
theorem dX8_post_22 : decode cX8_post 22 = .ok (.iaload, 1) := edX8_post_0.2.2.2.2.2.2.2.2.2.2.2.2.2.2.1
theorem dX8_post_23 : decode cX8_post 23 = .ok (.aload_n 0, 1) := edX8_post_0.2.2.2.2.2.2.2.2.2.2.2.2.2.2.2.1
theorem dX8_post_24 : decode cX8_post 24 = .ok (.getfield 9, 3) := edX8_post_0.2.2.2.2.2.2.2.2.2.2.2.2.2.2.2.2.1
theorem dX8_post_27 : decode cX8_post 27 = .ok (.iconst 4, 1) := edX8_post_0.2.2.2.2.2.2.2.2.2.2.2.2.2.2.2.2.2.1
theorem dX8_post_28 : decode cX8_post 28 = .ok (.iaload, 1) := edX8_post_0.2.2.2.2.2.2.2.2.2.2.2.2.2.2.2.2.2.2.1
theorem dX8_post_29 : decode cX8_post 29 = .ok (.if_icmp .lt 4, 3) := edX8_post_0.2.2.2.2.2.2.2.2.2.2.2.2.2.2.2.2.2.2.2.1
theorem dX8_post_32 : decode cX8_post 32 = .ok (.return_, 1) := edX8_post_0.2.2.2.2.2.2.2.2.2.2.2.2.2.2.2.2.2.2.2.2.1
theorem dX8_post_33 : decode cX8_post 33 = .ok (.iconst 0, 1) := edX8_post_0.2.2.2.2.2.2.2.2.2.2.2.2.2.2.2.2.2.2.2.2.2.1
theorem dX8_post_34 : decode cX8_post 34 = .ok (.istore_n 1, 1) := edX8_post_0.2.2.2.2.2.2.2.2.2.2.2.2.2.2.2.2.2.2.2.2.2.2.1
theorem dX8_post_35 : decode cX8_post 35 = .ok (.iload_n 1, 1) := edX8_post_0.2.2.2.2.2.2.2.2.2.2.2.2.2.2.2.2.2.2.2.2.2.2.2.1
theorem dX8_post_36 : decode cX8_post 36 = .ok (.iconst 4, 1) := edX8_post_0.2.2.2.2.2.2.2.2.2.2.2.2.2.2.2.2.2.2.2.2.2.2.2.2.1
theorem dX8_post_37 : decode cX8_post 37 = .ok (.if_icmp .ge 16, 3) := edX8_post_0.2.2.2.2.2.2.2.2.2.2.2.2.2.2.2.2.2.2.2.2.2.2.2.2.2.1
theorem dX8_post_40 : decode cX8_post 40 = .ok (.aload_n 0, 1) := edX8_post_0.2.2.2.2.2.2.2.2.2.2.2.2.2.2.2.2.2.2.2.2.2.2.2.2.2.2.1
theorem dX8_post_41 : decode cX8_post 41 = .ok (.getfield 23, 3) := edX8_post_0.2.2.2.2.2.2.2.2.2.2.2.2.2.2.2.2.2.2.2.2.2.2.2.2.2.2.2.1
theorem dX8_post_44 : decode cX8_post 44 = .ok (.iload_n 1, 1) := edX8_post_0.2.2.2.2.2.2.2.2.2.2.2.2.2.2.2.2.2.2.2.2.2.2.2.2.2.2.2.2.1
theorem dX8_post_45 : decode cX8_post 45 = .ok (.iconst 0, 1) := edX8_post_0.2.2.2.2.2.2.2.2.2.2.2.2.2.2.2.2.2.2.2.2.2.2.2.2.2.2.2.2.2.1
theorem dX8_post_46 : decode cX8_post 46 = .ok (.iastore, 1) := edX8_post_0.2.2.2.2.2.2.2.2.2.2.2.2.2.2.2.2.2.2.2.2.2.2.2.2.2.2.2.2.2.2.1
theorem dX8_post_47 : decode cX8_post 47 = .ok (.iinc 1 1, 3) := edX8_post_0.2.2.2.2.2.2.2.2.2.2.2.2.2.2.2.2.2.2.2.2.2.2.2.2.2.2.2.2.2.2.2.1
theorem edX8_post_50 : (decode cX8_post 50 = .ok (.goto (-15), 3)) ∧ (decode cX8_post 53 = .ok (.aload_n 0, 1)) ∧ (decode cX8_post 54 = .ok (.iconst 0, 1)) ∧ (decode cX8_post 55 = .ok (.putfield 146, 3)) ∧ (decode cX8_post 58 = .ok (.iconst 0, 1)) ∧ (decode cX8_post 59 = .ok (.istore_n 1, 1)) ∧ (decode cX8_post 60 = .ok (.iload_n 1, 1)) ∧ (decode cX8_post 61 = .ok (.aload_n 0, 1)) ∧ (decode cX8_post 62 = .ok (.getfield 9, 3)) ∧ (decode cX8_post 65 = .ok (.iconst 1, 1)) ∧ (decode cX8_post 66 = .ok (.iaload, 1)) ∧ (decode cX8_post 67 = .ok (.if_icmp .ge 22, 3)) ∧ (decode cX8_post 70 = .ok (.iload_n 1, 1)) ∧ (decode cX8_post 71 = .ok (.aload_n 0, 1)) ∧ (decode cX8_post 72 = .ok (.getfield 19, 3)) ∧ (decode cX8_post 75 = .ok (.if_icmp .eq 8, 3)) ∧ (decode cX8_post 78 = .ok (.aload_n 0, 1)) ∧ (decode cX8_post 79 = .ok (.iload_n 1, 1)) ∧ (decode cX8_post 80 = .ok (.invokevirtual 153, 3)) ∧ (decode cX8_post 83 = .ok (.iinc 1 1, 3)) ∧ (decode cX8_post 86 = .ok (.goto (-26), 3)) ∧ (decode cX8_post 89 = .ok (.iconst 0, 1)) ∧ (decode cX8_post 90 = .ok (.istore_n 1, 1)) ∧ (decode cX8_post 91 = .ok (.iload_n 1, 1)) ∧ (decode cX8_post 92 = .ok (.iconst 4, 1)) ∧ (decode cX8_post 93 = .ok (.if_icmp .ge 40, 3)) ∧ (decode cX8_post 96 = .ok (.aload_n 0, 1)) ∧ (decode cX8_post 97 = .ok (.getfield 9, 3)) ∧ (decode cX8_post 100 = .ok (.bipush 8, 2)) ∧ (decode cX8_post 102 = .ok (.iload_n 1, 1)) ∧ (decode cX8_post 103 = .ok (.iadd, 1)) ∧ (decode cX8_post 104 = .ok (.aload_n 0, 1)) ∧ True := dc_cj [(50, .goto (-15), 3), (53, .aload_n 0, 1), (54, .iconst 0, 1), (55, .putfield 146, 3), (58, .iconst 0, 1), (59, .istore_n 1, 1), (60, .iload_n 1, 1), (61, .aload_n 0, 1), (62, .getfield 9, 3), (65, .iconst 1, 1), (66, .iaload, 1), (67, .if_icmp .ge 22, 3), (70, .iload_n 1, 1), (71, .aload_n 0, 1), (72, .getfield 19, 3), (75, .if_icmp .eq 8, 3), (78, .aload_n 0, 1), (79, .iload_n 1, 1), (80, .invokevirtual 153, 3), (83, .iinc 1 1, 3), (86, .goto (-26), 3), (89, .iconst 0, 1), (90, .istore_n 1, 1), (91, .iload_n 1, 1), (92, .iconst 4, 1), (93, .if_icmp .ge 40, 3), (96, .aload_n 0, 1), (97, .getfield 9, 3), (100, .bipush 8, 2), (102, .iload_n 1, 1), (103, .iadd, 1), (104, .aload_n 0, 1)] (by decide +kernel)
theorem dX8_post_50 : decode cX8_post 50 = .ok (.goto (-15), 3) := edX8_post_50.1
theorem dX8_post_53 : decode cX8_post 53 = .ok (.aload_n 0, 1) := edX8_post_50.2.1
theorem dX8_post_54 : decode cX8_post 54 = .ok (.iconst 0, 1) := edX8_post_50.2.2.1
theorem dX8_post_55 : decode cX8_post 55 = .ok (.putfield 146, 3) := edX8_post_50.2.2.2.1
theorem dX8_post_58 : decode cX8_post 58 = .ok (.iconst 0, 1) := edX8_post_50.2.2.2.2.1
theorem dX8_post_59 : decode cX8_post 59 = .ok (.istore_n 1, 1) := edX8_post_50.2.2.2.2.2.1
theorem dX8_post_60 : decode cX8_post 60 = .ok (.iload_n 1, 1) := edX8_post_50.2.2.2.2.2.2.1
theorem dX8_post_61 : decode cX8_post 61 = .ok (.aload_n 0, 1) := edX8_post_50.2.2.2.2.2.2.2.1
theorem dX8_post_62 : decode cX8_post 62 = .ok (.getfield 9, 3) := edX8_post_50.2.2.2.2.2.2.2.2.1
theorem dX8_post_65 : decode cX8_post 65 = .ok (.iconst 1, 1) := edX8_post_50.2.2.2.2.2.2.2.2.2.1
theorem dX8_post_66 : decode cX8_post 66 = .ok (.iaload, 1) := edX8_post_50.2.2.2.2.2.2.2.2.2.2.1
theorem dX8_post_67 : decode cX8_post 67 = .ok (.if_icmp .ge 22, 3) := edX8_post_50.2.2.2.2.2.2.2.2.2.2.2.1
theorem dX8_post_70 : decode cX8_post 70 = .ok (.iload_n 1, 1) := edX8_post_50.2.2.2.2.2.2.2.2.2.2.2.2.1
theorem dX8_post_71 : decode cX8_post 71 = .ok (.aload_n 0, 1) := edX8_post_50.2.2.2.2.2.2.2.2.2.2.2.2.2.1
theorem dX8_post_72 : decode cX8_post 72 = .ok (.getfield 19, 3) := edX8_post_50.2.2.2.2.2.2.2.2.2.2.2.2.2.2.1
theorem dX8_post_75 : decode cX8_post 75 = .ok (.if_icmp .eq 8, 3) := edX8_post_50.2.2.2.2.2.2.2.2.2.2.2.2.2.2.2.1
theorem dX8_post_78 : decode cX8_post 78 = .ok (.aload_n 0, 1) := edX8_post_50.2.2.2.2.2.2.2.2.2.2.2.2.2.2.2.2.1
theorem dX8_post_79 : decode cX8_post 79 = .ok (.iload_n 1, 1) := edX8_post_50.2.2.2.2.2.2.2.2.2.2.2.2.2.2.2.2.2.1
theorem dX8_post_80 : decode cX8_post 80 = .ok (.invokevirtual 153, 3) := edX8_post_50.2.2.2.2.2.2.2.2.2.2.2.2.2.2.2.2.2.2.1
theorem dX8_post_83 : decode cX8_post 83 = .ok (.iinc 1 1, 3) := edX8_post_50.2.2.2.2.2.2.2.2.2.2.2.2.2.2.2.2.2.2.2.1
theorem dX8_post_86 : decode cX8_post 86 = .ok (.goto (-26), 3) := edX8_post_50.2.2.2.2.2.2.2.2.2.2.2.2.2.2.2.2.2.2.2.2.1
theorem dX8_post_89 : decode cX8_post 89 = .ok (.iconst 0, 1) := edX8_post_50.2.2.2.2.2.2.2.2.2.2.2.2.2.2.2.2.2.2.2.2.2.1
theorem dX8_post_90 : decode cX8_post 90 = .ok (.istore_n 1, 1) := edX8_post_50.2.2.2.2.2.2.2.2.2.2.2.2.2.2.2.2.2.2.2.2.2.2.1
theorem dX8_post_91 : decode cX8_post 91 = .ok (.iload_n 1, 1) := edX8_post_50.2.2.2.2.2.2.2.2.2.2.2.2.2.2.2.2.2.2.2.2.2.2.2.1
theorem dX8_post_92 : decode cX8_post 92 = .ok (.iconst 4, 1) := edX8_post_50.2.2.2.2.2.2.2.2.2.2.2.2.2.2.2.2.2.2.2.2.2.2.2.2.1
theorem dX8_post_93 : decode cX8_post 93 = .ok (.if_icmp .ge 40, 3) := edX8_post_50.2.2.2.2.2.2.2.2.2.2.2.2.2.2.2.2.2.2.2.2.2.2.2.2.2.1
theorem dX8_post_96 : decode cX8_post 96 = .ok (.aload_n 0, 1) := edX8_post_50.2.2.2.2.2.2.2.2.2.2.2.2.2.2.2.2.2.2.2.2.2.2.2.2.2.2.1
theorem dX8_post_97 : decode cX8_post 97 = .ok (.getfield 9, 3) := edX8_post_50.2.2.2.2.2.2.2.2.2.2.2.2.2.2.2.2.2.2.2.2.2.2.2.2.2.2.2.1
theorem dX8_post_100 : decode cX8_post 100 = .ok (.bipush 8, 2) := edX8_post_50.2.2.2.2.2.2.2.2.2.2.2.2.2.2.2.2.2.2.2.2.2.2.2.2.2.2.2.2.1
theorem dX8_post_102 : decode cX8_post 102 = .ok (.iload_n 1, 1) := edX8_post_50.2.2.2.2.2.2.2.2.2.2.2.2.2.2.2.2.2.2.2.2.2.2.2.2.2.2.2.2.2.1
theorem dX8_post_103 : decode cX8_post 103 = .ok (.iadd, 1) := edX8_post_50.2.2.2.2.2.2.2.2.2.2.2.2.2.2.2.2.2.2.2.2.2.2.2.2.2.2.2.2.2.2.1
theorem dX8_post_104 : decode cX8_post 104 = .ok (.aload_n 0, 1) := edX8_post_50.2.2.2.2.2.2.2.2.2.2.2.2.2.2.2.2.2.2.2.2.2.2.2.2.2.2.2.2.2.2.2.1
theorem edX8_post_105 : (decode cX8_post 105 = .ok (.getfield 9, 3)) ∧ (decode cX8_post 108 = .ok (.bipush 8, 2)) ∧ (decode cX8_post 110 = .ok (.iload_n 1, 1)) ∧ (decode cX8_post 111 = .ok (.iadd, 1)) ∧ (decode cX8_post 112 = .ok (.iaload, 1)) ∧ (decode cX8_post 113 = .ok (.aload_n 0, 1)) ∧ (decode cX8_post 114 = .ok (.getfield 23, 3)) ∧ (decode cX8_post 117 = .ok (.iload_n 1, 1)) ∧ (decode cX8_post 118 = .ok (.iaload, 1)) ∧ (decode cX8_post 119 = .ok (.iadd, 1)) ∧ (decode cX8_post 120 = .ok (.iconst 0, 1)) ∧ (decode cX8_post 121 = .ok (.bipush 9, 2)) ∧ (decode cX8_post 123 = .ok (.invokestatic 108, 3)) ∧ (decode cX8_post 126 = .ok (.iastore, 1)) ∧ (decode cX8_post 127 = .ok (.iinc 1 1, 3)) ∧ (decode cX8_post 130 = .ok (.goto (-39), 3)) ∧ (decode cX8_post 133 = .ok (.aload_n 0, 1)) ∧ (decode cX8_post 134 = .ok (.getfield 9, 3)) ∧ (decode cX8_post 137 = .ok (.iconst 3, 1)) ∧ (decode cX8_post 138 = .ok (.aload_n 0, 1)) ∧ (decode cX8_post 139 = .ok (.getfield 9, 3)) ∧ (decode cX8_post 142 = .ok (.iconst 3, 1)) ∧ (decode cX8_post 143 = .ok (.iaload, 1)) ∧ (decode cX8_post 144 = .ok (.aload_n 0, 1)) ∧ (decode cX8_post 145 = .ok (.getfield 146, 3)) ∧ (decode cX8_post 148 = .ok (.iadd, 1)) ∧ (decode cX8_post 149 = .ok (.iconst 0, 1)) ∧ (decode cX8_post 150 = .ok (.bipush 99, 2)) ∧ (decode cX8_post 152 = .ok (.invokestatic 108, 3)) ∧ (decode cX8_post 155 = .ok (.iastore, 1)) ∧ (decode cX8_post 156 = .ok (.return_, 1)) ∧ True := dc_cj [(105, .getfield 9, 3), (108, .bipush 8, 2), (110, .iload_n 1, 1), (111, .iadd, 1), (112, .iaload, 1), (113, .aload_n 0, 1), (114, .getfield 23, 3), (117, .iload_n 1, 1), (118, .iaload, 1), (119, .iadd, 1), (120, .iconst 0, 1), (121, .bipush 9, 2), (123, .invokestatic 108, 3), (126, .iastore, 1), (127, .iinc 1 1, 3), (130, .goto (-39), 3), (133, .aload_n 0, 1), (134, .getfield 9, 3), (137, .iconst 3, 1), (138, .aload_n 0, 1), (139, .getfield 9, 3), (142, .iconst 3, 1), (143, .iaload, 1), (144, .aload_n 0, 1), (145, .getfield 146, 3), (148, .iadd, 1), (149, .iconst 0, 1), (150, .bipush 99, 2), (152, .invokestatic 108, 3), (155, .iastore, 1), (156, .return_, 1)] (by decide +kernel)
theorem dX8_post_105 : decode cX8_post 105 = .ok (.getfield 9, 3) := edX8_post_105.1
theorem dX8_post_108 : decode cX8_post 108 = .ok (.bipush 8, 2) := edX8_post_105.2.1
theorem dX8_post_110 : decode cX8_post 110 = .ok (.iload_n 1, 1) := edX8_post_105.2.2.1
theorem dX8_post_111 : decode cX8_post 111 = .ok (.iadd, 1) := edX8_post_105.2.2.2.1
theorem dX8_post_112 : decode cX8_post 112 = .ok (.iaload, 1) := edX8_post_105.2.2.2.2.1
theorem dX8_post_113 : decode cX8_post 113 = .ok (.aload_n 0, 1) := edX8_post_105.2.2.2.2.2.1
theorem dX8_post_114 : decode cX8_post 114 = .ok (.getfield 23, 3) := edX8_post_105.2.2.2.2.2.2.1
theorem dX8_post_117 : decode cX8_post 117 = .ok (.iload_n 1, 1) := edX8_post_105.2.2.2.2.2.2.2.1
theorem dX8_post_118 : decode cX8_post 118 = .ok (.iaload, 1) := edX8_post_105.2.2.2.2.2.2.2.2.1
theorem dX8_post_119 : decode cX8_post 119 = .ok (.iadd, 1) := edX8_post_105.2.2.2.2.2.2.2.2.2.1
theorem dX8_post_120 : decode cX8_post 120 = .ok (.iconst 0, 1) := edX8_post_105.2.2.2.2.2.2.2.2.2.2.1
theorem dX8_post_121 : decode cX8_post 121 = .ok (.bipush 9, 2) := edX8_post_105.2.2.2.2.2.2.2.2.2.2.2.1
theorem dX8_post_123 : decode cX8_post 123 = .ok (.invokestatic 108, 3) := edX8_post_105.2.2.2.2.2.2.2.2.2.2.2.2.1
theorem dX8_post_126 : decode cX8_post 126 = .ok (.iastore, 1) := edX8_post_105.2.2.2.2.2.2.2.2.2.2.2.2.2.1
theorem dX8_post_127 : decode cX8_post 127 = .ok (.iinc 1 1, 3) := edX8_post_105.2.2.2.2.2.2.2.2.2.2.2.2.2.2.1
theorem dX8_post_130 : decode cX8_post 130 = .ok (.goto (-39), 3) := edX8_post_105.2.2.2.2.2.2.2.2.2.2.2.2.2.2.2.1
theorem dX8_post_133 : decode cX8_post 133 = .ok (.aload_n 0, 1) := edX8_post_105.2.2.2.2.2.2.2.2.2.2.2.2.2.2.2.2.1
theorem dX8_post_134 : decode cX8_post 134 = .ok (.getfield 9, 3) := edX8_post_105.2.2.2.2.2.2.2.2.2.2.2.2.2.2.2.2.2.1
theorem dX8_post_137 : decode cX8_post 137 = .ok (.iconst 3, 1) := edX8_post_105.2.2.2.2.2.2.2.2.2.2.2.2.2.2.2.2.2.2.1
theorem dX8_post_138 : decode cX8_post 138 = .ok (.aload_n 0, 1) := edX8_post_105.2.2.2.2.2.2.2.2.2.2.2.2.2.2.2.2.2.2.2.1
theorem dX8_post_139 : decode cX8_post 139 = .ok (.getfield 9, 3) := edX8_post_105.2.2.2.2.2.2.2.2.2.2.2.2.2.2.2.2.2.2.2.2.1
theorem dX8_post_142 : decode cX8_post 142 = .ok (.iconst 3, 1) := edX8_post_105.2.2.2.2.2.2.2.2.2.2.2.2.2.2.2.2.2.2.2.2.2.1
theorem dX8_post_143 : decode cX8_post 143 = .ok (.iaload, 1) := edX8_post_105.2.2.2.2.2.2.2.2.2.2.2.2.2.2.2.2.2.2.2.2.2.2.1
theorem dX8_post_144 : decode cX8_post 144 = .ok (.aload_n 0, 1) := edX8_post_105.2.2.2.2.2.2.2.2.2.2.2.2.2.2.2.2.2.2.2.2.2.2.2.1
theorem dX8_post_145 : decode cX8_post 145 = .ok (.getfield 146, 3) := edX8_post_105.2.2.2.2.2.2.2.2.2.2.2.2.2.2.2.2.2.2.2.2.2.2.2.2.1
theorem dX8_post_148 : decode cX8_post 148 = .ok (.iadd, 1) := edX8_post_105.2.2.2.2.2.2.2.2.2.2.2.2.2.2.2.2.2.2.2.2.2.2.2.2.2.1
theorem dX8_post_149 : decode cX8_post 149 = .ok (.iconst 0, 1) := edX8_post_105.2.2.2.2.2.2.2.2.2.2.2.2.2.2.2.2.2.2.2.2.2.2.2.2.2.2.1
theorem dX8_post_150 : decode cX8_post 150 = .ok (.bipush 99, 2) := edX8_post_105.2.2.2.2.2.2.2.2.2.2.2.2.2.2.2.2.2.2.2.2.2.2.2.2.2.2.2.1
theorem dX8_post_152 : decode cX8_post 152 = .ok (.invokestatic 108, 3) := edX8_post_105.2.2.2.2.2.2.2.2.2.2.2.2.2.2.2.2.2.2.2.2.2.2.2.2.2.2.2.2.1
theorem dX8_post_155 : decode cX8_post 155 = .ok (.iastore, 1) := edX8_post_105.2.2.2.2.2.2.2.2.2.2.2.2.2.2.2.2.2.2.2.2.2.2.2.2.2.2.2.2.2.1
theorem dX8_post_156 : decode cX8_post 156 = .ok (.return_, 1) := edX8_post_105.2.2.2.2.2.2.2.2.2.2.2.2.2.2.2.2.2.2.2.2.2.2.2.2.2.2.2.2.2.2.1
theorem edX8_goesOn_0 : (decode cX8_goesOn 0 = .ok (.iconst 0, 1)) ∧ (decode cX8_goesOn 1 = .ok (.istore_n 2, 1)) ∧ (decode cX8_goesOn 2 = .ok (.iload_n 2, 1)) ∧ (decode cX8_goesOn 3 = .ok (.iload_n 1, 1)) ∧ (decode cX8_goesOn 4 = .ok (.if_icmp .ge 13, 3)) ∧ (decode cX8_goesOn 7 = .ok (.aload_n 0, 1)) ∧ (decode cX8_goesOn 8 = .ok (.invokevirtual 157, 3)) ∧ (decode cX8_goesOn 11 = .ok (.iinc 2 1, 3)) ∧ (decode cX8_goesOn 14 = .ok (.goto (-12), 3)) ∧ (decode cX8_goesOn 17 = .ok (.return_, 1)) ∧ True := dc_cj [(0, .iconst 0, 1), (1, .istore_n 2, 1), (2, .iload_n 2, 1), (3, .iload_n 1, 1), (4, .if_icmp .ge 13, 3), (7, .aload_n 0, 1), (8, .invokevirtual 157, 3), (11, .iinc 2 1, 3), (14, .goto (-12), 3), (17, .return_, 1)] (by decide +kernel)
theorem dX8_goesOn_0 : decode cX8_goesOn 0 = .ok (.iconst 0, 1) := edX8_goesOn_0.1
theorem dX8_goesOn_1 : decode cX8_goesOn 1 = .ok (.istore_n 2, 1) := edX8_goesOn_0.2.1
theorem dX8_goesOn_2 : decode cX8_goesOn 2 = .ok (.iload_n 2, 1) := edX8_goesOn_0.2.2.1
theorem dX8_goesOn_3 : decode cX8_goesOn 3 = .ok (.iload_n 1, 1) := edX8_goesOn_0.2.2.2.1
theorem dX8_goesOn_4 : decode cX8_goesOn 4 = .ok (.if_icmp .ge 13, 3) := edX8_goesOn_0.2.2.2.2.1
theorem dX8_goesOn_7 : decode cX8_goesOn 7 = .ok (.aload_n 0, 1) := edX8_goesOn_0.2.2.2.2.2.1
theorem dX8_goesOn_8 : decode cX8_goesOn 8 = .ok (.invokevirtual 157, 3) := edX8_goesOn_0.2.2.2.2.2.2.1
theorem dX8_goesOn_11 : decode cX8_goesOn 11 = .ok (.iinc 2 1, 3) := edX8_goesOn_0.2.2.2.2.2.2.2.1
theorem dX8_goesOn_14 : decode cX8_goesOn 14 = .ok (.goto (-12), 3) := edX8_goesOn_0.2.2.2.2.2.2.2.2.1
theorem dX8_goesOn_17 : decode cX8_goesOn 17 = .ok (.return_, 1) := edX8_goesOn_0.2.2.2.2.2.2.2.2.2.1
theorem edX8_sumOf_0 : (decode cX8_sumOf 0 = .ok (.iconst 0, 1)) ∧ (decode cX8_sumOf 1 = .ok (.istore_n 2, 1)) ∧ (decode cX8_sumOf 2 = .ok (.iconst 0, 1)) ∧ (decode cX8_sumOf 3 = .ok (.istore_n 3, 1)) ∧ (decode cX8_sumOf 4 = .ok (.iload_n 3, 1)) ∧ (decode cX8_sumOf 5 = .ok (.aload_n 0, 1)) ∧ (decode cX8_sumOf 6 = .ok (.getfield 9, 3)) ∧ (decode cX8_sumOf 9 = .ok (.iconst 1, 1)) ∧ (decode cX8_sumOf 10 = .ok (.iaload, 1)) ∧ (decode cX8_sumOf 11 = .ok (.if_icmp .ge 18, 3)) ∧ (decode cX8_sumOf 14 = .ok (.iload_n 2, 1)) ∧ (decode cX8_sumOf 15 = .ok (.aload_n 0, 1)) ∧ (decode cX8_sumOf 16 = .ok (.iload_n 3, 1)) ∧ (decode cX8_sumOf 17 = .ok (.iload_n 1, 1)) ∧ (decode cX8_sumOf 18 = .ok (.invokevirtual 101, 3)) ∧ (decode cX8_sumOf 21 = .ok (.iadd, 1)) ∧ (decode cX8_sumOf 22 = .ok (.istore_n 2, 1)) ∧ (decode cX8_sumOf 23 = .ok (.iinc 3 1, 3)) ∧ (decode cX8_sumOf 26 = .ok (.goto (-22), 3)) ∧ (decode cX8_sumOf 29 = .ok (.iload_n 2, 1)) ∧ (decode cX8_sumOf 30 = .ok (.ireturn, 1)) ∧ True := dc_cj [(0, .iconst 0, 1), (1, .istore_n 2, 1), (2, .iconst 0, 1), (3, .istore_n 3, 1), (4, .iload_n 3, 1), (5, .aload_n 0, 1), (6, .getfield 9, 3), (9, .iconst 1, 1), (10, .iaload, 1), (11, .if_icmp .ge 18, 3), (14, .iload_n 2, 1), (15, .aload_n 0, 1), (16, .iload_n 3, 1), (17, .iload_n 1, 1), (18, .invokevirtual 101, 3), (21, .iadd, 1), (22, .istore_n 2, 1), (23, .iinc 3 1, 3), (26, .goto (-22), 3), (29, .iload_n 2, 1), (30, .ireturn, 1)] (by decide +kernel)
theorem dX8_sumOf_0 : decode cX8_sumOf 0 = .ok (.iconst 0, 1) := edX8_sumOf_0.1
theorem dX8_sumOf_1 : decode cX8_sumOf 1 = .ok (.istore_n 2, 1) := edX8_sumOf_0.2.1
theorem dX8_sumOf_2 : decode cX8_sumOf 2 = .ok (.iconst 0, 1) := edX8_sumOf_0.2.2.1
theorem dX8_sumOf_3 : decode cX8_sumOf 3 = .ok (.istore_n 3, 1) := edX8_sumOf_0.2.2.2.1
theorem dX8_sumOf_4 : decode cX8_sumOf 4 = .ok (.iload_n 3, 1) := edX8_sumOf_0.2.2.2.2.1
theorem dX8_sumOf_5 : decode cX8_sumOf 5 = .ok (.aload_n 0, 1) := edX8_sumOf_0.2.2.2.2.2.1
theorem dX8_sumOf_6 : decode cX8_sumOf 6 = .ok (.getfield 9, 3) := edX8_sumOf_0.2.2.2.2.2.2.1
theorem dX8_sumOf_9 : decode cX8_sumOf 9 = .ok (.iconst 1, 1) := edX8_sumOf_0.2.2.2.2.2.2.2.1
theorem dX8_sumOf_10 : decode cX8_sumOf 10 = .ok (.iaload, 1) := edX8_sumOf_0.2.2.2.2.2.2.2.2.1
theorem dX8_sumOf_11 : decode cX8_sumOf 11 = .ok (.if_icmp .ge 18, 3) := edX8_sumOf_0.2.2.2.2.2.2.2.2.2.1
theorem dX8_sumOf_14 : decode cX8_sumOf 14 = .ok (.iload_n 2, 1) := edX8_sumOf_0.2.2.2.2.2.2.2.2.2.2.1
theorem dX8_sumOf_15 : decode cX8_sumOf 15 = .ok (.aload_n 0, 1) := edX8_sumOf_0.2.2.2.2.2.2.2.2.2.2.2.1
theorem dX8_sumOf_16 : decode cX8_sumOf 16 = .ok (.iload_n 3, 1) := edX8_sumOf_0.2.2.2.2.2.2.2.2.2.2.2.2.1
theorem dX8_sumOf_17 : decode cX8_sumOf 17 = .ok (.iload_n 1, 1) := edX8_sumOf_0.2.2.2.2.2.2.2.2.2.2.2.2.2.1
theorem dX8_sumOf_18 : decode cX8_sumOf 18 = .ok (.invokevirtual 101, 3) := edX8_sumOf_0.2.2.2.2.2.2.2.2.2.2.2.2.2.2.1
theorem dX8_sumOf_21 : decode cX8_sumOf 21 = .ok (.iadd, 1) := edX8_sumOf_0.2.2.2.2.2.2.2.2.2.2.2.2.2.2.2.1
theorem dX8_sumOf_22 : decode cX8_sumOf 22 = .ok (.istore_n 2, 1) := edX8_sumOf_0.2.2.2.2.2.2.2.2.2.2.2.2.2.2.2.2.1
theorem dX8_sumOf_23 : decode cX8_sumOf 23 = .ok (.iinc 3 1, 3) := edX8_sumOf_0.2.2.2.2.2.2.2.2.2.2.2.2.2.2.2.2.2.1
theorem dX8_sumOf_26 : decode cX8_sumOf 26 = .ok (.goto (-22), 3) := edX8_sumOf_0.2.2.2.2.2.2.2.2.2.2.2.2.2.2.2.2.2.2.1
theorem dX8_sumOf_29 : decode cX8_sumOf 29 = .ok (.iload_n 2, 1) := edX8_sumOf_0.2.2.2.2.2.2.2.2.2.2.2.2.2.2.2.2.2.2.2.1
theorem dX8_sumOf_30 : decode cX8_sumOf 30 = .ok (.ireturn, 1) := edX8_sumOf_0.2.2.2.2.2.2.2.2.2.2.2.2.2.2.2.2.2.2.2.2.1
theorem edX8_posts_0 : (decode cX8_posts 0 = .ok (.iload_n 1, 1)) ∧ (decode cX8_posts 1 = .ok (.iconst 1, 1)) ∧ (decode cX8_posts 2 = .ok (.bipush 100, 2)) ∧ (decode cX8_posts 4 = .ok (.invokestatic 83, 3)) ∧ (decode cX8_posts 7 = .ok (.ifCond .ne 6, 3)) ∧ (decode cX8_posts 10 = .ok (.ldc 91, 2)) ∧ (decode cX8_posts 12 = .ok (.ireturn, 1)) ∧ (decode cX8_posts 13 = .ok (.aload_n 0, 1)) ∧ (decode cX8_posts 14 = .ok (.iconst 4, 1)) ∧ (decode cX8_posts 15 = .ok (.invokevirtual 160, 3)) ∧ (decode cX8_posts 18 = .ok (.istore_n 2, 1)) ∧ (decode cX8_posts 19 = .ok (.aload_n 0, 1)) ∧ (decode cX8_posts 20 = .ok (.sipush 9999, 3)) ∧ (decode cX8_posts 23 = .ok (.aload_n 0, 1)) ∧ (decode cX8_posts 24 = .ok (.getfield 9, 3)) ∧ (decode cX8_posts 27 = .ok (.iconst 2, 1)) ∧ (decode cX8_posts 28 = .ok (.iaload, 1)) ∧ (decode cX8_posts 29 = .ok (.isub, 1)) ∧ (decode cX8_posts 30 = .ok (.iconst 0, 1)) ∧ (decode cX8_posts 31 = .ok (.iload_n 1, 1)) ∧ (decode cX8_posts 32 = .ok (.invokestatic 108, 3)) ∧ (decode cX8_posts 35 = .ok (.invokevirtual 163, 3)) ∧ (decode cX8_posts 38 = .ok (.aload_n 0, 1)) ∧ (decode cX8_posts 39 = .ok (.iconst 4, 1)) ∧ (decode cX8_posts 40 = .ok (.invokevirtual 160, 3)) ∧ (decode cX8_posts 43 = .ok (.iload_n 2, 1)) ∧ (decode cX8_posts 44 = .ok (.isub, 1)) ∧ (decode cX8_posts 45 = .ok (.ireturn, 1)) ∧ True := dc_cj [(0, .iload_n 1, 1), (1, .iconst 1, 1), (2, .bipush 100, 2), (4, .invokestatic 83, 3), (7, .ifCond .ne 6, 3), (10, .ldc 91, 2), (12, .ireturn, 1), (13, .aload_n 0, 1), (14, .iconst 4, 1), (15, .invokevirtual 160, 3), (18, .istore_n 2, 1), (19, .aload_n 0, 1), (20, .sipush 9999, 3), (23, .aload_n 0, 1), (24, .getfield 9, 3), (27, .iconst 2, 1), (28, .iaload, 1), (29, .isub, 1), (30, .iconst 0, 1), (31, .iload_n 1, 1), (32, .invokestatic 108, 3), (35, .invokevirtual 163, 3), (38, .aload_n 0, 1), (39, .iconst 4, 1), (40, .invokevirtual 160, 3), (43, .iload_n 2, 1), (44, .isub, 1), (45, .ireturn, 1)] (by decide +kernel)
theorem dX8_posts_0 : decode cX8_posts 0 = .ok (.iload_n 1, 1) := edX8_posts_0.1
theorem dX8_posts_1 : decode cX8_posts 1 = .ok (.iconst 1, 1) := edX8_posts_0.2.1
theorem dX8_posts_2 : decode cX8_posts 2 = .ok (.bipush 100, 2) := edX8_posts_0.2.2.1
theorem dX8_posts_4 : decode cX8_posts 4 = .ok (.invokestatic 83, 3) := edX8_posts_0.2.2.2.1
theorem dX8_posts_7 : decode cX8_posts 7 = .ok (.ifCond .ne 6, 3) := edX8_posts_0.2.2.2.2.1
theorem dX8_posts_10 : decode cX8_posts 10 = .ok (.ldc 91, 2) := edX8_posts_0.2.2.2.2.2.1
theorem dX8_posts_12 : decode cX8_posts 12 = .ok (.ireturn, 1) := edX8_posts_0.2.2.2.2.2.2.1
theorem dX8_posts_13 : decode cX8_posts 13 = .ok (.aload_n 0, 1) := edX8_posts_0.2.2.2.2.2.2.2.1
theorem dX8_posts_14 : decode cX8_posts 14 = .ok (.iconst 4, 1) := edX8_posts_0.2.2.2.2.2.2.2.2.1
theorem dX8_posts_15 : decode cX8_posts 15 = .ok (.invokevirtual 160, 3) := edX8_posts_0.2.2.2.2.2.2.2.2.2.1
theorem dX8_posts_18 : decode cX8_posts 18 = .ok (.istore_n 2, 1) := edX8_posts_0.2.2.2.2.2.2.2.2.2.2.1
theorem dX8_posts_19 : decode cX8_posts 19 = .ok (.aload_n 0, 1) := edX8_posts_0.2.2.2.2.2.2.2.2.2.2.2.1
theorem dX8_posts_20 : decode cX8_posts 20 = .ok (.sipush 9999, 3) := edX8_posts_0.2.2.2.2.2.2.2.2.2.2.2.2.1
theorem dX8_posts_23 : decode cX8_posts 23 = .ok (.aload_n 0, 1) := edX8_posts_0.2.2.2.2.2.2.2.2.2.2.2.2.2.1
theorem dX8_posts_24 : decode cX8_posts 24 = .ok (.getfield 9, 3) := edX8_posts_0.2.2.2.2.2.2.2.2.2.2.2.2.2.2.1
theorem dX8_posts_27 : decode cX8_posts 27 = .ok (.iconst 2, 1) := edX8_posts_0.2.2.2.2.2.2.2.2.2.2.2.2.2.2.2.1
theorem dX8_posts_28 : decode cX8_posts 28 = .ok (.iaload, 1) := edX8_posts_0.2.2.2.2.2.2.2.2.2.2.2.2.2.2.2.2.1
theorem dX8_posts_29 : decode cX8_posts 29 = .ok (.isub, 1) := edX8_posts_0.2.2.2.2.2.2.2.2.2.2.2.2.2.2.2.2.2.1
theorem dX8_posts_30 : decode cX8_posts 30 = .ok (.iconst 0, 1) := edX8_posts_0.2.2.2.2.2.2.2.2.2.2.2.2.2.2.2.2.2.2.1
theorem dX8_posts_31 : decode cX8_posts 31 = .ok (.iload_n 1, 1) := edX8_posts_0.2.2.2.2.2.2.2.2.2.2.2.2.2.2.2.2.2.2.2.1
theorem dX8_posts_32 : decode cX8_posts 32 = .ok (.invokestatic 108, 3) := edX8_posts_0.2.2.2.2.2.2.2.2.2.2.2.2.2.2.2.2.2.2.2.2.1
theorem dX8_posts_35 : decode cX8_posts 35 = .ok (.invokevirtual 163, 3) := edX8_posts_0.2.2.2.2.2.2.2.2.2.2.2.2.2.2.2.2.2.2.2.2.2.1
theorem dX8_posts_38 : decode cX8_posts 38 = .ok (.aload_n 0, 1) := edX8_posts_0.2.2.2.2.2.2.2.2.2.2.2.2.2.2.2.2.2.2.2.2.2.2.1
theorem dX8_posts_39 : decode cX8_posts 39 = .ok (.iconst 4, 1) := edX8_posts_0.2.2.2.2.2.2.2.2.2.2.2.2.2.2.2.2.2.2.2.2.2.2.2.1
theorem dX8_posts_40 : decode cX8_posts 40 = .ok (.invokevirtual 160, 3) := edX8_posts_0.2.2.2.2.2.2.2.2.2.2.2.2.2.2.2.2.2.2.2.2.2.2.2.2.1
theorem dX8_posts_43 : decode cX8_posts 43 = .ok (.iload_n 2, 1) := edX8_posts_0.2.2.2.2.2.2.2.2.2.2.2.2.2.2.2.2.2.2.2.2.2.2.2.2.2.1
theorem dX8_posts_44 : decode cX8_posts 44 = .ok (.isub, 1) := edX8_posts_0.2.2.2.2.2.2.2.2.2.2.2.2.2.2.2.2.2.2.2.2.2.2.2.2.2.2.1
theorem dX8_posts_45 : decode cX8_posts 45 = .ok (.ireturn, 1) := edX8_posts_0.2.2.2.2.2.2.2.2.2.2.2.2.2.2.2.2.2.2.2.2.2.2.2.2.2.2.2.1
theorem edX8_stands_0 : (decode cX8_stands 0 = .ok (.iconst 0, 1)) ∧ (decode cX8_stands 1 = .ok (.istore_n 1, 1)) ∧ (decode cX8_stands 2 = .ok (.iconst 0, 1)) ∧ (decode cX8_stands 3 = .ok (.istore_n 2, 1)) ∧ (decode cX8_stands 4 = .ok (.iload_n 2, 1)) ∧ (decode cX8_stands 5 = .ok (.iconst 4, 1)) ∧ (decode cX8_stands 6 = .ok (.if_icmp .ge 24, 3)) ∧ (decode cX8_stands 9 = .ok (.bipush 10, 2)) ∧ (decode cX8_stands 11 = .ok (.iload_n 1, 1)) ∧ (decode cX8_stands 12 = .ok (.imul, 1)) ∧ (decode cX8_stands 13 = .ok (.aload_n 0, 1)) ∧ (decode cX8_stands 14 = .ok (.getfield 9, 3)) ∧ (decode cX8_stands 17 = .ok (.bipush 8, 2)) ∧ (decode cX8_stands 19 = .ok (.iload_n 2, 1)) ∧ (decode cX8_stands 20 = .ok (.iadd, 1)) ∧ (decode cX8_stands 21 = .ok (.iaload, 1)) ∧ (decode cX8_stands 22 = .ok (.iadd, 1)) ∧ (decode cX8_stands 23 = .ok (.istore_n 1, 1)) ∧ (decode cX8_stands 24 = .ok (.iinc 2 1, 3)) ∧ (decode cX8_stands 27 = .ok (.goto (-23), 3)) ∧ (decode cX8_stands 30 = .ok (.iload_n 1, 1)) ∧ (decode cX8_stands 31 = .ok (.ireturn, 1)) ∧ True := dc_cj [(0, .iconst 0, 1), (1, .istore_n 1, 1), (2, .iconst 0, 1), (3, .istore_n 2, 1), (4, .iload_n 2, 1), (5, .iconst 4, 1), (6, .if_icmp .ge 24, 3), (9, .bipush 10, 2), (11, .iload_n 1, 1), (12, .imul, 1), (13, .aload_n 0, 1), (14, .getfield 9, 3), (17, .bipush 8, 2), (19, .iload_n 2, 1), (20, .iadd, 1), (21, .iaload, 1), (22, .iadd, 1), (23, .istore_n 1, 1), (24, .iinc 2 1, 3), (27, .goto (-23), 3), (30, .iload_n 1, 1), (31, .ireturn, 1)] (by decide +kernel)
theorem dX8_stands_0 : decode cX8_stands 0 = .ok (.iconst 0, 1) := edX8_stands_0.1
theorem dX8_stands_1 : decode cX8_stands 1 = .ok (.istore_n 1, 1) := edX8_stands_0.2.1
theorem dX8_stands_2 : decode cX8_stands 2 = .ok (.iconst 0, 1) := edX8_stands_0.2.2.1
theorem dX8_stands_3 : decode cX8_stands 3 = .ok (.istore_n 2, 1) := edX8_stands_0.2.2.2.1
theorem dX8_stands_4 : decode cX8_stands 4 = .ok (.iload_n 2, 1) := edX8_stands_0.2.2.2.2.1
theorem dX8_stands_5 : decode cX8_stands 5 = .ok (.iconst 4, 1) := edX8_stands_0.2.2.2.2.2.1
theorem dX8_stands_6 : decode cX8_stands 6 = .ok (.if_icmp .ge 24, 3) := edX8_stands_0.2.2.2.2.2.2.1
theorem dX8_stands_9 : decode cX8_stands 9 = .ok (.bipush 10, 2) := edX8_stands_0.2.2.2.2.2.2.2.1
theorem dX8_stands_11 : decode cX8_stands 11 = .ok (.iload_n 1, 1) := edX8_stands_0.2.2.2.2.2.2.2.2.1
theorem dX8_stands_12 : decode cX8_stands 12 = .ok (.imul, 1) := edX8_stands_0.2.2.2.2.2.2.2.2.2.1
theorem dX8_stands_13 : decode cX8_stands 13 = .ok (.aload_n 0, 1) := edX8_stands_0.2.2.2.2.2.2.2.2.2.2.1
theorem dX8_stands_14 : decode cX8_stands 14 = .ok (.getfield 9, 3) := edX8_stands_0.2.2.2.2.2.2.2.2.2.2.2.1
theorem dX8_stands_17 : decode cX8_stands 17 = .ok (.bipush 8, 2) := edX8_stands_0.2.2.2.2.2.2.2.2.2.2.2.2.1
theorem dX8_stands_19 : decode cX8_stands 19 = .ok (.iload_n 2, 1) := edX8_stands_0.2.2.2.2.2.2.2.2.2.2.2.2.2.1
theorem dX8_stands_20 : decode cX8_stands 20 = .ok (.iadd, 1) := edX8_stands_0.2.2.2.2.2.2.2.2.2.2.2.2.2.2.1
theorem dX8_stands_21 : decode cX8_stands 21 = .ok (.iaload, 1) := edX8_stands_0.2.2.2.2.2.2.2.2.2.2.2.2.2.2.2.1
theorem dX8_stands_22 : decode cX8_stands 22 = .ok (.iadd, 1) := edX8_stands_0.2.2.2.2.2.2.2.2.2.2.2.2.2.2.2.2.1
theorem dX8_stands_23 : decode cX8_stands 23 = .ok (.istore_n 1, 1) := edX8_stands_0.2.2.2.2.2.2.2.2.2.2.2.2.2.2.2.2.2.1
theorem dX8_stands_24 : decode cX8_stands 24 = .ok (.iinc 2 1, 3) := edX8_stands_0.2.2.2.2.2.2.2.2.2.2.2.2.2.2.2.2.2.2.1
theorem dX8_stands_27 : decode cX8_stands 27 = .ok (.goto (-23), 3) := edX8_stands_0.2.2.2.2.2.2.2.2.2.2.2.2.2.2.2.2.2.2.2.1
theorem dX8_stands_30 : decode cX8_stands 30 = .ok (.iload_n 1, 1) := edX8_stands_0.2.2.2.2.2.2.2.2.2.2.2.2.2.2.2.2.2.2.2.2.1
theorem dX8_stands_31 : decode cX8_stands 31 = .ok (.ireturn, 1) := edX8_stands_0.2.2.2.2.2.2.2.2.2.2.2.2.2.2.2.2.2.2.2.2.2.1
theorem edX8_table_0 : (decode cX8_table 0 = .ok (.iload_n 1, 1)) ∧ (decode cX8_table 1 = .ok (.tableswitch 87 0 6 #[43, 43, 49, 62, 67, 75, 81], 43)) ∧ (decode cX8_table 44 = .ok (.aload_n 0, 1)) ∧ (decode cX8_table 45 = .ok (.iload_n 1, 1)) ∧ (decode cX8_table 46 = .ok (.invokevirtual 143, 3)) ∧ (decode cX8_table 49 = .ok (.ireturn, 1)) ∧ (decode cX8_table 50 = .ok (.aload_n 0, 1)) ∧ (decode cX8_table 51 = .ok (.invokevirtual 149, 3)) ∧ (decode cX8_table 54 = .ok (.ifCond .eq 7, 3)) ∧ (decode cX8_table 57 = .ok (.iconst 1, 1)) ∧ (decode cX8_table 58 = .ok (.goto 4, 3)) ∧ (decode cX8_table 61 = .ok (.iconst 0, 1)) ∧ (decode cX8_table 62 = .ok (.ireturn, 1)) ∧ (decode cX8_table 63 = .ok (.aload_n 0, 1)) ∧ (decode cX8_table 64 = .ok (.invokevirtual 166, 3)) ∧ (decode cX8_table 67 = .ok (.ireturn, 1)) ∧ (decode cX8_table 68 = .ok (.aload_n 0, 1)) ∧ (decode cX8_table 69 = .ok (.getfield 9, 3)) ∧ (decode cX8_table 72 = .ok (.bipush 6, 2)) ∧ (decode cX8_table 74 = .ok (.iaload, 1)) ∧ (decode cX8_table 75 = .ok (.ireturn, 1)) ∧ (decode cX8_table 76 = .ok (.aload_n 0, 1)) ∧ (decode cX8_table 77 = .ok (.iconst 3, 1)) ∧ (decode cX8_table 78 = .ok (.invokevirtual 160, 3)) ∧ (decode cX8_table 81 = .ok (.ireturn, 1)) ∧ (decode cX8_table 82 = .ok (.aload_n 0, 1)) ∧ (decode cX8_table 83 = .ok (.iconst 4, 1)) ∧ (decode cX8_table 84 = .ok (.invokevirtual 160, 3)) ∧ (decode cX8_table 87 = .ok (.ireturn, 1)) ∧ (decode cX8_table 88 = .ok (.ldc 91, 2)) ∧ (decode cX8_table 90 = .ok (.ireturn, 1)) ∧ True := dc_cj [(0, .iload_n 1, 1), (1, .tableswitch 87 0 6 #[43, 43, 49, 62, 67, 75, 81], 43), (44, .aload_n 0, 1), (45, .iload_n 1, 1), (46, .invokevirtual 143, 3), (49, .ireturn, 1), (50, .aload_n 0, 1), (51, .invokevirtual 149, 3), (54, .ifCond .eq 7, 3), (57, .iconst 1, 1), (58, .goto 4, 3), (61, .iconst 0, 1), (62, .ireturn, 1), (63, .aload_n 0, 1), (64, .invokevirtual 166, 3), (67, .ireturn, 1), (68, .aload_n 0, 1), (69, .getfield 9, 3), (72, .bipush 6, 2), (74, .iaload, 1), (75, .ireturn, 1), (76, .aload_n 0, 1), (77, .iconst 3, 1), (78, .invokevirtual 160, 3), (81, .ireturn, 1), (82, .aload_n 0, 1), (83, .iconst 4, 1), (84, .invokevirtual 160, 3), (87, .ireturn, 1), (88, .ldc 91, 2), (90, .ireturn, 1)] (by decide +kernel)
theorem dX8_table_0 : decode cX8_table 0 = .ok (.iload_n 1, 1) := edX8_table_0.1
theorem dX8_table_1 : decode cX8_table 1 = .ok (.tableswitch 87 0 6 #[43, 43, 49, 62, 67, 75, 81], 43) := edX8_table_0.2.1
theorem dX8_table_44 : decode cX8_table 44 = .ok (.aload_n 0, 1) := edX8_table_0.2.2.1
theorem dX8_table_45 : decode cX8_table 45 = .ok (.iload_n 1, 1) := edX8_table_0.2.2.2.1
theorem dX8_table_46 : decode cX8_table 46 = .ok (.invokevirtual 143, 3) := edX8_table_0.2.2.2.2.1
theorem dX8_table_49 : decode cX8_table 49 = .ok (.ireturn, 1) := edX8_table_0.2.2.2.2.2.1
theorem dX8_table_50 : decode cX8_table 50 = .ok (.aload_n 0, 1) := edX8_table_0.2.2.2.2.2.2.1
theorem dX8_table_51 : decode cX8_table 51 = .ok (.invokevirtual 149, 3) := edX8_table_0.2.2.2.2.2.2.2.1
theorem dX8_table_54 : decode cX8_table 54 = .ok (.ifCond .eq 7, 3) := edX8_table_0.2.2.2.2.2.2.2.2.1
theorem dX8_table_57 : decode cX8_table 57 = .ok (.iconst 1, 1) := edX8_table_0.2.2.2.2.2.2.2.2.2.1
theorem dX8_table_58 : decode cX8_table 58 = .ok (.goto 4, 3) := edX8_table_0.2.2.2.2.2.2.2.2.2.2.1
theorem dX8_table_61 : decode cX8_table 61 = .ok (.iconst 0, 1) := edX8_table_0.2.2.2.2.2.2.2.2.2.2.2.1
theorem dX8_table_62 : decode cX8_table 62 = .ok (.ireturn, 1) := edX8_table_0.2.2.2.2.2.2.2.2.2.2.2.2.1
theorem dX8_table_63 : decode cX8_table 63 = .ok (.aload_n 0, 1) := edX8_table_0.2.2.2.2.2.2.2.2.2.2.2.2.2.1
theorem dX8_table_64 : decode cX8_table 64 = .ok (.invokevirtual 166, 3) := edX8_table_0.2.2.2.2.2.2.2.2.2.2.2.2.2.2.1
theorem dX8_table_67 : decode cX8_table 67 = .ok (.ireturn, 1) := edX8_table_0.2.2.2.2.2.2.2.2.2.2.2.2.2.2.2.1
theorem dX8_table_68 : decode cX8_table 68 = .ok (.aload_n 0, 1) := edX8_table_0.2.2.2.2.2.2.2.2.2.2.2.2.2.2.2.2.1
theorem dX8_table_69 : decode cX8_table 69 = .ok (.getfield 9, 3) := edX8_table_0.2.2.2.2.2.2.2.2.2.2.2.2.2.2.2.2.2.1
theorem dX8_table_72 : decode cX8_table 72 = .ok (.bipush 6, 2) := edX8_table_0.2.2.2.2.2.2.2.2.2.2.2.2.2.2.2.2.2.2.1
theorem dX8_table_74 : decode cX8_table 74 = .ok (.iaload, 1) := edX8_table_0.2.2.2.2.2.2.2.2.2.2.2.2.2.2.2.2.2.2.2.1
theorem dX8_table_75 : decode cX8_table 75 = .ok (.ireturn, 1) := edX8_table_0.2.2.2.2.2.2.2.2.2.2.2.2.2.2.2.2.2.2.2.2.1
theorem dX8_table_76 : decode cX8_table 76 = .ok (.aload_n 0, 1) := edX8_table_0.2.2.2.2.2.2.2.2.2.2.2.2.2.2.2.2.2.2.2.2.2.1
theorem dX8_table_77 : decode cX8_table 77 = .ok (.iconst 3, 1) := edX8_table_0.2.2.2.2.2.2.2.2.2.2.2.2.2.2.2.2.2.2.2.2.2.2.1
theorem dX8_table_78 : decode cX8_table 78 = .ok (.invokevirtual 160, 3) := edX8_table_0.2.2.2.2.2.2.2.2.2.2.2.2.2.2.2.2.2.2.2.2.2.2.2.1
theorem dX8_table_81 : decode cX8_table 81 = .ok (.ireturn, 1) := edX8_table_0.2.2.2.2.2.2.2.2.2.2.2.2.2.2.2.2.2.2.2.2.2.2.2.2.1
theorem dX8_table_82 : decode cX8_table 82 = .ok (.aload_n 0, 1) := edX8_table_0.2.2.2.2.2.2.2.2.2.2.2.2.2.2.2.2.2.2.2.2.2.2.2.2.2.1
theorem dX8_table_83 : decode cX8_table 83 = .ok (.iconst 4, 1) := edX8_table_0.2.2.2.2.2.2.2.2.2.2.2.2.2.2.2.2.2.2.2.2.2.2.2.2.2.2.1
theorem dX8_table_84 : decode cX8_table 84 = .ok (.invokevirtual 160, 3) := edX8_table_0.2.2.2.2.2.2.2.2.2.2.2.2.2.2.2.2.2.2.2.2.2.2.2.2.2.2.2.1
theorem dX8_table_87 : decode cX8_table 87 = .ok (.ireturn, 1) := edX8_table_0.2.2.2.2.2.2.2.2.2.2.2.2.2.2.2.2.2.2.2.2.2.2.2.2.2.2.2.2.1
theorem dX8_table_88 : decode cX8_table 88 = .ok (.ldc 91, 2) := edX8_table_0.2.2.2.2.2.2.2.2.2.2.2.2.2.2.2.2.2.2.2.2.2.2.2.2.2.2.2.2.2.1
theorem dX8_table_90 : decode cX8_table 90 = .ok (.ireturn, 1) := edX8_table_0.2.2.2.2.2.2.2.2.2.2.2.2.2.2.2.2.2.2.2.2.2.2.2.2.2.2.2.2.2.2.1
theorem edX8_thinks_0 : (decode cX8_thinks 0 = .ok (.iconst 0, 1)) ∧ (decode cX8_thinks 1 = .ok (.istore_n 1, 1)) ∧ (decode cX8_thinks 2 = .ok (.iload_n 1, 1)) ∧ (decode cX8_thinks 3 = .ok (.bipush 62, 2)) ∧ (decode cX8_thinks 5 = .ok (.if_icmp .ge 21, 3)) ∧ (decode cX8_thinks 8 = .ok (.aload_n 0, 1)) ∧ (decode cX8_thinks 9 = .ok (.getfield 26, 3)) ∧ (decode cX8_thinks 12 = .ok (.iload_n 1, 1)) ∧ (decode cX8_thinks 13 = .ok (.aload_n 0, 1)) ∧ (decode cX8_thinks 14 = .ok (.getfield 9, 3)) ∧ (decode cX8_thinks 17 = .ok (.iload_n 1, 1)) ∧ (decode cX8_thinks 18 = .ok (.iaload, 1)) ∧ (decode cX8_thinks 19 = .ok (.iastore, 1)) ∧ (decode cX8_thinks 20 = .ok (.iinc 1 1, 3)) ∧ (decode cX8_thinks 23 = .ok (.goto (-21), 3)) ∧ (decode cX8_thinks 26 = .ok (.return_, 1)) ∧ True := dc_cj [(0, .iconst 0, 1), (1, .istore_n 1, 1), (2, .iload_n 1, 1), (3, .bipush 62, 2), (5, .if_icmp .ge 21, 3), (8, .aload_n 0, 1), (9, .getfield 26, 3), (12, .iload_n 1, 1), (13, .aload_n 0, 1), (14, .getfield 9, 3), (17, .iload_n 1, 1), (18, .iaload, 1), (19, .iastore, 1), (20, .iinc 1 1, 3), (23, .goto (-21), 3), (26, .return_, 1)] (by decide +kernel)
theorem dX8_thinks_0 : decode cX8_thinks 0 = .ok (.iconst 0, 1) := edX8_thinks_0.1
theorem dX8_thinks_1 : decode cX8_thinks 1 = .ok (.istore_n 1, 1) := edX8_thinks_0.2.1
theorem dX8_thinks_2 : decode cX8_thinks 2 = .ok (.iload_n 1, 1) := edX8_thinks_0.2.2.1
theorem dX8_thinks_3 : decode cX8_thinks 3 = .ok (.bipush 62, 2) := edX8_thinks_0.2.2.2.1
theorem dX8_thinks_5 : decode cX8_thinks 5 = .ok (.if_icmp .ge 21, 3) := edX8_thinks_0.2.2.2.2.1
theorem dX8_thinks_8 : decode cX8_thinks 8 = .ok (.aload_n 0, 1) := edX8_thinks_0.2.2.2.2.2.1
theorem dX8_thinks_9 : decode cX8_thinks 9 = .ok (.getfield 26, 3) := edX8_thinks_0.2.2.2.2.2.2.1
theorem dX8_thinks_12 : decode cX8_thinks 12 = .ok (.iload_n 1, 1) := edX8_thinks_0.2.2.2.2.2.2.2.1
theorem dX8_thinks_13 : decode cX8_thinks 13 = .ok (.aload_n 0, 1) := edX8_thinks_0.2.2.2.2.2.2.2.2.1
theorem dX8_thinks_14 : decode cX8_thinks 14 = .ok (.getfield 9, 3) := edX8_thinks_0.2.2.2.2.2.2.2.2.2.1
theorem dX8_thinks_17 : decode cX8_thinks 17 = .ok (.iload_n 1, 1) := edX8_thinks_0.2.2.2.2.2.2.2.2.2.2.1
theorem dX8_thinks_18 : decode cX8_thinks 18 = .ok (.iaload, 1) := edX8_thinks_0.2.2.2.2.2.2.2.2.2.2.2.1
theorem dX8_thinks_19 : decode cX8_thinks 19 = .ok (.iastore, 1) := edX8_thinks_0.2.2.2.2.2.2.2.2.2.2.2.2.1
theorem dX8_thinks_20 : decode cX8_thinks 20 = .ok (.iinc 1 1, 3) := edX8_thinks_0.2.2.2.2.2.2.2.2.2.2.2.2.2.1
theorem dX8_thinks_23 : decode cX8_thinks 23 = .ok (.goto (-21), 3) := edX8_thinks_0.2.2.2.2.2.2.2.2.2.2.2.2.2.2.1
theorem dX8_thinks_26 : decode cX8_thinks 26 = .ok (.return_, 1) := edX8_thinks_0.2.2.2.2.2.2.2.2.2.2.2.2.2.2.2.1
theorem edX8_putsBack_0 : (decode cX8_putsBack 0 = .ok (.iconst 0, 1)) ∧ (decode cX8_putsBack 1 = .ok (.istore_n 1, 1)) ∧ (decode cX8_putsBack 2 = .ok (.iload_n 1, 1)) ∧ (decode cX8_putsBack 3 = .ok (.bipush 62, 2)) ∧ (decode cX8_putsBack 5 = .ok (.if_icmp .ge 21, 3)) ∧ (decode cX8_putsBack 8 = .ok (.aload_n 0, 1)) ∧ (decode cX8_putsBack 9 = .ok (.getfield 9, 3)) ∧ (decode cX8_putsBack 12 = .ok (.iload_n 1, 1)) ∧ (decode cX8_putsBack 13 = .ok (.aload_n 0, 1)) ∧ (decode cX8_putsBack 14 = .ok (.getfield 26, 3)) ∧ (decode cX8_putsBack 17 = .ok (.iload_n 1, 1)) ∧ (decode cX8_putsBack 18 = .ok (.iaload, 1)) ∧ (decode cX8_putsBack 19 = .ok (.iastore, 1)) ∧ (decode cX8_putsBack 20 = .ok (.iinc 1 1, 3)) ∧ (decode cX8_putsBack 23 = .ok (.goto (-21), 3)) ∧ (decode cX8_putsBack 26 = .ok (.aload_n 0, 1)) ∧ (decode cX8_putsBack 27 = .ok (.iconst (-1), 1)) ∧ (decode cX8_putsBack 28 = .ok (.putfield 19, 3)) ∧ (decode cX8_putsBack 31 = .ok (.return_, 1)) ∧ True := dc_cj [(0, .iconst 0, 1), (1, .istore_n 1, 1), (2, .iload_n 1, 1), (3, .bipush 62, 2), (5, .if_icmp .ge 21, 3), (8, .aload_n 0, 1), (9, .getfield 9, 3), (12, .iload_n 1, 1), (13, .aload_n 0, 1), (14, .getfield 26, 3), (17, .iload_n 1, 1), (18, .iaload, 1), (19, .iastore, 1), (20, .iinc 1 1, 3), (23, .goto (-21), 3), (26, .aload_n 0, 1), (27, .iconst (-1), 1), (28, .putfield 19, 3), (31, .return_, 1)] (by decide +kernel)
theorem dX8_putsBack_0 : decode cX8_putsBack 0 = .ok (.iconst 0, 1) := edX8_putsBack_0.1
theorem dX8_putsBack_1 : decode cX8_putsBack 1 = .ok (.istore_n 1, 1) := edX8_putsBack_0.2.1
theorem dX8_putsBack_2 : decode cX8_putsBack 2 = .ok (.iload_n 1, 1) := edX8_putsBack_0.2.2.1
theorem dX8_putsBack_3 : decode cX8_putsBack 3 = .ok (.bipush 62, 2) := edX8_putsBack_0.2.2.2.1
theorem dX8_putsBack_5 : decode cX8_putsBack 5 = .ok (.if_icmp .ge 21, 3) := edX8_putsBack_0.2.2.2.2.1
theorem dX8_putsBack_8 : decode cX8_putsBack 8 = .ok (.aload_n 0, 1) := edX8_putsBack_0.2.2.2.2.2.1
theorem dX8_putsBack_9 : decode cX8_putsBack 9 = .ok (.getfield 9, 3) := edX8_putsBack_0.2.2.2.2.2.2.1
theorem dX8_putsBack_12 : decode cX8_putsBack 12 = .ok (.iload_n 1, 1) := edX8_putsBack_0.2.2.2.2.2.2.2.1
theorem dX8_putsBack_13 : decode cX8_putsBack 13 = .ok (.aload_n 0, 1) := edX8_putsBack_0.2.2.2.2.2.2.2.2.1
theorem dX8_putsBack_14 : decode cX8_putsBack 14 = .ok (.getfield 26, 3) := edX8_putsBack_0.2.2.2.2.2.2.2.2.2.1
theorem dX8_putsBack_17 : decode cX8_putsBack 17 = .ok (.iload_n 1, 1) := edX8_putsBack_0.2.2.2.2.2.2.2.2.2.2.1
theorem dX8_putsBack_18 : decode cX8_putsBack 18 = .ok (.iaload, 1) := edX8_putsBack_0.2.2.2.2.2.2.2.2.2.2.2.1
theorem dX8_putsBack_19 : decode cX8_putsBack 19 = .ok (.iastore, 1) := edX8_putsBack_0.2.2.2.2.2.2.2.2.2.2.2.2.1
theorem dX8_putsBack_20 : decode cX8_putsBack 20 = .ok (.iinc 1 1, 3) := edX8_putsBack_0.2.2.2.2.2.2.2.2.2.2.2.2.2.1
theorem dX8_putsBack_23 : decode cX8_putsBack 23 = .ok (.goto (-21), 3) := edX8_putsBack_0.2.2.2.2.2.2.2.2.2.2.2.2.2.2.1
theorem dX8_putsBack_26 : decode cX8_putsBack 26 = .ok (.aload_n 0, 1) := edX8_putsBack_0.2.2.2.2.2.2.2.2.2.2.2.2.2.2.2.1
theorem dX8_putsBack_27 : decode cX8_putsBack 27 = .ok (.iconst (-1), 1) := edX8_putsBack_0.2.2.2.2.2.2.2.2.2.2.2.2.2.2.2.2.1
theorem dX8_putsBack_28 : decode cX8_putsBack 28 = .ok (.putfield 19, 3) := edX8_putsBack_0.2.2.2.2.2.2.2.2.2.2.2.2.2.2.2.2.2.1
theorem dX8_putsBack_31 : decode cX8_putsBack 31 = .ok (.return_, 1) := edX8_putsBack_0.2.2.2.2.2.2.2.2.2.2.2.2.2.2.2.2.2.2.1
theorem edX8_standAs_0 : (decode cX8_standAs 0 = .ok (.iload_n 1, 1)) ∧ (decode cX8_standAs 1 = .ok (.istore_n 2, 1)) ∧ (decode cX8_standAs 2 = .ok (.iconst 3, 1)) ∧ (decode cX8_standAs 3 = .ok (.istore_n 3, 1)) ∧ (decode cX8_standAs 4 = .ok (.iload_n 3, 1)) ∧ (decode cX8_standAs 5 = .ok (.ifCond .lt 27, 3)) ∧ (decode cX8_standAs 8 = .ok (.aload_n 0, 1)) ∧ (decode cX8_standAs 9 = .ok (.getfield 9, 3)) ∧ (decode cX8_standAs 12 = .ok (.bipush 8, 2)) ∧ (decode cX8_standAs 14 = .ok (.iload_n 3, 1)) ∧ (decode cX8_standAs 15 = .ok (.iadd, 1)) ∧ (decode cX8_standAs 16 = .ok (.iload_n 2, 1)) ∧ (decode cX8_standAs 17 = .ok (.bipush 10, 2)) ∧ (decode cX8_standAs 19 = .ok (.irem, 1)) ∧ (decode cX8_standAs 20 = .ok (.iastore, 1)) ∧ (decode cX8_standAs 21 = .ok (.iload_n 2, 1)) ∧ (decode cX8_standAs 22 = .ok (.bipush 10, 2)) ∧ (decode cX8_standAs 24 = .ok (.idiv, 1)) ∧ (decode cX8_standAs 25 = .ok (.istore_n 2, 1)) ∧ (decode cX8_standAs 26 = .ok (.iinc 3 (-1), 3)) ∧ (decode cX8_standAs 29 = .ok (.goto (-25), 3)) ∧ (decode cX8_standAs 32 = .ok (.return_, 1)) ∧ True := dc_cj [(0, .iload_n 1, 1), (1, .istore_n 2, 1), (2, .iconst 3, 1), (3, .istore_n 3, 1), (4, .iload_n 3, 1), (5, .ifCond .lt 27, 3), (8, .aload_n 0, 1), (9, .getfield 9, 3), (12, .bipush 8, 2), (14, .iload_n 3, 1), (15, .iadd, 1), (16, .iload_n 2, 1), (17, .bipush 10, 2), (19, .irem, 1), (20, .iastore, 1), (21, .iload_n 2, 1), (22, .bipush 10, 2), (24, .idiv, 1), (25, .istore_n 2, 1), (26, .iinc 3 (-1), 3), (29, .goto (-25), 3), (32, .return_, 1)] (by decide +kernel)
theorem dX8_standAs_0 : decode cX8_standAs 0 = .ok (.iload_n 1, 1) := edX8_standAs_0.1
theorem dX8_standAs_1 : decode cX8_standAs 1 = .ok (.istore_n 2, 1) := edX8_standAs_0.2.1
theorem dX8_standAs_2 : decode cX8_standAs 2 = .ok (.iconst 3, 1) := edX8_standAs_0.2.2.1
theorem dX8_standAs_3 : decode cX8_standAs 3 = .ok (.istore_n 3, 1) := edX8_standAs_0.2.2.2.1
theorem dX8_standAs_4 : decode cX8_standAs 4 = .ok (.iload_n 3, 1) := edX8_standAs_0.2.2.2.2.1
theorem dX8_standAs_5 : decode cX8_standAs 5 = .ok (.ifCond .lt 27, 3) := edX8_standAs_0.2.2.2.2.2.1
theorem dX8_standAs_8 : decode cX8_standAs 8 = .ok (.aload_n 0, 1) := edX8_standAs_0.2.2.2.2.2.2.1
theorem dX8_standAs_9 : decode cX8_standAs 9 = .ok (.getfield 9, 3) := edX8_standAs_0.2.2.2.2.2.2.2.1
theorem dX8_standAs_12 : decode cX8_standAs 12 = .ok (.bipush 8, 2) := edX8_standAs_0.2.2.2.2.2.2.2.2.1
theorem dX8_standAs_14 : decode cX8_standAs 14 = .ok (.iload_n 3, 1) := edX8_standAs_0.2.2.2.2.2.2.2.2.2.1
theorem dX8_standAs_15 : decode cX8_standAs 15 = .ok (.iadd, 1) := edX8_standAs_0.2.2.2.2.2.2.2.2.2.2.1
theorem dX8_standAs_16 : decode cX8_standAs 16 = .ok (.iload_n 2, 1) := edX8_standAs_0.2.2.2.2.2.2.2.2.2.2.2.1
theorem dX8_standAs_17 : decode cX8_standAs 17 = .ok (.bipush 10, 2) := edX8_standAs_0.2.2.2.2.2.2.2.2.2.2.2.2.1
theorem dX8_standAs_19 : decode cX8_standAs 19 = .ok (.irem, 1) := edX8_standAs_0.2.2.2.2.2.2.2.2.2.2.2.2.2.1
theorem dX8_standAs_20 : decode cX8_standAs 20 = .ok (.iastore, 1) := edX8_standAs_0.2.2.2.2.2.2.2.2.2.2.2.2.2.2.1
theorem dX8_standAs_21 : decode cX8_standAs 21 = .ok (.iload_n 2, 1) := edX8_standAs_0.2.2.2.2.2.2.2.2.2.2.2.2.2.2.2.1
theorem dX8_standAs_22 : decode cX8_standAs 22 = .ok (.bipush 10, 2) := edX8_standAs_0.2.2.2.2.2.2.2.2.2.2.2.2.2.2.2.2.1
theorem dX8_standAs_24 : decode cX8_standAs 24 = .ok (.idiv, 1) := edX8_standAs_0.2.2.2.2.2.2.2.2.2.2.2.2.2.2.2.2.2.1
theorem dX8_standAs_25 : decode cX8_standAs 25 = .ok (.istore_n 2, 1) := edX8_standAs_0.2.2.2.2.2.2.2.2.2.2.2.2.2.2.2.2.2.2.1
theorem dX8_standAs_26 : decode cX8_standAs 26 = .ok (.iinc 3 (-1), 3) := edX8_standAs_0.2.2.2.2.2.2.2.2.2.2.2.2.2.2.2.2.2.2.2.1
theorem dX8_standAs_29 : decode cX8_standAs 29 = .ok (.goto (-25), 3) := edX8_standAs_0.2.2.2.2.2.2.2.2.2.2.2.2.2.2.2.2.2.2.2.2.1
theorem dX8_standAs_32 : decode cX8_standAs 32 = .ok (.return_, 1) := edX8_standAs_0.2.2.2.2.2.2.2.2.2.2.2.2.2.2.2.2.2.2.2.2.2.1
theorem edX8_taken_0 : (decode cX8_taken 0 = .ok (.aload_n 0, 1)) ∧ (decode cX8_taken 1 = .ok (.invokevirtual 169, 3)) ∧ (decode cX8_taken 4 = .ok (.iconst 0, 1)) ∧ (decode cX8_taken 5 = .ok (.istore_n 1, 1)) ∧ (decode cX8_taken 6 = .ok (.iconst 0, 1)) ∧ (decode cX8_taken 7 = .ok (.istore_n 2, 1)) ∧ (decode cX8_taken 8 = .ok (.iload_n 2, 1)) ∧ (decode cX8_taken 9 = .ok (.sipush 10000, 3)) ∧ (decode cX8_taken 12 = .ok (.if_icmp .ge 29, 3)) ∧ (decode cX8_taken 15 = .ok (.aload_n 0, 1)) ∧ (decode cX8_taken 16 = .ok (.iload_n 2, 1)) ∧ (decode cX8_taken 17 = .ok (.invokevirtual 172, 3)) ∧ (decode cX8_taken 20 = .ok (.iload_n 1, 1)) ∧ (decode cX8_taken 21 = .ok (.aload_n 0, 1)) ∧ (decode cX8_taken 22 = .ok (.invokevirtual 149, 3)) ∧ (decode cX8_taken 25 = .ok (.ifCond .eq 7, 3)) ∧ (decode cX8_taken 28 = .ok (.iconst 1, 1)) ∧ (decode cX8_taken 29 = .ok (.goto 4, 3)) ∧ (decode cX8_taken 32 = .ok (.iconst 0, 1)) ∧ (decode cX8_taken 33 = .ok (.iadd, 1)) ∧ (decode cX8_taken 34 = .ok (.istore_n 1, 1)) ∧ (decode cX8_taken 35 = .ok (.iinc 2 1, 3)) ∧ (decode cX8_taken 38 = .ok (.goto (-30), 3)) ∧ (decode cX8_taken 41 = .ok (.aload_n 0, 1)) ∧ (decode cX8_taken 42 = .ok (.invokevirtual 175, 3)) ∧ (decode cX8_taken 45 = .ok (.iload_n 1, 1)) ∧ (decode cX8_taken 46 = .ok (.ireturn, 1)) ∧ True := dc_cj [(0, .aload_n 0, 1), (1, .invokevirtual 169, 3), (4, .iconst 0, 1), (5, .istore_n 1, 1), (6, .iconst 0, 1), (7, .istore_n 2, 1), (8, .iload_n 2, 1), (9, .sipush 10000, 3), (12, .if_icmp .ge 29, 3), (15, .aload_n 0, 1), (16, .iload_n 2, 1), (17, .invokevirtual 172, 3), (20, .iload_n 1, 1), (21, .aload_n 0, 1), (22, .invokevirtual 149, 3), (25, .ifCond .eq 7, 3), (28, .iconst 1, 1), (29, .goto 4, 3), (32, .iconst 0, 1), (33, .iadd, 1), (34, .istore_n 1, 1), (35, .iinc 2 1, 3), (38, .goto (-30), 3), (41, .aload_n 0, 1), (42, .invokevirtual 175, 3), (45, .iload_n 1, 1), (46, .ireturn, 1)] (by decide +kernel)
theorem dX8_taken_0 : decode cX8_taken 0 = .ok (.aload_n 0, 1) := edX8_taken_0.1
theorem dX8_taken_1 : decode cX8_taken 1 = .ok (.invokevirtual 169, 3) := edX8_taken_0.2.1
theorem dX8_taken_4 : decode cX8_taken 4 = .ok (.iconst 0, 1) := edX8_taken_0.2.2.1
theorem dX8_taken_5 : decode cX8_taken 5 = .ok (.istore_n 1, 1) := edX8_taken_0.2.2.2.1
theorem dX8_taken_6 : decode cX8_taken 6 = .ok (.iconst 0, 1) := edX8_taken_0.2.2.2.2.1
theorem dX8_taken_7 : decode cX8_taken 7 = .ok (.istore_n 2, 1) := edX8_taken_0.2.2.2.2.2.1
theorem dX8_taken_8 : decode cX8_taken 8 = .ok (.iload_n 2, 1) := edX8_taken_0.2.2.2.2.2.2.1
theorem dX8_taken_9 : decode cX8_taken 9 = .ok (.sipush 10000, 3) := edX8_taken_0.2.2.2.2.2.2.2.1
theorem dX8_taken_12 : decode cX8_taken 12 = .ok (.if_icmp .ge 29, 3) := edX8_taken_0.2.2.2.2.2.2.2.2.1
theorem dX8_taken_15 : decode cX8_taken 15 = .ok (.aload_n 0, 1) := edX8_taken_0.2.2.2.2.2.2.2.2.2.1
theorem dX8_taken_16 : decode cX8_taken 16 = .ok (.iload_n 2, 1) := edX8_taken_0.2.2.2.2.2.2.2.2.2.2.1
theorem dX8_taken_17 : decode cX8_taken 17 = .ok (.invokevirtual 172, 3) := edX8_taken_0.2.2.2.2.2.2.2.2.2.2.2.1
theorem dX8_taken_20 : decode cX8_taken 20 = .ok (.iload_n 1, 1) := edX8_taken_0.2.2.2.2.2.2.2.2.2.2.2.2.1
theorem dX8_taken_21 : decode cX8_taken 21 = .ok (.aload_n 0, 1) := edX8_taken_0.2.2.2.2.2.2.2.2.2.2.2.2.2.1
theorem dX8_taken_22 : decode cX8_taken 22 = .ok (.invokevirtual 149, 3) := edX8_taken_0.2.2.2.2.2.2.2.2.2.2.2.2.2.2.1
theorem dX8_taken_25 : decode cX8_taken 25 = .ok (.ifCond .eq 7, 3) := edX8_taken_0.2.2.2.2.2.2.2.2.2.2.2.2.2.2.2.1
theorem dX8_taken_28 : decode cX8_taken 28 = .ok (.iconst 1, 1) := edX8_taken_0.2.2.2.2.2.2.2.2.2.2.2.2.2.2.2.2.1
theorem dX8_taken_29 : decode cX8_taken 29 = .ok (.goto 4, 3) := edX8_taken_0.2.2.2.2.2.2.2.2.2.2.2.2.2.2.2.2.2.1
theorem dX8_taken_32 : decode cX8_taken 32 = .ok (.iconst 0, 1) := edX8_taken_0.2.2.2.2.2.2.2.2.2.2.2.2.2.2.2.2.2.2.1
theorem dX8_taken_33 : decode cX8_taken 33 = .ok (.iadd, 1) := edX8_taken_0.2.2.2.2.2.2.2.2.2.2.2.2.2.2.2.2.2.2.2.1
theorem dX8_taken_34 : decode cX8_taken 34 = .ok (.istore_n 1, 1) := edX8_taken_0.2.2.2.2.2.2.2.2.2.2.2.2.2.2.2.2.2.2.2.2.1
theorem dX8_taken_35 : decode cX8_taken 35 = .ok (.iinc 2 1, 3) := edX8_taken_0.2.2.2.2.2.2.2.2.2.2.2.2.2.2.2.2.2.2.2.2.2.1
theorem dX8_taken_38 : decode cX8_taken 38 = .ok (.goto (-30), 3) := edX8_taken_0.2.2.2.2.2.2.2.2.2.2.2.2.2.2.2.2.2.2.2.2.2.2.1
theorem dX8_taken_41 : decode cX8_taken 41 = .ok (.aload_n 0, 1) := edX8_taken_0.2.2.2.2.2.2.2.2.2.2.2.2.2.2.2.2.2.2.2.2.2.2.2.1
theorem dX8_taken_42 : decode cX8_taken 42 = .ok (.invokevirtual 175, 3) := edX8_taken_0.2.2.2.2.2.2.2.2.2.2.2.2.2.2.2.2.2.2.2.2.2.2.2.2.1
theorem dX8_taken_45 : decode cX8_taken 45 = .ok (.iload_n 1, 1) := edX8_taken_0.2.2.2.2.2.2.2.2.2.2.2.2.2.2.2.2.2.2.2.2.2.2.2.2.2.1
theorem dX8_taken_46 : decode cX8_taken 46 = .ok (.ireturn, 1) := edX8_taken_0.2.2.2.2.2.2.2.2.2.2.2.2.2.2.2.2.2.2.2.2.2.2.2.2.2.2.1
theorem edX8_wellBy_0 : (decode cX8_wellBy 0 = .ok (.iload_n 1, 1)) ∧ (decode cX8_wellBy 1 = .ok (.ifCond .ne 42, 3)) ∧ (decode cX8_wellBy 4 = .ok (.aload_n 0, 1)) ∧ (decode cX8_wellBy 5 = .ok (.iconst 0, 1)) ∧ (decode cX8_wellBy 6 = .ok (.invokevirtual 143, 3)) ∧ (decode cX8_wellBy 9 = .ok (.aload_n 0, 1)) ∧ (decode cX8_wellBy 10 = .ok (.getfield 9, 3)) ∧ (decode cX8_wellBy 13 = .ok (.bipush 20, 2)) ∧ (decode cX8_wellBy 15 = .ok (.iaload, 1)) ∧ (decode cX8_wellBy 16 = .ok (.isub, 1)) ∧ (decode cX8_wellBy 17 = .ok (.istore_n 2, 1)) ∧ (decode cX8_wellBy 18 = .ok (.aload_n 0, 1)) ∧ (decode cX8_wellBy 19 = .ok (.iconst 1, 1)) ∧ (decode cX8_wellBy 20 = .ok (.invokevirtual 143, 3)) ∧ (decode cX8_wellBy 23 = .ok (.aload_n 0, 1)) ∧ (decode cX8_wellBy 24 = .ok (.getfield 9, 3)) ∧ (decode cX8_wellBy 27 = .ok (.bipush 21, 2)) ∧ (decode cX8_wellBy 29 = .ok (.iaload, 1)) ∧ (decode cX8_wellBy 30 = .ok (.isub, 1)) ∧ (decode cX8_wellBy 31 = .ok (.istore_n 3, 1)) ∧ (decode cX8_wellBy 32 = .ok (.iload_n 2, 1)) ∧ (decode cX8_wellBy 33 = .ok (.iload_n 3, 1)) ∧ (decode cX8_wellBy 34 = .ok (.if_icmp .ge 7, 3)) ∧ (decode cX8_wellBy 37 = .ok (.iload_n 2, 1)) ∧ (decode cX8_wellBy 38 = .ok (.goto 4, 3)) ∧ (decode cX8_wellBy 41 = .ok (.iload_n 3, 1)) ∧ (decode cX8_wellBy 42 = .ok (.ireturn, 1)) ∧ (decode cX8_wellBy 43 = .ok (.iconst 0, 1)) ∧ (decode cX8_wellBy 44 = .ok (.istore_n 2, 1)) ∧ (decode cX8_wellBy 45 = .ok (.iconst 0, 1)) ∧ (decode cX8_wellBy 46 = .ok (.istore_n 3, 1)) ∧ (decode cX8_wellBy 47 = .ok (.iload_n 3, 1)) ∧ True := dc_cj [(0, .iload_n 1, 1), (1, .ifCond .ne 42, 3), (4, .aload_n 0, 1), (5, .iconst 0, 1), (6, .invokevirtual 143, 3), (9, .aload_n 0, 1), (10, .getfield 9, 3), (13, .bipush 20, 2), (15, .iaload, 1), (16, .isub, 1), (17, .istore_n 2, 1), (18, .aload_n 0, 1), (19, .iconst 1, 1), (20, .invokevirtual 143, 3), (23, .aload_n 0, 1), (24, .getfield 9, 3), (27, .bipush 21, 2), (29, .iaload, 1), (30, .isub, 1), (31, .istore_n 3, 1), (32, .iload_n 2, 1), (33, .iload_n 3, 1), (34, .if_icmp .ge 7, 3), (37, .iload_n 2, 1), (38, .goto 4, 3), (41, .iload_n 3, 1), (42, .ireturn, 1), (43, .iconst 0, 1), (44, .istore_n 2, 1), (45, .iconst 0, 1), (46, .istore_n 3, 1), (47, .iload_n 3, 1)] (by decide +kernel)
theorem dX8_wellBy_0 : decode cX8_wellBy 0 = .ok (.iload_n 1, 1) := edX8_wellBy_0.1
theorem dX8_wellBy_1 : decode cX8_wellBy 1 = .ok (.ifCond .ne 42, 3) := edX8_wellBy_0.2.1
theorem dX8_wellBy_4 : decode cX8_wellBy 4 = .ok (.aload_n 0, 1) := edX8_wellBy_0.2.2.1
theorem dX8_wellBy_5 : decode cX8_wellBy 5 = .ok (.iconst 0, 1) := edX8_wellBy_0.2.2.2.1
theorem dX8_wellBy_6 : decode cX8_wellBy 6 = .ok (.invokevirtual 143, 3) := edX8_wellBy_0.2.2.2.2.1
theorem dX8_wellBy_9 : decode cX8_wellBy 9 = .ok (.aload_n 0, 1) := edX8_wellBy_0.2.2.2.2.2.1
theorem dX8_wellBy_10 : decode cX8_wellBy 10 = .ok (.getfield 9, 3) := edX8_wellBy_0.2.2.2.2.2.2.1
theorem dX8_wellBy_13 : decode cX8_wellBy 13 = .ok (.bipush 20, 2) := edX8_wellBy_0.2.2.2.2.2.2.2.1
theorem dX8_wellBy_15 : decode cX8_wellBy 15 = .ok (.iaload, 1) := edX8_wellBy_0.2.2.2.2.2.2.2.2.1
theorem dX8_wellBy_16 : decode cX8_wellBy 16 = .ok (.isub, 1) := edX8_wellBy_0.2.2.2.2.2.2.2.2.2.1
theorem dX8_wellBy_17 : decode cX8_wellBy 17 = .ok (.istore_n 2, 1) := edX8_wellBy_0.2.2.2.2.2.2.2.2.2.2.1
theorem dX8_wellBy_18 : decode cX8_wellBy 18 = .ok (.aload_n 0, 1) := edX8_wellBy_0.2.2.2.2.2.2.2.2.2.2.2.1
theorem dX8_wellBy_19 : decode cX8_wellBy 19 = .ok (.iconst 1, 1) := edX8_wellBy_0.2.2.2.2.2.2.2.2.2.2.2.2.1
theorem dX8_wellBy_20 : decode cX8_wellBy 20 = .ok (.invokevirtual 143, 3) := edX8_wellBy_0.2.2.2.2.2.2.2.2.2.2.2.2.2.1
theorem dX8_wellBy_23 : decode cX8_wellBy 23 = .ok (.aload_n 0, 1) := edX8_wellBy_0.2.2.2.2.2.2.2.2.2.2.2.2.2.2.1
theorem dX8_wellBy_24 : decode cX8_wellBy 24 = .ok (.getfield 9, 3) := edX8_wellBy_0.2.2.2.2.2.2.2.2.2.2.2.2.2.2.2.1
theorem dX8_wellBy_27 : decode cX8_wellBy 27 = .ok (.bipush 21, 2) := edX8_wellBy_0.2.2.2.2.2.2.2.2.2.2.2.2.2.2.2.2.1
theorem dX8_wellBy_29 : decode cX8_wellBy 29 = .ok (.iaload, 1) := edX8_wellBy_0.2.2.2.2.2.2.2.2.2.2.2.2.2.2.2.2.2.1
theorem dX8_wellBy_30 : decode cX8_wellBy 30 = .ok (.isub, 1) := edX8_wellBy_0.2.2.2.2.2.2.2.2.2.2.2.2.2.2.2.2.2.2.1
theorem dX8_wellBy_31 : decode cX8_wellBy 31 = .ok (.istore_n 3, 1) := edX8_wellBy_0.2.2.2.2.2.2.2.2.2.2.2.2.2.2.2.2.2.2.2.1
theorem dX8_wellBy_32 : decode cX8_wellBy 32 = .ok (.iload_n 2, 1) := edX8_wellBy_0.2.2.2.2.2.2.2.2.2.2.2.2.2.2.2.2.2.2.2.2.1
theorem dX8_wellBy_33 : decode cX8_wellBy 33 = .ok (.iload_n 3, 1) := edX8_wellBy_0.2.2.2.2.2.2.2.2.2.2.2.2.2.2.2.2.2.2.2.2.2.1
theorem dX8_wellBy_34 : decode cX8_wellBy 34 = .ok (.if_icmp .ge 7, 3) := edX8_wellBy_0.2.2.2.2.2.2.2.2.2.2.2.2.2.2.2.2.2.2.2.2.2.2.1
theorem dX8_wellBy_37 : decode cX8_wellBy 37 = .ok (.iload_n 2, 1) := edX8_wellBy_0.2.2.2.2.2.2.2.2.2.2.2.2.2.2.2.2.2.2.2.2.2.2.2.1
theorem dX8_wellBy_38 : decode cX8_wellBy 38 = .ok (.goto 4, 3) := edX8_wellBy_0.2.2.2.2.2.2.2.2.2.2.2.2.2.2.2.2.2.2.2.2.2.2.2.2.1
theorem dX8_wellBy_41 : decode cX8_wellBy 41 = .ok (.iload_n 3, 1) := edX8_wellBy_0.2.2.2.2.2.2.2.2.2.2.2.2.2.2.2.2.2.2.2.2.2.2.2.2.2.1
theorem dX8_wellBy_42 : decode cX8_wellBy 42 = .ok (.ireturn, 1) := edX8_wellBy_0.2.2.2.2.2.2.2.2.2.2.2.2.2.2.2.2.2.2.2.2.2.2.2.2.2.2.1
theorem dX8_wellBy_43 : decode cX8_wellBy 43 = .ok (.iconst 0, 1) := edX8_wellBy_0.2.2.2.2.2.2.2.2.2.2.2.2.2.2.2.2.2.2.2.2.2.2.2.2.2.2.2.1
theorem dX8_wellBy_44 : decode cX8_wellBy 44 = .ok (.istore_n 2, 1) := edX8_wellBy_0.2.2.2.2.2.2.2.2.2.2.2.2.2.2.2.2.2.2.2.2.2.2.2.2.2.2.2.2.1
theorem dX8_wellBy_45 : decode cX8_wellBy 45 = .ok (.iconst 0, 1) := edX8_wellBy_0.2.2.2.2.2.2.2.2.2.2.2.2.2.2.2.2.2.2.2.2.2.2.2.2.2.2.2.2.2.1
theorem dX8_wellBy_46 : decode cX8_wellBy 46 = .ok (.istore_n 3, 1) := edX8_wellBy_0.2.2.2.2.2.2.2.2.2.2.2.2.2.2.2.2.2.2.2.2.2.2.2.2.2.2.2.2.2.2.1
theorem dX8_wellBy_47 : decode cX8_wellBy 47 = .ok (.iload_n 3, 1) := edX8_wellBy_0.2.2.2.2.2.2.2.2.2.2.2.2.2.2.2.2.2.2.2.2.2.2.2.2.2.2.2.2.2.2.2.1
theorem edX8_wellBy_48 : (decode cX8_wellBy 48 = .ok (.iconst 4, 1)) ∧ (decode cX8_wellBy 49 = .ok (.if_icmp .ge 46, 3)) ∧ (decode cX8_wellBy 52 = .ok (.aload_n 0, 1)) ∧ (decode cX8_wellBy 53 = .ok (.getfield 9, 3)) ∧ (decode cX8_wellBy 56 = .ok (.bipush 8, 2)) ∧ (decode cX8_wellBy 58 = .ok (.iload_n 3, 1)) ∧ (decode cX8_wellBy 59 = .ok (.iadd, 1)) ∧ (decode cX8_wellBy 60 = .ok (.iaload, 1)) ∧ (decode cX8_wellBy 61 = .ok (.aload_n 0, 1)) ∧ (decode cX8_wellBy 62 = .ok (.getfield 26, 3)) ∧ (decode cX8_wellBy 65 = .ok (.bipush 8, 2)) ∧ (decode cX8_wellBy 67 = .ok (.iload_n 3, 1)) ∧ (decode cX8_wellBy 68 = .ok (.iadd, 1)) ∧ (decode cX8_wellBy 69 = .ok (.iaload, 1)) ∧ (decode cX8_wellBy 70 = .ok (.isub, 1)) ∧ (decode cX8_wellBy 71 = .ok (.istore 4, 2)) ∧ (decode cX8_wellBy 73 = .ok (.iload_n 2, 1)) ∧ (decode cX8_wellBy 74 = .ok (.iload 4, 2)) ∧ (decode cX8_wellBy 76 = .ok (.ifCond .ge 9, 3)) ∧ (decode cX8_wellBy 79 = .ok (.iload 4, 2)) ∧ (decode cX8_wellBy 81 = .ok (.ineg, 1)) ∧ (decode cX8_wellBy 82 = .ok (.goto 5, 3)) ∧ (decode cX8_wellBy 85 = .ok (.iload 4, 2)) ∧ (decode cX8_wellBy 87 = .ok (.iadd, 1)) ∧ (decode cX8_wellBy 88 = .ok (.istore_n 2, 1)) ∧ (decode cX8_wellBy 89 = .ok (.iinc 3 1, 3)) ∧ (decode cX8_wellBy 92 = .ok (.goto (-45), 3)) ∧ (decode cX8_wellBy 95 = .ok (.iload_n 2, 1)) ∧ (decode cX8_wellBy 96 = .ok (.ineg, 1)) ∧ (decode cX8_wellBy 97 = .ok (.ireturn, 1)) ∧ True := dc_cj [(48, .iconst 4, 1), (49, .if_icmp .ge 46, 3), (52, .aload_n 0, 1), (53, .getfield 9, 3), (56, .bipush 8, 2), (58, .iload_n 3, 1), (59, .iadd, 1), (60, .iaload, 1), (61, .aload_n 0, 1), (62, .getfield 26, 3), (65, .bipush 8, 2), (67, .iload_n 3, 1), (68, .iadd, 1), (69, .iaload, 1), (70, .isub, 1), (71, .istore 4, 2), (73, .iload_n 2, 1), (74, .iload 4, 2), (76, .ifCond .ge 9, 3), (79, .iload 4, 2), (81, .ineg, 1), (82, .goto 5, 3), (85, .iload 4, 2), (87, .iadd, 1), (88, .istore_n 2, 1), (89, .iinc 3 1, 3), (92, .goto (-45), 3), (95, .iload_n 2, 1), (96, .ineg, 1), (97, .ireturn, 1)] (by decide +kernel)
theorem dX8_wellBy_48 : decode cX8_wellBy 48 = .ok (.iconst 4, 1) := edX8_wellBy_48.1
theorem dX8_wellBy_49 : decode cX8_wellBy 49 = .ok (.if_icmp .ge 46, 3) := edX8_wellBy_48.2.1
theorem dX8_wellBy_52 : decode cX8_wellBy 52 = .ok (.aload_n 0, 1) := edX8_wellBy_48.2.2.1
theorem dX8_wellBy_53 : decode cX8_wellBy 53 = .ok (.getfield 9, 3) := edX8_wellBy_48.2.2.2.1
theorem dX8_wellBy_56 : decode cX8_wellBy 56 = .ok (.bipush 8, 2) := edX8_wellBy_48.2.2.2.2.1
theorem dX8_wellBy_58 : decode cX8_wellBy 58 = .ok (.iload_n 3, 1) := edX8_wellBy_48.2.2.2.2.2.1
theorem dX8_wellBy_59 : decode cX8_wellBy 59 = .ok (.iadd, 1) := edX8_wellBy_48.2.2.2.2.2.2.1
theorem dX8_wellBy_60 : decode cX8_wellBy 60 = .ok (.iaload, 1) := edX8_wellBy_48.2.2.2.2.2.2.2.1
theorem dX8_wellBy_61 : decode cX8_wellBy 61 = .ok (.aload_n 0, 1) := edX8_wellBy_48.2.2.2.2.2.2.2.2.1
theorem dX8_wellBy_62 : decode cX8_wellBy 62 = .ok (.getfield 26, 3) := edX8_wellBy_48.2.2.2.2.2.2.2.2.2.1
theorem dX8_wellBy_65 : decode cX8_wellBy 65 = .ok (.bipush 8, 2) := edX8_wellBy_48.2.2.2.2.2.2.2.2.2.2.1
theorem dX8_wellBy_67 : decode cX8_wellBy 67 = .ok (.iload_n 3, 1) := edX8_wellBy_48.2.2.2.2.2.2.2.2.2.2.2.1
theorem dX8_wellBy_68 : decode cX8_wellBy 68 = .ok (.iadd, 1) := edX8_wellBy_48.2.2.2.2.2.2.2.2.2.2.2.2.1
theorem dX8_wellBy_69 : decode cX8_wellBy 69 = .ok (.iaload, 1) := edX8_wellBy_48.2.2.2.2.2.2.2.2.2.2.2.2.2.1
theorem dX8_wellBy_70 : decode cX8_wellBy 70 = .ok (.isub, 1) := edX8_wellBy_48.2.2.2.2.2.2.2.2.2.2.2.2.2.2.1
theorem dX8_wellBy_71 : decode cX8_wellBy 71 = .ok (.istore 4, 2) := edX8_wellBy_48.2.2.2.2.2.2.2.2.2.2.2.2.2.2.2.1
theorem dX8_wellBy_73 : decode cX8_wellBy 73 = .ok (.iload_n 2, 1) := edX8_wellBy_48.2.2.2.2.2.2.2.2.2.2.2.2.2.2.2.2.1
theorem dX8_wellBy_74 : decode cX8_wellBy 74 = .ok (.iload 4, 2) := edX8_wellBy_48.2.2.2.2.2.2.2.2.2.2.2.2.2.2.2.2.2.1
theorem dX8_wellBy_76 : decode cX8_wellBy 76 = .ok (.ifCond .ge 9, 3) := edX8_wellBy_48.2.2.2.2.2.2.2.2.2.2.2.2.2.2.2.2.2.2.1
theorem dX8_wellBy_79 : decode cX8_wellBy 79 = .ok (.iload 4, 2) := edX8_wellBy_48.2.2.2.2.2.2.2.2.2.2.2.2.2.2.2.2.2.2.2.1
theorem dX8_wellBy_81 : decode cX8_wellBy 81 = .ok (.ineg, 1) := edX8_wellBy_48.2.2.2.2.2.2.2.2.2.2.2.2.2.2.2.2.2.2.2.2.1
theorem dX8_wellBy_82 : decode cX8_wellBy 82 = .ok (.goto 5, 3) := edX8_wellBy_48.2.2.2.2.2.2.2.2.2.2.2.2.2.2.2.2.2.2.2.2.2.1
theorem dX8_wellBy_85 : decode cX8_wellBy 85 = .ok (.iload 4, 2) := edX8_wellBy_48.2.2.2.2.2.2.2.2.2.2.2.2.2.2.2.2.2.2.2.2.2.2.1
theorem dX8_wellBy_87 : decode cX8_wellBy 87 = .ok (.iadd, 1) := edX8_wellBy_48.2.2.2.2.2.2.2.2.2.2.2.2.2.2.2.2.2.2.2.2.2.2.2.1
theorem dX8_wellBy_88 : decode cX8_wellBy 88 = .ok (.istore_n 2, 1) := edX8_wellBy_48.2.2.2.2.2.2.2.2.2.2.2.2.2.2.2.2.2.2.2.2.2.2.2.2.1
theorem dX8_wellBy_89 : decode cX8_wellBy 89 = .ok (.iinc 3 1, 3) := edX8_wellBy_48.2.2.2.2.2.2.2.2.2.2.2.2.2.2.2.2.2.2.2.2.2.2.2.2.2.1
theorem dX8_wellBy_92 : decode cX8_wellBy 92 = .ok (.goto (-45), 3) := edX8_wellBy_48.2.2.2.2.2.2.2.2.2.2.2.2.2.2.2.2.2.2.2.2.2.2.2.2.2.2.1
theorem dX8_wellBy_95 : decode cX8_wellBy 95 = .ok (.iload_n 2, 1) := edX8_wellBy_48.2.2.2.2.2.2.2.2.2.2.2.2.2.2.2.2.2.2.2.2.2.2.2.2.2.2.2.1
theorem dX8_wellBy_96 : decode cX8_wellBy 96 = .ok (.ineg, 1) := edX8_wellBy_48.2.2.2.2.2.2.2.2.2.2.2.2.2.2.2.2.2.2.2.2.2.2.2.2.2.2.2.2.1
theorem dX8_wellBy_97 : decode cX8_wellBy 97 = .ok (.ireturn, 1) := edX8_wellBy_48.2.2.2.2.2.2.2.2.2.2.2.2.2.2.2.2.2.2.2.2.2.2.2.2.2.2.2.2.2.1
theorem edX8_terms_0 : (decode cX8_terms 0 = .ok (.iload_n 1, 1)) ∧ (decode cX8_terms 1 = .ok (.iconst 0, 1)) ∧ (decode cX8_terms 2 = .ok (.iconst 1, 1)) ∧ (decode cX8_terms 3 = .ok (.invokestatic 83, 3)) ∧ (decode cX8_terms 6 = .ok (.ifCond .ne 6, 3)) ∧ (decode cX8_terms 9 = .ok (.ldc 91, 2)) ∧ (decode cX8_terms 11 = .ok (.ireturn, 1)) ∧ (decode cX8_terms 12 = .ok (.aload_n 0, 1)) ∧ (decode cX8_terms 13 = .ok (.invokevirtual 169, 3)) ∧ (decode cX8_terms 16 = .ok (.iconst (-1), 1)) ∧ (decode cX8_terms 17 = .ok (.istore_n 2, 1)) ∧ (decode cX8_terms 18 = .ok (.iconst 0, 1)) ∧ (decode cX8_terms 19 = .ok (.istore_n 3, 1)) ∧ (decode cX8_terms 20 = .ok (.iconst 0, 1)) ∧ (decode cX8_terms 21 = .ok (.istore 4, 2)) ∧ (decode cX8_terms 23 = .ok (.iload 4, 2)) ∧ (decode cX8_terms 25 = .ok (.sipush 10000, 3)) ∧ (decode cX8_terms 28 = .ok (.if_icmp .ge 45, 3)) ∧ (decode cX8_terms 31 = .ok (.aload_n 0, 1)) ∧ (decode cX8_terms 32 = .ok (.iload 4, 2)) ∧ (decode cX8_terms 34 = .ok (.invokevirtual 172, 3)) ∧ (decode cX8_terms 37 = .ok (.aload_n 0, 1)) ∧ (decode cX8_terms 38 = .ok (.invokevirtual 149, 3)) ∧ (decode cX8_terms 41 = .ok (.ifCond .eq 26, 3)) ∧ (decode cX8_terms 44 = .ok (.aload_n 0, 1)) ∧ (decode cX8_terms 45 = .ok (.iload_n 1, 1)) ∧ (decode cX8_terms 46 = .ok (.invokevirtual 178, 3)) ∧ (decode cX8_terms 49 = .ok (.istore 5, 2)) ∧ (decode cX8_terms 51 = .ok (.iload_n 2, 1)) ∧ (decode cX8_terms 52 = .ok (.ifCond .lt 9, 3)) ∧ (decode cX8_terms 55 = .ok (.iload 5, 2)) ∧ (decode cX8_terms 57 = .ok (.iload_n 3, 1)) ∧ True := dc_cj [(0, .iload_n 1, 1), (1, .iconst 0, 1), (2, .iconst 1, 1), (3, .invokestatic 83, 3), (6, .ifCond .ne 6, 3), (9, .ldc 91, 2), (11, .ireturn, 1), (12, .aload_n 0, 1), (13, .invokevirtual 169, 3), (16, .iconst (-1), 1), (17, .istore_n 2, 1), (18, .iconst 0, 1), (19, .istore_n 3, 1), (20, .iconst 0, 1), (21, .istore 4, 2), (23, .iload 4, 2), (25, .sipush 10000, 3), (28, .if_icmp .ge 45, 3), (31, .aload_n 0, 1), (32, .iload 4, 2), (34, .invokevirtual 172, 3), (37, .aload_n 0, 1), (38, .invokevirtual 149, 3), (41, .ifCond .eq 26, 3), (44, .aload_n 0, 1), (45, .iload_n 1, 1), (46, .invokevirtual 178, 3), (49, .istore 5, 2), (51, .iload_n 2, 1), (52, .ifCond .lt 9, 3), (55, .iload 5, 2), (57, .iload_n 3, 1)] (by decide +kernel)
theorem dX8_terms_0 : decode cX8_terms 0 = .ok (.iload_n 1, 1) := edX8_terms_0.1
theorem dX8_terms_1 : decode cX8_terms 1 = .ok (.iconst 0, 1) := edX8_terms_0.2.1
theorem dX8_terms_2 : decode cX8_terms 2 = .ok (.iconst 1, 1) := edX8_terms_0.2.2.1
theorem dX8_terms_3 : decode cX8_terms 3 = .ok (.invokestatic 83, 3) := edX8_terms_0.2.2.2.1
theorem dX8_terms_6 : decode cX8_terms 6 = .ok (.ifCond .ne 6, 3) := edX8_terms_0.2.2.2.2.1
theorem dX8_terms_9 : decode cX8_terms 9 = .ok (.ldc 91, 2) := edX8_terms_0.2.2.2.2.2.1
theorem dX8_terms_11 : decode cX8_terms 11 = .ok (.ireturn, 1) := edX8_terms_0.2.2.2.2.2.2.1
theorem dX8_terms_12 : decode cX8_terms 12 = .ok (.aload_n 0, 1) := edX8_terms_0.2.2.2.2.2.2.2.1
theorem dX8_terms_13 : decode cX8_terms 13 = .ok (.invokevirtual 169, 3) := edX8_terms_0.2.2.2.2.2.2.2.2.1
theorem dX8_terms_16 : decode cX8_terms 16 = .ok (.iconst (-1), 1) := edX8_terms_0.2.2.2.2.2.2.2.2.2.1
theorem dX8_terms_17 : decode cX8_terms 17 = .ok (.istore_n 2, 1) := edX8_terms_0.2.2.2.2.2.2.2.2.2.2.1
theorem dX8_terms_18 : decode cX8_terms 18 = .ok (.iconst 0, 1) := edX8_terms_0.2.2.2.2.2.2.2.2.2.2.2.1
theorem dX8_terms_19 : decode cX8_terms 19 = .ok (.istore_n 3, 1) := edX8_terms_0.2.2.2.2.2.2.2.2.2.2.2.2.1
theorem dX8_terms_20 : decode cX8_terms 20 = .ok (.iconst 0, 1) := edX8_terms_0.2.2.2.2.2.2.2.2.2.2.2.2.2.1
theorem dX8_terms_21 : decode cX8_terms 21 = .ok (.istore 4, 2) := edX8_terms_0.2.2.2.2.2.2.2.2.2.2.2.2.2.2.1
theorem dX8_terms_23 : decode cX8_terms 23 = .ok (.iload 4, 2) := edX8_terms_0.2.2.2.2.2.2.2.2.2.2.2.2.2.2.2.1
theorem dX8_terms_25 : decode cX8_terms 25 = .ok (.sipush 10000, 3) := edX8_terms_0.2.2.2.2.2.2.2.2.2.2.2.2.2.2.2.2.1
theorem dX8_terms_28 : decode cX8_terms 28 = .ok (.if_icmp .ge 45, 3) := edX8_terms_0.2.2.2.2.2.2.2.2.2.2.2.2.2.2.2.2.2.1
theorem dX8_terms_31 : decode cX8_terms 31 = .ok (.aload_n 0, 1) := edX8_terms_0.2.2.2.2.2.2.2.2.2.2.2.2.2.2.2.2.2.2.1
theorem dX8_terms_32 : decode cX8_terms 32 = .ok (.iload 4, 2) := edX8_terms_0.2.2.2.2.2.2.2.2.2.2.2.2.2.2.2.2.2.2.2.1
theorem dX8_terms_34 : decode cX8_terms 34 = .ok (.invokevirtual 172, 3) := edX8_terms_0.2.2.2.2.2.2.2.2.2.2.2.2.2.2.2.2.2.2.2.2.1
theorem dX8_terms_37 : decode cX8_terms 37 = .ok (.aload_n 0, 1) := edX8_terms_0.2.2.2.2.2.2.2.2.2.2.2.2.2.2.2.2.2.2.2.2.2.1
theorem dX8_terms_38 : decode cX8_terms 38 = .ok (.invokevirtual 149, 3) := edX8_terms_0.2.2.2.2.2.2.2.2.2.2.2.2.2.2.2.2.2.2.2.2.2.2.1
theorem dX8_terms_41 : decode cX8_terms 41 = .ok (.ifCond .eq 26, 3) := edX8_terms_0.2.2.2.2.2.2.2.2.2.2.2.2.2.2.2.2.2.2.2.2.2.2.2.1
theorem dX8_terms_44 : decode cX8_terms 44 = .ok (.aload_n 0, 1) := edX8_terms_0.2.2.2.2.2.2.2.2.2.2.2.2.2.2.2.2.2.2.2.2.2.2.2.2.1
theorem dX8_terms_45 : decode cX8_terms 45 = .ok (.iload_n 1, 1) := edX8_terms_0.2.2.2.2.2.2.2.2.2.2.2.2.2.2.2.2.2.2.2.2.2.2.2.2.2.1
theorem dX8_terms_46 : decode cX8_terms 46 = .ok (.invokevirtual 178, 3) := edX8_terms_0.2.2.2.2.2.2.2.2.2.2.2.2.2.2.2.2.2.2.2.2.2.2.2.2.2.2.1
theorem dX8_terms_49 : decode cX8_terms 49 = .ok (.istore 5, 2) := edX8_terms_0.2.2.2.2.2.2.2.2.2.2.2.2.2.2.2.2.2.2.2.2.2.2.2.2.2.2.2.1
theorem dX8_terms_51 : decode cX8_terms 51 = .ok (.iload_n 2, 1) := edX8_terms_0.2.2.2.2.2.2.2.2.2.2.2.2.2.2.2.2.2.2.2.2.2.2.2.2.2.2.2.2.1
theorem dX8_terms_52 : decode cX8_terms 52 = .ok (.ifCond .lt 9, 3) := edX8_terms_0.2.2.2.2.2.2.2.2.2.2.2.2.2.2.2.2.2.2.2.2.2.2.2.2.2.2.2.2.2.1
theorem dX8_terms_55 : decode cX8_terms 55 = .ok (.iload 5, 2) := edX8_terms_0.2.2.2.2.2.2.2.2.2.2.2.2.2.2.2.2.2.2.2.2.2.2.2.2.2.2.2.2.2.2.1
theorem dX8_terms_57 : decode cX8_terms 57 = .ok (.iload_n 3, 1) := edX8_terms_0.2.2.2.2.2.2.2.2.2.2.2.2.2.2.2.2.2.2.2.2.2.2.2.2.2.2.2.2.2.2.2.1
theorem edX8_terms_58 : (decode cX8_terms 58 = .ok (.if_icmp .le 9, 3)) ∧ (decode cX8_terms 61 = .ok (.iload 4, 2)) ∧ (decode cX8_terms 63 = .ok (.istore_n 2, 1)) ∧ (decode cX8_terms 64 = .ok (.iload 5, 2)) ∧ (decode cX8_terms 66 = .ok (.istore_n 3, 1)) ∧ (decode cX8_terms 67 = .ok (.iinc 4 1, 3)) ∧ (decode cX8_terms 70 = .ok (.goto (-47), 3)) ∧ (decode cX8_terms 73 = .ok (.aload_n 0, 1)) ∧ (decode cX8_terms 74 = .ok (.invokevirtual 175, 3)) ∧ (decode cX8_terms 77 = .ok (.iload_n 2, 1)) ∧ (decode cX8_terms 78 = .ok (.invokestatic 124, 3)) ∧ (decode cX8_terms 81 = .ok (.ireturn, 1)) ∧ True := dc_cj [(58, .if_icmp .le 9, 3), (61, .iload 4, 2), (63, .istore_n 2, 1), (64, .iload 5, 2), (66, .istore_n 3, 1), (67, .iinc 4 1, 3), (70, .goto (-47), 3), (73, .aload_n 0, 1), (74, .invokevirtual 175, 3), (77, .iload_n 2, 1), (78, .invokestatic 124, 3), (81, .ireturn, 1)] (by decide +kernel)
theorem dX8_terms_58 : decode cX8_terms 58 = .ok (.if_icmp .le 9, 3) := edX8_terms_58.1
theorem dX8_terms_61 : decode cX8_terms 61 = .ok (.iload 4, 2) := edX8_terms_58.2.1
theorem dX8_terms_63 : decode cX8_terms 63 = .ok (.istore_n 2, 1) := edX8_terms_58.2.2.1
theorem dX8_terms_64 : decode cX8_terms 64 = .ok (.iload 5, 2) := edX8_terms_58.2.2.2.1
theorem dX8_terms_66 : decode cX8_terms 66 = .ok (.istore_n 3, 1) := edX8_terms_58.2.2.2.2.1
theorem dX8_terms_67 : decode cX8_terms 67 = .ok (.iinc 4 1, 3) := edX8_terms_58.2.2.2.2.2.1
theorem dX8_terms_70 : decode cX8_terms 70 = .ok (.goto (-47), 3) := edX8_terms_58.2.2.2.2.2.2.1
theorem dX8_terms_73 : decode cX8_terms 73 = .ok (.aload_n 0, 1) := edX8_terms_58.2.2.2.2.2.2.2.1
theorem dX8_terms_74 : decode cX8_terms 74 = .ok (.invokevirtual 175, 3) := edX8_terms_58.2.2.2.2.2.2.2.2.1
theorem dX8_terms_77 : decode cX8_terms 77 = .ok (.iload_n 2, 1) := edX8_terms_58.2.2.2.2.2.2.2.2.2.1
theorem dX8_terms_78 : decode cX8_terms 78 = .ok (.invokestatic 124, 3) := edX8_terms_58.2.2.2.2.2.2.2.2.2.2.1
theorem dX8_terms_81 : decode cX8_terms 81 = .ok (.ireturn, 1) := edX8_terms_58.2.2.2.2.2.2.2.2.2.2.2.1
theorem edX8_behind_0 : (decode cX8_behind 0 = .ok (.iload_n 1, 1)) ∧ (decode cX8_behind 1 = .ok (.iconst 0, 1)) ∧ (decode cX8_behind 2 = .ok (.bipush 100, 2)) ∧ (decode cX8_behind 4 = .ok (.invokestatic 83, 3)) ∧ (decode cX8_behind 7 = .ok (.ifCond .eq 12, 3)) ∧ (decode cX8_behind 10 = .ok (.iload_n 2, 1)) ∧ (decode cX8_behind 11 = .ok (.iconst 0, 1)) ∧ (decode cX8_behind 12 = .ok (.iconst 3, 1)) ∧ (decode cX8_behind 13 = .ok (.invokestatic 83, 3)) ∧ (decode cX8_behind 16 = .ok (.ifCond .ne 6, 3)) ∧ (decode cX8_behind 19 = .ok (.ldc 91, 2)) ∧ (decode cX8_behind 21 = .ok (.ireturn, 1)) ∧ (decode cX8_behind 22 = .ok (.aload_n 0, 1)) ∧ (decode cX8_behind 23 = .ok (.invokevirtual 169, 3)) ∧ (decode cX8_behind 26 = .ok (.aload_n 0, 1)) ∧ (decode cX8_behind 27 = .ok (.iload_n 1, 1)) ∧ (decode cX8_behind 28 = .ok (.invokevirtual 163, 3)) ∧ (decode cX8_behind 31 = .ok (.iload_n 2, 1)) ∧ (decode cX8_behind 32 = .ok (.ifCond .ne 12, 3)) ∧ (decode cX8_behind 35 = .ok (.aload_n 0, 1)) ∧ (decode cX8_behind 36 = .ok (.getfield 9, 3)) ∧ (decode cX8_behind 39 = .ok (.iconst 3, 1)) ∧ (decode cX8_behind 40 = .ok (.iaload, 1)) ∧ (decode cX8_behind 41 = .ok (.goto 42, 3)) ∧ (decode cX8_behind 44 = .ok (.iload_n 2, 1)) ∧ (decode cX8_behind 45 = .ok (.iconst 1, 1)) ∧ (decode cX8_behind 46 = .ok (.if_icmp .ne 10, 3)) ∧ (decode cX8_behind 49 = .ok (.aload_n 0, 1)) ∧ (decode cX8_behind 50 = .ok (.invokevirtual 166, 3)) ∧ (decode cX8_behind 53 = .ok (.goto 30, 3)) ∧ (decode cX8_behind 56 = .ok (.iload_n 2, 1)) ∧ (decode cX8_behind 57 = .ok (.iconst 2, 1)) ∧ True := dc_cj [(0, .iload_n 1, 1), (1, .iconst 0, 1), (2, .bipush 100, 2), (4, .invokestatic 83, 3), (7, .ifCond .eq 12, 3), (10, .iload_n 2, 1), (11, .iconst 0, 1), (12, .iconst 3, 1), (13, .invokestatic 83, 3), (16, .ifCond .ne 6, 3), (19, .ldc 91, 2), (21, .ireturn, 1), (22, .aload_n 0, 1), (23, .invokevirtual 169, 3), (26, .aload_n 0, 1), (27, .iload_n 1, 1), (28, .invokevirtual 163, 3), (31, .iload_n 2, 1), (32, .ifCond .ne 12, 3), (35, .aload_n 0, 1), (36, .getfield 9, 3), (39, .iconst 3, 1), (40, .iaload, 1), (41, .goto 42, 3), (44, .iload_n 2, 1), (45, .iconst 1, 1), (46, .if_icmp .ne 10, 3), (49, .aload_n 0, 1), (50, .invokevirtual 166, 3), (53, .goto 30, 3), (56, .iload_n 2, 1), (57, .iconst 2, 1)] (by decide +kernel)
theorem dX8_behind_0 : decode cX8_behind 0 = .ok (.iload_n 1, 1) := edX8_behind_0.1
theorem dX8_behind_1 : decode cX8_behind 1 = .ok (.iconst 0, 1) := edX8_behind_0.2.1
theorem dX8_behind_2 : decode cX8_behind 2 = .ok (.bipush 100, 2) := edX8_behind_0.2.2.1
theorem dX8_behind_4 : decode cX8_behind 4 = .ok (.invokestatic 83, 3) := edX8_behind_0.2.2.2.1
theorem dX8_behind_7 : decode cX8_behind 7 = .ok (.ifCond .eq 12, 3) := edX8_behind_0.2.2.2.2.1
theorem dX8_behind_10 : decode cX8_behind 10 = .ok (.iload_n 2, 1) := edX8_behind_0.2.2.2.2.2.1
theorem dX8_behind_11 : decode cX8_behind 11 = .ok (.iconst 0, 1) := edX8_behind_0.2.2.2.2.2.2.1
theorem dX8_behind_12 : decode cX8_behind 12 = .ok (.iconst 3, 1) := edX8_behind_0.2.2.2.2.2.2.2.1
theorem dX8_behind_13 : decode cX8_behind 13 = .ok (.invokestatic 83, 3) := edX8_behind_0.2.2.2.2.2.2.2.2.1
theorem dX8_behind_16 : decode cX8_behind 16 = .ok (.ifCond .ne 6, 3) := edX8_behind_0.2.2.2.2.2.2.2.2.2.1
theorem dX8_behind_19 : decode cX8_behind 19 = .ok (.ldc 91, 2) := edX8_behind_0.2.2.2.2.2.2.2.2.2.2.1
theorem dX8_behind_21 : decode cX8_behind 21 = .ok (.ireturn, 1) := edX8_behind_0.2.2.2.2.2.2.2.2.2.2.2.1
theorem dX8_behind_22 : decode cX8_behind 22 = .ok (.aload_n 0, 1) := edX8_behind_0.2.2.2.2.2.2.2.2.2.2.2.2.1
theorem dX8_behind_23 : decode cX8_behind 23 = .ok (.invokevirtual 169, 3) := edX8_behind_0.2.2.2.2.2.2.2.2.2.2.2.2.2.1
theorem dX8_behind_26 : decode cX8_behind 26 = .ok (.aload_n 0, 1) := edX8_behind_0.2.2.2.2.2.2.2.2.2.2.2.2.2.2.1
theorem dX8_behind_27 : decode cX8_behind 27 = .ok (.iload_n 1, 1) := edX8_behind_0.2.2.2.2.2.2.2.2.2.2.2.2.2.2.2.1
theorem dX8_behind_28 : decode cX8_behind 28 = .ok (.invokevirtual 163, 3) := edX8_behind_0.2.2.2.2.2.2.2.2.2.2.2.2.2.2.2.2.1
theorem dX8_behind_31 : decode cX8_behind 31 = .ok (.iload_n 2, 1) := edX8_behind_0.2.2.2.2.2.2.2.2.2.2.2.2.2.2.2.2.2.1
theorem dX8_behind_32 : decode cX8_behind 32 = .ok (.ifCond .ne 12, 3) := edX8_behind_0.2.2.2.2.2.2.2.2.2.2.2.2.2.2.2.2.2.2.1
theorem dX8_behind_35 : decode cX8_behind 35 = .ok (.aload_n 0, 1) := edX8_behind_0.2.2.2.2.2.2.2.2.2.2.2.2.2.2.2.2.2.2.2.1
theorem dX8_behind_36 : decode cX8_behind 36 = .ok (.getfield 9, 3) := edX8_behind_0.2.2.2.2.2.2.2.2.2.2.2.2.2.2.2.2.2.2.2.2.1
theorem dX8_behind_39 : decode cX8_behind 39 = .ok (.iconst 3, 1) := edX8_behind_0.2.2.2.2.2.2.2.2.2.2.2.2.2.2.2.2.2.2.2.2.2.1
theorem dX8_behind_40 : decode cX8_behind 40 = .ok (.iaload, 1) := edX8_behind_0.2.2.2.2.2.2.2.2.2.2.2.2.2.2.2.2.2.2.2.2.2.2.1
theorem dX8_behind_41 : decode cX8_behind 41 = .ok (.goto 42, 3) := edX8_behind_0.2.2.2.2.2.2.2.2.2.2.2.2.2.2.2.2.2.2.2.2.2.2.2.1
theorem dX8_behind_44 : decode cX8_behind 44 = .ok (.iload_n 2, 1) := edX8_behind_0.2.2.2.2.2.2.2.2.2.2.2.2.2.2.2.2.2.2.2.2.2.2.2.2.1
theorem dX8_behind_45 : decode cX8_behind 45 = .ok (.iconst 1, 1) := edX8_behind_0.2.2.2.2.2.2.2.2.2.2.2.2.2.2.2.2.2.2.2.2.2.2.2.2.2.1
theorem dX8_behind_46 : decode cX8_behind 46 = .ok (.if_icmp .ne 10, 3) := edX8_behind_0.2.2.2.2.2.2.2.2.2.2.2.2.2.2.2.2.2.2.2.2.2.2.2.2.2.2.1
theorem dX8_behind_49 : decode cX8_behind 49 = .ok (.aload_n 0, 1) := edX8_behind_0.2.2.2.2.2.2.2.2.2.2.2.2.2.2.2.2.2.2.2.2.2.2.2.2.2.2.2.1
theorem dX8_behind_50 : decode cX8_behind 50 = .ok (.invokevirtual 166, 3) := edX8_behind_0.2.2.2.2.2.2.2.2.2.2.2.2.2.2.2.2.2.2.2.2.2.2.2.2.2.2.2.2.1
theorem dX8_behind_53 : decode cX8_behind 53 = .ok (.goto 30, 3) := edX8_behind_0.2.2.2.2.2.2.2.2.2.2.2.2.2.2.2.2.2.2.2.2.2.2.2.2.2.2.2.2.2.1
theorem dX8_behind_56 : decode cX8_behind 56 = .ok (.iload_n 2, 1) := edX8_behind_0.2.2.2.2.2.2.2.2.2.2.2.2.2.2.2.2.2.2.2.2.2.2.2.2.2.2.2.2.2.2.1
theorem dX8_behind_57 : decode cX8_behind 57 = .ok (.iconst 2, 1) := edX8_behind_0.2.2.2.2.2.2.2.2.2.2.2.2.2.2.2.2.2.2.2.2.2.2.2.2.2.2.2.2.2.2.2.1
theorem edX8_behind_58 : (decode cX8_behind 58 = .ok (.if_icmp .ne 18, 3)) ∧ (decode cX8_behind 61 = .ok (.aload_n 0, 1)) ∧ (decode cX8_behind 62 = .ok (.invokevirtual 149, 3)) ∧ (decode cX8_behind 65 = .ok (.ifCond .eq 7, 3)) ∧ (decode cX8_behind 68 = .ok (.iconst 1, 1)) ∧ (decode cX8_behind 69 = .ok (.goto 14, 3)) ∧ (decode cX8_behind 72 = .ok (.iconst 0, 1)) ∧ (decode cX8_behind 73 = .ok (.goto 10, 3)) ∧ (decode cX8_behind 76 = .ok (.aload_n 0, 1)) ∧ (decode cX8_behind 77 = .ok (.getfield 9, 3)) ∧ (decode cX8_behind 80 = .ok (.bipush 6, 2)) ∧ (decode cX8_behind 82 = .ok (.iaload, 1)) ∧ (decode cX8_behind 83 = .ok (.istore_n 3, 1)) ∧ (decode cX8_behind 84 = .ok (.aload_n 0, 1)) ∧ (decode cX8_behind 85 = .ok (.invokevirtual 175, 3)) ∧ (decode cX8_behind 88 = .ok (.iload_n 3, 1)) ∧ (decode cX8_behind 89 = .ok (.ireturn, 1)) ∧ True := dc_cj [(58, .if_icmp .ne 18, 3), (61, .aload_n 0, 1), (62, .invokevirtual 149, 3), (65, .ifCond .eq 7, 3), (68, .iconst 1, 1), (69, .goto 14, 3), (72, .iconst 0, 1), (73, .goto 10, 3), (76, .aload_n 0, 1), (77, .getfield 9, 3), (80, .bipush 6, 2), (82, .iaload, 1), (83, .istore_n 3, 1), (84, .aload_n 0, 1), (85, .invokevirtual 175, 3), (88, .iload_n 3, 1), (89, .ireturn, 1)] (by decide +kernel)
theorem dX8_behind_58 : decode cX8_behind 58 = .ok (.if_icmp .ne 18, 3) := edX8_behind_58.1
theorem dX8_behind_61 : decode cX8_behind 61 = .ok (.aload_n 0, 1) := edX8_behind_58.2.1
theorem dX8_behind_62 : decode cX8_behind 62 = .ok (.invokevirtual 149, 3) := edX8_behind_58.2.2.1
theorem dX8_behind_65 : decode cX8_behind 65 = .ok (.ifCond .eq 7, 3) := edX8_behind_58.2.2.2.1
theorem dX8_behind_68 : decode cX8_behind 68 = .ok (.iconst 1, 1) := edX8_behind_58.2.2.2.2.1
theorem dX8_behind_69 : decode cX8_behind 69 = .ok (.goto 14, 3) := edX8_behind_58.2.2.2.2.2.1
theorem dX8_behind_72 : decode cX8_behind 72 = .ok (.iconst 0, 1) := edX8_behind_58.2.2.2.2.2.2.1
theorem dX8_behind_73 : decode cX8_behind 73 = .ok (.goto 10, 3) := edX8_behind_58.2.2.2.2.2.2.2.1
theorem dX8_behind_76 : decode cX8_behind 76 = .ok (.aload_n 0, 1) := edX8_behind_58.2.2.2.2.2.2.2.2.1
theorem dX8_behind_77 : decode cX8_behind 77 = .ok (.getfield 9, 3) := edX8_behind_58.2.2.2.2.2.2.2.2.2.1
theorem dX8_behind_80 : decode cX8_behind 80 = .ok (.bipush 6, 2) := edX8_behind_58.2.2.2.2.2.2.2.2.2.2.1
theorem dX8_behind_82 : decode cX8_behind 82 = .ok (.iaload, 1) := edX8_behind_58.2.2.2.2.2.2.2.2.2.2.2.1
theorem dX8_behind_83 : decode cX8_behind 83 = .ok (.istore_n 3, 1) := edX8_behind_58.2.2.2.2.2.2.2.2.2.2.2.2.1
theorem dX8_behind_84 : decode cX8_behind 84 = .ok (.aload_n 0, 1) := edX8_behind_58.2.2.2.2.2.2.2.2.2.2.2.2.2.1
theorem dX8_behind_85 : decode cX8_behind 85 = .ok (.invokevirtual 175, 3) := edX8_behind_58.2.2.2.2.2.2.2.2.2.2.2.2.2.2.1
theorem dX8_behind_88 : decode cX8_behind 88 = .ok (.iload_n 3, 1) := edX8_behind_58.2.2.2.2.2.2.2.2.2.2.2.2.2.2.2.1
theorem dX8_behind_89 : decode cX8_behind 89 = .ok (.ireturn, 1) := edX8_behind_58.2.2.2.2.2.2.2.2.2.2.2.2.2.2.2.2.1
theorem edX8_ends_0 : (decode cX8_ends 0 = .ok (.iload_n 1, 1)) ∧ (decode cX8_ends 1 = .ok (.iconst 0, 1)) ∧ (decode cX8_ends 2 = .ok (.iconst 1, 1)) ∧ (decode cX8_ends 3 = .ok (.invokestatic 83, 3)) ∧ (decode cX8_ends 6 = .ok (.ifCond .ne 6, 3)) ∧ (decode cX8_ends 9 = .ok (.ldc 91, 2)) ∧ (decode cX8_ends 11 = .ok (.ireturn, 1)) ∧ (decode cX8_ends 12 = .ok (.aload_n 0, 1)) ∧ (decode cX8_ends 13 = .ok (.invokevirtual 169, 3)) ∧ (decode cX8_ends 16 = .ok (.iconst 0, 1)) ∧ (decode cX8_ends 17 = .ok (.istore_n 2, 1)) ∧ (decode cX8_ends 18 = .ok (.iload_n 2, 1)) ∧ (decode cX8_ends 19 = .ok (.sipush 200, 3)) ∧ (decode cX8_ends 22 = .ok (.if_icmp .gt 35, 3)) ∧ (decode cX8_ends 25 = .ok (.aload_n 0, 1)) ∧ (decode cX8_ends 26 = .ok (.invokevirtual 149, 3)) ∧ (decode cX8_ends 29 = .ok (.ifCond .ne 28, 3)) ∧ (decode cX8_ends 32 = .ok (.aload_n 0, 1)) ∧ (decode cX8_ends 33 = .ok (.getfield 9, 3)) ∧ (decode cX8_ends 36 = .ok (.iconst 3, 1)) ∧ (decode cX8_ends 37 = .ok (.iaload, 1)) ∧ (decode cX8_ends 38 = .ok (.aload_n 0, 1)) ∧ (decode cX8_ends 39 = .ok (.getfield 9, 3)) ∧ (decode cX8_ends 42 = .ok (.iconst 4, 1)) ∧ (decode cX8_ends 43 = .ok (.iaload, 1)) ∧ (decode cX8_ends 44 = .ok (.if_icmp .ge 13, 3)) ∧ (decode cX8_ends 47 = .ok (.aload_n 0, 1)) ∧ (decode cX8_ends 48 = .ok (.invokevirtual 157, 3)) ∧ (decode cX8_ends 51 = .ok (.iinc 2 1, 3)) ∧ (decode cX8_ends 54 = .ok (.goto (-36), 3)) ∧ (decode cX8_ends 57 = .ok (.aload_n 0, 1)) ∧ (decode cX8_ends 58 = .ok (.invokevirtual 149, 3)) ∧ True := dc_cj [(0, .iload_n 1, 1), (1, .iconst 0, 1), (2, .iconst 1, 1), (3, .invokestatic 83, 3), (6, .ifCond .ne 6, 3), (9, .ldc 91, 2), (11, .ireturn, 1), (12, .aload_n 0, 1), (13, .invokevirtual 169, 3), (16, .iconst 0, 1), (17, .istore_n 2, 1), (18, .iload_n 2, 1), (19, .sipush 200, 3), (22, .if_icmp .gt 35, 3), (25, .aload_n 0, 1), (26, .invokevirtual 149, 3), (29, .ifCond .ne 28, 3), (32, .aload_n 0, 1), (33, .getfield 9, 3), (36, .iconst 3, 1), (37, .iaload, 1), (38, .aload_n 0, 1), (39, .getfield 9, 3), (42, .iconst 4, 1), (43, .iaload, 1), (44, .if_icmp .ge 13, 3), (47, .aload_n 0, 1), (48, .invokevirtual 157, 3), (51, .iinc 2 1, 3), (54, .goto (-36), 3), (57, .aload_n 0, 1), (58, .invokevirtual 149, 3)] (by decide +kernel)
theorem dX8_ends_0 : decode cX8_ends 0 = .ok (.iload_n 1, 1) := edX8_ends_0.1
theorem dX8_ends_1 : decode cX8_ends 1 = .ok (.iconst 0, 1) := edX8_ends_0.2.1
theorem dX8_ends_2 : decode cX8_ends 2 = .ok (.iconst 1, 1) := edX8_ends_0.2.2.1
theorem dX8_ends_3 : decode cX8_ends 3 = .ok (.invokestatic 83, 3) := edX8_ends_0.2.2.2.1
theorem dX8_ends_6 : decode cX8_ends 6 = .ok (.ifCond .ne 6, 3) := edX8_ends_0.2.2.2.2.1
theorem dX8_ends_9 : decode cX8_ends 9 = .ok (.ldc 91, 2) := edX8_ends_0.2.2.2.2.2.1
theorem dX8_ends_11 : decode cX8_ends 11 = .ok (.ireturn, 1) := edX8_ends_0.2.2.2.2.2.2.1
theorem dX8_ends_12 : decode cX8_ends 12 = .ok (.aload_n 0, 1) := edX8_ends_0.2.2.2.2.2.2.2.1
theorem dX8_ends_13 : decode cX8_ends 13 = .ok (.invokevirtual 169, 3) := edX8_ends_0.2.2.2.2.2.2.2.2.1
theorem dX8_ends_16 : decode cX8_ends 16 = .ok (.iconst 0, 1) := edX8_ends_0.2.2.2.2.2.2.2.2.2.1
theorem dX8_ends_17 : decode cX8_ends 17 = .ok (.istore_n 2, 1) := edX8_ends_0.2.2.2.2.2.2.2.2.2.2.1
theorem dX8_ends_18 : decode cX8_ends 18 = .ok (.iload_n 2, 1) := edX8_ends_0.2.2.2.2.2.2.2.2.2.2.2.1
theorem dX8_ends_19 : decode cX8_ends 19 = .ok (.sipush 200, 3) := edX8_ends_0.2.2.2.2.2.2.2.2.2.2.2.2.1
theorem dX8_ends_22 : decode cX8_ends 22 = .ok (.if_icmp .gt 35, 3) := edX8_ends_0.2.2.2.2.2.2.2.2.2.2.2.2.2.1
theorem dX8_ends_25 : decode cX8_ends 25 = .ok (.aload_n 0, 1) := edX8_ends_0.2.2.2.2.2.2.2.2.2.2.2.2.2.2.1
theorem dX8_ends_26 : decode cX8_ends 26 = .ok (.invokevirtual 149, 3) := edX8_ends_0.2.2.2.2.2.2.2.2.2.2.2.2.2.2.2.1
theorem dX8_ends_29 : decode cX8_ends 29 = .ok (.ifCond .ne 28, 3) := edX8_ends_0.2.2.2.2.2.2.2.2.2.2.2.2.2.2.2.2.1
theorem dX8_ends_32 : decode cX8_ends 32 = .ok (.aload_n 0, 1) := edX8_ends_0.2.2.2.2.2.2.2.2.2.2.2.2.2.2.2.2.2.1
theorem dX8_ends_33 : decode cX8_ends 33 = .ok (.getfield 9, 3) := edX8_ends_0.2.2.2.2.2.2.2.2.2.2.2.2.2.2.2.2.2.2.1
theorem dX8_ends_36 : decode cX8_ends 36 = .ok (.iconst 3, 1) := edX8_ends_0.2.2.2.2.2.2.2.2.2.2.2.2.2.2.2.2.2.2.2.1
theorem dX8_ends_37 : decode cX8_ends 37 = .ok (.iaload, 1) := edX8_ends_0.2.2.2.2.2.2.2.2.2.2.2.2.2.2.2.2.2.2.2.2.1
theorem dX8_ends_38 : decode cX8_ends 38 = .ok (.aload_n 0, 1) := edX8_ends_0.2.2.2.2.2.2.2.2.2.2.2.2.2.2.2.2.2.2.2.2.2.1
theorem dX8_ends_39 : decode cX8_ends 39 = .ok (.getfield 9, 3) := edX8_ends_0.2.2.2.2.2.2.2.2.2.2.2.2.2.2.2.2.2.2.2.2.2.2.1
theorem dX8_ends_42 : decode cX8_ends 42 = .ok (.iconst 4, 1) := edX8_ends_0.2.2.2.2.2.2.2.2.2.2.2.2.2.2.2.2.2.2.2.2.2.2.2.1
theorem dX8_ends_43 : decode cX8_ends 43 = .ok (.iaload, 1) := edX8_ends_0.2.2.2.2.2.2.2.2.2.2.2.2.2.2.2.2.2.2.2.2.2.2.2.2.1
theorem dX8_ends_44 : decode cX8_ends 44 = .ok (.if_icmp .ge 13, 3) := edX8_ends_0.2.2.2.2.2.2.2.2.2.2.2.2.2.2.2.2.2.2.2.2.2.2.2.2.2.1
theorem dX8_ends_47 : decode cX8_ends 47 = .ok (.aload_n 0, 1) := edX8_ends_0.2.2.2.2.2.2.2.2.2.2.2.2.2.2.2.2.2.2.2.2.2.2.2.2.2.2.1
theorem dX8_ends_48 : decode cX8_ends 48 = .ok (.invokevirtual 157, 3) := edX8_ends_0.2.2.2.2.2.2.2.2.2.2.2.2.2.2.2.2.2.2.2.2.2.2.2.2.2.2.2.1
theorem dX8_ends_51 : decode cX8_ends 51 = .ok (.iinc 2 1, 3) := edX8_ends_0.2.2.2.2.2.2.2.2.2.2.2.2.2.2.2.2.2.2.2.2.2.2.2.2.2.2.2.2.1
theorem dX8_ends_54 : decode cX8_ends 54 = .ok (.goto (-36), 3) := edX8_ends_0.2.2.2.2.2.2.2.2.2.2.2.2.2.2.2.2.2.2.2.2.2.2.2.2.2.2.2.2.2.1
theorem dX8_ends_57 : decode cX8_ends 57 = .ok (.aload_n 0, 1) := edX8_ends_0.2.2.2.2.2.2.2.2.2.2.2.2.2.2.2.2.2.2.2.2.2.2.2.2.2.2.2.2.2.2.1
theorem dX8_ends_58 : decode cX8_ends 58 = .ok (.invokevirtual 149, 3) := edX8_ends_0.2.2.2.2.2.2.2.2.2.2.2.2.2.2.2.2.2.2.2.2.2.2.2.2.2.2.2.2.2.2.2.1
theorem edX8_ends_61 : (decode cX8_ends 61 = .ok (.ifCond .eq 7, 3)) ∧ (decode cX8_ends 64 = .ok (.iconst 1, 1)) ∧ (decode cX8_ends 65 = .ok (.goto 4, 3)) ∧ (decode cX8_ends 68 = .ok (.iconst 2, 1)) ∧ (decode cX8_ends 69 = .ok (.istore_n 3, 1)) ∧ (decode cX8_ends 70 = .ok (.aload_n 0, 1)) ∧ (decode cX8_ends 71 = .ok (.invokevirtual 175, 3)) ∧ (decode cX8_ends 74 = .ok (.iload_n 2, 1)) ∧ (decode cX8_ends 75 = .ok (.sipush 200, 3)) ∧ (decode cX8_ends 78 = .ok (.if_icmp .le 8, 3)) ∧ (decode cX8_ends 81 = .ok (.ldc 82, 2)) ∧ (decode cX8_ends 83 = .ok (.goto 12, 3)) ∧ (decode cX8_ends 86 = .ok (.iload_n 1, 1)) ∧ (decode cX8_ends 87 = .ok (.ifCond .ne 7, 3)) ∧ (decode cX8_ends 90 = .ok (.iload_n 2, 1)) ∧ (decode cX8_ends 91 = .ok (.goto 4, 3)) ∧ (decode cX8_ends 94 = .ok (.iload_n 3, 1)) ∧ (decode cX8_ends 95 = .ok (.ireturn, 1)) ∧ True := dc_cj [(61, .ifCond .eq 7, 3), (64, .iconst 1, 1), (65, .goto 4, 3), (68, .iconst 2, 1), (69, .istore_n 3, 1), (70, .aload_n 0, 1), (71, .invokevirtual 175, 3), (74, .iload_n 2, 1), (75, .sipush 200, 3), (78, .if_icmp .le 8, 3), (81, .ldc 82, 2), (83, .goto 12, 3), (86, .iload_n 1, 1), (87, .ifCond .ne 7, 3), (90, .iload_n 2, 1), (91, .goto 4, 3), (94, .iload_n 3, 1), (95, .ireturn, 1)] (by decide +kernel)
theorem dX8_ends_61 : decode cX8_ends 61 = .ok (.ifCond .eq 7, 3) := edX8_ends_61.1
theorem dX8_ends_64 : decode cX8_ends 64 = .ok (.iconst 1, 1) := edX8_ends_61.2.1
theorem dX8_ends_65 : decode cX8_ends 65 = .ok (.goto 4, 3) := edX8_ends_61.2.2.1
theorem dX8_ends_68 : decode cX8_ends 68 = .ok (.iconst 2, 1) := edX8_ends_61.2.2.2.1
theorem dX8_ends_69 : decode cX8_ends 69 = .ok (.istore_n 3, 1) := edX8_ends_61.2.2.2.2.1
theorem dX8_ends_70 : decode cX8_ends 70 = .ok (.aload_n 0, 1) := edX8_ends_61.2.2.2.2.2.1
theorem dX8_ends_71 : decode cX8_ends 71 = .ok (.invokevirtual 175, 3) := edX8_ends_61.2.2.2.2.2.2.1
theorem dX8_ends_74 : decode cX8_ends 74 = .ok (.iload_n 2, 1) := edX8_ends_61.2.2.2.2.2.2.2.1
theorem dX8_ends_75 : decode cX8_ends 75 = .ok (.sipush 200, 3) := edX8_ends_61.2.2.2.2.2.2.2.2.1
theorem dX8_ends_78 : decode cX8_ends 78 = .ok (.if_icmp .le 8, 3) := edX8_ends_61.2.2.2.2.2.2.2.2.2.1
theorem dX8_ends_81 : decode cX8_ends 81 = .ok (.ldc 82, 2) := edX8_ends_61.2.2.2.2.2.2.2.2.2.2.1
theorem dX8_ends_83 : decode cX8_ends 83 = .ok (.goto 12, 3) := edX8_ends_61.2.2.2.2.2.2.2.2.2.2.2.1
theorem dX8_ends_86 : decode cX8_ends 86 = .ok (.iload_n 1, 1) := edX8_ends_61.2.2.2.2.2.2.2.2.2.2.2.2.1
theorem dX8_ends_87 : decode cX8_ends 87 = .ok (.ifCond .ne 7, 3) := edX8_ends_61.2.2.2.2.2.2.2.2.2.2.2.2.2.1
theorem dX8_ends_90 : decode cX8_ends 90 = .ok (.iload_n 2, 1) := edX8_ends_61.2.2.2.2.2.2.2.2.2.2.2.2.2.2.1
theorem dX8_ends_91 : decode cX8_ends 91 = .ok (.goto 4, 3) := edX8_ends_61.2.2.2.2.2.2.2.2.2.2.2.2.2.2.2.1
theorem dX8_ends_94 : decode cX8_ends 94 = .ok (.iload_n 3, 1) := edX8_ends_61.2.2.2.2.2.2.2.2.2.2.2.2.2.2.2.2.1
theorem dX8_ends_95 : decode cX8_ends 95 = .ok (.ireturn, 1) := edX8_ends_61.2.2.2.2.2.2.2.2.2.2.2.2.2.2.2.2.2.1
theorem edX8_endsWell_0 : (decode cX8_endsWell 0 = .ok (.aload_n 0, 1)) ∧ (decode cX8_endsWell 1 = .ok (.iload_n 1, 1)) ∧ (decode cX8_endsWell 2 = .ok (.invokevirtual 163, 3)) ∧ (decode cX8_endsWell 5 = .ok (.aload_n 0, 1)) ∧ (decode cX8_endsWell 6 = .ok (.invokevirtual 149, 3)) ∧ (decode cX8_endsWell 9 = .ok (.istore_n 2, 1)) ∧ (decode cX8_endsWell 10 = .ok (.aload_n 0, 1)) ∧ (decode cX8_endsWell 11 = .ok (.invokevirtual 175, 3)) ∧ (decode cX8_endsWell 14 = .ok (.iload_n 2, 1)) ∧ (decode cX8_endsWell 15 = .ok (.ireturn, 1)) ∧ True := dc_cj [(0, .aload_n 0, 1), (1, .iload_n 1, 1), (2, .invokevirtual 163, 3), (5, .aload_n 0, 1), (6, .invokevirtual 149, 3), (9, .istore_n 2, 1), (10, .aload_n 0, 1), (11, .invokevirtual 175, 3), (14, .iload_n 2, 1), (15, .ireturn, 1)] (by decide +kernel)
theorem dX8_endsWell_0 : decode cX8_endsWell 0 = .ok (.aload_n 0, 1) := edX8_endsWell_0.1
theorem dX8_endsWell_1 : decode cX8_endsWell 1 = .ok (.iload_n 1, 1) := edX8_endsWell_0.2.1
theorem dX8_endsWell_2 : decode cX8_endsWell 2 = .ok (.invokevirtual 163, 3) := edX8_endsWell_0.2.2.1
theorem dX8_endsWell_5 : decode cX8_endsWell 5 = .ok (.aload_n 0, 1) := edX8_endsWell_0.2.2.2.1
theorem dX8_endsWell_6 : decode cX8_endsWell 6 = .ok (.invokevirtual 149, 3) := edX8_endsWell_0.2.2.2.2.1
theorem dX8_endsWell_9 : decode cX8_endsWell 9 = .ok (.istore_n 2, 1) := edX8_endsWell_0.2.2.2.2.2.1
theorem dX8_endsWell_10 : decode cX8_endsWell 10 = .ok (.aload_n 0, 1) := edX8_endsWell_0.2.2.2.2.2.2.1
theorem dX8_endsWell_11 : decode cX8_endsWell 11 = .ok (.invokevirtual 175, 3) := edX8_endsWell_0.2.2.2.2.2.2.2.1
theorem dX8_endsWell_14 : decode cX8_endsWell 14 = .ok (.iload_n 2, 1) := edX8_endsWell_0.2.2.2.2.2.2.2.2.1
theorem dX8_endsWell_15 : decode cX8_endsWell 15 = .ok (.ireturn, 1) := edX8_endsWell_0.2.2.2.2.2.2.2.2.2.1
theorem edX8_held_0 : (decode cX8_held 0 = .ok (.iload_n 1, 1)) ∧ (decode cX8_held 1 = .ok (.iconst 1, 1)) ∧ (decode cX8_held 2 = .ok (.bipush 60, 2)) ∧ (decode cX8_held 4 = .ok (.invokestatic 83, 3)) ∧ (decode cX8_held 7 = .ok (.ifCond .ne 6, 3)) ∧ (decode cX8_held 10 = .ok (.ldc 91, 2)) ∧ (decode cX8_held 12 = .ok (.ireturn, 1)) ∧ (decode cX8_held 13 = .ok (.aload_n 0, 1)) ∧ (decode cX8_held 14 = .ok (.invokevirtual 169, 3)) ∧ (decode cX8_held 17 = .ok (.iconst 0, 1)) ∧ (decode cX8_held 18 = .ok (.istore_n 2, 1)) ∧ (decode cX8_held 19 = .ok (.aload_n 0, 1)) ∧ (decode cX8_held 20 = .ok (.iload_n 1, 1)) ∧ (decode cX8_held 21 = .ok (.invokevirtual 181, 3)) ∧ (decode cX8_held 24 = .ok (.istore_n 3, 1)) ∧ (decode cX8_held 25 = .ok (.iconst 0, 1)) ∧ (decode cX8_held 26 = .ok (.istore 4, 2)) ∧ (decode cX8_held 28 = .ok (.iload 4, 2)) ∧ (decode cX8_held 30 = .ok (.aload_n 0, 1)) ∧ (decode cX8_held 31 = .ok (.getfield 9, 3)) ∧ (decode cX8_held 34 = .ok (.iconst 1, 1)) ∧ (decode cX8_held 35 = .ok (.iaload, 1)) ∧ (decode cX8_held 36 = .ok (.if_icmp .ge 38, 3)) ∧ (decode cX8_held 39 = .ok (.iload_n 3, 1)) ∧ (decode cX8_held 40 = .ok (.ifCond .ne 34, 3)) ∧ (decode cX8_held 43 = .ok (.aload_n 0, 1)) ∧ (decode cX8_held 44 = .ok (.iload 4, 2)) ∧ (decode cX8_held 46 = .ok (.putfield 19, 3)) ∧ (decode cX8_held 49 = .ok (.iload_n 2, 1)) ∧ (decode cX8_held 50 = .ok (.aload_n 0, 1)) ∧ (decode cX8_held 51 = .ok (.iload_n 1, 1)) ∧ (decode cX8_held 52 = .ok (.invokevirtual 181, 3)) ∧ True := dc_cj [(0, .iload_n 1, 1), (1, .iconst 1, 1), (2, .bipush 60, 2), (4, .invokestatic 83, 3), (7, .ifCond .ne 6, 3), (10, .ldc 91, 2), (12, .ireturn, 1), (13, .aload_n 0, 1), (14, .invokevirtual 169, 3), (17, .iconst 0, 1), (18, .istore_n 2, 1), (19, .aload_n 0, 1), (20, .iload_n 1, 1), (21, .invokevirtual 181, 3), (24, .istore_n 3, 1), (25, .iconst 0, 1), (26, .istore 4, 2), (28, .iload 4, 2), (30, .aload_n 0, 1), (31, .getfield 9, 3), (34, .iconst 1, 1), (35, .iaload, 1), (36, .if_icmp .ge 38, 3), (39, .iload_n 3, 1), (40, .ifCond .ne 34, 3), (43, .aload_n 0, 1), (44, .iload 4, 2), (46, .putfield 19, 3), (49, .iload_n 2, 1), (50, .aload_n 0, 1), (51, .iload_n 1, 1), (52, .invokevirtual 181, 3)] (by decide +kernel)
theorem dX8_held_0 : decode cX8_held 0 = .ok (.iload_n 1, 1) := edX8_held_0.1
theorem dX8_held_1 : decode cX8_held 1 = .ok (.iconst 1, 1) := edX8_held_0.2.1
theorem dX8_held_2 : decode cX8_held 2 = .ok (.bipush 60, 2) := edX8_held_0.2.2.1
theorem dX8_held_4 : decode cX8_held 4 = .ok (.invokestatic 83, 3) := edX8_held_0.2.2.2.1
theorem dX8_held_7 : decode cX8_held 7 = .ok (.ifCond .ne 6, 3) := edX8_held_0.2.2.2.2.1
theorem dX8_held_10 : decode cX8_held 10 = .ok (.ldc 91, 2) := edX8_held_0.2.2.2.2.2.1
theorem dX8_held_12 : decode cX8_held 12 = .ok (.ireturn, 1) := edX8_held_0.2.2.2.2.2.2.1
theorem dX8_held_13 : decode cX8_held 13 = .ok (.aload_n 0, 1) := edX8_held_0.2.2.2.2.2.2.2.1
theorem dX8_held_14 : decode cX8_held 14 = .ok (.invokevirtual 169, 3) := edX8_held_0.2.2.2.2.2.2.2.2.1
theorem dX8_held_17 : decode cX8_held 17 = .ok (.iconst 0, 1) := edX8_held_0.2.2.2.2.2.2.2.2.2.1
theorem dX8_held_18 : decode cX8_held 18 = .ok (.istore_n 2, 1) := edX8_held_0.2.2.2.2.2.2.2.2.2.2.1
theorem dX8_held_19 : decode cX8_held 19 = .ok (.aload_n 0, 1) := edX8_held_0.2.2.2.2.2.2.2.2.2.2.2.1
theorem dX8_held_20 : decode cX8_held 20 = .ok (.iload_n 1, 1) := edX8_held_0.2.2.2.2.2.2.2.2.2.2.2.2.1
theorem dX8_held_21 : decode cX8_held 21 = .ok (.invokevirtual 181, 3) := edX8_held_0.2.2.2.2.2.2.2.2.2.2.2.2.2.1
theorem dX8_held_24 : decode cX8_held 24 = .ok (.istore_n 3, 1) := edX8_held_0.2.2.2.2.2.2.2.2.2.2.2.2.2.2.1
theorem dX8_held_25 : decode cX8_held 25 = .ok (.iconst 0, 1) := edX8_held_0.2.2.2.2.2.2.2.2.2.2.2.2.2.2.2.1
theorem dX8_held_26 : decode cX8_held 26 = .ok (.istore 4, 2) := edX8_held_0.2.2.2.2.2.2.2.2.2.2.2.2.2.2.2.2.1
theorem dX8_held_28 : decode cX8_held 28 = .ok (.iload 4, 2) := edX8_held_0.2.2.2.2.2.2.2.2.2.2.2.2.2.2.2.2.2.1
theorem dX8_held_30 : decode cX8_held 30 = .ok (.aload_n 0, 1) := edX8_held_0.2.2.2.2.2.2.2.2.2.2.2.2.2.2.2.2.2.2.1
theorem dX8_held_31 : decode cX8_held 31 = .ok (.getfield 9, 3) := edX8_held_0.2.2.2.2.2.2.2.2.2.2.2.2.2.2.2.2.2.2.2.1
theorem dX8_held_34 : decode cX8_held 34 = .ok (.iconst 1, 1) := edX8_held_0.2.2.2.2.2.2.2.2.2.2.2.2.2.2.2.2.2.2.2.2.1
theorem dX8_held_35 : decode cX8_held 35 = .ok (.iaload, 1) := edX8_held_0.2.2.2.2.2.2.2.2.2.2.2.2.2.2.2.2.2.2.2.2.2.1
theorem dX8_held_36 : decode cX8_held 36 = .ok (.if_icmp .ge 38, 3) := edX8_held_0.2.2.2.2.2.2.2.2.2.2.2.2.2.2.2.2.2.2.2.2.2.2.1
theorem dX8_held_39 : decode cX8_held 39 = .ok (.iload_n 3, 1) := edX8_held_0.2.2.2.2.2.2.2.2.2.2.2.2.2.2.2.2.2.2.2.2.2.2.2.1
theorem dX8_held_40 : decode cX8_held 40 = .ok (.ifCond .ne 34, 3) := edX8_held_0.2.2.2.2.2.2.2.2.2.2.2.2.2.2.2.2.2.2.2.2.2.2.2.2.1
theorem dX8_held_43 : decode cX8_held 43 = .ok (.aload_n 0, 1) := edX8_held_0.2.2.2.2.2.2.2.2.2.2.2.2.2.2.2.2.2.2.2.2.2.2.2.2.2.1
theorem dX8_held_44 : decode cX8_held 44 = .ok (.iload 4, 2) := edX8_held_0.2.2.2.2.2.2.2.2.2.2.2.2.2.2.2.2.2.2.2.2.2.2.2.2.2.2.1
theorem dX8_held_46 : decode cX8_held 46 = .ok (.putfield 19, 3) := edX8_held_0.2.2.2.2.2.2.2.2.2.2.2.2.2.2.2.2.2.2.2.2.2.2.2.2.2.2.2.1
theorem dX8_held_49 : decode cX8_held 49 = .ok (.iload_n 2, 1) := edX8_held_0.2.2.2.2.2.2.2.2.2.2.2.2.2.2.2.2.2.2.2.2.2.2.2.2.2.2.2.2.1
theorem dX8_held_50 : decode cX8_held 50 = .ok (.aload_n 0, 1) := edX8_held_0.2.2.2.2.2.2.2.2.2.2.2.2.2.2.2.2.2.2.2.2.2.2.2.2.2.2.2.2.2.1
theorem dX8_held_51 : decode cX8_held 51 = .ok (.iload_n 1, 1) := edX8_held_0.2.2.2.2.2.2.2.2.2.2.2.2.2.2.2.2.2.2.2.2.2.2.2.2.2.2.2.2.2.2.1
theorem dX8_held_52 : decode cX8_held 52 = .ok (.invokevirtual 181, 3) := edX8_held_0.2.2.2.2.2.2.2.2.2.2.2.2.2.2.2.2.2.2.2.2.2.2.2.2.2.2.2.2.2.2.2.1
theorem edX8_held_55 : (decode cX8_held 55 = .ok (.ifCond .eq 10, 3)) ∧ (decode cX8_held 58 = .ok (.iconst 1, 1)) ∧ (decode cX8_held 59 = .ok (.iload 4, 2)) ∧ (decode cX8_held 61 = .ok (.ishl, 1)) ∧ (decode cX8_held 62 = .ok (.goto 4, 3)) ∧ (decode cX8_held 65 = .ok (.iconst 0, 1)) ∧ (decode cX8_held 66 = .ok (.ior, 1)) ∧ (decode cX8_held 67 = .ok (.istore_n 2, 1)) ∧ (decode cX8_held 68 = .ok (.iinc 4 1, 3)) ∧ (decode cX8_held 71 = .ok (.goto (-43), 3)) ∧ (decode cX8_held 74 = .ok (.iload_n 2, 1)) ∧ (decode cX8_held 75 = .ok (.ireturn, 1)) ∧ True := dc_cj [(55, .ifCond .eq 10, 3), (58, .iconst 1, 1), (59, .iload 4, 2), (61, .ishl, 1), (62, .goto 4, 3), (65, .iconst 0, 1), (66, .ior, 1), (67, .istore_n 2, 1), (68, .iinc 4 1, 3), (71, .goto (-43), 3), (74, .iload_n 2, 1), (75, .ireturn, 1)] (by decide +kernel)
theorem dX8_held_55 : decode cX8_held 55 = .ok (.ifCond .eq 10, 3) := edX8_held_55.1
theorem dX8_held_58 : decode cX8_held 58 = .ok (.iconst 1, 1) := edX8_held_55.2.1
theorem dX8_held_59 : decode cX8_held 59 = .ok (.iload 4, 2) := edX8_held_55.2.2.1
theorem dX8_held_61 : decode cX8_held 61 = .ok (.ishl, 1) := edX8_held_55.2.2.2.1
theorem dX8_held_62 : decode cX8_held 62 = .ok (.goto 4, 3) := edX8_held_55.2.2.2.2.1
theorem dX8_held_65 : decode cX8_held 65 = .ok (.iconst 0, 1) := edX8_held_55.2.2.2.2.2.1
theorem dX8_held_66 : decode cX8_held 66 = .ok (.ior, 1) := edX8_held_55.2.2.2.2.2.2.1
theorem dX8_held_67 : decode cX8_held 67 = .ok (.istore_n 2, 1) := edX8_held_55.2.2.2.2.2.2.2.1
theorem dX8_held_68 : decode cX8_held 68 = .ok (.iinc 4 1, 3) := edX8_held_55.2.2.2.2.2.2.2.2.1
theorem dX8_held_71 : decode cX8_held 71 = .ok (.goto (-43), 3) := edX8_held_55.2.2.2.2.2.2.2.2.2.1
theorem dX8_held_74 : decode cX8_held 74 = .ok (.iload_n 2, 1) := edX8_held_55.2.2.2.2.2.2.2.2.2.2.1
theorem dX8_held_75 : decode cX8_held 75 = .ok (.ireturn, 1) := edX8_held_55.2.2.2.2.2.2.2.2.2.2.2.1
theorem edX8_cool_0 : (decode cX8_cool 0 = .ok (.iload_n 1, 1)) ∧ (decode cX8_cool 1 = .ok (.iconst 1, 1)) ∧ (decode cX8_cool 2 = .ok (.bipush 40, 2)) ∧ (decode cX8_cool 4 = .ok (.invokestatic 83, 3)) ∧ (decode cX8_cool 7 = .ok (.ifCond .ne 6, 3)) ∧ (decode cX8_cool 10 = .ok (.ldc 91, 2)) ∧ (decode cX8_cool 12 = .ok (.ireturn, 1)) ∧ (decode cX8_cool 13 = .ok (.aload_n 0, 1)) ∧ (decode cX8_cool 14 = .ok (.invokevirtual 169, 3)) ∧ (decode cX8_cool 17 = .ok (.iconst (-1), 1)) ∧ (decode cX8_cool 18 = .ok (.istore_n 2, 1)) ∧ (decode cX8_cool 19 = .ok (.bipush 99, 2)) ∧ (decode cX8_cool 21 = .ok (.istore_n 3, 1)) ∧ (decode cX8_cool 22 = .ok (.iload_n 3, 1)) ∧ (decode cX8_cool 23 = .ok (.ifCond .lt 34, 3)) ∧ (decode cX8_cool 26 = .ok (.iload_n 2, 1)) ∧ (decode cX8_cool 27 = .ok (.ifCond .ge 30, 3)) ∧ (decode cX8_cool 30 = .ok (.aload_n 0, 1)) ∧ (decode cX8_cool 31 = .ok (.getfield 9, 3)) ∧ (decode cX8_cool 34 = .ok (.iconst 3, 1)) ∧ (decode cX8_cool 35 = .ok (.iload_n 3, 1)) ∧ (decode cX8_cool 36 = .ok (.iastore, 1)) ∧ (decode cX8_cool 37 = .ok (.aload_n 0, 1)) ∧ (decode cX8_cool 38 = .ok (.iload_n 1, 1)) ∧ (decode cX8_cool 39 = .ok (.invokevirtual 181, 3)) ∧ (decode cX8_cool 42 = .ok (.ifCond .eq 7, 3)) ∧ (decode cX8_cool 45 = .ok (.iload_n 3, 1)) ∧ (decode cX8_cool 46 = .ok (.goto 4, 3)) ∧ (decode cX8_cool 49 = .ok (.iconst (-1), 1)) ∧ (decode cX8_cool 50 = .ok (.istore_n 2, 1)) ∧ (decode cX8_cool 51 = .ok (.iinc 3 (-1), 3)) ∧ (decode cX8_cool 54 = .ok (.goto (-32), 3)) ∧ True := dc_cj [(0, .iload_n 1, 1), (1, .iconst 1, 1), (2, .bipush 40, 2), (4, .invokestatic 83, 3), (7, .ifCond .ne 6, 3), (10, .ldc 91, 2), (12, .ireturn, 1), (13, .aload_n 0, 1), (14, .invokevirtual 169, 3), (17, .iconst (-1), 1), (18, .istore_n 2, 1), (19, .bipush 99, 2), (21, .istore_n 3, 1), (22, .iload_n 3, 1), (23, .ifCond .lt 34, 3), (26, .iload_n 2, 1), (27, .ifCond .ge 30, 3), (30, .aload_n 0, 1), (31, .getfield 9, 3), (34, .iconst 3, 1), (35, .iload_n 3, 1), (36, .iastore, 1), (37, .aload_n 0, 1), (38, .iload_n 1, 1), (39, .invokevirtual 181, 3), (42, .ifCond .eq 7, 3), (45, .iload_n 3, 1), (46, .goto 4, 3), (49, .iconst (-1), 1), (50, .istore_n 2, 1), (51, .iinc 3 (-1), 3), (54, .goto (-32), 3)] (by decide +kernel)
theorem dX8_cool_0 : decode cX8_cool 0 = .ok (.iload_n 1, 1) := edX8_cool_0.1
theorem dX8_cool_1 : decode cX8_cool 1 = .ok (.iconst 1, 1) := edX8_cool_0.2.1
theorem dX8_cool_2 : decode cX8_cool 2 = .ok (.bipush 40, 2) := edX8_cool_0.2.2.1
theorem dX8_cool_4 : decode cX8_cool 4 = .ok (.invokestatic 83, 3) := edX8_cool_0.2.2.2.1
theorem dX8_cool_7 : decode cX8_cool 7 = .ok (.ifCond .ne 6, 3) := edX8_cool_0.2.2.2.2.1
theorem dX8_cool_10 : decode cX8_cool 10 = .ok (.ldc 91, 2) := edX8_cool_0.2.2.2.2.2.1
theorem dX8_cool_12 : decode cX8_cool 12 = .ok (.ireturn, 1) := edX8_cool_0.2.2.2.2.2.2.1
theorem dX8_cool_13 : decode cX8_cool 13 = .ok (.aload_n 0, 1) := edX8_cool_0.2.2.2.2.2.2.2.1
theorem dX8_cool_14 : decode cX8_cool 14 = .ok (.invokevirtual 169, 3) := edX8_cool_0.2.2.2.2.2.2.2.2.1
theorem dX8_cool_17 : decode cX8_cool 17 = .ok (.iconst (-1), 1) := edX8_cool_0.2.2.2.2.2.2.2.2.2.1
theorem dX8_cool_18 : decode cX8_cool 18 = .ok (.istore_n 2, 1) := edX8_cool_0.2.2.2.2.2.2.2.2.2.2.1
theorem dX8_cool_19 : decode cX8_cool 19 = .ok (.bipush 99, 2) := edX8_cool_0.2.2.2.2.2.2.2.2.2.2.2.1
theorem dX8_cool_21 : decode cX8_cool 21 = .ok (.istore_n 3, 1) := edX8_cool_0.2.2.2.2.2.2.2.2.2.2.2.2.1
theorem dX8_cool_22 : decode cX8_cool 22 = .ok (.iload_n 3, 1) := edX8_cool_0.2.2.2.2.2.2.2.2.2.2.2.2.2.1
theorem dX8_cool_23 : decode cX8_cool 23 = .ok (.ifCond .lt 34, 3) := edX8_cool_0.2.2.2.2.2.2.2.2.2.2.2.2.2.2.1
theorem dX8_cool_26 : decode cX8_cool 26 = .ok (.iload_n 2, 1) := edX8_cool_0.2.2.2.2.2.2.2.2.2.2.2.2.2.2.2.1
theorem dX8_cool_27 : decode cX8_cool 27 = .ok (.ifCond .ge 30, 3) := edX8_cool_0.2.2.2.2.2.2.2.2.2.2.2.2.2.2.2.2.1
theorem dX8_cool_30 : decode cX8_cool 30 = .ok (.aload_n 0, 1) := edX8_cool_0.2.2.2.2.2.2.2.2.2.2.2.2.2.2.2.2.2.1
theorem dX8_cool_31 : decode cX8_cool 31 = .ok (.getfield 9, 3) := edX8_cool_0.2.2.2.2.2.2.2.2.2.2.2.2.2.2.2.2.2.2.1
theorem dX8_cool_34 : decode cX8_cool 34 = .ok (.iconst 3, 1) := edX8_cool_0.2.2.2.2.2.2.2.2.2.2.2.2.2.2.2.2.2.2.2.1
theorem dX8_cool_35 : decode cX8_cool 35 = .ok (.iload_n 3, 1) := edX8_cool_0.2.2.2.2.2.2.2.2.2.2.2.2.2.2.2.2.2.2.2.2.1
theorem dX8_cool_36 : decode cX8_cool 36 = .ok (.iastore, 1) := edX8_cool_0.2.2.2.2.2.2.2.2.2.2.2.2.2.2.2.2.2.2.2.2.2.1
theorem dX8_cool_37 : decode cX8_cool 37 = .ok (.aload_n 0, 1) := edX8_cool_0.2.2.2.2.2.2.2.2.2.2.2.2.2.2.2.2.2.2.2.2.2.2.1
theorem dX8_cool_38 : decode cX8_cool 38 = .ok (.iload_n 1, 1) := edX8_cool_0.2.2.2.2.2.2.2.2.2.2.2.2.2.2.2.2.2.2.2.2.2.2.2.1
theorem dX8_cool_39 : decode cX8_cool 39 = .ok (.invokevirtual 181, 3) := edX8_cool_0.2.2.2.2.2.2.2.2.2.2.2.2.2.2.2.2.2.2.2.2.2.2.2.2.1
theorem dX8_cool_42 : decode cX8_cool 42 = .ok (.ifCond .eq 7, 3) := edX8_cool_0.2.2.2.2.2.2.2.2.2.2.2.2.2.2.2.2.2.2.2.2.2.2.2.2.2.1
theorem dX8_cool_45 : decode cX8_cool 45 = .ok (.iload_n 3, 1) := edX8_cool_0.2.2.2.2.2.2.2.2.2.2.2.2.2.2.2.2.2.2.2.2.2.2.2.2.2.2.1
theorem dX8_cool_46 : decode cX8_cool 46 = .ok (.goto 4, 3) := edX8_cool_0.2.2.2.2.2.2.2.2.2.2.2.2.2.2.2.2.2.2.2.2.2.2.2.2.2.2.2.1
theorem dX8_cool_49 : decode cX8_cool 49 = .ok (.iconst (-1), 1) := edX8_cool_0.2.2.2.2.2.2.2.2.2.2.2.2.2.2.2.2.2.2.2.2.2.2.2.2.2.2.2.2.1
theorem dX8_cool_50 : decode cX8_cool 50 = .ok (.istore_n 2, 1) := edX8_cool_0.2.2.2.2.2.2.2.2.2.2.2.2.2.2.2.2.2.2.2.2.2.2.2.2.2.2.2.2.2.1
theorem dX8_cool_51 : decode cX8_cool 51 = .ok (.iinc 3 (-1), 3) := edX8_cool_0.2.2.2.2.2.2.2.2.2.2.2.2.2.2.2.2.2.2.2.2.2.2.2.2.2.2.2.2.2.2.1
theorem dX8_cool_54 : decode cX8_cool 54 = .ok (.goto (-32), 3) := edX8_cool_0.2.2.2.2.2.2.2.2.2.2.2.2.2.2.2.2.2.2.2.2.2.2.2.2.2.2.2.2.2.2.2.1
theorem edX8_cool_57 : (decode cX8_cool 57 = .ok (.iload_n 2, 1)) ∧ (decode cX8_cool 58 = .ok (.invokestatic 124, 3)) ∧ (decode cX8_cool 61 = .ok (.ireturn, 1)) ∧ True := dc_cj [(57, .iload_n 2, 1), (58, .invokestatic 124, 3), (61, .ireturn, 1)] (by decide +kernel)
theorem dX8_cool_57 : decode cX8_cool 57 = .ok (.iload_n 2, 1) := edX8_cool_57.1
theorem dX8_cool_58 : decode cX8_cool 58 = .ok (.invokestatic 124, 3) := edX8_cool_57.2.1
theorem dX8_cool_61 : decode cX8_cool 61 = .ok (.ireturn, 1) := edX8_cool_57.2.2.1
theorem edX8_bought_0 : (decode cX8_bought 0 = .ok (.iload_n 1, 1)) ∧ (decode cX8_bought 1 = .ok (.iconst 1, 1)) ∧ (decode cX8_bought 2 = .ok (.bipush 60, 2)) ∧ (decode cX8_bought 4 = .ok (.invokestatic 83, 3)) ∧ (decode cX8_bought 7 = .ok (.ifCond .eq 12, 3)) ∧ (decode cX8_bought 10 = .ok (.iload_n 2, 1)) ∧ (decode cX8_bought 11 = .ok (.iconst 0, 1)) ∧ (decode cX8_bought 12 = .ok (.iconst 1, 1)) ∧ (decode cX8_bought 13 = .ok (.invokestatic 83, 3)) ∧ (decode cX8_bought 16 = .ok (.ifCond .ne 6, 3)) ∧ (decode cX8_bought 19 = .ok (.ldc 91, 2)) ∧ (decode cX8_bought 21 = .ok (.ireturn, 1)) ∧ (decode cX8_bought 22 = .ok (.aload_n 0, 1)) ∧ (decode cX8_bought 23 = .ok (.invokevirtual 169, 3)) ∧ (decode cX8_bought 26 = .ok (.iconst (-1), 1)) ∧ (decode cX8_bought 27 = .ok (.istore_n 3, 1)) ∧ (decode cX8_bought 28 = .ok (.iconst 0, 1)) ∧ (decode cX8_bought 29 = .ok (.istore 4, 2)) ∧ (decode cX8_bought 31 = .ok (.iconst 0, 1)) ∧ (decode cX8_bought 32 = .ok (.istore 5, 2)) ∧ (decode cX8_bought 34 = .ok (.iload 5, 2)) ∧ (decode cX8_bought 36 = .ok (.aload_n 0, 1)) ∧ (decode cX8_bought 37 = .ok (.getfield 9, 3)) ∧ (decode cX8_bought 40 = .ok (.iconst 1, 1)) ∧ (decode cX8_bought 41 = .ok (.iaload, 1)) ∧ (decode cX8_bought 42 = .ok (.if_icmp .ge 57, 3)) ∧ (decode cX8_bought 45 = .ok (.aload_n 0, 1)) ∧ (decode cX8_bought 46 = .ok (.iload 5, 2)) ∧ (decode cX8_bought 48 = .ok (.iconst 0, 1)) ∧ (decode cX8_bought 49 = .ok (.iconst 5, 1)) ∧ (decode cX8_bought 50 = .ok (.invokevirtual 87, 3)) ∧ (decode cX8_bought 53 = .ok (.aload_n 0, 1)) ∧ True := dc_cj [(0, .iload_n 1, 1), (1, .iconst 1, 1), (2, .bipush 60, 2), (4, .invokestatic 83, 3), (7, .ifCond .eq 12, 3), (10, .iload_n 2, 1), (11, .iconst 0, 1), (12, .iconst 1, 1), (13, .invokestatic 83, 3), (16, .ifCond .ne 6, 3), (19, .ldc 91, 2), (21, .ireturn, 1), (22, .aload_n 0, 1), (23, .invokevirtual 169, 3), (26, .iconst (-1), 1), (27, .istore_n 3, 1), (28, .iconst 0, 1), (29, .istore 4, 2), (31, .iconst 0, 1), (32, .istore 5, 2), (34, .iload 5, 2), (36, .aload_n 0, 1), (37, .getfield 9, 3), (40, .iconst 1, 1), (41, .iaload, 1), (42, .if_icmp .ge 57, 3), (45, .aload_n 0, 1), (46, .iload 5, 2), (48, .iconst 0, 1), (49, .iconst 5, 1), (50, .invokevirtual 87, 3), (53, .aload_n 0, 1)] (by decide +kernel)
theorem dX8_bought_0 : decode cX8_bought 0 = .ok (.iload_n 1, 1) := edX8_bought_0.1
theorem dX8_bought_1 : decode cX8_bought 1 = .ok (.iconst 1, 1) := edX8_bought_0.2.1
theorem dX8_bought_2 : decode cX8_bought 2 = .ok (.bipush 60, 2) := edX8_bought_0.2.2.1
theorem dX8_bought_4 : decode cX8_bought 4 = .ok (.invokestatic 83, 3) := edX8_bought_0.2.2.2.1
theorem dX8_bought_7 : decode cX8_bought 7 = .ok (.ifCond .eq 12, 3) := edX8_bought_0.2.2.2.2.1
theorem dX8_bought_10 : decode cX8_bought 10 = .ok (.iload_n 2, 1) := edX8_bought_0.2.2.2.2.2.1
theorem dX8_bought_11 : decode cX8_bought 11 = .ok (.iconst 0, 1) := edX8_bought_0.2.2.2.2.2.2.1
theorem dX8_bought_12 : decode cX8_bought 12 = .ok (.iconst 1, 1) := edX8_bought_0.2.2.2.2.2.2.2.1
theorem dX8_bought_13 : decode cX8_bought 13 = .ok (.invokestatic 83, 3) := edX8_bought_0.2.2.2.2.2.2.2.2.1
theorem dX8_bought_16 : decode cX8_bought 16 = .ok (.ifCond .ne 6, 3) := edX8_bought_0.2.2.2.2.2.2.2.2.2.1
theorem dX8_bought_19 : decode cX8_bought 19 = .ok (.ldc 91, 2) := edX8_bought_0.2.2.2.2.2.2.2.2.2.2.1
theorem dX8_bought_21 : decode cX8_bought 21 = .ok (.ireturn, 1) := edX8_bought_0.2.2.2.2.2.2.2.2.2.2.2.1
theorem dX8_bought_22 : decode cX8_bought 22 = .ok (.aload_n 0, 1) := edX8_bought_0.2.2.2.2.2.2.2.2.2.2.2.2.1
theorem dX8_bought_23 : decode cX8_bought 23 = .ok (.invokevirtual 169, 3) := edX8_bought_0.2.2.2.2.2.2.2.2.2.2.2.2.2.1
theorem dX8_bought_26 : decode cX8_bought 26 = .ok (.iconst (-1), 1) := edX8_bought_0.2.2.2.2.2.2.2.2.2.2.2.2.2.2.1
theorem dX8_bought_27 : decode cX8_bought 27 = .ok (.istore_n 3, 1) := edX8_bought_0.2.2.2.2.2.2.2.2.2.2.2.2.2.2.2.1
theorem dX8_bought_28 : decode cX8_bought 28 = .ok (.iconst 0, 1) := edX8_bought_0.2.2.2.2.2.2.2.2.2.2.2.2.2.2.2.2.1
theorem dX8_bought_29 : decode cX8_bought 29 = .ok (.istore 4, 2) := edX8_bought_0.2.2.2.2.2.2.2.2.2.2.2.2.2.2.2.2.2.1
theorem dX8_bought_31 : decode cX8_bought 31 = .ok (.iconst 0, 1) := edX8_bought_0.2.2.2.2.2.2.2.2.2.2.2.2.2.2.2.2.2.2.1
theorem dX8_bought_32 : decode cX8_bought 32 = .ok (.istore 5, 2) := edX8_bought_0.2.2.2.2.2.2.2.2.2.2.2.2.2.2.2.2.2.2.2.1
theorem dX8_bought_34 : decode cX8_bought 34 = .ok (.iload 5, 2) := edX8_bought_0.2.2.2.2.2.2.2.2.2.2.2.2.2.2.2.2.2.2.2.2.1
theorem dX8_bought_36 : decode cX8_bought 36 = .ok (.aload_n 0, 1) := edX8_bought_0.2.2.2.2.2.2.2.2.2.2.2.2.2.2.2.2.2.2.2.2.2.1
theorem dX8_bought_37 : decode cX8_bought 37 = .ok (.getfield 9, 3) := edX8_bought_0.2.2.2.2.2.2.2.2.2.2.2.2.2.2.2.2.2.2.2.2.2.2.1
theorem dX8_bought_40 : decode cX8_bought 40 = .ok (.iconst 1, 1) := edX8_bought_0.2.2.2.2.2.2.2.2.2.2.2.2.2.2.2.2.2.2.2.2.2.2.2.1
theorem dX8_bought_41 : decode cX8_bought 41 = .ok (.iaload, 1) := edX8_bought_0.2.2.2.2.2.2.2.2.2.2.2.2.2.2.2.2.2.2.2.2.2.2.2.2.1
theorem dX8_bought_42 : decode cX8_bought 42 = .ok (.if_icmp .ge 57, 3) := edX8_bought_0.2.2.2.2.2.2.2.2.2.2.2.2.2.2.2.2.2.2.2.2.2.2.2.2.2.1
theorem dX8_bought_45 : decode cX8_bought 45 = .ok (.aload_n 0, 1) := edX8_bought_0.2.2.2.2.2.2.2.2.2.2.2.2.2.2.2.2.2.2.2.2.2.2.2.2.2.2.1
theorem dX8_bought_46 : decode cX8_bought 46 = .ok (.iload 5, 2) := edX8_bought_0.2.2.2.2.2.2.2.2.2.2.2.2.2.2.2.2.2.2.2.2.2.2.2.2.2.2.2.1
theorem dX8_bought_48 : decode cX8_bought 48 = .ok (.iconst 0, 1) := edX8_bought_0.2.2.2.2.2.2.2.2.2.2.2.2.2.2.2.2.2.2.2.2.2.2.2.2.2.2.2.2.1
theorem dX8_bought_49 : decode cX8_bought 49 = .ok (.iconst 5, 1) := edX8_bought_0.2.2.2.2.2.2.2.2.2.2.2.2.2.2.2.2.2.2.2.2.2.2.2.2.2.2.2.2.2.1
theorem dX8_bought_50 : decode cX8_bought 50 = .ok (.invokevirtual 87, 3) := edX8_bought_0.2.2.2.2.2.2.2.2.2.2.2.2.2.2.2.2.2.2.2.2.2.2.2.2.2.2.2.2.2.2.1
theorem dX8_bought_53 : decode cX8_bought 53 = .ok (.aload_n 0, 1) := edX8_bought_0.2.2.2.2.2.2.2.2.2.2.2.2.2.2.2.2.2.2.2.2.2.2.2.2.2.2.2.2.2.2.2.1
theorem edX8_bought_54 : (decode cX8_bought 54 = .ok (.iload_n 1, 1)) ∧ (decode cX8_bought 55 = .ok (.invokevirtual 163, 3)) ∧ (decode cX8_bought 58 = .ok (.aload_n 0, 1)) ∧ (decode cX8_bought 59 = .ok (.aload_n 0, 1)) ∧ (decode cX8_bought 60 = .ok (.iload 5, 2)) ∧ (decode cX8_bought 62 = .ok (.iconst 1, 1)) ∧ (decode cX8_bought 63 = .ok (.invokevirtual 101, 3)) ∧ (decode cX8_bought 66 = .ok (.invokevirtual 143, 3)) ∧ (decode cX8_bought 69 = .ok (.istore 6, 2)) ∧ (decode cX8_bought 71 = .ok (.aload_n 0, 1)) ∧ (decode cX8_bought 72 = .ok (.invokevirtual 175, 3)) ∧ (decode cX8_bought 75 = .ok (.iload_n 3, 1)) ∧ (decode cX8_bought 76 = .ok (.ifCond .lt 10, 3)) ∧ (decode cX8_bought 79 = .ok (.iload 6, 2)) ∧ (decode cX8_bought 81 = .ok (.iload 4, 2)) ∧ (decode cX8_bought 83 = .ok (.if_icmp .ge 10, 3)) ∧ (decode cX8_bought 86 = .ok (.iload 5, 2)) ∧ (decode cX8_bought 88 = .ok (.istore_n 3, 1)) ∧ (decode cX8_bought 89 = .ok (.iload 6, 2)) ∧ (decode cX8_bought 91 = .ok (.istore 4, 2)) ∧ (decode cX8_bought 93 = .ok (.iinc 5 1, 3)) ∧ (decode cX8_bought 96 = .ok (.goto (-62), 3)) ∧ (decode cX8_bought 99 = .ok (.iload_n 3, 1)) ∧ (decode cX8_bought 100 = .ok (.ifCond .ge 8, 3)) ∧ (decode cX8_bought 103 = .ok (.ldc 82, 2)) ∧ (decode cX8_bought 105 = .ok (.goto 13, 3)) ∧ (decode cX8_bought 108 = .ok (.iload_n 2, 1)) ∧ (decode cX8_bought 109 = .ok (.ifCond .ne 7, 3)) ∧ (decode cX8_bought 112 = .ok (.iload_n 3, 1)) ∧ (decode cX8_bought 113 = .ok (.goto 5, 3)) ∧ (decode cX8_bought 116 = .ok (.iload 4, 2)) ∧ (decode cX8_bought 118 = .ok (.ireturn, 1)) ∧ True := dc_cj [(54, .iload_n 1, 1), (55, .invokevirtual 163, 3), (58, .aload_n 0, 1), (59, .aload_n 0, 1), (60, .iload 5, 2), (62, .iconst 1, 1), (63, .invokevirtual 101, 3), (66, .invokevirtual 143, 3), (69, .istore 6, 2), (71, .aload_n 0, 1), (72, .invokevirtual 175, 3), (75, .iload_n 3, 1), (76, .ifCond .lt 10, 3), (79, .iload 6, 2), (81, .iload 4, 2), (83, .if_icmp .ge 10, 3), (86, .iload 5, 2), (88, .istore_n 3, 1), (89, .iload 6, 2), (91, .istore 4, 2), (93, .iinc 5 1, 3), (96, .goto (-62), 3), (99, .iload_n 3, 1), (100, .ifCond .ge 8, 3), (103, .ldc 82, 2), (105, .goto 13, 3), (108, .iload_n 2, 1), (109, .ifCond .ne 7, 3), (112, .iload_n 3, 1), (113, .goto 5, 3), (116, .iload 4, 2), (118, .ireturn, 1)] (by decide +kernel)
theorem dX8_bought_54 : decode cX8_bought 54 = .ok (.iload_n 1, 1) := edX8_bought_54.1
theorem dX8_bought_55 : decode cX8_bought 55 = .ok (.invokevirtual 163, 3) := edX8_bought_54.2.1
theorem dX8_bought_58 : decode cX8_bought 58 = .ok (.aload_n 0, 1) := edX8_bought_54.2.2.1
theorem dX8_bought_59 : decode cX8_bought 59 = .ok (.aload_n 0, 1) := edX8_bought_54.2.2.2.1
theorem dX8_bought_60 : decode cX8_bought 60 = .ok (.iload 5, 2) := edX8_bought_54.2.2.2.2.1
theorem dX8_bought_62 : decode cX8_bought 62 = .ok (.iconst 1, 1) := edX8_bought_54.2.2.2.2.2.1
theorem dX8_bought_63 : decode cX8_bought 63 = .ok (.invokevirtual 101, 3) := edX8_bought_54.2.2.2.2.2.2.1
theorem dX8_bought_66 : decode cX8_bought 66 = .ok (.invokevirtual 143, 3) := edX8_bought_54.2.2.2.2.2.2.2.1
theorem dX8_bought_69 : decode cX8_bought 69 = .ok (.istore 6, 2) := edX8_bought_54.2.2.2.2.2.2.2.2.1
theorem dX8_bought_71 : decode cX8_bought 71 = .ok (.aload_n 0, 1) := edX8_bought_54.2.2.2.2.2.2.2.2.2.1
theorem dX8_bought_72 : decode cX8_bought 72 = .ok (.invokevirtual 175, 3) := edX8_bought_54.2.2.2.2.2.2.2.2.2.2.1
theorem dX8_bought_75 : decode cX8_bought 75 = .ok (.iload_n 3, 1) := edX8_bought_54.2.2.2.2.2.2.2.2.2.2.2.1
theorem dX8_bought_76 : decode cX8_bought 76 = .ok (.ifCond .lt 10, 3) := edX8_bought_54.2.2.2.2.2.2.2.2.2.2.2.2.1
theorem dX8_bought_79 : decode cX8_bought 79 = .ok (.iload 6, 2) := edX8_bought_54.2.2.2.2.2.2.2.2.2.2.2.2.2.1
theorem dX8_bought_81 : decode cX8_bought 81 = .ok (.iload 4, 2) := edX8_bought_54.2.2.2.2.2.2.2.2.2.2.2.2.2.2.1
theorem dX8_bought_83 : decode cX8_bought 83 = .ok (.if_icmp .ge 10, 3) := edX8_bought_54.2.2.2.2.2.2.2.2.2.2.2.2.2.2.2.1
theorem dX8_bought_86 : decode cX8_bought 86 = .ok (.iload 5, 2) := edX8_bought_54.2.2.2.2.2.2.2.2.2.2.2.2.2.2.2.2.1
theorem dX8_bought_88 : decode cX8_bought 88 = .ok (.istore_n 3, 1) := edX8_bought_54.2.2.2.2.2.2.2.2.2.2.2.2.2.2.2.2.2.1
theorem dX8_bought_89 : decode cX8_bought 89 = .ok (.iload 6, 2) := edX8_bought_54.2.2.2.2.2.2.2.2.2.2.2.2.2.2.2.2.2.2.1
theorem dX8_bought_91 : decode cX8_bought 91 = .ok (.istore 4, 2) := edX8_bought_54.2.2.2.2.2.2.2.2.2.2.2.2.2.2.2.2.2.2.2.1
theorem dX8_bought_93 : decode cX8_bought 93 = .ok (.iinc 5 1, 3) := edX8_bought_54.2.2.2.2.2.2.2.2.2.2.2.2.2.2.2.2.2.2.2.2.1
theorem dX8_bought_96 : decode cX8_bought 96 = .ok (.goto (-62), 3) := edX8_bought_54.2.2.2.2.2.2.2.2.2.2.2.2.2.2.2.2.2.2.2.2.2.1
theorem dX8_bought_99 : decode cX8_bought 99 = .ok (.iload_n 3, 1) := edX8_bought_54.2.2.2.2.2.2.2.2.2.2.2.2.2.2.2.2.2.2.2.2.2.2.1
theorem dX8_bought_100 : decode cX8_bought 100 = .ok (.ifCond .ge 8, 3) := edX8_bought_54.2.2.2.2.2.2.2.2.2.2.2.2.2.2.2.2.2.2.2.2.2.2.2.1
theorem dX8_bought_103 : decode cX8_bought 103 = .ok (.ldc 82, 2) := edX8_bought_54.2.2.2.2.2.2.2.2.2.2.2.2.2.2.2.2.2.2.2.2.2.2.2.2.1
theorem dX8_bought_105 : decode cX8_bought 105 = .ok (.goto 13, 3) := edX8_bought_54.2.2.2.2.2.2.2.2.2.2.2.2.2.2.2.2.2.2.2.2.2.2.2.2.2.1
theorem dX8_bought_108 : decode cX8_bought 108 = .ok (.iload_n 2, 1) := edX8_bought_54.2.2.2.2.2.2.2.2.2.2.2.2.2.2.2.2.2.2.2.2.2.2.2.2.2.2.1
theorem dX8_bought_109 : decode cX8_bought 109 = .ok (.ifCond .ne 7, 3) := edX8_bought_54.2.2.2.2.2.2.2.2.2.2.2.2.2.2.2.2.2.2.2.2.2.2.2.2.2.2.2.1
theorem dX8_bought_112 : decode cX8_bought 112 = .ok (.iload_n 3, 1) := edX8_bought_54.2.2.2.2.2.2.2.2.2.2.2.2.2.2.2.2.2.2.2.2.2.2.2.2.2.2.2.2.1
theorem dX8_bought_113 : decode cX8_bought 113 = .ok (.goto 5, 3) := edX8_bought_54.2.2.2.2.2.2.2.2.2.2.2.2.2.2.2.2.2.2.2.2.2.2.2.2.2.2.2.2.2.1
theorem dX8_bought_116 : decode cX8_bought 116 = .ok (.iload 4, 2) := edX8_bought_54.2.2.2.2.2.2.2.2.2.2.2.2.2.2.2.2.2.2.2.2.2.2.2.2.2.2.2.2.2.2.1
theorem dX8_bought_118 : decode cX8_bought 118 = .ok (.ireturn, 1) := edX8_bought_54.2.2.2.2.2.2.2.2.2.2.2.2.2.2.2.2.2.2.2.2.2.2.2.2.2.2.2.2.2.2.2.1
theorem edX8_offBy_0 : (decode cX8_offBy 0 = .ok (.aload_n 0, 1)) ∧ (decode cX8_offBy 1 = .ok (.getfield 9, 3)) ∧ (decode cX8_offBy 4 = .ok (.bipush 12, 2)) ∧ (decode cX8_offBy 6 = .ok (.iconst 4, 1)) ∧ (decode cX8_offBy 7 = .ok (.iload_n 2, 1)) ∧ (decode cX8_offBy 8 = .ok (.imul, 1)) ∧ (decode cX8_offBy 9 = .ok (.iadd, 1)) ∧ (decode cX8_offBy 10 = .ok (.iload_n 3, 1)) ∧ (decode cX8_offBy 11 = .ok (.iadd, 1)) ∧ (decode cX8_offBy 12 = .ok (.bipush 9, 2)) ∧ (decode cX8_offBy 14 = .ok (.iastore, 1)) ∧ (decode cX8_offBy 15 = .ok (.aload_n 0, 1)) ∧ (decode cX8_offBy 16 = .ok (.invokevirtual 157, 3)) ∧ (decode cX8_offBy 19 = .ok (.lconst 0, 1)) ∧ (decode cX8_offBy 20 = .ok (.lstore 4, 2)) ∧ (decode cX8_offBy 22 = .ok (.iconst 0, 1)) ∧ (decode cX8_offBy 23 = .ok (.istore 6, 2)) ∧ (decode cX8_offBy 25 = .ok (.iload 6, 2)) ∧ (decode cX8_offBy 27 = .ok (.aload_n 0, 1)) ∧ (decode cX8_offBy 28 = .ok (.getfield 58, 3)) ∧ (decode cX8_offBy 31 = .ok (.iload_n 1, 1)) ∧ (decode cX8_offBy 32 = .ok (.iaload, 1)) ∧ (decode cX8_offBy 33 = .ok (.if_icmp .ge 81, 3)) ∧ (decode cX8_offBy 36 = .ok (.aload_n 0, 1)) ∧ (decode cX8_offBy 37 = .ok (.getfield 61, 3)) ∧ (decode cX8_offBy 40 = .ok (.bipush 24, 2)) ∧ (decode cX8_offBy 42 = .ok (.iload_n 1, 1)) ∧ (decode cX8_offBy 43 = .ok (.imul, 1)) ∧ (decode cX8_offBy 44 = .ok (.iload 6, 2)) ∧ (decode cX8_offBy 46 = .ok (.iadd, 1)) ∧ (decode cX8_offBy 47 = .ok (.iaload, 1)) ∧ (decode cX8_offBy 48 = .ok (.istore 7, 2)) ∧ True := dc_cj [(0, .aload_n 0, 1), (1, .getfield 9, 3), (4, .bipush 12, 2), (6, .iconst 4, 1), (7, .iload_n 2, 1), (8, .imul, 1), (9, .iadd, 1), (10, .iload_n 3, 1), (11, .iadd, 1), (12, .bipush 9, 2), (14, .iastore, 1), (15, .aload_n 0, 1), (16, .invokevirtual 157, 3), (19, .lconst 0, 1), (20, .lstore 4, 2), (22, .iconst 0, 1), (23, .istore 6, 2), (25, .iload 6, 2), (27, .aload_n 0, 1), (28, .getfield 58, 3), (31, .iload_n 1, 1), (32, .iaload, 1), (33, .if_icmp .ge 81, 3), (36, .aload_n 0, 1), (37, .getfield 61, 3), (40, .bipush 24, 2), (42, .iload_n 1, 1), (43, .imul, 1), (44, .iload 6, 2), (46, .iadd, 1), (47, .iaload, 1), (48, .istore 7, 2)] (by decide +kernel)
theorem dX8_offBy_0 : decode cX8_offBy 0 = .ok (.aload_n 0, 1) := edX8_offBy_0.1
theorem dX8_offBy_1 : decode cX8_offBy 1 = .ok (.getfield 9, 3) := edX8_offBy_0.2.1
theorem dX8_offBy_4 : decode cX8_offBy 4 = .ok (.bipush 12, 2) := edX8_offBy_0.2.2.1
theorem dX8_offBy_6 : decode cX8_offBy 6 = .ok (.iconst 4, 1) := edX8_offBy_0.2.2.2.1
theorem dX8_offBy_7 : decode cX8_offBy 7 = .ok (.iload_n 2, 1) := edX8_offBy_0.2.2.2.2.1
theorem dX8_offBy_8 : decode cX8_offBy 8 = .ok (.imul, 1) := edX8_offBy_0.2.2.2.2.2.1
theorem dX8_offBy_9 : decode cX8_offBy 9 = .ok (.iadd, 1) := edX8_offBy_0.2.2.2.2.2.2.1
theorem dX8_offBy_10 : decode cX8_offBy 10 = .ok (.iload_n 3, 1) := edX8_offBy_0.2.2.2.2.2.2.2.1
theorem dX8_offBy_11 : decode cX8_offBy 11 = .ok (.iadd, 1) := edX8_offBy_0.2.2.2.2.2.2.2.2.1
theorem dX8_offBy_12 : decode cX8_offBy 12 = .ok (.bipush 9, 2) := edX8_offBy_0.2.2.2.2.2.2.2.2.2.1
theorem dX8_offBy_14 : decode cX8_offBy 14 = .ok (.iastore, 1) := edX8_offBy_0.2.2.2.2.2.2.2.2.2.2.1
theorem dX8_offBy_15 : decode cX8_offBy 15 = .ok (.aload_n 0, 1) := edX8_offBy_0.2.2.2.2.2.2.2.2.2.2.2.1
theorem dX8_offBy_16 : decode cX8_offBy 16 = .ok (.invokevirtual 157, 3) := edX8_offBy_0.2.2.2.2.2.2.2.2.2.2.2.2.1
theorem dX8_offBy_19 : decode cX8_offBy 19 = .ok (.lconst 0, 1) := edX8_offBy_0.2.2.2.2.2.2.2.2.2.2.2.2.2.1
theorem dX8_offBy_20 : decode cX8_offBy 20 = .ok (.lstore 4, 2) := edX8_offBy_0.2.2.2.2.2.2.2.2.2.2.2.2.2.2.1
theorem dX8_offBy_22 : decode cX8_offBy 22 = .ok (.iconst 0, 1) := edX8_offBy_0.2.2.2.2.2.2.2.2.2.2.2.2.2.2.2.1
theorem dX8_offBy_23 : decode cX8_offBy 23 = .ok (.istore 6, 2) := edX8_offBy_0.2.2.2.2.2.2.2.2.2.2.2.2.2.2.2.2.1
theorem dX8_offBy_25 : decode cX8_offBy 25 = .ok (.iload 6, 2) := edX8_offBy_0.2.2.2.2.2.2.2.2.2.2.2.2.2.2.2.2.2.1
theorem dX8_offBy_27 : decode cX8_offBy 27 = .ok (.aload_n 0, 1) := edX8_offBy_0.2.2.2.2.2.2.2.2.2.2.2.2.2.2.2.2.2.2.1
theorem dX8_offBy_28 : decode cX8_offBy 28 = .ok (.getfield 58, 3) := edX8_offBy_0.2.2.2.2.2.2.2.2.2.2.2.2.2.2.2.2.2.2.2.1
theorem dX8_offBy_31 : decode cX8_offBy 31 = .ok (.iload_n 1, 1) := edX8_offBy_0.2.2.2.2.2.2.2.2.2.2.2.2.2.2.2.2.2.2.2.2.1
theorem dX8_offBy_32 : decode cX8_offBy 32 = .ok (.iaload, 1) := edX8_offBy_0.2.2.2.2.2.2.2.2.2.2.2.2.2.2.2.2.2.2.2.2.2.1
theorem dX8_offBy_33 : decode cX8_offBy 33 = .ok (.if_icmp .ge 81, 3) := edX8_offBy_0.2.2.2.2.2.2.2.2.2.2.2.2.2.2.2.2.2.2.2.2.2.2.1
theorem dX8_offBy_36 : decode cX8_offBy 36 = .ok (.aload_n 0, 1) := edX8_offBy_0.2.2.2.2.2.2.2.2.2.2.2.2.2.2.2.2.2.2.2.2.2.2.2.1
theorem dX8_offBy_37 : decode cX8_offBy 37 = .ok (.getfield 61, 3) := edX8_offBy_0.2.2.2.2.2.2.2.2.2.2.2.2.2.2.2.2.2.2.2.2.2.2.2.2.1
theorem dX8_offBy_40 : decode cX8_offBy 40 = .ok (.bipush 24, 2) := edX8_offBy_0.2.2.2.2.2.2.2.2.2.2.2.2.2.2.2.2.2.2.2.2.2.2.2.2.2.1
theorem dX8_offBy_42 : decode cX8_offBy 42 = .ok (.iload_n 1, 1) := edX8_offBy_0.2.2.2.2.2.2.2.2.2.2.2.2.2.2.2.2.2.2.2.2.2.2.2.2.2.2.1
theorem dX8_offBy_43 : decode cX8_offBy 43 = .ok (.imul, 1) := edX8_offBy_0.2.2.2.2.2.2.2.2.2.2.2.2.2.2.2.2.2.2.2.2.2.2.2.2.2.2.2.1
theorem dX8_offBy_44 : decode cX8_offBy 44 = .ok (.iload 6, 2) := edX8_offBy_0.2.2.2.2.2.2.2.2.2.2.2.2.2.2.2.2.2.2.2.2.2.2.2.2.2.2.2.2.1
theorem dX8_offBy_46 : decode cX8_offBy 46 = .ok (.iadd, 1) := edX8_offBy_0.2.2.2.2.2.2.2.2.2.2.2.2.2.2.2.2.2.2.2.2.2.2.2.2.2.2.2.2.2.1
theorem dX8_offBy_47 : decode cX8_offBy 47 = .ok (.iaload, 1) := edX8_offBy_0.2.2.2.2.2.2.2.2.2.2.2.2.2.2.2.2.2.2.2.2.2.2.2.2.2.2.2.2.2.2.1
theorem dX8_offBy_48 : decode cX8_offBy 48 = .ok (.istore 7, 2) := edX8_offBy_0.2.2.2.2.2.2.2.2.2.2.2.2.2.2.2.2.2.2.2.2.2.2.2.2.2.2.2.2.2.2.2.1
theorem edX8_offBy_50 : (decode cX8_offBy 50 = .ok (.iload 7, 2)) ∧ (decode cX8_offBy 52 = .ok (.i2l, 1)) ∧ (decode cX8_offBy 53 = .ok (.iload 6, 2)) ∧ (decode cX8_offBy 55 = .ok (.iconst 4, 1)) ∧ (decode cX8_offBy 56 = .ok (.if_icmp .ge 16, 3)) ∧ (decode cX8_offBy 59 = .ok (.aload_n 0, 1)) ∧ (decode cX8_offBy 60 = .ok (.getfield 9, 3)) ∧ (decode cX8_offBy 63 = .ok (.bipush 8, 2)) ∧ (decode cX8_offBy 65 = .ok (.iload 6, 2)) ∧ (decode cX8_offBy 67 = .ok (.iadd, 1)) ∧ (decode cX8_offBy 68 = .ok (.iaload, 1)) ∧ (decode cX8_offBy 69 = .ok (.goto 4, 3)) ∧ (decode cX8_offBy 72 = .ok (.iconst 0, 1)) ∧ (decode cX8_offBy 73 = .ok (.i2l, 1)) ∧ (decode cX8_offBy 74 = .ok (.lsub, 1)) ∧ (decode cX8_offBy 75 = .ok (.lstore 8, 2)) ∧ (decode cX8_offBy 77 = .ok (.lload 4, 2)) ∧ (decode cX8_offBy 79 = .ok (.iload 7, 2)) ∧ (decode cX8_offBy 81 = .ok (.ldc 82, 2)) ∧ (decode cX8_offBy 83 = .ok (.if_icmp .ne 7, 3)) ∧ (decode cX8_offBy 86 = .ok (.lconst 0, 1)) ∧ (decode cX8_offBy 87 = .ok (.goto 18, 3)) ∧ (decode cX8_offBy 90 = .ok (.lload 8, 2)) ∧ (decode cX8_offBy 92 = .ok (.lconst 0, 1)) ∧ (decode cX8_offBy 93 = .ok (.lcmp, 1)) ∧ (decode cX8_offBy 94 = .ok (.ifCond .ge 9, 3)) ∧ (decode cX8_offBy 97 = .ok (.lload 8, 2)) ∧ (decode cX8_offBy 99 = .ok (.lneg, 1)) ∧ (decode cX8_offBy 100 = .ok (.goto 5, 3)) ∧ (decode cX8_offBy 103 = .ok (.lload 8, 2)) ∧ (decode cX8_offBy 105 = .ok (.ladd, 1)) ∧ (decode cX8_offBy 106 = .ok (.lstore 4, 2)) ∧ True := dc_cj [(50, .iload 7, 2), (52, .i2l, 1), (53, .iload 6, 2), (55, .iconst 4, 1), (56, .if_icmp .ge 16, 3), (59, .aload_n 0, 1), (60, .getfield 9, 3), (63, .bipush 8, 2), (65, .iload 6, 2), (67, .iadd, 1), (68, .iaload, 1), (69, .goto 4, 3), (72, .iconst 0, 1), (73, .i2l, 1), (74, .lsub, 1), (75, .lstore 8, 2), (77, .lload 4, 2), (79, .iload 7, 2), (81, .ldc 82, 2), (83, .if_icmp .ne 7, 3), (86, .lconst 0, 1), (87, .goto 18, 3), (90, .lload 8, 2), (92, .lconst 0, 1), (93, .lcmp, 1), (94, .ifCond .ge 9, 3), (97, .lload 8, 2), (99, .lneg, 1), (100, .goto 5, 3), (103, .lload 8, 2), (105, .ladd, 1), (106, .lstore 4, 2)] (by decide +kernel)
theorem dX8_offBy_50 : decode cX8_offBy 50 = .ok (.iload 7, 2) := edX8_offBy_50.1
theorem dX8_offBy_52 : decode cX8_offBy 52 = .ok (.i2l, 1) := edX8_offBy_50.2.1
theorem dX8_offBy_53 : decode cX8_offBy 53 = .ok (.iload 6, 2) := edX8_offBy_50.2.2.1
theorem dX8_offBy_55 : decode cX8_offBy 55 = .ok (.iconst 4, 1) := edX8_offBy_50.2.2.2.1
theorem dX8_offBy_56 : decode cX8_offBy 56 = .ok (.if_icmp .ge 16, 3) := edX8_offBy_50.2.2.2.2.1
theorem dX8_offBy_59 : decode cX8_offBy 59 = .ok (.aload_n 0, 1) := edX8_offBy_50.2.2.2.2.2.1
theorem dX8_offBy_60 : decode cX8_offBy 60 = .ok (.getfield 9, 3) := edX8_offBy_50.2.2.2.2.2.2.1
theorem dX8_offBy_63 : decode cX8_offBy 63 = .ok (.bipush 8, 2) := edX8_offBy_50.2.2.2.2.2.2.2.1
theorem dX8_offBy_65 : decode cX8_offBy 65 = .ok (.iload 6, 2) := edX8_offBy_50.2.2.2.2.2.2.2.2.1
theorem dX8_offBy_67 : decode cX8_offBy 67 = .ok (.iadd, 1) := edX8_offBy_50.2.2.2.2.2.2.2.2.2.1
theorem dX8_offBy_68 : decode cX8_offBy 68 = .ok (.iaload, 1) := edX8_offBy_50.2.2.2.2.2.2.2.2.2.2.1
theorem dX8_offBy_69 : decode cX8_offBy 69 = .ok (.goto 4, 3) := edX8_offBy_50.2.2.2.2.2.2.2.2.2.2.2.1
theorem dX8_offBy_72 : decode cX8_offBy 72 = .ok (.iconst 0, 1) := edX8_offBy_50.2.2.2.2.2.2.2.2.2.2.2.2.1
theorem dX8_offBy_73 : decode cX8_offBy 73 = .ok (.i2l, 1) := edX8_offBy_50.2.2.2.2.2.2.2.2.2.2.2.2.2.1
theorem dX8_offBy_74 : decode cX8_offBy 74 = .ok (.lsub, 1) := edX8_offBy_50.2.2.2.2.2.2.2.2.2.2.2.2.2.2.1
theorem dX8_offBy_75 : decode cX8_offBy 75 = .ok (.lstore 8, 2) := edX8_offBy_50.2.2.2.2.2.2.2.2.2.2.2.2.2.2.2.1
theorem dX8_offBy_77 : decode cX8_offBy 77 = .ok (.lload 4, 2) := edX8_offBy_50.2.2.2.2.2.2.2.2.2.2.2.2.2.2.2.2.1
theorem dX8_offBy_79 : decode cX8_offBy 79 = .ok (.iload 7, 2) := edX8_offBy_50.2.2.2.2.2.2.2.2.2.2.2.2.2.2.2.2.2.1
theorem dX8_offBy_81 : decode cX8_offBy 81 = .ok (.ldc 82, 2) := edX8_offBy_50.2.2.2.2.2.2.2.2.2.2.2.2.2.2.2.2.2.2.1
theorem dX8_offBy_83 : decode cX8_offBy 83 = .ok (.if_icmp .ne 7, 3) := edX8_offBy_50.2.2.2.2.2.2.2.2.2.2.2.2.2.2.2.2.2.2.2.1
theorem dX8_offBy_86 : decode cX8_offBy 86 = .ok (.lconst 0, 1) := edX8_offBy_50.2.2.2.2.2.2.2.2.2.2.2.2.2.2.2.2.2.2.2.2.1
theorem dX8_offBy_87 : decode cX8_offBy 87 = .ok (.goto 18, 3) := edX8_offBy_50.2.2.2.2.2.2.2.2.2.2.2.2.2.2.2.2.2.2.2.2.2.1
theorem dX8_offBy_90 : decode cX8_offBy 90 = .ok (.lload 8, 2) := edX8_offBy_50.2.2.2.2.2.2.2.2.2.2.2.2.2.2.2.2.2.2.2.2.2.2.1
theorem dX8_offBy_92 : decode cX8_offBy 92 = .ok (.lconst 0, 1) := edX8_offBy_50.2.2.2.2.2.2.2.2.2.2.2.2.2.2.2.2.2.2.2.2.2.2.2.1
theorem dX8_offBy_93 : decode cX8_offBy 93 = .ok (.lcmp, 1) := edX8_offBy_50.2.2.2.2.2.2.2.2.2.2.2.2.2.2.2.2.2.2.2.2.2.2.2.2.1
theorem dX8_offBy_94 : decode cX8_offBy 94 = .ok (.ifCond .ge 9, 3) := edX8_offBy_50.2.2.2.2.2.2.2.2.2.2.2.2.2.2.2.2.2.2.2.2.2.2.2.2.2.1
theorem dX8_offBy_97 : decode cX8_offBy 97 = .ok (.lload 8, 2) := edX8_offBy_50.2.2.2.2.2.2.2.2.2.2.2.2.2.2.2.2.2.2.2.2.2.2.2.2.2.2.1
theorem dX8_offBy_99 : decode cX8_offBy 99 = .ok (.lneg, 1) := edX8_offBy_50.2.2.2.2.2.2.2.2.2.2.2.2.2.2.2.2.2.2.2.2.2.2.2.2.2.2.2.1
theorem dX8_offBy_100 : decode cX8_offBy 100 = .ok (.goto 5, 3) := edX8_offBy_50.2.2.2.2.2.2.2.2.2.2.2.2.2.2.2.2.2.2.2.2.2.2.2.2.2.2.2.2.1
theorem dX8_offBy_103 : decode cX8_offBy 103 = .ok (.lload 8, 2) := edX8_offBy_50.2.2.2.2.2.2.2.2.2.2.2.2.2.2.2.2.2.2.2.2.2.2.2.2.2.2.2.2.2.1
theorem dX8_offBy_105 : decode cX8_offBy 105 = .ok (.ladd, 1) := edX8_offBy_50.2.2.2.2.2.2.2.2.2.2.2.2.2.2.2.2.2.2.2.2.2.2.2.2.2.2.2.2.2.2.1
theorem dX8_offBy_106 : decode cX8_offBy 106 = .ok (.lstore 4, 2) := edX8_offBy_50.2.2.2.2.2.2.2.2.2.2.2.2.2.2.2.2.2.2.2.2.2.2.2.2.2.2.2.2.2.2.2.1
theorem edX8_offBy_108 : (decode cX8_offBy 108 = .ok (.iinc 6 1, 3)) ∧ (decode cX8_offBy 111 = .ok (.goto (-86), 3)) ∧ (decode cX8_offBy 114 = .ok (.aload_n 0, 1)) ∧ (decode cX8_offBy 115 = .ok (.invokevirtual 175, 3)) ∧ (decode cX8_offBy 118 = .ok (.lload 4, 2)) ∧ (decode cX8_offBy 120 = .ok (.lreturn, 1)) ∧ True := dc_cj [(108, .iinc 6 1, 3), (111, .goto (-86), 3), (114, .aload_n 0, 1), (115, .invokevirtual 175, 3), (118, .lload 4, 2), (120, .lreturn, 1)] (by decide +kernel)
theorem dX8_offBy_108 : decode cX8_offBy 108 = .ok (.iinc 6 1, 3) := edX8_offBy_108.1
theorem dX8_offBy_111 : decode cX8_offBy 111 = .ok (.goto (-86), 3) := edX8_offBy_108.2.1
theorem dX8_offBy_114 : decode cX8_offBy 114 = .ok (.aload_n 0, 1) := edX8_offBy_108.2.2.1
theorem dX8_offBy_115 : decode cX8_offBy 115 = .ok (.invokevirtual 175, 3) := edX8_offBy_108.2.2.2.1
theorem dX8_offBy_118 : decode cX8_offBy 118 = .ok (.lload 4, 2) := edX8_offBy_108.2.2.2.2.1
theorem dX8_offBy_120 : decode cX8_offBy 120 = .ok (.lreturn, 1) := edX8_offBy_108.2.2.2.2.2.1
theorem edX8_cared_0 : (decode cX8_cared 0 = .ok (.iload_n 1, 1)) ∧ (decode cX8_cared 1 = .ok (.invokestatic 184, 3)) ∧ (decode cX8_cared 4 = .ok (.ifCond .eq 21, 3)) ∧ (decode cX8_cared 7 = .ok (.iload_n 2, 1)) ∧ (decode cX8_cared 8 = .ok (.iconst 0, 1)) ∧ (decode cX8_cared 9 = .ok (.iconst 1, 1)) ∧ (decode cX8_cared 10 = .ok (.invokestatic 83, 3)) ∧ (decode cX8_cared 13 = .ok (.ifCond .eq 12, 3)) ∧ (decode cX8_cared 16 = .ok (.iload_n 3, 1)) ∧ (decode cX8_cared 17 = .ok (.iconst 0, 1)) ∧ (decode cX8_cared 18 = .ok (.iconst 1, 1)) ∧ (decode cX8_cared 19 = .ok (.invokestatic 83, 3)) ∧ (decode cX8_cared 22 = .ok (.ifCond .ne 6, 3)) ∧ (decode cX8_cared 25 = .ok (.ldc 91, 2)) ∧ (decode cX8_cared 27 = .ok (.ireturn, 1)) ∧ (decode cX8_cared 28 = .ok (.aload_n 0, 1)) ∧ (decode cX8_cared 29 = .ok (.getfield 55, 3)) ∧ (decode cX8_cared 32 = .ok (.iload_n 1, 1)) ∧ (decode cX8_cared 33 = .ok (.iaload, 1)) ∧ (decode cX8_cared 34 = .ok (.ifCond .ge 6, 3)) ∧ (decode cX8_cared 37 = .ok (.ldc 187, 2)) ∧ (decode cX8_cared 39 = .ok (.ireturn, 1)) ∧ (decode cX8_cared 40 = .ok (.aload_n 0, 1)) ∧ (decode cX8_cared 41 = .ok (.invokevirtual 169, 3)) ∧ (decode cX8_cared 44 = .ok (.iconst 0, 1)) ∧ (decode cX8_cared 45 = .ok (.istore 4, 2)) ∧ (decode cX8_cared 47 = .ok (.aload_n 0, 1)) ∧ (decode cX8_cared 48 = .ok (.iload_n 1, 1)) ∧ (decode cX8_cared 49 = .ok (.iload_n 2, 1)) ∧ (decode cX8_cared 50 = .ok (.iconst 0, 1)) ∧ (decode cX8_cared 51 = .ok (.invokevirtual 188, 3)) ∧ (decode cX8_cared 54 = .ok (.lstore 5, 2)) ∧ True := dc_cj [(0, .iload_n 1, 1), (1, .invokestatic 184, 3), (4, .ifCond .eq 21, 3), (7, .iload_n 2, 1), (8, .iconst 0, 1), (9, .iconst 1, 1), (10, .invokestatic 83, 3), (13, .ifCond .eq 12, 3), (16, .iload_n 3, 1), (17, .iconst 0, 1), (18, .iconst 1, 1), (19, .invokestatic 83, 3), (22, .ifCond .ne 6, 3), (25, .ldc 91, 2), (27, .ireturn, 1), (28, .aload_n 0, 1), (29, .getfield 55, 3), (32, .iload_n 1, 1), (33, .iaload, 1), (34, .ifCond .ge 6, 3), (37, .ldc 187, 2), (39, .ireturn, 1), (40, .aload_n 0, 1), (41, .invokevirtual 169, 3), (44, .iconst 0, 1), (45, .istore 4, 2), (47, .aload_n 0, 1), (48, .iload_n 1, 1), (49, .iload_n 2, 1), (50, .iconst 0, 1), (51, .invokevirtual 188, 3), (54, .lstore 5, 2)] (by decide +kernel)
theorem dX8_cared_0 : decode cX8_cared 0 = .ok (.iload_n 1, 1) := edX8_cared_0.1
theorem dX8_cared_1 : decode cX8_cared 1 = .ok (.invokestatic 184, 3) := edX8_cared_0.2.1
theorem dX8_cared_4 : decode cX8_cared 4 = .ok (.ifCond .eq 21, 3) := edX8_cared_0.2.2.1
theorem dX8_cared_7 : decode cX8_cared 7 = .ok (.iload_n 2, 1) := edX8_cared_0.2.2.2.1
theorem dX8_cared_8 : decode cX8_cared 8 = .ok (.iconst 0, 1) := edX8_cared_0.2.2.2.2.1
theorem dX8_cared_9 : decode cX8_cared 9 = .ok (.iconst 1, 1) := edX8_cared_0.2.2.2.2.2.1
theorem dX8_cared_10 : decode cX8_cared 10 = .ok (.invokestatic 83, 3) := edX8_cared_0.2.2.2.2.2.2.1
theorem dX8_cared_13 : decode cX8_cared 13 = .ok (.ifCond .eq 12, 3) := edX8_cared_0.2.2.2.2.2.2.2.1
theorem dX8_cared_16 : decode cX8_cared 16 = .ok (.iload_n 3, 1) := edX8_cared_0.2.2.2.2.2.2.2.2.1
theorem dX8_cared_17 : decode cX8_cared 17 = .ok (.iconst 0, 1) := edX8_cared_0.2.2.2.2.2.2.2.2.2.1
theorem dX8_cared_18 : decode cX8_cared 18 = .ok (.iconst 1, 1) := edX8_cared_0.2.2.2.2.2.2.2.2.2.2.1
theorem dX8_cared_19 : decode cX8_cared 19 = .ok (.invokestatic 83, 3) := edX8_cared_0.2.2.2.2.2.2.2.2.2.2.2.1
theorem dX8_cared_22 : decode cX8_cared 22 = .ok (.ifCond .ne 6, 3) := edX8_cared_0.2.2.2.2.2.2.2.2.2.2.2.2.1
theorem dX8_cared_25 : decode cX8_cared 25 = .ok (.ldc 91, 2) := edX8_cared_0.2.2.2.2.2.2.2.2.2.2.2.2.2.1
theorem dX8_cared_27 : decode cX8_cared 27 = .ok (.ireturn, 1) := edX8_cared_0.2.2.2.2.2.2.2.2.2.2.2.2.2.2.1
theorem dX8_cared_28 : decode cX8_cared 28 = .ok (.aload_n 0, 1) := edX8_cared_0.2.2.2.2.2.2.2.2.2.2.2.2.2.2.2.1
theorem dX8_cared_29 : decode cX8_cared 29 = .ok (.getfield 55, 3) := edX8_cared_0.2.2.2.2.2.2.2.2.2.2.2.2.2.2.2.2.1
theorem dX8_cared_32 : decode cX8_cared 32 = .ok (.iload_n 1, 1) := edX8_cared_0.2.2.2.2.2.2.2.2.2.2.2.2.2.2.2.2.2.1
theorem dX8_cared_33 : decode cX8_cared 33 = .ok (.iaload, 1) := edX8_cared_0.2.2.2.2.2.2.2.2.2.2.2.2.2.2.2.2.2.2.1
theorem dX8_cared_34 : decode cX8_cared 34 = .ok (.ifCond .ge 6, 3) := edX8_cared_0.2.2.2.2.2.2.2.2.2.2.2.2.2.2.2.2.2.2.2.1
theorem dX8_cared_37 : decode cX8_cared 37 = .ok (.ldc 187, 2) := edX8_cared_0.2.2.2.2.2.2.2.2.2.2.2.2.2.2.2.2.2.2.2.2.1
theorem dX8_cared_39 : decode cX8_cared 39 = .ok (.ireturn, 1) := edX8_cared_0.2.2.2.2.2.2.2.2.2.2.2.2.2.2.2.2.2.2.2.2.2.1
theorem dX8_cared_40 : decode cX8_cared 40 = .ok (.aload_n 0, 1) := edX8_cared_0.2.2.2.2.2.2.2.2.2.2.2.2.2.2.2.2.2.2.2.2.2.2.1
theorem dX8_cared_41 : decode cX8_cared 41 = .ok (.invokevirtual 169, 3) := edX8_cared_0.2.2.2.2.2.2.2.2.2.2.2.2.2.2.2.2.2.2.2.2.2.2.2.1
theorem dX8_cared_44 : decode cX8_cared 44 = .ok (.iconst 0, 1) := edX8_cared_0.2.2.2.2.2.2.2.2.2.2.2.2.2.2.2.2.2.2.2.2.2.2.2.2.1
theorem dX8_cared_45 : decode cX8_cared 45 = .ok (.istore 4, 2) := edX8_cared_0.2.2.2.2.2.2.2.2.2.2.2.2.2.2.2.2.2.2.2.2.2.2.2.2.2.1
theorem dX8_cared_47 : decode cX8_cared 47 = .ok (.aload_n 0, 1) := edX8_cared_0.2.2.2.2.2.2.2.2.2.2.2.2.2.2.2.2.2.2.2.2.2.2.2.2.2.2.1
theorem dX8_cared_48 : decode cX8_cared 48 = .ok (.iload_n 1, 1) := edX8_cared_0.2.2.2.2.2.2.2.2.2.2.2.2.2.2.2.2.2.2.2.2.2.2.2.2.2.2.2.1
theorem dX8_cared_49 : decode cX8_cared 49 = .ok (.iload_n 2, 1) := edX8_cared_0.2.2.2.2.2.2.2.2.2.2.2.2.2.2.2.2.2.2.2.2.2.2.2.2.2.2.2.2.1
theorem dX8_cared_50 : decode cX8_cared 50 = .ok (.iconst 0, 1) := edX8_cared_0.2.2.2.2.2.2.2.2.2.2.2.2.2.2.2.2.2.2.2.2.2.2.2.2.2.2.2.2.2.1
theorem dX8_cared_51 : decode cX8_cared 51 = .ok (.invokevirtual 188, 3) := edX8_cared_0.2.2.2.2.2.2.2.2.2.2.2.2.2.2.2.2.2.2.2.2.2.2.2.2.2.2.2.2.2.2.1
theorem dX8_cared_54 : decode cX8_cared 54 = .ok (.lstore 5, 2) := edX8_cared_0.2.2.2.2.2.2.2.2.2.2.2.2.2.2.2.2.2.2.2.2.2.2.2.2.2.2.2.2.2.2.2.1
theorem edX8_cared_56 : (decode cX8_cared 56 = .ok (.iconst 1, 1)) ∧ (decode cX8_cared 57 = .ok (.istore 7, 2)) ∧ (decode cX8_cared 59 = .ok (.iload 7, 2)) ∧ (decode cX8_cared 61 = .ok (.iconst 4, 1)) ∧ (decode cX8_cared 62 = .ok (.if_icmp .ge 53, 3)) ∧ (decode cX8_cared 65 = .ok (.aload_n 0, 1)) ∧ (decode cX8_cared 66 = .ok (.iload_n 1, 1)) ∧ (decode cX8_cared 67 = .ok (.iload_n 2, 1)) ∧ (decode cX8_cared 68 = .ok (.iload 7, 2)) ∧ (decode cX8_cared 70 = .ok (.invokevirtual 188, 3)) ∧ (decode cX8_cared 73 = .ok (.lstore 8, 2)) ∧ (decode cX8_cared 75 = .ok (.lload 8, 2)) ∧ (decode cX8_cared 77 = .ok (.lload 5, 2)) ∧ (decode cX8_cared 79 = .ok (.lcmp, 1)) ∧ (decode cX8_cared 80 = .ok (.ifCond .ge 8, 3)) ∧ (decode cX8_cared 83 = .ok (.iload 7, 2)) ∧ (decode cX8_cared 85 = .ok (.goto 5, 3)) ∧ (decode cX8_cared 88 = .ok (.iload 4, 2)) ∧ (decode cX8_cared 90 = .ok (.istore 4, 2)) ∧ (decode cX8_cared 92 = .ok (.lload 8, 2)) ∧ (decode cX8_cared 94 = .ok (.lload 5, 2)) ∧ (decode cX8_cared 96 = .ok (.lcmp, 1)) ∧ (decode cX8_cared 97 = .ok (.ifCond .ge 8, 3)) ∧ (decode cX8_cared 100 = .ok (.lload 8, 2)) ∧ (decode cX8_cared 102 = .ok (.goto 5, 3)) ∧ (decode cX8_cared 105 = .ok (.lload 5, 2)) ∧ (decode cX8_cared 107 = .ok (.lstore 5, 2)) ∧ (decode cX8_cared 109 = .ok (.iinc 7 1, 3)) ∧ (decode cX8_cared 112 = .ok (.goto (-53), 3)) ∧ (decode cX8_cared 115 = .ok (.iload_n 3, 1)) ∧ (decode cX8_cared 116 = .ok (.ifCond .ne 8, 3)) ∧ (decode cX8_cared 119 = .ok (.iload 4, 2)) ∧ True := dc_cj [(56, .iconst 1, 1), (57, .istore 7, 2), (59, .iload 7, 2), (61, .iconst 4, 1), (62, .if_icmp .ge 53, 3), (65, .aload_n 0, 1), (66, .iload_n 1, 1), (67, .iload_n 2, 1), (68, .iload 7, 2), (70, .invokevirtual 188, 3), (73, .lstore 8, 2), (75, .lload 8, 2), (77, .lload 5, 2), (79, .lcmp, 1), (80, .ifCond .ge 8, 3), (83, .iload 7, 2), (85, .goto 5, 3), (88, .iload 4, 2), (90, .istore 4, 2), (92, .lload 8, 2), (94, .lload 5, 2), (96, .lcmp, 1), (97, .ifCond .ge 8, 3), (100, .lload 8, 2), (102, .goto 5, 3), (105, .lload 5, 2), (107, .lstore 5, 2), (109, .iinc 7 1, 3), (112, .goto (-53), 3), (115, .iload_n 3, 1), (116, .ifCond .ne 8, 3), (119, .iload 4, 2)] (by decide +kernel)
theorem dX8_cared_56 : decode cX8_cared 56 = .ok (.iconst 1, 1) := edX8_cared_56.1
theorem dX8_cared_57 : decode cX8_cared 57 = .ok (.istore 7, 2) := edX8_cared_56.2.1
theorem dX8_cared_59 : decode cX8_cared 59 = .ok (.iload 7, 2) := edX8_cared_56.2.2.1
theorem dX8_cared_61 : decode cX8_cared 61 = .ok (.iconst 4, 1) := edX8_cared_56.2.2.2.1
theorem dX8_cared_62 : decode cX8_cared 62 = .ok (.if_icmp .ge 53, 3) := edX8_cared_56.2.2.2.2.1
theorem dX8_cared_65 : decode cX8_cared 65 = .ok (.aload_n 0, 1) := edX8_cared_56.2.2.2.2.2.1
theorem dX8_cared_66 : decode cX8_cared 66 = .ok (.iload_n 1, 1) := edX8_cared_56.2.2.2.2.2.2.1
theorem dX8_cared_67 : decode cX8_cared 67 = .ok (.iload_n 2, 1) := edX8_cared_56.2.2.2.2.2.2.2.1
theorem dX8_cared_68 : decode cX8_cared 68 = .ok (.iload 7, 2) := edX8_cared_56.2.2.2.2.2.2.2.2.1
theorem dX8_cared_70 : decode cX8_cared 70 = .ok (.invokevirtual 188, 3) := edX8_cared_56.2.2.2.2.2.2.2.2.2.1
theorem dX8_cared_73 : decode cX8_cared 73 = .ok (.lstore 8, 2) := edX8_cared_56.2.2.2.2.2.2.2.2.2.2.1
theorem dX8_cared_75 : decode cX8_cared 75 = .ok (.lload 8, 2) := edX8_cared_56.2.2.2.2.2.2.2.2.2.2.2.1
theorem dX8_cared_77 : decode cX8_cared 77 = .ok (.lload 5, 2) := edX8_cared_56.2.2.2.2.2.2.2.2.2.2.2.2.1
theorem dX8_cared_79 : decode cX8_cared 79 = .ok (.lcmp, 1) := edX8_cared_56.2.2.2.2.2.2.2.2.2.2.2.2.2.1
theorem dX8_cared_80 : decode cX8_cared 80 = .ok (.ifCond .ge 8, 3) := edX8_cared_56.2.2.2.2.2.2.2.2.2.2.2.2.2.2.1
theorem dX8_cared_83 : decode cX8_cared 83 = .ok (.iload 7, 2) := edX8_cared_56.2.2.2.2.2.2.2.2.2.2.2.2.2.2.2.1
theorem dX8_cared_85 : decode cX8_cared 85 = .ok (.goto 5, 3) := edX8_cared_56.2.2.2.2.2.2.2.2.2.2.2.2.2.2.2.2.1
theorem dX8_cared_88 : decode cX8_cared 88 = .ok (.iload 4, 2) := edX8_cared_56.2.2.2.2.2.2.2.2.2.2.2.2.2.2.2.2.2.1
theorem dX8_cared_90 : decode cX8_cared 90 = .ok (.istore 4, 2) := edX8_cared_56.2.2.2.2.2.2.2.2.2.2.2.2.2.2.2.2.2.2.1
theorem dX8_cared_92 : decode cX8_cared 92 = .ok (.lload 8, 2) := edX8_cared_56.2.2.2.2.2.2.2.2.2.2.2.2.2.2.2.2.2.2.2.1
theorem dX8_cared_94 : decode cX8_cared 94 = .ok (.lload 5, 2) := edX8_cared_56.2.2.2.2.2.2.2.2.2.2.2.2.2.2.2.2.2.2.2.2.1
theorem dX8_cared_96 : decode cX8_cared 96 = .ok (.lcmp, 1) := edX8_cared_56.2.2.2.2.2.2.2.2.2.2.2.2.2.2.2.2.2.2.2.2.2.1
theorem dX8_cared_97 : decode cX8_cared 97 = .ok (.ifCond .ge 8, 3) := edX8_cared_56.2.2.2.2.2.2.2.2.2.2.2.2.2.2.2.2.2.2.2.2.2.2.1
theorem dX8_cared_100 : decode cX8_cared 100 = .ok (.lload 8, 2) := edX8_cared_56.2.2.2.2.2.2.2.2.2.2.2.2.2.2.2.2.2.2.2.2.2.2.2.1
theorem dX8_cared_102 : decode cX8_cared 102 = .ok (.goto 5, 3) := edX8_cared_56.2.2.2.2.2.2.2.2.2.2.2.2.2.2.2.2.2.2.2.2.2.2.2.2.1
theorem dX8_cared_105 : decode cX8_cared 105 = .ok (.lload 5, 2) := edX8_cared_56.2.2.2.2.2.2.2.2.2.2.2.2.2.2.2.2.2.2.2.2.2.2.2.2.2.1
theorem dX8_cared_107 : decode cX8_cared 107 = .ok (.lstore 5, 2) := edX8_cared_56.2.2.2.2.2.2.2.2.2.2.2.2.2.2.2.2.2.2.2.2.2.2.2.2.2.2.1
theorem dX8_cared_109 : decode cX8_cared 109 = .ok (.iinc 7 1, 3) := edX8_cared_56.2.2.2.2.2.2.2.2.2.2.2.2.2.2.2.2.2.2.2.2.2.2.2.2.2.2.2.1
theorem dX8_cared_112 : decode cX8_cared 112 = .ok (.goto (-53), 3) := edX8_cared_56.2.2.2.2.2.2.2.2.2.2.2.2.2.2.2.2.2.2.2.2.2.2.2.2.2.2.2.2.1
theorem dX8_cared_115 : decode cX8_cared 115 = .ok (.iload_n 3, 1) := edX8_cared_56.2.2.2.2.2.2.2.2.2.2.2.2.2.2.2.2.2.2.2.2.2.2.2.2.2.2.2.2.2.1
theorem dX8_cared_116 : decode cX8_cared 116 = .ok (.ifCond .ne 8, 3) := edX8_cared_56.2.2.2.2.2.2.2.2.2.2.2.2.2.2.2.2.2.2.2.2.2.2.2.2.2.2.2.2.2.2.1
theorem dX8_cared_119 : decode cX8_cared 119 = .ok (.iload 4, 2) := edX8_cared_56.2.2.2.2.2.2.2.2.2.2.2.2.2.2.2.2.2.2.2.2.2.2.2.2.2.2.2.2.2.2.2.1
theorem edX8_cared_121 : (decode cX8_cared 121 = .ok (.goto 6, 3)) ∧ (decode cX8_cared 124 = .ok (.lload 5, 2)) ∧ (decode cX8_cared 126 = .ok (.l2i, 1)) ∧ (decode cX8_cared 127 = .ok (.ireturn, 1)) ∧ True := dc_cj [(121, .goto 6, 3), (124, .lload 5, 2), (126, .l2i, 1), (127, .ireturn, 1)] (by decide +kernel)
theorem dX8_cared_121 : decode cX8_cared 121 = .ok (.goto 6, 3) := edX8_cared_121.1
theorem dX8_cared_124 : decode cX8_cared 124 = .ok (.lload 5, 2) := edX8_cared_121.2.1
theorem dX8_cared_126 : decode cX8_cared 126 = .ok (.l2i, 1) := edX8_cared_121.2.2.1
theorem dX8_cared_127 : decode cX8_cared 127 = .ok (.ireturn, 1) := edX8_cared_121.2.2.2.1
theorem edX8_fee_0 : (decode cX8_fee 0 = .ok (.aload_n 0, 1)) ∧ (decode cX8_fee 1 = .ok (.iconst 1, 1)) ∧ (decode cX8_fee 2 = .ok (.invokevirtual 97, 3)) ∧ (decode cX8_fee 5 = .ok (.istore_n 1, 1)) ∧ (decode cX8_fee 6 = .ok (.aload_n 0, 1)) ∧ (decode cX8_fee 7 = .ok (.getfield 52, 3)) ∧ (decode cX8_fee 10 = .ok (.iconst 0, 1)) ∧ (decode cX8_fee 11 = .ok (.aload_n 0, 1)) ∧ (decode cX8_fee 12 = .ok (.getfield 9, 3)) ∧ (decode cX8_fee 15 = .ok (.bipush 6, 2)) ∧ (decode cX8_fee 17 = .ok (.iaload, 1)) ∧ (decode cX8_fee 18 = .ok (.iastore, 1)) ∧ (decode cX8_fee 19 = .ok (.aload_n 0, 1)) ∧ (decode cX8_fee 20 = .ok (.getfield 52, 3)) ∧ (decode cX8_fee 23 = .ok (.iconst 1, 1)) ∧ (decode cX8_fee 24 = .ok (.aload_n 0, 1)) ∧ (decode cX8_fee 25 = .ok (.getfield 9, 3)) ∧ (decode cX8_fee 28 = .ok (.iconst 2, 1)) ∧ (decode cX8_fee 29 = .ok (.iaload, 1)) ∧ (decode cX8_fee 30 = .ok (.iastore, 1)) ∧ (decode cX8_fee 31 = .ok (.iload_n 1, 1)) ∧ (decode cX8_fee 32 = .ok (.ifCond .ge 13, 3)) ∧ (decode cX8_fee 35 = .ok (.aload_n 0, 1)) ∧ (decode cX8_fee 36 = .ok (.getfield 9, 3)) ∧ (decode cX8_fee 39 = .ok (.bipush 6, 2)) ∧ (decode cX8_fee 41 = .ok (.iaload, 1)) ∧ (decode cX8_fee 42 = .ok (.goto 8, 3)) ∧ (decode cX8_fee 45 = .ok (.aload_n 0, 1)) ∧ (decode cX8_fee 46 = .ok (.iload_n 1, 1)) ∧ (decode cX8_fee 47 = .ok (.invokevirtual 105, 3)) ∧ (decode cX8_fee 50 = .ok (.ireturn, 1)) ∧ True := dc_cj [(0, .aload_n 0, 1), (1, .iconst 1, 1), (2, .invokevirtual 97, 3), (5, .istore_n 1, 1), (6, .aload_n 0, 1), (7, .getfield 52, 3), (10, .iconst 0, 1), (11, .aload_n 0, 1), (12, .getfield 9, 3), (15, .bipush 6, 2), (17, .iaload, 1), (18, .iastore, 1), (19, .aload_n 0, 1), (20, .getfield 52, 3), (23, .iconst 1, 1), (24, .aload_n 0, 1), (25, .getfield 9, 3), (28, .iconst 2, 1), (29, .iaload, 1), (30, .iastore, 1), (31, .iload_n 1, 1), (32, .ifCond .ge 13, 3), (35, .aload_n 0, 1), (36, .getfield 9, 3), (39, .bipush 6, 2), (41, .iaload, 1), (42, .goto 8, 3), (45, .aload_n 0, 1), (46, .iload_n 1, 1), (47, .invokevirtual 105, 3), (50, .ireturn, 1)] (by decide +kernel)
theorem dX8_fee_0 : decode cX8_fee 0 = .ok (.aload_n 0, 1) := edX8_fee_0.1
theorem dX8_fee_1 : decode cX8_fee 1 = .ok (.iconst 1, 1) := edX8_fee_0.2.1
theorem dX8_fee_2 : decode cX8_fee 2 = .ok (.invokevirtual 97, 3) := edX8_fee_0.2.2.1
theorem dX8_fee_5 : decode cX8_fee 5 = .ok (.istore_n 1, 1) := edX8_fee_0.2.2.2.1
theorem dX8_fee_6 : decode cX8_fee 6 = .ok (.aload_n 0, 1) := edX8_fee_0.2.2.2.2.1
theorem dX8_fee_7 : decode cX8_fee 7 = .ok (.getfield 52, 3) := edX8_fee_0.2.2.2.2.2.1
theorem dX8_fee_10 : decode cX8_fee 10 = .ok (.iconst 0, 1) := edX8_fee_0.2.2.2.2.2.2.1
theorem dX8_fee_11 : decode cX8_fee 11 = .ok (.aload_n 0, 1) := edX8_fee_0.2.2.2.2.2.2.2.1
theorem dX8_fee_12 : decode cX8_fee 12 = .ok (.getfield 9, 3) := edX8_fee_0.2.2.2.2.2.2.2.2.1
theorem dX8_fee_15 : decode cX8_fee 15 = .ok (.bipush 6, 2) := edX8_fee_0.2.2.2.2.2.2.2.2.2.1
theorem dX8_fee_17 : decode cX8_fee 17 = .ok (.iaload, 1) := edX8_fee_0.2.2.2.2.2.2.2.2.2.2.1
theorem dX8_fee_18 : decode cX8_fee 18 = .ok (.iastore, 1) := edX8_fee_0.2.2.2.2.2.2.2.2.2.2.2.1
theorem dX8_fee_19 : decode cX8_fee 19 = .ok (.aload_n 0, 1) := edX8_fee_0.2.2.2.2.2.2.2.2.2.2.2.2.1
theorem dX8_fee_20 : decode cX8_fee 20 = .ok (.getfield 52, 3) := edX8_fee_0.2.2.2.2.2.2.2.2.2.2.2.2.2.1
theorem dX8_fee_23 : decode cX8_fee 23 = .ok (.iconst 1, 1) := edX8_fee_0.2.2.2.2.2.2.2.2.2.2.2.2.2.2.1
theorem dX8_fee_24 : decode cX8_fee 24 = .ok (.aload_n 0, 1) := edX8_fee_0.2.2.2.2.2.2.2.2.2.2.2.2.2.2.2.1
theorem dX8_fee_25 : decode cX8_fee 25 = .ok (.getfield 9, 3) := edX8_fee_0.2.2.2.2.2.2.2.2.2.2.2.2.2.2.2.2.1
theorem dX8_fee_28 : decode cX8_fee 28 = .ok (.iconst 2, 1) := edX8_fee_0.2.2.2.2.2.2.2.2.2.2.2.2.2.2.2.2.2.1
theorem dX8_fee_29 : decode cX8_fee 29 = .ok (.iaload, 1) := edX8_fee_0.2.2.2.2.2.2.2.2.2.2.2.2.2.2.2.2.2.2.1
theorem dX8_fee_30 : decode cX8_fee 30 = .ok (.iastore, 1) := edX8_fee_0.2.2.2.2.2.2.2.2.2.2.2.2.2.2.2.2.2.2.2.1
theorem dX8_fee_31 : decode cX8_fee 31 = .ok (.iload_n 1, 1) := edX8_fee_0.2.2.2.2.2.2.2.2.2.2.2.2.2.2.2.2.2.2.2.2.1
theorem dX8_fee_32 : decode cX8_fee 32 = .ok (.ifCond .ge 13, 3) := edX8_fee_0.2.2.2.2.2.2.2.2.2.2.2.2.2.2.2.2.2.2.2.2.2.1
theorem dX8_fee_35 : decode cX8_fee 35 = .ok (.aload_n 0, 1) := edX8_fee_0.2.2.2.2.2.2.2.2.2.2.2.2.2.2.2.2.2.2.2.2.2.2.1
theorem dX8_fee_36 : decode cX8_fee 36 = .ok (.getfield 9, 3) := edX8_fee_0.2.2.2.2.2.2.2.2.2.2.2.2.2.2.2.2.2.2.2.2.2.2.2.1
theorem dX8_fee_39 : decode cX8_fee 39 = .ok (.bipush 6, 2) := edX8_fee_0.2.2.2.2.2.2.2.2.2.2.2.2.2.2.2.2.2.2.2.2.2.2.2.2.1
theorem dX8_fee_41 : decode cX8_fee 41 = .ok (.iaload, 1) := edX8_fee_0.2.2.2.2.2.2.2.2.2.2.2.2.2.2.2.2.2.2.2.2.2.2.2.2.2.1
theorem dX8_fee_42 : decode cX8_fee 42 = .ok (.goto 8, 3) := edX8_fee_0.2.2.2.2.2.2.2.2.2.2.2.2.2.2.2.2.2.2.2.2.2.2.2.2.2.2.1
theorem dX8_fee_45 : decode cX8_fee 45 = .ok (.aload_n 0, 1) := edX8_fee_0.2.2.2.2.2.2.2.2.2.2.2.2.2.2.2.2.2.2.2.2.2.2.2.2.2.2.2.1
theorem dX8_fee_46 : decode cX8_fee 46 = .ok (.iload_n 1, 1) := edX8_fee_0.2.2.2.2.2.2.2.2.2.2.2.2.2.2.2.2.2.2.2.2.2.2.2.2.2.2.2.2.1
theorem dX8_fee_47 : decode cX8_fee 47 = .ok (.invokevirtual 105, 3) := edX8_fee_0.2.2.2.2.2.2.2.2.2.2.2.2.2.2.2.2.2.2.2.2.2.2.2.2.2.2.2.2.2.1
theorem dX8_fee_50 : decode cX8_fee 50 = .ok (.ireturn, 1) := edX8_fee_0.2.2.2.2.2.2.2.2.2.2.2.2.2.2.2.2.2.2.2.2.2.2.2.2.2.2.2.2.2.2.1
theorem edX8_fine_0 : (decode cX8_fine 0 = .ok (.aload_n 0, 1)) ∧ (decode cX8_fine 1 = .ok (.iload_n 1, 1)) ∧ (decode cX8_fine 2 = .ok (.invokevirtual 114, 3)) ∧ (decode cX8_fine 5 = .ok (.ifCond .ne 6, 3)) ∧ (decode cX8_fine 8 = .ok (.ldc 91, 2)) ∧ (decode cX8_fine 10 = .ok (.ireturn, 1)) ∧ (decode cX8_fine 11 = .ok (.aload_n 0, 1)) ∧ (decode cX8_fine 12 = .ok (.iconst 2, 1)) ∧ (decode cX8_fine 13 = .ok (.invokevirtual 97, 3)) ∧ (decode cX8_fine 16 = .ok (.istore_n 2, 1)) ∧ (decode cX8_fine 17 = .ok (.aload_n 0, 1)) ∧ (decode cX8_fine 18 = .ok (.getfield 52, 3)) ∧ (decode cX8_fine 21 = .ok (.iconst 0, 1)) ∧ (decode cX8_fine 22 = .ok (.aload_n 0, 1)) ∧ (decode cX8_fine 23 = .ok (.iload_n 1, 1)) ∧ (decode cX8_fine 24 = .ok (.iconst 4, 1)) ∧ (decode cX8_fine 25 = .ok (.invokevirtual 101, 3)) ∧ (decode cX8_fine 28 = .ok (.iastore, 1)) ∧ (decode cX8_fine 29 = .ok (.aload_n 0, 1)) ∧ (decode cX8_fine 30 = .ok (.getfield 52, 3)) ∧ (decode cX8_fine 33 = .ok (.iconst 1, 1)) ∧ (decode cX8_fine 34 = .ok (.aload_n 0, 1)) ∧ (decode cX8_fine 35 = .ok (.iload_n 1, 1)) ∧ (decode cX8_fine 36 = .ok (.iconst 3, 1)) ∧ (decode cX8_fine 37 = .ok (.invokevirtual 101, 3)) ∧ (decode cX8_fine 40 = .ok (.iastore, 1)) ∧ (decode cX8_fine 41 = .ok (.iload_n 2, 1)) ∧ (decode cX8_fine 42 = .ok (.ifCond .ge 12, 3)) ∧ (decode cX8_fine 45 = .ok (.aload_n 0, 1)) ∧ (decode cX8_fine 46 = .ok (.iload_n 1, 1)) ∧ (decode cX8_fine 47 = .ok (.iconst 4, 1)) ∧ (decode cX8_fine 48 = .ok (.invokevirtual 101, 3)) ∧ True := dc_cj [(0, .aload_n 0, 1), (1, .iload_n 1, 1), (2, .invokevirtual 114, 3), (5, .ifCond .ne 6, 3), (8, .ldc 91, 2), (10, .ireturn, 1), (11, .aload_n 0, 1), (12, .iconst 2, 1), (13, .invokevirtual 97, 3), (16, .istore_n 2, 1), (17, .aload_n 0, 1), (18, .getfield 52, 3), (21, .iconst 0, 1), (22, .aload_n 0, 1), (23, .iload_n 1, 1), (24, .iconst 4, 1), (25, .invokevirtual 101, 3), (28, .iastore, 1), (29, .aload_n 0, 1), (30, .getfield 52, 3), (33, .iconst 1, 1), (34, .aload_n 0, 1), (35, .iload_n 1, 1), (36, .iconst 3, 1), (37, .invokevirtual 101, 3), (40, .iastore, 1), (41, .iload_n 2, 1), (42, .ifCond .ge 12, 3), (45, .aload_n 0, 1), (46, .iload_n 1, 1), (47, .iconst 4, 1), (48, .invokevirtual 101, 3)] (by decide +kernel)
theorem dX8_fine_0 : decode cX8_fine 0 = .ok (.aload_n 0, 1) := edX8_fine_0.1
theorem dX8_fine_1 : decode cX8_fine 1 = .ok (.iload_n 1, 1) := edX8_fine_0.2.1
theorem dX8_fine_2 : decode cX8_fine 2 = .ok (.invokevirtual 114, 3) := edX8_fine_0.2.2.1
theorem dX8_fine_5 : decode cX8_fine 5 = .ok (.ifCond .ne 6, 3) := edX8_fine_0.2.2.2.1
theorem dX8_fine_8 : decode cX8_fine 8 = .ok (.ldc 91, 2) := edX8_fine_0.2.2.2.2.1
theorem dX8_fine_10 : decode cX8_fine 10 = .ok (.ireturn, 1) := edX8_fine_0.2.2.2.2.2.1
theorem dX8_fine_11 : decode cX8_fine 11 = .ok (.aload_n 0, 1) := edX8_fine_0.2.2.2.2.2.2.1
theorem dX8_fine_12 : decode cX8_fine 12 = .ok (.iconst 2, 1) := edX8_fine_0.2.2.2.2.2.2.2.1
theorem dX8_fine_13 : decode cX8_fine 13 = .ok (.invokevirtual 97, 3) := edX8_fine_0.2.2.2.2.2.2.2.2.1
theorem dX8_fine_16 : decode cX8_fine 16 = .ok (.istore_n 2, 1) := edX8_fine_0.2.2.2.2.2.2.2.2.2.1
theorem dX8_fine_17 : decode cX8_fine 17 = .ok (.aload_n 0, 1) := edX8_fine_0.2.2.2.2.2.2.2.2.2.2.1
theorem dX8_fine_18 : decode cX8_fine 18 = .ok (.getfield 52, 3) := edX8_fine_0.2.2.2.2.2.2.2.2.2.2.2.1
theorem dX8_fine_21 : decode cX8_fine 21 = .ok (.iconst 0, 1) := edX8_fine_0.2.2.2.2.2.2.2.2.2.2.2.2.1
theorem dX8_fine_22 : decode cX8_fine 22 = .ok (.aload_n 0, 1) := edX8_fine_0.2.2.2.2.2.2.2.2.2.2.2.2.2.1
theorem dX8_fine_23 : decode cX8_fine 23 = .ok (.iload_n 1, 1) := edX8_fine_0.2.2.2.2.2.2.2.2.2.2.2.2.2.2.1
theorem dX8_fine_24 : decode cX8_fine 24 = .ok (.iconst 4, 1) := edX8_fine_0.2.2.2.2.2.2.2.2.2.2.2.2.2.2.2.1
theorem dX8_fine_25 : decode cX8_fine 25 = .ok (.invokevirtual 101, 3) := edX8_fine_0.2.2.2.2.2.2.2.2.2.2.2.2.2.2.2.2.1
theorem dX8_fine_28 : decode cX8_fine 28 = .ok (.iastore, 1) := edX8_fine_0.2.2.2.2.2.2.2.2.2.2.2.2.2.2.2.2.2.1
theorem dX8_fine_29 : decode cX8_fine 29 = .ok (.aload_n 0, 1) := edX8_fine_0.2.2.2.2.2.2.2.2.2.2.2.2.2.2.2.2.2.2.1
theorem dX8_fine_30 : decode cX8_fine 30 = .ok (.getfield 52, 3) := edX8_fine_0.2.2.2.2.2.2.2.2.2.2.2.2.2.2.2.2.2.2.2.1
theorem dX8_fine_33 : decode cX8_fine 33 = .ok (.iconst 1, 1) := edX8_fine_0.2.2.2.2.2.2.2.2.2.2.2.2.2.2.2.2.2.2.2.2.1
theorem dX8_fine_34 : decode cX8_fine 34 = .ok (.aload_n 0, 1) := edX8_fine_0.2.2.2.2.2.2.2.2.2.2.2.2.2.2.2.2.2.2.2.2.2.1
theorem dX8_fine_35 : decode cX8_fine 35 = .ok (.iload_n 1, 1) := edX8_fine_0.2.2.2.2.2.2.2.2.2.2.2.2.2.2.2.2.2.2.2.2.2.2.1
theorem dX8_fine_36 : decode cX8_fine 36 = .ok (.iconst 3, 1) := edX8_fine_0.2.2.2.2.2.2.2.2.2.2.2.2.2.2.2.2.2.2.2.2.2.2.2.1
theorem dX8_fine_37 : decode cX8_fine 37 = .ok (.invokevirtual 101, 3) := edX8_fine_0.2.2.2.2.2.2.2.2.2.2.2.2.2.2.2.2.2.2.2.2.2.2.2.2.1
theorem dX8_fine_40 : decode cX8_fine 40 = .ok (.iastore, 1) := edX8_fine_0.2.2.2.2.2.2.2.2.2.2.2.2.2.2.2.2.2.2.2.2.2.2.2.2.2.1
theorem dX8_fine_41 : decode cX8_fine 41 = .ok (.iload_n 2, 1) := edX8_fine_0.2.2.2.2.2.2.2.2.2.2.2.2.2.2.2.2.2.2.2.2.2.2.2.2.2.2.1
theorem dX8_fine_42 : decode cX8_fine 42 = .ok (.ifCond .ge 12, 3) := edX8_fine_0.2.2.2.2.2.2.2.2.2.2.2.2.2.2.2.2.2.2.2.2.2.2.2.2.2.2.2.1
theorem dX8_fine_45 : decode cX8_fine 45 = .ok (.aload_n 0, 1) := edX8_fine_0.2.2.2.2.2.2.2.2.2.2.2.2.2.2.2.2.2.2.2.2.2.2.2.2.2.2.2.2.1
theorem dX8_fine_46 : decode cX8_fine 46 = .ok (.iload_n 1, 1) := edX8_fine_0.2.2.2.2.2.2.2.2.2.2.2.2.2.2.2.2.2.2.2.2.2.2.2.2.2.2.2.2.2.1
theorem dX8_fine_47 : decode cX8_fine 47 = .ok (.iconst 4, 1) := edX8_fine_0.2.2.2.2.2.2.2.2.2.2.2.2.2.2.2.2.2.2.2.2.2.2.2.2.2.2.2.2.2.2.1
theorem dX8_fine_48 : decode cX8_fine 48 = .ok (.invokevirtual 101, 3) := edX8_fine_0.2.2.2.2.2.2.2.2.2.2.2.2.2.2.2.2.2.2.2.2.2.2.2.2.2.2.2.2.2.2.2.1
theorem edX8_fine_51 : (decode cX8_fine 51 = .ok (.goto 8, 3)) ∧ (decode cX8_fine 54 = .ok (.aload_n 0, 1)) ∧ (decode cX8_fine 55 = .ok (.iload_n 2, 1)) ∧ (decode cX8_fine 56 = .ok (.invokevirtual 105, 3)) ∧ (decode cX8_fine 59 = .ok (.ireturn, 1)) ∧ True := dc_cj [(51, .goto 8, 3), (54, .aload_n 0, 1), (55, .iload_n 2, 1), (56, .invokevirtual 105, 3), (59, .ireturn, 1)] (by decide +kernel)
theorem dX8_fine_51 : decode cX8_fine 51 = .ok (.goto 8, 3) := edX8_fine_51.1
theorem dX8_fine_54 : decode cX8_fine 54 = .ok (.aload_n 0, 1) := edX8_fine_51.2.1
theorem dX8_fine_55 : decode cX8_fine 55 = .ok (.iload_n 2, 1) := edX8_fine_51.2.2.1
theorem dX8_fine_56 : decode cX8_fine 56 = .ok (.invokevirtual 105, 3) := edX8_fine_51.2.2.2.1
theorem dX8_fine_59 : decode cX8_fine 59 = .ok (.ireturn, 1) := edX8_fine_51.2.2.2.2.1
theorem edX8_feed_0 : (decode cX8_feed 0 = .ok (.aload_n 0, 1)) ∧ (decode cX8_feed 1 = .ok (.getfield 192, 3)) ∧ (decode cX8_feed 4 = .ok (.bipush 12, 2)) ∧ (decode cX8_feed 6 = .ok (.iadd, 1)) ∧ (decode cX8_feed 7 = .ok (.bipush 96, 2)) ∧ (decode cX8_feed 9 = .ok (.if_icmp .le 6, 3)) ∧ (decode cX8_feed 12 = .ok (.ldc 92, 2)) ∧ (decode cX8_feed 14 = .ok (.ireturn, 1)) ∧ (decode cX8_feed 15 = .ok (.iconst 0, 1)) ∧ (decode cX8_feed 16 = .ok (.istore 4, 2)) ∧ (decode cX8_feed 18 = .ok (.iload 4, 2)) ∧ (decode cX8_feed 20 = .ok (.bipush 12, 2)) ∧ (decode cX8_feed 22 = .ok (.if_icmp .ge 62, 3)) ∧ (decode cX8_feed 25 = .ok (.iload 4, 2)) ∧ (decode cX8_feed 27 = .ok (.iconst 4, 1)) ∧ (decode cX8_feed 28 = .ok (.if_icmp .ge 7, 3)) ∧ (decode cX8_feed 31 = .ok (.iload_n 1, 1)) ∧ (decode cX8_feed 32 = .ok (.goto 15, 3)) ∧ (decode cX8_feed 35 = .ok (.iload 4, 2)) ∧ (decode cX8_feed 37 = .ok (.bipush 8, 2)) ∧ (decode cX8_feed 39 = .ok (.if_icmp .ge 7, 3)) ∧ (decode cX8_feed 42 = .ok (.iload_n 2, 1)) ∧ (decode cX8_feed 43 = .ok (.goto 4, 3)) ∧ (decode cX8_feed 46 = .ok (.iload_n 3, 1)) ∧ (decode cX8_feed 47 = .ok (.istore 5, 2)) ∧ (decode cX8_feed 49 = .ok (.aload_n 0, 1)) ∧ (decode cX8_feed 50 = .ok (.getfield 29, 3)) ∧ (decode cX8_feed 53 = .ok (.aload_n 0, 1)) ∧ (decode cX8_feed 54 = .ok (.getfield 192, 3)) ∧ (decode cX8_feed 57 = .ok (.iload 4, 2)) ∧ (decode cX8_feed 59 = .ok (.iadd, 1)) ∧ (decode cX8_feed 60 = .ok (.iload 5, 2)) ∧ True := dc_cj [(0, .aload_n 0, 1), (1, .getfield 192, 3), (4, .bipush 12, 2), (6, .iadd, 1), (7, .bipush 96, 2), (9, .if_icmp .le 6, 3), (12, .ldc 92, 2), (14, .ireturn, 1), (15, .iconst 0, 1), (16, .istore 4, 2), (18, .iload 4, 2), (20, .bipush 12, 2), (22, .if_icmp .ge 62, 3), (25, .iload 4, 2), (27, .iconst 4, 1), (28, .if_icmp .ge 7, 3), (31, .iload_n 1, 1), (32, .goto 15, 3), (35, .iload 4, 2), (37, .bipush 8, 2), (39, .if_icmp .ge 7, 3), (42, .iload_n 2, 1), (43, .goto 4, 3), (46, .iload_n 3, 1), (47, .istore 5, 2), (49, .aload_n 0, 1), (50, .getfield 29, 3), (53, .aload_n 0, 1), (54, .getfield 192, 3), (57, .iload 4, 2), (59, .iadd, 1), (60, .iload 5, 2)] (by decide +kernel)
theorem dX8_feed_0 : decode cX8_feed 0 = .ok (.aload_n 0, 1) := edX8_feed_0.1
theorem dX8_feed_1 : decode cX8_feed 1 = .ok (.getfield 192, 3) := edX8_feed_0.2.1
theorem dX8_feed_4 : decode cX8_feed 4 = .ok (.bipush 12, 2) := edX8_feed_0.2.2.1
theorem dX8_feed_6 : decode cX8_feed 6 = .ok (.iadd, 1) := edX8_feed_0.2.2.2.1
theorem dX8_feed_7 : decode cX8_feed 7 = .ok (.bipush 96, 2) := edX8_feed_0.2.2.2.2.1
theorem dX8_feed_9 : decode cX8_feed 9 = .ok (.if_icmp .le 6, 3) := edX8_feed_0.2.2.2.2.2.1
theorem dX8_feed_12 : decode cX8_feed 12 = .ok (.ldc 92, 2) := edX8_feed_0.2.2.2.2.2.2.1
theorem dX8_feed_14 : decode cX8_feed 14 = .ok (.ireturn, 1) := edX8_feed_0.2.2.2.2.2.2.2.1
theorem dX8_feed_15 : decode cX8_feed 15 = .ok (.iconst 0, 1) := edX8_feed_0.2.2.2.2.2.2.2.2.1
theorem dX8_feed_16 : decode cX8_feed 16 = .ok (.istore 4, 2) := edX8_feed_0.2.2.2.2.2.2.2.2.2.1
theorem dX8_feed_18 : decode cX8_feed 18 = .ok (.iload 4, 2) := edX8_feed_0.2.2.2.2.2.2.2.2.2.2.1
theorem dX8_feed_20 : decode cX8_feed 20 = .ok (.bipush 12, 2) := edX8_feed_0.2.2.2.2.2.2.2.2.2.2.2.1
theorem dX8_feed_22 : decode cX8_feed 22 = .ok (.if_icmp .ge 62, 3) := edX8_feed_0.2.2.2.2.2.2.2.2.2.2.2.2.1
theorem dX8_feed_25 : decode cX8_feed 25 = .ok (.iload 4, 2) := edX8_feed_0.2.2.2.2.2.2.2.2.2.2.2.2.2.1
theorem dX8_feed_27 : decode cX8_feed 27 = .ok (.iconst 4, 1) := edX8_feed_0.2.2.2.2.2.2.2.2.2.2.2.2.2.2.1
theorem dX8_feed_28 : decode cX8_feed 28 = .ok (.if_icmp .ge 7, 3) := edX8_feed_0.2.2.2.2.2.2.2.2.2.2.2.2.2.2.2.1
theorem dX8_feed_31 : decode cX8_feed 31 = .ok (.iload_n 1, 1) := edX8_feed_0.2.2.2.2.2.2.2.2.2.2.2.2.2.2.2.2.1
theorem dX8_feed_32 : decode cX8_feed 32 = .ok (.goto 15, 3) := edX8_feed_0.2.2.2.2.2.2.2.2.2.2.2.2.2.2.2.2.2.1
theorem dX8_feed_35 : decode cX8_feed 35 = .ok (.iload 4, 2) := edX8_feed_0.2.2.2.2.2.2.2.2.2.2.2.2.2.2.2.2.2.2.1
theorem dX8_feed_37 : decode cX8_feed 37 = .ok (.bipush 8, 2) := edX8_feed_0.2.2.2.2.2.2.2.2.2.2.2.2.2.2.2.2.2.2.2.1
theorem dX8_feed_39 : decode cX8_feed 39 = .ok (.if_icmp .ge 7, 3) := edX8_feed_0.2.2.2.2.2.2.2.2.2.2.2.2.2.2.2.2.2.2.2.2.1
theorem dX8_feed_42 : decode cX8_feed 42 = .ok (.iload_n 2, 1) := edX8_feed_0.2.2.2.2.2.2.2.2.2.2.2.2.2.2.2.2.2.2.2.2.2.1
theorem dX8_feed_43 : decode cX8_feed 43 = .ok (.goto 4, 3) := edX8_feed_0.2.2.2.2.2.2.2.2.2.2.2.2.2.2.2.2.2.2.2.2.2.2.1
theorem dX8_feed_46 : decode cX8_feed 46 = .ok (.iload_n 3, 1) := edX8_feed_0.2.2.2.2.2.2.2.2.2.2.2.2.2.2.2.2.2.2.2.2.2.2.2.1
theorem dX8_feed_47 : decode cX8_feed 47 = .ok (.istore 5, 2) := edX8_feed_0.2.2.2.2.2.2.2.2.2.2.2.2.2.2.2.2.2.2.2.2.2.2.2.2.1
theorem dX8_feed_49 : decode cX8_feed 49 = .ok (.aload_n 0, 1) := edX8_feed_0.2.2.2.2.2.2.2.2.2.2.2.2.2.2.2.2.2.2.2.2.2.2.2.2.2.1
theorem dX8_feed_50 : decode cX8_feed 50 = .ok (.getfield 29, 3) := edX8_feed_0.2.2.2.2.2.2.2.2.2.2.2.2.2.2.2.2.2.2.2.2.2.2.2.2.2.2.1
theorem dX8_feed_53 : decode cX8_feed 53 = .ok (.aload_n 0, 1) := edX8_feed_0.2.2.2.2.2.2.2.2.2.2.2.2.2.2.2.2.2.2.2.2.2.2.2.2.2.2.2.1
theorem dX8_feed_54 : decode cX8_feed 54 = .ok (.getfield 192, 3) := edX8_feed_0.2.2.2.2.2.2.2.2.2.2.2.2.2.2.2.2.2.2.2.2.2.2.2.2.2.2.2.2.1
theorem dX8_feed_57 : decode cX8_feed 57 = .ok (.iload 4, 2) := edX8_feed_0.2.2.2.2.2.2.2.2.2.2.2.2.2.2.2.2.2.2.2.2.2.2.2.2.2.2.2.2.2.1
theorem dX8_feed_59 : decode cX8_feed 59 = .ok (.iadd, 1) := edX8_feed_0.2.2.2.2.2.2.2.2.2.2.2.2.2.2.2.2.2.2.2.2.2.2.2.2.2.2.2.2.2.2.1
theorem dX8_feed_60 : decode cX8_feed 60 = .ok (.iload 5, 2) := edX8_feed_0.2.2.2.2.2.2.2.2.2.2.2.2.2.2.2.2.2.2.2.2.2.2.2.2.2.2.2.2.2.2.2.1
theorem edX8_feed_62 : (decode cX8_feed 62 = .ok (.bipush 24, 2)) ∧ (decode cX8_feed 64 = .ok (.bipush 8, 2)) ∧ (decode cX8_feed 66 = .ok (.iload 4, 2)) ∧ (decode cX8_feed 68 = .ok (.iconst 4, 1)) ∧ (decode cX8_feed 69 = .ok (.irem, 1)) ∧ (decode cX8_feed 70 = .ok (.imul, 1)) ∧ (decode cX8_feed 71 = .ok (.isub, 1)) ∧ (decode cX8_feed 72 = .ok (.ishr, 1)) ∧ (decode cX8_feed 73 = .ok (.sipush 255, 3)) ∧ (decode cX8_feed 76 = .ok (.iand, 1)) ∧ (decode cX8_feed 77 = .ok (.iastore, 1)) ∧ (decode cX8_feed 78 = .ok (.iinc 4 1, 3)) ∧ (decode cX8_feed 81 = .ok (.goto (-63), 3)) ∧ (decode cX8_feed 84 = .ok (.aload_n 0, 1)) ∧ (decode cX8_feed 85 = .ok (.dup, 1)) ∧ (decode cX8_feed 86 = .ok (.getfield 192, 3)) ∧ (decode cX8_feed 89 = .ok (.bipush 12, 2)) ∧ (decode cX8_feed 91 = .ok (.iadd, 1)) ∧ (decode cX8_feed 92 = .ok (.putfield 192, 3)) ∧ (decode cX8_feed 95 = .ok (.aload_n 0, 1)) ∧ (decode cX8_feed 96 = .ok (.getfield 192, 3)) ∧ (decode cX8_feed 99 = .ok (.ireturn, 1)) ∧ True := dc_cj [(62, .bipush 24, 2), (64, .bipush 8, 2), (66, .iload 4, 2), (68, .iconst 4, 1), (69, .irem, 1), (70, .imul, 1), (71, .isub, 1), (72, .ishr, 1), (73, .sipush 255, 3), (76, .iand, 1), (77, .iastore, 1), (78, .iinc 4 1, 3), (81, .goto (-63), 3), (84, .aload_n 0, 1), (85, .dup, 1), (86, .getfield 192, 3), (89, .bipush 12, 2), (91, .iadd, 1), (92, .putfield 192, 3), (95, .aload_n 0, 1), (96, .getfield 192, 3), (99, .ireturn, 1)] (by decide +kernel)
theorem dX8_feed_62 : decode cX8_feed 62 = .ok (.bipush 24, 2) := edX8_feed_62.1
theorem dX8_feed_64 : decode cX8_feed 64 = .ok (.bipush 8, 2) := edX8_feed_62.2.1
theorem dX8_feed_66 : decode cX8_feed 66 = .ok (.iload 4, 2) := edX8_feed_62.2.2.1
theorem dX8_feed_68 : decode cX8_feed 68 = .ok (.iconst 4, 1) := edX8_feed_62.2.2.2.1
theorem dX8_feed_69 : decode cX8_feed 69 = .ok (.irem, 1) := edX8_feed_62.2.2.2.2.1
theorem dX8_feed_70 : decode cX8_feed 70 = .ok (.imul, 1) := edX8_feed_62.2.2.2.2.2.1
theorem dX8_feed_71 : decode cX8_feed 71 = .ok (.isub, 1) := edX8_feed_62.2.2.2.2.2.2.1
theorem dX8_feed_72 : decode cX8_feed 72 = .ok (.ishr, 1) := edX8_feed_62.2.2.2.2.2.2.2.1
theorem dX8_feed_73 : decode cX8_feed 73 = .ok (.sipush 255, 3) := edX8_feed_62.2.2.2.2.2.2.2.2.1
theorem dX8_feed_76 : decode cX8_feed 76 = .ok (.iand, 1) := edX8_feed_62.2.2.2.2.2.2.2.2.2.1
theorem dX8_feed_77 : decode cX8_feed 77 = .ok (.iastore, 1) := edX8_feed_62.2.2.2.2.2.2.2.2.2.2.1
theorem dX8_feed_78 : decode cX8_feed 78 = .ok (.iinc 4 1, 3) := edX8_feed_62.2.2.2.2.2.2.2.2.2.2.2.1
theorem dX8_feed_81 : decode cX8_feed 81 = .ok (.goto (-63), 3) := edX8_feed_62.2.2.2.2.2.2.2.2.2.2.2.2.1
theorem dX8_feed_84 : decode cX8_feed 84 = .ok (.aload_n 0, 1) := edX8_feed_62.2.2.2.2.2.2.2.2.2.2.2.2.2.1
theorem dX8_feed_85 : decode cX8_feed 85 = .ok (.dup, 1) := edX8_feed_62.2.2.2.2.2.2.2.2.2.2.2.2.2.2.1
theorem dX8_feed_86 : decode cX8_feed 86 = .ok (.getfield 192, 3) := edX8_feed_62.2.2.2.2.2.2.2.2.2.2.2.2.2.2.2.1
theorem dX8_feed_89 : decode cX8_feed 89 = .ok (.bipush 12, 2) := edX8_feed_62.2.2.2.2.2.2.2.2.2.2.2.2.2.2.2.2.1
theorem dX8_feed_91 : decode cX8_feed 91 = .ok (.iadd, 1) := edX8_feed_62.2.2.2.2.2.2.2.2.2.2.2.2.2.2.2.2.2.1
theorem dX8_feed_92 : decode cX8_feed 92 = .ok (.putfield 192, 3) := edX8_feed_62.2.2.2.2.2.2.2.2.2.2.2.2.2.2.2.2.2.2.1
theorem dX8_feed_95 : decode cX8_feed 95 = .ok (.aload_n 0, 1) := edX8_feed_62.2.2.2.2.2.2.2.2.2.2.2.2.2.2.2.2.2.2.2.1
theorem dX8_feed_96 : decode cX8_feed 96 = .ok (.getfield 192, 3) := edX8_feed_62.2.2.2.2.2.2.2.2.2.2.2.2.2.2.2.2.2.2.2.2.1
theorem dX8_feed_99 : decode cX8_feed 99 = .ok (.ireturn, 1) := edX8_feed_62.2.2.2.2.2.2.2.2.2.2.2.2.2.2.2.2.2.2.2.2.2.1
theorem edX8_trim_0 : (decode cX8_trim 0 = .ok (.iload_n 1, 1)) ∧ (decode cX8_trim 1 = .ok (.iconst 0, 1)) ∧ (decode cX8_trim 2 = .ok (.aload_n 0, 1)) ∧ (decode cX8_trim 3 = .ok (.getfield 192, 3)) ∧ (decode cX8_trim 6 = .ok (.invokestatic 83, 3)) ∧ (decode cX8_trim 9 = .ok (.ifCond .ne 6, 3)) ∧ (decode cX8_trim 12 = .ok (.ldc 91, 2)) ∧ (decode cX8_trim 14 = .ok (.ireturn, 1)) ∧ (decode cX8_trim 15 = .ok (.aload_n 0, 1)) ∧ (decode cX8_trim 16 = .ok (.iload_n 1, 1)) ∧ (decode cX8_trim 17 = .ok (.putfield 192, 3)) ∧ (decode cX8_trim 20 = .ok (.iload_n 1, 1)) ∧ (decode cX8_trim 21 = .ok (.ireturn, 1)) ∧ True := dc_cj [(0, .iload_n 1, 1), (1, .iconst 0, 1), (2, .aload_n 0, 1), (3, .getfield 192, 3), (6, .invokestatic 83, 3), (9, .ifCond .ne 6, 3), (12, .ldc 91, 2), (14, .ireturn, 1), (15, .aload_n 0, 1), (16, .iload_n 1, 1), (17, .putfield 192, 3), (20, .iload_n 1, 1), (21, .ireturn, 1)] (by decide +kernel)
theorem dX8_trim_0 : decode cX8_trim 0 = .ok (.iload_n 1, 1) := edX8_trim_0.1
theorem dX8_trim_1 : decode cX8_trim 1 = .ok (.iconst 0, 1) := edX8_trim_0.2.1
theorem dX8_trim_2 : decode cX8_trim 2 = .ok (.aload_n 0, 1) := edX8_trim_0.2.2.1
theorem dX8_trim_3 : decode cX8_trim 3 = .ok (.getfield 192, 3) := edX8_trim_0.2.2.2.1
theorem dX8_trim_6 : decode cX8_trim 6 = .ok (.invokestatic 83, 3) := edX8_trim_0.2.2.2.2.1
theorem dX8_trim_9 : decode cX8_trim 9 = .ok (.ifCond .ne 6, 3) := edX8_trim_0.2.2.2.2.2.1
theorem dX8_trim_12 : decode cX8_trim 12 = .ok (.ldc 91, 2) := edX8_trim_0.2.2.2.2.2.2.1
theorem dX8_trim_14 : decode cX8_trim 14 = .ok (.ireturn, 1) := edX8_trim_0.2.2.2.2.2.2.2.1
theorem dX8_trim_15 : decode cX8_trim 15 = .ok (.aload_n 0, 1) := edX8_trim_0.2.2.2.2.2.2.2.2.1
theorem dX8_trim_16 : decode cX8_trim 16 = .ok (.iload_n 1, 1) := edX8_trim_0.2.2.2.2.2.2.2.2.2.1
theorem dX8_trim_17 : decode cX8_trim 17 = .ok (.putfield 192, 3) := edX8_trim_0.2.2.2.2.2.2.2.2.2.2.1
theorem dX8_trim_20 : decode cX8_trim 20 = .ok (.iload_n 1, 1) := edX8_trim_0.2.2.2.2.2.2.2.2.2.2.2.1
theorem dX8_trim_21 : decode cX8_trim 21 = .ok (.ireturn, 1) := edX8_trim_0.2.2.2.2.2.2.2.2.2.2.2.2.1
theorem edX8_isLetter_0 : (decode cX8_isLetter 0 = .ok (.iload_n 1, 1)) ∧ (decode cX8_isLetter 1 = .ok (.aload_n 0, 1)) ∧ (decode cX8_isLetter 2 = .ok (.getfield 192, 3)) ∧ (decode cX8_isLetter 5 = .ok (.if_icmp .ge 29, 3)) ∧ (decode cX8_isLetter 8 = .ok (.aload_n 0, 1)) ∧ (decode cX8_isLetter 9 = .ok (.getfield 29, 3)) ∧ (decode cX8_isLetter 12 = .ok (.iload_n 1, 1)) ∧ (decode cX8_isLetter 13 = .ok (.iaload, 1)) ∧ (decode cX8_isLetter 14 = .ok (.bipush 97, 2)) ∧ (decode cX8_isLetter 16 = .ok (.if_icmp .lt 18, 3)) ∧ (decode cX8_isLetter 19 = .ok (.aload_n 0, 1)) ∧ (decode cX8_isLetter 20 = .ok (.getfield 29, 3)) ∧ (decode cX8_isLetter 23 = .ok (.iload_n 1, 1)) ∧ (decode cX8_isLetter 24 = .ok (.iaload, 1)) ∧ (decode cX8_isLetter 25 = .ok (.bipush 122, 2)) ∧ (decode cX8_isLetter 27 = .ok (.if_icmp .gt 7, 3)) ∧ (decode cX8_isLetter 30 = .ok (.iconst 1, 1)) ∧ (decode cX8_isLetter 31 = .ok (.goto 4, 3)) ∧ (decode cX8_isLetter 34 = .ok (.iconst 0, 1)) ∧ (decode cX8_isLetter 35 = .ok (.ireturn, 1)) ∧ True := dc_cj [(0, .iload_n 1, 1), (1, .aload_n 0, 1), (2, .getfield 192, 3), (5, .if_icmp .ge 29, 3), (8, .aload_n 0, 1), (9, .getfield 29, 3), (12, .iload_n 1, 1), (13, .iaload, 1), (14, .bipush 97, 2), (16, .if_icmp .lt 18, 3), (19, .aload_n 0, 1), (20, .getfield 29, 3), (23, .iload_n 1, 1), (24, .iaload, 1), (25, .bipush 122, 2), (27, .if_icmp .gt 7, 3), (30, .iconst 1, 1), (31, .goto 4, 3), (34, .iconst 0, 1), (35, .ireturn, 1)] (by decide +kernel)
theorem dX8_isLetter_0 : decode cX8_isLetter 0 = .ok (.iload_n 1, 1) := edX8_isLetter_0.1
theorem dX8_isLetter_1 : decode cX8_isLetter 1 = .ok (.aload_n 0, 1) := edX8_isLetter_0.2.1
theorem dX8_isLetter_2 : decode cX8_isLetter 2 = .ok (.getfield 192, 3) := edX8_isLetter_0.2.2.1
theorem dX8_isLetter_5 : decode cX8_isLetter 5 = .ok (.if_icmp .ge 29, 3) := edX8_isLetter_0.2.2.2.1
theorem dX8_isLetter_8 : decode cX8_isLetter 8 = .ok (.aload_n 0, 1) := edX8_isLetter_0.2.2.2.2.1
theorem dX8_isLetter_9 : decode cX8_isLetter 9 = .ok (.getfield 29, 3) := edX8_isLetter_0.2.2.2.2.2.1
theorem dX8_isLetter_12 : decode cX8_isLetter 12 = .ok (.iload_n 1, 1) := edX8_isLetter_0.2.2.2.2.2.2.1
theorem dX8_isLetter_13 : decode cX8_isLetter 13 = .ok (.iaload, 1) := edX8_isLetter_0.2.2.2.2.2.2.2.1
theorem dX8_isLetter_14 : decode cX8_isLetter 14 = .ok (.bipush 97, 2) := edX8_isLetter_0.2.2.2.2.2.2.2.2.1
theorem dX8_isLetter_16 : decode cX8_isLetter 16 = .ok (.if_icmp .lt 18, 3) := edX8_isLetter_0.2.2.2.2.2.2.2.2.2.1
theorem dX8_isLetter_19 : decode cX8_isLetter 19 = .ok (.aload_n 0, 1) := edX8_isLetter_0.2.2.2.2.2.2.2.2.2.2.1
theorem dX8_isLetter_20 : decode cX8_isLetter 20 = .ok (.getfield 29, 3) := edX8_isLetter_0.2.2.2.2.2.2.2.2.2.2.2.1
theorem dX8_isLetter_23 : decode cX8_isLetter 23 = .ok (.iload_n 1, 1) := edX8_isLetter_0.2.2.2.2.2.2.2.2.2.2.2.2.1
theorem dX8_isLetter_24 : decode cX8_isLetter 24 = .ok (.iaload, 1) := edX8_isLetter_0.2.2.2.2.2.2.2.2.2.2.2.2.2.1
theorem dX8_isLetter_25 : decode cX8_isLetter 25 = .ok (.bipush 122, 2) := edX8_isLetter_0.2.2.2.2.2.2.2.2.2.2.2.2.2.2.1
theorem dX8_isLetter_27 : decode cX8_isLetter 27 = .ok (.if_icmp .gt 7, 3) := edX8_isLetter_0.2.2.2.2.2.2.2.2.2.2.2.2.2.2.2.1
theorem dX8_isLetter_30 : decode cX8_isLetter 30 = .ok (.iconst 1, 1) := edX8_isLetter_0.2.2.2.2.2.2.2.2.2.2.2.2.2.2.2.2.1
theorem dX8_isLetter_31 : decode cX8_isLetter 31 = .ok (.goto 4, 3) := edX8_isLetter_0.2.2.2.2.2.2.2.2.2.2.2.2.2.2.2.2.2.1
theorem dX8_isLetter_34 : decode cX8_isLetter 34 = .ok (.iconst 0, 1) := edX8_isLetter_0.2.2.2.2.2.2.2.2.2.2.2.2.2.2.2.2.2.2.1
theorem dX8_isLetter_35 : decode cX8_isLetter 35 = .ok (.ireturn, 1) := edX8_isLetter_0.2.2.2.2.2.2.2.2.2.2.2.2.2.2.2.2.2.2.2.1
theorem edX8_isFigure_0 : (decode cX8_isFigure 0 = .ok (.iload_n 1, 1)) ∧ (decode cX8_isFigure 1 = .ok (.aload_n 0, 1)) ∧ (decode cX8_isFigure 2 = .ok (.getfield 192, 3)) ∧ (decode cX8_isFigure 5 = .ok (.if_icmp .ge 29, 3)) ∧ (decode cX8_isFigure 8 = .ok (.aload_n 0, 1)) ∧ (decode cX8_isFigure 9 = .ok (.getfield 29, 3)) ∧ (decode cX8_isFigure 12 = .ok (.iload_n 1, 1)) ∧ (decode cX8_isFigure 13 = .ok (.iaload, 1)) ∧ (decode cX8_isFigure 14 = .ok (.bipush 48, 2)) ∧ (decode cX8_isFigure 16 = .ok (.if_icmp .lt 18, 3)) ∧ (decode cX8_isFigure 19 = .ok (.aload_n 0, 1)) ∧ (decode cX8_isFigure 20 = .ok (.getfield 29, 3)) ∧ (decode cX8_isFigure 23 = .ok (.iload_n 1, 1)) ∧ (decode cX8_isFigure 24 = .ok (.iaload, 1)) ∧ (decode cX8_isFigure 25 = .ok (.bipush 57, 2)) ∧ (decode cX8_isFigure 27 = .ok (.if_icmp .gt 7, 3)) ∧ (decode cX8_isFigure 30 = .ok (.iconst 1, 1)) ∧ (decode cX8_isFigure 31 = .ok (.goto 4, 3)) ∧ (decode cX8_isFigure 34 = .ok (.iconst 0, 1)) ∧ (decode cX8_isFigure 35 = .ok (.ireturn, 1)) ∧ True := dc_cj [(0, .iload_n 1, 1), (1, .aload_n 0, 1), (2, .getfield 192, 3), (5, .if_icmp .ge 29, 3), (8, .aload_n 0, 1), (9, .getfield 29, 3), (12, .iload_n 1, 1), (13, .iaload, 1), (14, .bipush 48, 2), (16, .if_icmp .lt 18, 3), (19, .aload_n 0, 1), (20, .getfield 29, 3), (23, .iload_n 1, 1), (24, .iaload, 1), (25, .bipush 57, 2), (27, .if_icmp .gt 7, 3), (30, .iconst 1, 1), (31, .goto 4, 3), (34, .iconst 0, 1), (35, .ireturn, 1)] (by decide +kernel)
theorem dX8_isFigure_0 : decode cX8_isFigure 0 = .ok (.iload_n 1, 1) := edX8_isFigure_0.1
theorem dX8_isFigure_1 : decode cX8_isFigure 1 = .ok (.aload_n 0, 1) := edX8_isFigure_0.2.1
theorem dX8_isFigure_2 : decode cX8_isFigure 2 = .ok (.getfield 192, 3) := edX8_isFigure_0.2.2.1
theorem dX8_isFigure_5 : decode cX8_isFigure 5 = .ok (.if_icmp .ge 29, 3) := edX8_isFigure_0.2.2.2.1
theorem dX8_isFigure_8 : decode cX8_isFigure 8 = .ok (.aload_n 0, 1) := edX8_isFigure_0.2.2.2.2.1
theorem dX8_isFigure_9 : decode cX8_isFigure 9 = .ok (.getfield 29, 3) := edX8_isFigure_0.2.2.2.2.2.1
theorem dX8_isFigure_12 : decode cX8_isFigure 12 = .ok (.iload_n 1, 1) := edX8_isFigure_0.2.2.2.2.2.2.1
theorem dX8_isFigure_13 : decode cX8_isFigure 13 = .ok (.iaload, 1) := edX8_isFigure_0.2.2.2.2.2.2.2.1
theorem dX8_isFigure_14 : decode cX8_isFigure 14 = .ok (.bipush 48, 2) := edX8_isFigure_0.2.2.2.2.2.2.2.2.1
theorem dX8_isFigure_16 : decode cX8_isFigure 16 = .ok (.if_icmp .lt 18, 3) := edX8_isFigure_0.2.2.2.2.2.2.2.2.2.1
theorem dX8_isFigure_19 : decode cX8_isFigure 19 = .ok (.aload_n 0, 1) := edX8_isFigure_0.2.2.2.2.2.2.2.2.2.2.1
theorem dX8_isFigure_20 : decode cX8_isFigure 20 = .ok (.getfield 29, 3) := edX8_isFigure_0.2.2.2.2.2.2.2.2.2.2.2.1
theorem dX8_isFigure_23 : decode cX8_isFigure 23 = .ok (.iload_n 1, 1) := edX8_isFigure_0.2.2.2.2.2.2.2.2.2.2.2.2.1
theorem dX8_isFigure_24 : decode cX8_isFigure 24 = .ok (.iaload, 1) := edX8_isFigure_0.2.2.2.2.2.2.2.2.2.2.2.2.2.1
theorem dX8_isFigure_25 : decode cX8_isFigure 25 = .ok (.bipush 57, 2) := edX8_isFigure_0.2.2.2.2.2.2.2.2.2.2.2.2.2.2.1
theorem dX8_isFigure_27 : decode cX8_isFigure 27 = .ok (.if_icmp .gt 7, 3) := edX8_isFigure_0.2.2.2.2.2.2.2.2.2.2.2.2.2.2.2.1
theorem dX8_isFigure_30 : decode cX8_isFigure 30 = .ok (.iconst 1, 1) := edX8_isFigure_0.2.2.2.2.2.2.2.2.2.2.2.2.2.2.2.2.1
theorem dX8_isFigure_31 : decode cX8_isFigure 31 = .ok (.goto 4, 3) := edX8_isFigure_0.2.2.2.2.2.2.2.2.2.2.2.2.2.2.2.2.2.1
theorem dX8_isFigure_34 : decode cX8_isFigure 34 = .ok (.iconst 0, 1) := edX8_isFigure_0.2.2.2.2.2.2.2.2.2.2.2.2.2.2.2.2.2.2.1
theorem dX8_isFigure_35 : decode cX8_isFigure 35 = .ok (.ireturn, 1) := edX8_isFigure_0.2.2.2.2.2.2.2.2.2.2.2.2.2.2.2.2.2.2.2.1
theorem edX8_go_0 : (decode cX8_go 0 = .ok (.aload_n 0, 1)) ∧ (decode cX8_go 1 = .ok (.getfield 195, 3)) ∧ (decode cX8_go 4 = .ok (.aload_n 0, 1)) ∧ (decode cX8_go 5 = .ok (.getfield 192, 3)) ∧ (decode cX8_go 8 = .ok (.if_icmp .ge 30, 3)) ∧ (decode cX8_go 11 = .ok (.aload_n 0, 1)) ∧ (decode cX8_go 12 = .ok (.getfield 29, 3)) ∧ (decode cX8_go 15 = .ok (.aload_n 0, 1)) ∧ (decode cX8_go 16 = .ok (.getfield 195, 3)) ∧ (decode cX8_go 19 = .ok (.iaload, 1)) ∧ (decode cX8_go 20 = .ok (.bipush 32, 2)) ∧ (decode cX8_go 22 = .ok (.if_icmp .ne 16, 3)) ∧ (decode cX8_go 25 = .ok (.aload_n 0, 1)) ∧ (decode cX8_go 26 = .ok (.dup, 1)) ∧ (decode cX8_go 27 = .ok (.getfield 195, 3)) ∧ (decode cX8_go 30 = .ok (.iconst 1, 1)) ∧ (decode cX8_go 31 = .ok (.iadd, 1)) ∧ (decode cX8_go 32 = .ok (.putfield 195, 3)) ∧ (decode cX8_go 35 = .ok (.goto (-35), 3)) ∧ (decode cX8_go 38 = .ok (.aload_n 0, 1)) ∧ (decode cX8_go 39 = .ok (.aload_n 0, 1)) ∧ (decode cX8_go 40 = .ok (.getfield 195, 3)) ∧ (decode cX8_go 43 = .ok (.putfield 198, 3)) ∧ (decode cX8_go 46 = .ok (.aload_n 0, 1)) ∧ (decode cX8_go 47 = .ok (.getfield 198, 3)) ∧ (decode cX8_go 50 = .ok (.aload_n 0, 1)) ∧ (decode cX8_go 51 = .ok (.getfield 201, 3)) ∧ (decode cX8_go 54 = .ok (.if_icmp .ne 7, 3)) ∧ (decode cX8_go 57 = .ok (.iconst 1, 1)) ∧ (decode cX8_go 58 = .ok (.goto 4, 3)) ∧ (decode cX8_go 61 = .ok (.iconst 0, 1)) ∧ (decode cX8_go 62 = .ok (.istore_n 1, 1)) ∧ True := dc_cj [(0, .aload_n 0, 1), (1, .getfield 195, 3), (4, .aload_n 0, 1), (5, .getfield 192, 3), (8, .if_icmp .ge 30, 3), (11, .aload_n 0, 1), (12, .getfield 29, 3), (15, .aload_n 0, 1), (16, .getfield 195, 3), (19, .iaload, 1), (20, .bipush 32, 2), (22, .if_icmp .ne 16, 3), (25, .aload_n 0, 1), (26, .dup, 1), (27, .getfield 195, 3), (30, .iconst 1, 1), (31, .iadd, 1), (32, .putfield 195, 3), (35, .goto (-35), 3), (38, .aload_n 0, 1), (39, .aload_n 0, 1), (40, .getfield 195, 3), (43, .putfield 198, 3), (46, .aload_n 0, 1), (47, .getfield 198, 3), (50, .aload_n 0, 1), (51, .getfield 201, 3), (54, .if_icmp .ne 7, 3), (57, .iconst 1, 1), (58, .goto 4, 3), (61, .iconst 0, 1), (62, .istore_n 1, 1)] (by decide +kernel)
theorem dX8_go_0 : decode cX8_go 0 = .ok (.aload_n 0, 1) := edX8_go_0.1
theorem dX8_go_1 : decode cX8_go 1 = .ok (.getfield 195, 3) := edX8_go_0.2.1
theorem dX8_go_4 : decode cX8_go 4 = .ok (.aload_n 0, 1) := edX8_go_0.2.2.1
theorem dX8_go_5 : decode cX8_go 5 = .ok (.getfield 192, 3) := edX8_go_0.2.2.2.1
theorem dX8_go_8 : decode cX8_go 8 = .ok (.if_icmp .ge 30, 3) := edX8_go_0.2.2.2.2.1
theorem dX8_go_11 : decode cX8_go 11 = .ok (.aload_n 0, 1) := edX8_go_0.2.2.2.2.2.1
theorem dX8_go_12 : decode cX8_go 12 = .ok (.getfield 29, 3) := edX8_go_0.2.2.2.2.2.2.1
theorem dX8_go_15 : decode cX8_go 15 = .ok (.aload_n 0, 1) := edX8_go_0.2.2.2.2.2.2.2.1
theorem dX8_go_16 : decode cX8_go 16 = .ok (.getfield 195, 3) := edX8_go_0.2.2.2.2.2.2.2.2.1
theorem dX8_go_19 : decode cX8_go 19 = .ok (.iaload, 1) := edX8_go_0.2.2.2.2.2.2.2.2.2.1
theorem dX8_go_20 : decode cX8_go 20 = .ok (.bipush 32, 2) := edX8_go_0.2.2.2.2.2.2.2.2.2.2.1
theorem dX8_go_22 : decode cX8_go 22 = .ok (.if_icmp .ne 16, 3) := edX8_go_0.2.2.2.2.2.2.2.2.2.2.2.1
theorem dX8_go_25 : decode cX8_go 25 = .ok (.aload_n 0, 1) := edX8_go_0.2.2.2.2.2.2.2.2.2.2.2.2.1
theorem dX8_go_26 : decode cX8_go 26 = .ok (.dup, 1) := edX8_go_0.2.2.2.2.2.2.2.2.2.2.2.2.2.1
theorem dX8_go_27 : decode cX8_go 27 = .ok (.getfield 195, 3) := edX8_go_0.2.2.2.2.2.2.2.2.2.2.2.2.2.2.1
theorem dX8_go_30 : decode cX8_go 30 = .ok (.iconst 1, 1) := edX8_go_0.2.2.2.2.2.2.2.2.2.2.2.2.2.2.2.1
theorem dX8_go_31 : decode cX8_go 31 = .ok (.iadd, 1) := edX8_go_0.2.2.2.2.2.2.2.2.2.2.2.2.2.2.2.2.1
theorem dX8_go_32 : decode cX8_go 32 = .ok (.putfield 195, 3) := edX8_go_0.2.2.2.2.2.2.2.2.2.2.2.2.2.2.2.2.2.1
theorem dX8_go_35 : decode cX8_go 35 = .ok (.goto (-35), 3) := edX8_go_0.2.2.2.2.2.2.2.2.2.2.2.2.2.2.2.2.2.2.1
theorem dX8_go_38 : decode cX8_go 38 = .ok (.aload_n 0, 1) := edX8_go_0.2.2.2.2.2.2.2.2.2.2.2.2.2.2.2.2.2.2.2.1
theorem dX8_go_39 : decode cX8_go 39 = .ok (.aload_n 0, 1) := edX8_go_0.2.2.2.2.2.2.2.2.2.2.2.2.2.2.2.2.2.2.2.2.1
theorem dX8_go_40 : decode cX8_go 40 = .ok (.getfield 195, 3) := edX8_go_0.2.2.2.2.2.2.2.2.2.2.2.2.2.2.2.2.2.2.2.2.2.1
theorem dX8_go_43 : decode cX8_go 43 = .ok (.putfield 198, 3) := edX8_go_0.2.2.2.2.2.2.2.2.2.2.2.2.2.2.2.2.2.2.2.2.2.2.1
theorem dX8_go_46 : decode cX8_go 46 = .ok (.aload_n 0, 1) := edX8_go_0.2.2.2.2.2.2.2.2.2.2.2.2.2.2.2.2.2.2.2.2.2.2.2.1
theorem dX8_go_47 : decode cX8_go 47 = .ok (.getfield 198, 3) := edX8_go_0.2.2.2.2.2.2.2.2.2.2.2.2.2.2.2.2.2.2.2.2.2.2.2.2.1
theorem dX8_go_50 : decode cX8_go 50 = .ok (.aload_n 0, 1) := edX8_go_0.2.2.2.2.2.2.2.2.2.2.2.2.2.2.2.2.2.2.2.2.2.2.2.2.2.1
theorem dX8_go_51 : decode cX8_go 51 = .ok (.getfield 201, 3) := edX8_go_0.2.2.2.2.2.2.2.2.2.2.2.2.2.2.2.2.2.2.2.2.2.2.2.2.2.2.1
theorem dX8_go_54 : decode cX8_go 54 = .ok (.if_icmp .ne 7, 3) := edX8_go_0.2.2.2.2.2.2.2.2.2.2.2.2.2.2.2.2.2.2.2.2.2.2.2.2.2.2.2.1
theorem dX8_go_57 : decode cX8_go 57 = .ok (.iconst 1, 1) := edX8_go_0.2.2.2.2.2.2.2.2.2.2.2.2.2.2.2.2.2.2.2.2.2.2.2.2.2.2.2.2.1
theorem dX8_go_58 : decode cX8_go 58 = .ok (.goto 4, 3) := edX8_go_0.2.2.2.2.2.2.2.2.2.2.2.2.2.2.2.2.2.2.2.2.2.2.2.2.2.2.2.2.2.1
theorem dX8_go_61 : decode cX8_go 61 = .ok (.iconst 0, 1) := edX8_go_0.2.2.2.2.2.2.2.2.2.2.2.2.2.2.2.2.2.2.2.2.2.2.2.2.2.2.2.2.2.2.1
theorem dX8_go_62 : decode cX8_go 62 = .ok (.istore_n 1, 1) := edX8_go_0.2.2.2.2.2.2.2.2.2.2.2.2.2.2.2.2.2.2.2.2.2.2.2.2.2.2.2.2.2.2.2.1
theorem edX8_go_63 : (decode cX8_go 63 = .ok (.aload_n 0, 1)) ∧ (decode cX8_go 64 = .ok (.getfield 198, 3)) ∧ (decode cX8_go 67 = .ok (.aload_n 0, 1)) ∧ (decode cX8_go 68 = .ok (.getfield 192, 3)) ∧ (decode cX8_go 71 = .ok (.if_icmp .ne 11, 3)) ∧ (decode cX8_go 74 = .ok (.aload_n 0, 1)) ∧ (decode cX8_go 75 = .ok (.iconst 0, 1)) ∧ (decode cX8_go 76 = .ok (.putfield 204, 3)) ∧ (decode cX8_go 79 = .ok (.goto 224, 3)) ∧ (decode cX8_go 82 = .ok (.aload_n 0, 1)) ∧ (decode cX8_go 83 = .ok (.aload_n 0, 1)) ∧ (decode cX8_go 84 = .ok (.getfield 198, 3)) ∧ (decode cX8_go 87 = .ok (.invokevirtual 207, 3)) ∧ (decode cX8_go 90 = .ok (.ifCond .eq 64, 3)) ∧ (decode cX8_go 93 = .ok (.aload_n 0, 1)) ∧ (decode cX8_go 94 = .ok (.aload_n 0, 1)) ∧ (decode cX8_go 95 = .ok (.getfield 195, 3)) ∧ (decode cX8_go 98 = .ok (.invokevirtual 207, 3)) ∧ (decode cX8_go 101 = .ok (.ifCond .eq 16, 3)) ∧ (decode cX8_go 104 = .ok (.aload_n 0, 1)) ∧ (decode cX8_go 105 = .ok (.dup, 1)) ∧ (decode cX8_go 106 = .ok (.getfield 195, 3)) ∧ (decode cX8_go 109 = .ok (.iconst 1, 1)) ∧ (decode cX8_go 110 = .ok (.iadd, 1)) ∧ (decode cX8_go 111 = .ok (.putfield 195, 3)) ∧ (decode cX8_go 114 = .ok (.goto (-21), 3)) ∧ (decode cX8_go 117 = .ok (.aload_n 0, 1)) ∧ (decode cX8_go 118 = .ok (.iload_n 1, 1)) ∧ (decode cX8_go 119 = .ok (.ifCond .eq 7, 3)) ∧ (decode cX8_go 122 = .ok (.iconst 4, 1)) ∧ (decode cX8_go 123 = .ok (.goto 4, 3)) ∧ (decode cX8_go 126 = .ok (.iconst 1, 1)) ∧ True := dc_cj [(63, .aload_n 0, 1), (64, .getfield 198, 3), (67, .aload_n 0, 1), (68, .getfield 192, 3), (71, .if_icmp .ne 11, 3), (74, .aload_n 0, 1), (75, .iconst 0, 1), (76, .putfield 204, 3), (79, .goto 224, 3), (82, .aload_n 0, 1), (83, .aload_n 0, 1), (84, .getfield 198, 3), (87, .invokevirtual 207, 3), (90, .ifCond .eq 64, 3), (93, .aload_n 0, 1), (94, .aload_n 0, 1), (95, .getfield 195, 3), (98, .invokevirtual 207, 3), (101, .ifCond .eq 16, 3), (104, .aload_n 0, 1), (105, .dup, 1), (106, .getfield 195, 3), (109, .iconst 1, 1), (110, .iadd, 1), (111, .putfield 195, 3), (114, .goto (-21), 3), (117, .aload_n 0, 1), (118, .iload_n 1, 1), (119, .ifCond .eq 7, 3), (122, .iconst 4, 1), (123, .goto 4, 3), (126, .iconst 1, 1)] (by decide +kernel)
theorem dX8_go_63 : decode cX8_go 63 = .ok (.aload_n 0, 1) := edX8_go_63.1
theorem dX8_go_64 : decode cX8_go 64 = .ok (.getfield 198, 3) := edX8_go_63.2.1
theorem dX8_go_67 : decode cX8_go 67 = .ok (.aload_n 0, 1) := edX8_go_63.2.2.1
theorem dX8_go_68 : decode cX8_go 68 = .ok (.getfield 192, 3) := edX8_go_63.2.2.2.1
theorem dX8_go_71 : decode cX8_go 71 = .ok (.if_icmp .ne 11, 3) := edX8_go_63.2.2.2.2.1
theorem dX8_go_74 : decode cX8_go 74 = .ok (.aload_n 0, 1) := edX8_go_63.2.2.2.2.2.1
theorem dX8_go_75 : decode cX8_go 75 = .ok (.iconst 0, 1) := edX8_go_63.2.2.2.2.2.2.1
theorem dX8_go_76 : decode cX8_go 76 = .ok (.putfield 204, 3) := edX8_go_63.2.2.2.2.2.2.2.1
theorem dX8_go_79 : decode cX8_go 79 = .ok (.goto 224, 3) := edX8_go_63.2.2.2.2.2.2.2.2.1
theorem dX8_go_82 : decode cX8_go 82 = .ok (.aload_n 0, 1) := edX8_go_63.2.2.2.2.2.2.2.2.2.1
theorem dX8_go_83 : decode cX8_go 83 = .ok (.aload_n 0, 1) := edX8_go_63.2.2.2.2.2.2.2.2.2.2.1
theorem dX8_go_84 : decode cX8_go 84 = .ok (.getfield 198, 3) := edX8_go_63.2.2.2.2.2.2.2.2.2.2.2.1
theorem dX8_go_87 : decode cX8_go 87 = .ok (.invokevirtual 207, 3) := edX8_go_63.2.2.2.2.2.2.2.2.2.2.2.2.1
theorem dX8_go_90 : decode cX8_go 90 = .ok (.ifCond .eq 64, 3) := edX8_go_63.2.2.2.2.2.2.2.2.2.2.2.2.2.1
theorem dX8_go_93 : decode cX8_go 93 = .ok (.aload_n 0, 1) := edX8_go_63.2.2.2.2.2.2.2.2.2.2.2.2.2.2.1
theorem dX8_go_94 : decode cX8_go 94 = .ok (.aload_n 0, 1) := edX8_go_63.2.2.2.2.2.2.2.2.2.2.2.2.2.2.2.1
theorem dX8_go_95 : decode cX8_go 95 = .ok (.getfield 195, 3) := edX8_go_63.2.2.2.2.2.2.2.2.2.2.2.2.2.2.2.2.1
theorem dX8_go_98 : decode cX8_go 98 = .ok (.invokevirtual 207, 3) := edX8_go_63.2.2.2.2.2.2.2.2.2.2.2.2.2.2.2.2.2.1
theorem dX8_go_101 : decode cX8_go 101 = .ok (.ifCond .eq 16, 3) := edX8_go_63.2.2.2.2.2.2.2.2.2.2.2.2.2.2.2.2.2.2.1
theorem dX8_go_104 : decode cX8_go 104 = .ok (.aload_n 0, 1) := edX8_go_63.2.2.2.2.2.2.2.2.2.2.2.2.2.2.2.2.2.2.2.1
theorem dX8_go_105 : decode cX8_go 105 = .ok (.dup, 1) := edX8_go_63.2.2.2.2.2.2.2.2.2.2.2.2.2.2.2.2.2.2.2.2.1
theorem dX8_go_106 : decode cX8_go 106 = .ok (.getfield 195, 3) := edX8_go_63.2.2.2.2.2.2.2.2.2.2.2.2.2.2.2.2.2.2.2.2.2.1
theorem dX8_go_109 : decode cX8_go 109 = .ok (.iconst 1, 1) := edX8_go_63.2.2.2.2.2.2.2.2.2.2.2.2.2.2.2.2.2.2.2.2.2.2.1
theorem dX8_go_110 : decode cX8_go 110 = .ok (.iadd, 1) := edX8_go_63.2.2.2.2.2.2.2.2.2.2.2.2.2.2.2.2.2.2.2.2.2.2.2.1
theorem dX8_go_111 : decode cX8_go 111 = .ok (.putfield 195, 3) := edX8_go_63.2.2.2.2.2.2.2.2.2.2.2.2.2.2.2.2.2.2.2.2.2.2.2.2.1
theorem dX8_go_114 : decode cX8_go 114 = .ok (.goto (-21), 3) := edX8_go_63.2.2.2.2.2.2.2.2.2.2.2.2.2.2.2.2.2.2.2.2.2.2.2.2.2.1
theorem dX8_go_117 : decode cX8_go 117 = .ok (.aload_n 0, 1) := edX8_go_63.2.2.2.2.2.2.2.2.2.2.2.2.2.2.2.2.2.2.2.2.2.2.2.2.2.2.1
theorem dX8_go_118 : decode cX8_go 118 = .ok (.iload_n 1, 1) := edX8_go_63.2.2.2.2.2.2.2.2.2.2.2.2.2.2.2.2.2.2.2.2.2.2.2.2.2.2.2.1
theorem dX8_go_119 : decode cX8_go 119 = .ok (.ifCond .eq 7, 3) := edX8_go_63.2.2.2.2.2.2.2.2.2.2.2.2.2.2.2.2.2.2.2.2.2.2.2.2.2.2.2.2.1
theorem dX8_go_122 : decode cX8_go 122 = .ok (.iconst 4, 1) := edX8_go_63.2.2.2.2.2.2.2.2.2.2.2.2.2.2.2.2.2.2.2.2.2.2.2.2.2.2.2.2.2.1
theorem dX8_go_123 : decode cX8_go 123 = .ok (.goto 4, 3) := edX8_go_63.2.2.2.2.2.2.2.2.2.2.2.2.2.2.2.2.2.2.2.2.2.2.2.2.2.2.2.2.2.2.1
theorem dX8_go_126 : decode cX8_go 126 = .ok (.iconst 1, 1) := edX8_go_63.2.2.2.2.2.2.2.2.2.2.2.2.2.2.2.2.2.2.2.2.2.2.2.2.2.2.2.2.2.2.2.1
theorem edX8_go_127 : (decode cX8_go 127 = .ok (.putfield 204, 3)) ∧ (decode cX8_go 130 = .ok (.aload_n 0, 1)) ∧ (decode cX8_go 131 = .ok (.aload_n 0, 1)) ∧ (decode cX8_go 132 = .ok (.getfield 29, 3)) ∧ (decode cX8_go 135 = .ok (.aload_n 0, 1)) ∧ (decode cX8_go 136 = .ok (.getfield 198, 3)) ∧ (decode cX8_go 139 = .ok (.iaload, 1)) ∧ (decode cX8_go 140 = .ok (.putfield 210, 3)) ∧ (decode cX8_go 143 = .ok (.aload_n 0, 1)) ∧ (decode cX8_go 144 = .ok (.aload_n 0, 1)) ∧ (decode cX8_go 145 = .ok (.getfield 195, 3)) ∧ (decode cX8_go 148 = .ok (.putfield 201, 3)) ∧ (decode cX8_go 151 = .ok (.goto 152, 3)) ∧ (decode cX8_go 154 = .ok (.aload_n 0, 1)) ∧ (decode cX8_go 155 = .ok (.aload_n 0, 1)) ∧ (decode cX8_go 156 = .ok (.getfield 198, 3)) ∧ (decode cX8_go 159 = .ok (.invokevirtual 213, 3)) ∧ (decode cX8_go 162 = .ok (.ifCond .eq 113, 3)) ∧ (decode cX8_go 165 = .ok (.aload_n 0, 1)) ∧ (decode cX8_go 166 = .ok (.iconst 0, 1)) ∧ (decode cX8_go 167 = .ok (.putfield 210, 3)) ∧ (decode cX8_go 170 = .ok (.aload_n 0, 1)) ∧ (decode cX8_go 171 = .ok (.aload_n 0, 1)) ∧ (decode cX8_go 172 = .ok (.getfield 195, 3)) ∧ (decode cX8_go 175 = .ok (.invokevirtual 213, 3)) ∧ (decode cX8_go 178 = .ok (.ifCond .eq 60, 3)) ∧ (decode cX8_go 181 = .ok (.aload_n 0, 1)) ∧ (decode cX8_go 182 = .ok (.aload_n 0, 1)) ∧ (decode cX8_go 183 = .ok (.getfield 195, 3)) ∧ (decode cX8_go 186 = .ok (.aload_n 0, 1)) ∧ (decode cX8_go 187 = .ok (.getfield 198, 3)) ∧ (decode cX8_go 190 = .ok (.isub, 1)) ∧ True := dc_cj [(127, .putfield 204, 3), (130, .aload_n 0, 1), (131, .aload_n 0, 1), (132, .getfield 29, 3), (135, .aload_n 0, 1), (136, .getfield 198, 3), (139, .iaload, 1), (140, .putfield 210, 3), (143, .aload_n 0, 1), (144, .aload_n 0, 1), (145, .getfield 195, 3), (148, .putfield 201, 3), (151, .goto 152, 3), (154, .aload_n 0, 1), (155, .aload_n 0, 1), (156, .getfield 198, 3), (159, .invokevirtual 213, 3), (162, .ifCond .eq 113, 3), (165, .aload_n 0, 1), (166, .iconst 0, 1), (167, .putfield 210, 3), (170, .aload_n 0, 1), (171, .aload_n 0, 1), (172, .getfield 195, 3), (175, .invokevirtual 213, 3), (178, .ifCond .eq 60, 3), (181, .aload_n 0, 1), (182, .aload_n 0, 1), (183, .getfield 195, 3), (186, .aload_n 0, 1), (187, .getfield 198, 3), (190, .isub, 1)] (by decide +kernel)
theorem dX8_go_127 : decode cX8_go 127 = .ok (.putfield 204, 3) := edX8_go_127.1
theorem dX8_go_130 : decode cX8_go 130 = .ok (.aload_n 0, 1) := edX8_go_127.2.1
theorem dX8_go_131 : decode cX8_go 131 = .ok (.aload_n 0, 1) := edX8_go_127.2.2.1
theorem dX8_go_132 : decode cX8_go 132 = .ok (.getfield 29, 3) := edX8_go_127.2.2.2.1
theorem dX8_go_135 : decode cX8_go 135 = .ok (.aload_n 0, 1) := edX8_go_127.2.2.2.2.1
theorem dX8_go_136 : decode cX8_go 136 = .ok (.getfield 198, 3) := edX8_go_127.2.2.2.2.2.1
theorem dX8_go_139 : decode cX8_go 139 = .ok (.iaload, 1) := edX8_go_127.2.2.2.2.2.2.1
theorem dX8_go_140 : decode cX8_go 140 = .ok (.putfield 210, 3) := edX8_go_127.2.2.2.2.2.2.2.1
theorem dX8_go_143 : decode cX8_go 143 = .ok (.aload_n 0, 1) := edX8_go_127.2.2.2.2.2.2.2.2.1
theorem dX8_go_144 : decode cX8_go 144 = .ok (.aload_n 0, 1) := edX8_go_127.2.2.2.2.2.2.2.2.2.1
theorem dX8_go_145 : decode cX8_go 145 = .ok (.getfield 195, 3) := edX8_go_127.2.2.2.2.2.2.2.2.2.2.1
theorem dX8_go_148 : decode cX8_go 148 = .ok (.putfield 201, 3) := edX8_go_127.2.2.2.2.2.2.2.2.2.2.2.1
theorem dX8_go_151 : decode cX8_go 151 = .ok (.goto 152, 3) := edX8_go_127.2.2.2.2.2.2.2.2.2.2.2.2.1
theorem dX8_go_154 : decode cX8_go 154 = .ok (.aload_n 0, 1) := edX8_go_127.2.2.2.2.2.2.2.2.2.2.2.2.2.1
theorem dX8_go_155 : decode cX8_go 155 = .ok (.aload_n 0, 1) := edX8_go_127.2.2.2.2.2.2.2.2.2.2.2.2.2.2.1
theorem dX8_go_156 : decode cX8_go 156 = .ok (.getfield 198, 3) := edX8_go_127.2.2.2.2.2.2.2.2.2.2.2.2.2.2.2.1
theorem dX8_go_159 : decode cX8_go 159 = .ok (.invokevirtual 213, 3) := edX8_go_127.2.2.2.2.2.2.2.2.2.2.2.2.2.2.2.2.1
theorem dX8_go_162 : decode cX8_go 162 = .ok (.ifCond .eq 113, 3) := edX8_go_127.2.2.2.2.2.2.2.2.2.2.2.2.2.2.2.2.2.1
theorem dX8_go_165 : decode cX8_go 165 = .ok (.aload_n 0, 1) := edX8_go_127.2.2.2.2.2.2.2.2.2.2.2.2.2.2.2.2.2.2.1
theorem dX8_go_166 : decode cX8_go 166 = .ok (.iconst 0, 1) := edX8_go_127.2.2.2.2.2.2.2.2.2.2.2.2.2.2.2.2.2.2.2.1
theorem dX8_go_167 : decode cX8_go 167 = .ok (.putfield 210, 3) := edX8_go_127.2.2.2.2.2.2.2.2.2.2.2.2.2.2.2.2.2.2.2.2.1
theorem dX8_go_170 : decode cX8_go 170 = .ok (.aload_n 0, 1) := edX8_go_127.2.2.2.2.2.2.2.2.2.2.2.2.2.2.2.2.2.2.2.2.2.1
theorem dX8_go_171 : decode cX8_go 171 = .ok (.aload_n 0, 1) := edX8_go_127.2.2.2.2.2.2.2.2.2.2.2.2.2.2.2.2.2.2.2.2.2.2.1
theorem dX8_go_172 : decode cX8_go 172 = .ok (.getfield 195, 3) := edX8_go_127.2.2.2.2.2.2.2.2.2.2.2.2.2.2.2.2.2.2.2.2.2.2.2.1
theorem dX8_go_175 : decode cX8_go 175 = .ok (.invokevirtual 213, 3) := edX8_go_127.2.2.2.2.2.2.2.2.2.2.2.2.2.2.2.2.2.2.2.2.2.2.2.2.1
theorem dX8_go_178 : decode cX8_go 178 = .ok (.ifCond .eq 60, 3) := edX8_go_127.2.2.2.2.2.2.2.2.2.2.2.2.2.2.2.2.2.2.2.2.2.2.2.2.2.1
theorem dX8_go_181 : decode cX8_go 181 = .ok (.aload_n 0, 1) := edX8_go_127.2.2.2.2.2.2.2.2.2.2.2.2.2.2.2.2.2.2.2.2.2.2.2.2.2.2.1
theorem dX8_go_182 : decode cX8_go 182 = .ok (.aload_n 0, 1) := edX8_go_127.2.2.2.2.2.2.2.2.2.2.2.2.2.2.2.2.2.2.2.2.2.2.2.2.2.2.2.1
theorem dX8_go_183 : decode cX8_go 183 = .ok (.getfield 195, 3) := edX8_go_127.2.2.2.2.2.2.2.2.2.2.2.2.2.2.2.2.2.2.2.2.2.2.2.2.2.2.2.2.1
theorem dX8_go_186 : decode cX8_go 186 = .ok (.aload_n 0, 1) := edX8_go_127.2.2.2.2.2.2.2.2.2.2.2.2.2.2.2.2.2.2.2.2.2.2.2.2.2.2.2.2.2.1
theorem dX8_go_187 : decode cX8_go 187 = .ok (.getfield 198, 3) := edX8_go_127.2.2.2.2.2.2.2.2.2.2.2.2.2.2.2.2.2.2.2.2.2.2.2.2.2.2.2.2.2.2.1
theorem dX8_go_190 : decode cX8_go 190 = .ok (.isub, 1) := edX8_go_127.2.2.2.2.2.2.2.2.2.2.2.2.2.2.2.2.2.2.2.2.2.2.2.2.2.2.2.2.2.2.2.1
theorem edX8_go_191 : (decode cX8_go 191 = .ok (.iconst 4, 1)) ∧ (decode cX8_go 192 = .ok (.if_icmp .ge 26, 3)) ∧ (decode cX8_go 195 = .ok (.bipush 10, 2)) ∧ (decode cX8_go 197 = .ok (.aload_n 0, 1)) ∧ (decode cX8_go 198 = .ok (.getfield 210, 3)) ∧ (decode cX8_go 201 = .ok (.imul, 1)) ∧ (decode cX8_go 202 = .ok (.aload_n 0, 1)) ∧ (decode cX8_go 203 = .ok (.getfield 29, 3)) ∧ (decode cX8_go 206 = .ok (.aload_n 0, 1)) ∧ (decode cX8_go 207 = .ok (.getfield 195, 3)) ∧ (decode cX8_go 210 = .ok (.iaload, 1)) ∧ (decode cX8_go 211 = .ok (.iadd, 1)) ∧ (decode cX8_go 212 = .ok (.bipush 48, 2)) ∧ (decode cX8_go 214 = .ok (.isub, 1)) ∧ (decode cX8_go 215 = .ok (.goto 7, 3)) ∧ (decode cX8_go 218 = .ok (.aload_n 0, 1)) ∧ (decode cX8_go 219 = .ok (.getfield 210, 3)) ∧ (decode cX8_go 222 = .ok (.putfield 210, 3)) ∧ (decode cX8_go 225 = .ok (.aload_n 0, 1)) ∧ (decode cX8_go 226 = .ok (.dup, 1)) ∧ (decode cX8_go 227 = .ok (.getfield 195, 3)) ∧ (decode cX8_go 230 = .ok (.iconst 1, 1)) ∧ (decode cX8_go 231 = .ok (.iadd, 1)) ∧ (decode cX8_go 232 = .ok (.putfield 195, 3)) ∧ (decode cX8_go 235 = .ok (.goto (-65), 3)) ∧ (decode cX8_go 238 = .ok (.aload_n 0, 1)) ∧ (decode cX8_go 239 = .ok (.iload_n 1, 1)) ∧ (decode cX8_go 240 = .ok (.ifCond .ne 16, 3)) ∧ (decode cX8_go 243 = .ok (.aload_n 0, 1)) ∧ (decode cX8_go 244 = .ok (.getfield 195, 3)) ∧ (decode cX8_go 247 = .ok (.aload_n 0, 1)) ∧ (decode cX8_go 248 = .ok (.getfield 198, 3)) ∧ True := dc_cj [(191, .iconst 4, 1), (192, .if_icmp .ge 26, 3), (195, .bipush 10, 2), (197, .aload_n 0, 1), (198, .getfield 210, 3), (201, .imul, 1), (202, .aload_n 0, 1), (203, .getfield 29, 3), (206, .aload_n 0, 1), (207, .getfield 195, 3), (210, .iaload, 1), (211, .iadd, 1), (212, .bipush 48, 2), (214, .isub, 1), (215, .goto 7, 3), (218, .aload_n 0, 1), (219, .getfield 210, 3), (222, .putfield 210, 3), (225, .aload_n 0, 1), (226, .dup, 1), (227, .getfield 195, 3), (230, .iconst 1, 1), (231, .iadd, 1), (232, .putfield 195, 3), (235, .goto (-65), 3), (238, .aload_n 0, 1), (239, .iload_n 1, 1), (240, .ifCond .ne 16, 3), (243, .aload_n 0, 1), (244, .getfield 195, 3), (247, .aload_n 0, 1), (248, .getfield 198, 3)] (by decide +kernel)
theorem dX8_go_191 : decode cX8_go 191 = .ok (.iconst 4, 1) := edX8_go_191.1
theorem dX8_go_192 : decode cX8_go 192 = .ok (.if_icmp .ge 26, 3) := edX8_go_191.2.1
theorem dX8_go_195 : decode cX8_go 195 = .ok (.bipush 10, 2) := edX8_go_191.2.2.1
theorem dX8_go_197 : decode cX8_go 197 = .ok (.aload_n 0, 1) := edX8_go_191.2.2.2.1
theorem dX8_go_198 : decode cX8_go 198 = .ok (.getfield 210, 3) := edX8_go_191.2.2.2.2.1
theorem dX8_go_201 : decode cX8_go 201 = .ok (.imul, 1) := edX8_go_191.2.2.2.2.2.1
theorem dX8_go_202 : decode cX8_go 202 = .ok (.aload_n 0, 1) := edX8_go_191.2.2.2.2.2.2.1
theorem dX8_go_203 : decode cX8_go 203 = .ok (.getfield 29, 3) := edX8_go_191.2.2.2.2.2.2.2.1
theorem dX8_go_206 : decode cX8_go 206 = .ok (.aload_n 0, 1) := edX8_go_191.2.2.2.2.2.2.2.2.1
theorem dX8_go_207 : decode cX8_go 207 = .ok (.getfield 195, 3) := edX8_go_191.2.2.2.2.2.2.2.2.2.1
theorem dX8_go_210 : decode cX8_go 210 = .ok (.iaload, 1) := edX8_go_191.2.2.2.2.2.2.2.2.2.2.1
theorem dX8_go_211 : decode cX8_go 211 = .ok (.iadd, 1) := edX8_go_191.2.2.2.2.2.2.2.2.2.2.2.1
theorem dX8_go_212 : decode cX8_go 212 = .ok (.bipush 48, 2) := edX8_go_191.2.2.2.2.2.2.2.2.2.2.2.2.1
theorem dX8_go_214 : decode cX8_go 214 = .ok (.isub, 1) := edX8_go_191.2.2.2.2.2.2.2.2.2.2.2.2.2.1
theorem dX8_go_215 : decode cX8_go 215 = .ok (.goto 7, 3) := edX8_go_191.2.2.2.2.2.2.2.2.2.2.2.2.2.2.1
theorem dX8_go_218 : decode cX8_go 218 = .ok (.aload_n 0, 1) := edX8_go_191.2.2.2.2.2.2.2.2.2.2.2.2.2.2.2.1
theorem dX8_go_219 : decode cX8_go 219 = .ok (.getfield 210, 3) := edX8_go_191.2.2.2.2.2.2.2.2.2.2.2.2.2.2.2.2.1
theorem dX8_go_222 : decode cX8_go 222 = .ok (.putfield 210, 3) := edX8_go_191.2.2.2.2.2.2.2.2.2.2.2.2.2.2.2.2.2.1
theorem dX8_go_225 : decode cX8_go 225 = .ok (.aload_n 0, 1) := edX8_go_191.2.2.2.2.2.2.2.2.2.2.2.2.2.2.2.2.2.2.1
theorem dX8_go_226 : decode cX8_go 226 = .ok (.dup, 1) := edX8_go_191.2.2.2.2.2.2.2.2.2.2.2.2.2.2.2.2.2.2.2.1
theorem dX8_go_227 : decode cX8_go 227 = .ok (.getfield 195, 3) := edX8_go_191.2.2.2.2.2.2.2.2.2.2.2.2.2.2.2.2.2.2.2.2.1
theorem dX8_go_230 : decode cX8_go 230 = .ok (.iconst 1, 1) := edX8_go_191.2.2.2.2.2.2.2.2.2.2.2.2.2.2.2.2.2.2.2.2.2.1
theorem dX8_go_231 : decode cX8_go 231 = .ok (.iadd, 1) := edX8_go_191.2.2.2.2.2.2.2.2.2.2.2.2.2.2.2.2.2.2.2.2.2.2.1
theorem dX8_go_232 : decode cX8_go 232 = .ok (.putfield 195, 3) := edX8_go_191.2.2.2.2.2.2.2.2.2.2.2.2.2.2.2.2.2.2.2.2.2.2.2.1
theorem dX8_go_235 : decode cX8_go 235 = .ok (.goto (-65), 3) := edX8_go_191.2.2.2.2.2.2.2.2.2.2.2.2.2.2.2.2.2.2.2.2.2.2.2.2.1
theorem dX8_go_238 : decode cX8_go 238 = .ok (.aload_n 0, 1) := edX8_go_191.2.2.2.2.2.2.2.2.2.2.2.2.2.2.2.2.2.2.2.2.2.2.2.2.2.1
theorem dX8_go_239 : decode cX8_go 239 = .ok (.iload_n 1, 1) := edX8_go_191.2.2.2.2.2.2.2.2.2.2.2.2.2.2.2.2.2.2.2.2.2.2.2.2.2.2.1
theorem dX8_go_240 : decode cX8_go 240 = .ok (.ifCond .ne 16, 3) := edX8_go_191.2.2.2.2.2.2.2.2.2.2.2.2.2.2.2.2.2.2.2.2.2.2.2.2.2.2.2.1
theorem dX8_go_243 : decode cX8_go 243 = .ok (.aload_n 0, 1) := edX8_go_191.2.2.2.2.2.2.2.2.2.2.2.2.2.2.2.2.2.2.2.2.2.2.2.2.2.2.2.2.1
theorem dX8_go_244 : decode cX8_go 244 = .ok (.getfield 195, 3) := edX8_go_191.2.2.2.2.2.2.2.2.2.2.2.2.2.2.2.2.2.2.2.2.2.2.2.2.2.2.2.2.2.1
theorem dX8_go_247 : decode cX8_go 247 = .ok (.aload_n 0, 1) := edX8_go_191.2.2.2.2.2.2.2.2.2.2.2.2.2.2.2.2.2.2.2.2.2.2.2.2.2.2.2.2.2.2.1
theorem dX8_go_248 : decode cX8_go 248 = .ok (.getfield 198, 3) := edX8_go_191.2.2.2.2.2.2.2.2.2.2.2.2.2.2.2.2.2.2.2.2.2.2.2.2.2.2.2.2.2.2.2.1
theorem edX8_go_251 : (decode cX8_go 251 = .ok (.isub, 1)) ∧ (decode cX8_go 252 = .ok (.iconst 4, 1)) ∧ (decode cX8_go 253 = .ok (.if_icmp .le 7, 3)) ∧ (decode cX8_go 256 = .ok (.iconst 4, 1)) ∧ (decode cX8_go 257 = .ok (.goto 4, 3)) ∧ (decode cX8_go 260 = .ok (.iconst 2, 1)) ∧ (decode cX8_go 261 = .ok (.putfield 204, 3)) ∧ (decode cX8_go 264 = .ok (.aload_n 0, 1)) ∧ (decode cX8_go 265 = .ok (.aload_n 0, 1)) ∧ (decode cX8_go 266 = .ok (.getfield 195, 3)) ∧ (decode cX8_go 269 = .ok (.putfield 201, 3)) ∧ (decode cX8_go 272 = .ok (.goto 31, 3)) ∧ (decode cX8_go 275 = .ok (.aload_n 0, 1)) ∧ (decode cX8_go 276 = .ok (.iconst 3, 1)) ∧ (decode cX8_go 277 = .ok (.putfield 204, 3)) ∧ (decode cX8_go 280 = .ok (.aload_n 0, 1)) ∧ (decode cX8_go 281 = .ok (.aload_n 0, 1)) ∧ (decode cX8_go 282 = .ok (.getfield 29, 3)) ∧ (decode cX8_go 285 = .ok (.aload_n 0, 1)) ∧ (decode cX8_go 286 = .ok (.getfield 198, 3)) ∧ (decode cX8_go 289 = .ok (.iaload, 1)) ∧ (decode cX8_go 290 = .ok (.putfield 210, 3)) ∧ (decode cX8_go 293 = .ok (.aload_n 0, 1)) ∧ (decode cX8_go 294 = .ok (.dup, 1)) ∧ (decode cX8_go 295 = .ok (.getfield 195, 3)) ∧ (decode cX8_go 298 = .ok (.iconst 1, 1)) ∧ (decode cX8_go 299 = .ok (.iadd, 1)) ∧ (decode cX8_go 300 = .ok (.putfield 195, 3)) ∧ (decode cX8_go 303 = .ok (.return_, 1)) ∧ True := dc_cj [(251, .isub, 1), (252, .iconst 4, 1), (253, .if_icmp .le 7, 3), (256, .iconst 4, 1), (257, .goto 4, 3), (260, .iconst 2, 1), (261, .putfield 204, 3), (264, .aload_n 0, 1), (265, .aload_n 0, 1), (266, .getfield 195, 3), (269, .putfield 201, 3), (272, .goto 31, 3), (275, .aload_n 0, 1), (276, .iconst 3, 1), (277, .putfield 204, 3), (280, .aload_n 0, 1), (281, .aload_n 0, 1), (282, .getfield 29, 3), (285, .aload_n 0, 1), (286, .getfield 198, 3), (289, .iaload, 1), (290, .putfield 210, 3), (293, .aload_n 0, 1), (294, .dup, 1), (295, .getfield 195, 3), (298, .iconst 1, 1), (299, .iadd, 1), (300, .putfield 195, 3), (303, .return_, 1)] (by decide +kernel)
theorem dX8_go_251 : decode cX8_go 251 = .ok (.isub, 1) := edX8_go_251.1
theorem dX8_go_252 : decode cX8_go 252 = .ok (.iconst 4, 1) := edX8_go_251.2.1
theorem dX8_go_253 : decode cX8_go 253 = .ok (.if_icmp .le 7, 3) := edX8_go_251.2.2.1
theorem dX8_go_256 : decode cX8_go 256 = .ok (.iconst 4, 1) := edX8_go_251.2.2.2.1
theorem dX8_go_257 : decode cX8_go 257 = .ok (.goto 4, 3) := edX8_go_251.2.2.2.2.1
theorem dX8_go_260 : decode cX8_go 260 = .ok (.iconst 2, 1) := edX8_go_251.2.2.2.2.2.1
theorem dX8_go_261 : decode cX8_go 261 = .ok (.putfield 204, 3) := edX8_go_251.2.2.2.2.2.2.1
theorem dX8_go_264 : decode cX8_go 264 = .ok (.aload_n 0, 1) := edX8_go_251.2.2.2.2.2.2.2.1
theorem dX8_go_265 : decode cX8_go 265 = .ok (.aload_n 0, 1) := edX8_go_251.2.2.2.2.2.2.2.2.1
theorem dX8_go_266 : decode cX8_go 266 = .ok (.getfield 195, 3) := edX8_go_251.2.2.2.2.2.2.2.2.2.1
theorem dX8_go_269 : decode cX8_go 269 = .ok (.putfield 201, 3) := edX8_go_251.2.2.2.2.2.2.2.2.2.2.1
theorem dX8_go_272 : decode cX8_go 272 = .ok (.goto 31, 3) := edX8_go_251.2.2.2.2.2.2.2.2.2.2.2.1
theorem dX8_go_275 : decode cX8_go 275 = .ok (.aload_n 0, 1) := edX8_go_251.2.2.2.2.2.2.2.2.2.2.2.2.1
theorem dX8_go_276 : decode cX8_go 276 = .ok (.iconst 3, 1) := edX8_go_251.2.2.2.2.2.2.2.2.2.2.2.2.2.1
theorem dX8_go_277 : decode cX8_go 277 = .ok (.putfield 204, 3) := edX8_go_251.2.2.2.2.2.2.2.2.2.2.2.2.2.2.1
theorem dX8_go_280 : decode cX8_go 280 = .ok (.aload_n 0, 1) := edX8_go_251.2.2.2.2.2.2.2.2.2.2.2.2.2.2.2.1
theorem dX8_go_281 : decode cX8_go 281 = .ok (.aload_n 0, 1) := edX8_go_251.2.2.2.2.2.2.2.2.2.2.2.2.2.2.2.2.1
theorem dX8_go_282 : decode cX8_go 282 = .ok (.getfield 29, 3) := edX8_go_251.2.2.2.2.2.2.2.2.2.2.2.2.2.2.2.2.2.1
theorem dX8_go_285 : decode cX8_go 285 = .ok (.aload_n 0, 1) := edX8_go_251.2.2.2.2.2.2.2.2.2.2.2.2.2.2.2.2.2.2.1
theorem dX8_go_286 : decode cX8_go 286 = .ok (.getfield 198, 3) := edX8_go_251.2.2.2.2.2.2.2.2.2.2.2.2.2.2.2.2.2.2.2.1
theorem dX8_go_289 : decode cX8_go 289 = .ok (.iaload, 1) := edX8_go_251.2.2.2.2.2.2.2.2.2.2.2.2.2.2.2.2.2.2.2.2.1
theorem dX8_go_290 : decode cX8_go 290 = .ok (.putfield 210, 3) := edX8_go_251.2.2.2.2.2.2.2.2.2.2.2.2.2.2.2.2.2.2.2.2.2.1
theorem dX8_go_293 : decode cX8_go 293 = .ok (.aload_n 0, 1) := edX8_go_251.2.2.2.2.2.2.2.2.2.2.2.2.2.2.2.2.2.2.2.2.2.2.1
theorem dX8_go_294 : decode cX8_go 294 = .ok (.dup, 1) := edX8_go_251.2.2.2.2.2.2.2.2.2.2.2.2.2.2.2.2.2.2.2.2.2.2.2.1
theorem dX8_go_295 : decode cX8_go 295 = .ok (.getfield 195, 3) := edX8_go_251.2.2.2.2.2.2.2.2.2.2.2.2.2.2.2.2.2.2.2.2.2.2.2.2.1
theorem dX8_go_298 : decode cX8_go 298 = .ok (.iconst 1, 1) := edX8_go_251.2.2.2.2.2.2.2.2.2.2.2.2.2.2.2.2.2.2.2.2.2.2.2.2.2.1
theorem dX8_go_299 : decode cX8_go 299 = .ok (.iadd, 1) := edX8_go_251.2.2.2.2.2.2.2.2.2.2.2.2.2.2.2.2.2.2.2.2.2.2.2.2.2.2.1
theorem dX8_go_300 : decode cX8_go 300 = .ok (.putfield 195, 3) := edX8_go_251.2.2.2.2.2.2.2.2.2.2.2.2.2.2.2.2.2.2.2.2.2.2.2.2.2.2.2.1
theorem dX8_go_303 : decode cX8_go 303 = .ok (.return_, 1) := edX8_go_251.2.2.2.2.2.2.2.2.2.2.2.2.2.2.2.2.2.2.2.2.2.2.2.2.2.2.2.2.1
theorem edX8_takesKey_0 : (decode cX8_takesKey 0 = .ok (.aload_n 0, 1)) ∧ (decode cX8_takesKey 1 = .ok (.getfield 204, 3)) ∧ (decode cX8_takesKey 4 = .ok (.iconst 1, 1)) ∧ (decode cX8_takesKey 5 = .ok (.if_icmp .eq 5, 3)) ∧ (decode cX8_takesKey 8 = .ok (.iconst 0, 1)) ∧ (decode cX8_takesKey 9 = .ok (.ireturn, 1)) ∧ (decode cX8_takesKey 10 = .ok (.iconst 0, 1)) ∧ (decode cX8_takesKey 11 = .ok (.istore_n 1, 1)) ∧ (decode cX8_takesKey 12 = .ok (.iload_n 1, 1)) ∧ (decode cX8_takesKey 13 = .ok (.iconst 3, 1)) ∧ (decode cX8_takesKey 14 = .ok (.if_icmp .ge 113, 3)) ∧ (decode cX8_takesKey 17 = .ok (.aload_n 0, 1)) ∧ (decode cX8_takesKey 18 = .ok (.getfield 36, 3)) ∧ (decode cX8_takesKey 21 = .ok (.iload_n 1, 1)) ∧ (decode cX8_takesKey 22 = .ok (.iconst 1, 1)) ∧ (decode cX8_takesKey 23 = .ok (.iadd, 1)) ∧ (decode cX8_takesKey 24 = .ok (.iaload, 1)) ∧ (decode cX8_takesKey 25 = .ok (.aload_n 0, 1)) ∧ (decode cX8_takesKey 26 = .ok (.getfield 36, 3)) ∧ (decode cX8_takesKey 29 = .ok (.iload_n 1, 1)) ∧ (decode cX8_takesKey 30 = .ok (.iaload, 1)) ∧ (decode cX8_takesKey 31 = .ok (.isub, 1)) ∧ (decode cX8_takesKey 32 = .ok (.istore_n 2, 1)) ∧ (decode cX8_takesKey 33 = .ok (.iload_n 2, 1)) ∧ (decode cX8_takesKey 34 = .ok (.aload_n 0, 1)) ∧ (decode cX8_takesKey 35 = .ok (.getfield 195, 3)) ∧ (decode cX8_takesKey 38 = .ok (.aload_n 0, 1)) ∧ (decode cX8_takesKey 39 = .ok (.getfield 198, 3)) ∧ (decode cX8_takesKey 42 = .ok (.isub, 1)) ∧ (decode cX8_takesKey 43 = .ok (.if_icmp .ne 7, 3)) ∧ (decode cX8_takesKey 46 = .ok (.iconst 1, 1)) ∧ (decode cX8_takesKey 47 = .ok (.goto 4, 3)) ∧ True := dc_cj [(0, .aload_n 0, 1), (1, .getfield 204, 3), (4, .iconst 1, 1), (5, .if_icmp .eq 5, 3), (8, .iconst 0, 1), (9, .ireturn, 1), (10, .iconst 0, 1), (11, .istore_n 1, 1), (12, .iload_n 1, 1), (13, .iconst 3, 1), (14, .if_icmp .ge 113, 3), (17, .aload_n 0, 1), (18, .getfield 36, 3), (21, .iload_n 1, 1), (22, .iconst 1, 1), (23, .iadd, 1), (24, .iaload, 1), (25, .aload_n 0, 1), (26, .getfield 36, 3), (29, .iload_n 1, 1), (30, .iaload, 1), (31, .isub, 1), (32, .istore_n 2, 1), (33, .iload_n 2, 1), (34, .aload_n 0, 1), (35, .getfield 195, 3), (38, .aload_n 0, 1), (39, .getfield 198, 3), (42, .isub, 1), (43, .if_icmp .ne 7, 3), (46, .iconst 1, 1), (47, .goto 4, 3)] (by decide +kernel)
theorem dX8_takesKey_0 : decode cX8_takesKey 0 = .ok (.aload_n 0, 1) := edX8_takesKey_0.1
theorem dX8_takesKey_1 : decode cX8_takesKey 1 = .ok (.getfield 204, 3) := edX8_takesKey_0.2.1
theorem dX8_takesKey_4 : decode cX8_takesKey 4 = .ok (.iconst 1, 1) := edX8_takesKey_0.2.2.1
theorem dX8_takesKey_5 : decode cX8_takesKey 5 = .ok (.if_icmp .eq 5, 3) := edX8_takesKey_0.2.2.2.1
theorem dX8_takesKey_8 : decode cX8_takesKey 8 = .ok (.iconst 0, 1) := edX8_takesKey_0.2.2.2.2.1
theorem dX8_takesKey_9 : decode cX8_takesKey 9 = .ok (.ireturn, 1) := edX8_takesKey_0.2.2.2.2.2.1
theorem dX8_takesKey_10 : decode cX8_takesKey 10 = .ok (.iconst 0, 1) := edX8_takesKey_0.2.2.2.2.2.2.1
theorem dX8_takesKey_11 : decode cX8_takesKey 11 = .ok (.istore_n 1, 1) := edX8_takesKey_0.2.2.2.2.2.2.2.1
theorem dX8_takesKey_12 : decode cX8_takesKey 12 = .ok (.iload_n 1, 1) := edX8_takesKey_0.2.2.2.2.2.2.2.2.1
theorem dX8_takesKey_13 : decode cX8_takesKey 13 = .ok (.iconst 3, 1) := edX8_takesKey_0.2.2.2.2.2.2.2.2.2.1
theorem dX8_takesKey_14 : decode cX8_takesKey 14 = .ok (.if_icmp .ge 113, 3) := edX8_takesKey_0.2.2.2.2.2.2.2.2.2.2.1
theorem dX8_takesKey_17 : decode cX8_takesKey 17 = .ok (.aload_n 0, 1) := edX8_takesKey_0.2.2.2.2.2.2.2.2.2.2.2.1
theorem dX8_takesKey_18 : decode cX8_takesKey 18 = .ok (.getfield 36, 3) := edX8_takesKey_0.2.2.2.2.2.2.2.2.2.2.2.2.1
theorem dX8_takesKey_21 : decode cX8_takesKey 21 = .ok (.iload_n 1, 1) := edX8_takesKey_0.2.2.2.2.2.2.2.2.2.2.2.2.2.1
theorem dX8_takesKey_22 : decode cX8_takesKey 22 = .ok (.iconst 1, 1) := edX8_takesKey_0.2.2.2.2.2.2.2.2.2.2.2.2.2.2.1
theorem dX8_takesKey_23 : decode cX8_takesKey 23 = .ok (.iadd, 1) := edX8_takesKey_0.2.2.2.2.2.2.2.2.2.2.2.2.2.2.2.1
theorem dX8_takesKey_24 : decode cX8_takesKey 24 = .ok (.iaload, 1) := edX8_takesKey_0.2.2.2.2.2.2.2.2.2.2.2.2.2.2.2.2.1
theorem dX8_takesKey_25 : decode cX8_takesKey 25 = .ok (.aload_n 0, 1) := edX8_takesKey_0.2.2.2.2.2.2.2.2.2.2.2.2.2.2.2.2.2.1
theorem dX8_takesKey_26 : decode cX8_takesKey 26 = .ok (.getfield 36, 3) := edX8_takesKey_0.2.2.2.2.2.2.2.2.2.2.2.2.2.2.2.2.2.2.1
theorem dX8_takesKey_29 : decode cX8_takesKey 29 = .ok (.iload_n 1, 1) := edX8_takesKey_0.2.2.2.2.2.2.2.2.2.2.2.2.2.2.2.2.2.2.2.1
theorem dX8_takesKey_30 : decode cX8_takesKey 30 = .ok (.iaload, 1) := edX8_takesKey_0.2.2.2.2.2.2.2.2.2.2.2.2.2.2.2.2.2.2.2.2.1
theorem dX8_takesKey_31 : decode cX8_takesKey 31 = .ok (.isub, 1) := edX8_takesKey_0.2.2.2.2.2.2.2.2.2.2.2.2.2.2.2.2.2.2.2.2.2.1
theorem dX8_takesKey_32 : decode cX8_takesKey 32 = .ok (.istore_n 2, 1) := edX8_takesKey_0.2.2.2.2.2.2.2.2.2.2.2.2.2.2.2.2.2.2.2.2.2.2.1
theorem dX8_takesKey_33 : decode cX8_takesKey 33 = .ok (.iload_n 2, 1) := edX8_takesKey_0.2.2.2.2.2.2.2.2.2.2.2.2.2.2.2.2.2.2.2.2.2.2.2.1
theorem dX8_takesKey_34 : decode cX8_takesKey 34 = .ok (.aload_n 0, 1) := edX8_takesKey_0.2.2.2.2.2.2.2.2.2.2.2.2.2.2.2.2.2.2.2.2.2.2.2.2.1
theorem dX8_takesKey_35 : decode cX8_takesKey 35 = .ok (.getfield 195, 3) := edX8_takesKey_0.2.2.2.2.2.2.2.2.2.2.2.2.2.2.2.2.2.2.2.2.2.2.2.2.2.1
theorem dX8_takesKey_38 : decode cX8_takesKey 38 = .ok (.aload_n 0, 1) := edX8_takesKey_0.2.2.2.2.2.2.2.2.2.2.2.2.2.2.2.2.2.2.2.2.2.2.2.2.2.2.1
theorem dX8_takesKey_39 : decode cX8_takesKey 39 = .ok (.getfield 198, 3) := edX8_takesKey_0.2.2.2.2.2.2.2.2.2.2.2.2.2.2.2.2.2.2.2.2.2.2.2.2.2.2.2.1
theorem dX8_takesKey_42 : decode cX8_takesKey 42 = .ok (.isub, 1) := edX8_takesKey_0.2.2.2.2.2.2.2.2.2.2.2.2.2.2.2.2.2.2.2.2.2.2.2.2.2.2.2.2.1
theorem dX8_takesKey_43 : decode cX8_takesKey 43 = .ok (.if_icmp .ne 7, 3) := edX8_takesKey_0.2.2.2.2.2.2.2.2.2.2.2.2.2.2.2.2.2.2.2.2.2.2.2.2.2.2.2.2.2.1
theorem dX8_takesKey_46 : decode cX8_takesKey 46 = .ok (.iconst 1, 1) := edX8_takesKey_0.2.2.2.2.2.2.2.2.2.2.2.2.2.2.2.2.2.2.2.2.2.2.2.2.2.2.2.2.2.2.1
theorem dX8_takesKey_47 : decode cX8_takesKey 47 = .ok (.goto 4, 3) := edX8_takesKey_0.2.2.2.2.2.2.2.2.2.2.2.2.2.2.2.2.2.2.2.2.2.2.2.2.2.2.2.2.2.2.2.1
theorem edX8_takesKey_50 : (decode cX8_takesKey 50 = .ok (.iconst 0, 1)) ∧ (decode cX8_takesKey 51 = .ok (.istore_n 3, 1)) ∧ (decode cX8_takesKey 52 = .ok (.iconst 0, 1)) ∧ (decode cX8_takesKey 53 = .ok (.istore 4, 2)) ∧ (decode cX8_takesKey 55 = .ok (.iload 4, 2)) ∧ (decode cX8_takesKey 57 = .ok (.iload_n 2, 1)) ∧ (decode cX8_takesKey 58 = .ok (.if_icmp .ge 48, 3)) ∧ (decode cX8_takesKey 61 = .ok (.iload_n 3, 1)) ∧ (decode cX8_takesKey 62 = .ok (.ifCond .eq 44, 3)) ∧ (decode cX8_takesKey 65 = .ok (.aload_n 0, 1)) ∧ (decode cX8_takesKey 66 = .ok (.getfield 29, 3)) ∧ (decode cX8_takesKey 69 = .ok (.aload_n 0, 1)) ∧ (decode cX8_takesKey 70 = .ok (.getfield 198, 3)) ∧ (decode cX8_takesKey 73 = .ok (.iload 4, 2)) ∧ (decode cX8_takesKey 75 = .ok (.iadd, 1)) ∧ (decode cX8_takesKey 76 = .ok (.iaload, 1)) ∧ (decode cX8_takesKey 77 = .ok (.aload_n 0, 1)) ∧ (decode cX8_takesKey 78 = .ok (.getfield 32, 3)) ∧ (decode cX8_takesKey 81 = .ok (.aload_n 0, 1)) ∧ (decode cX8_takesKey 82 = .ok (.getfield 36, 3)) ∧ (decode cX8_takesKey 85 = .ok (.iload_n 1, 1)) ∧ (decode cX8_takesKey 86 = .ok (.iaload, 1)) ∧ (decode cX8_takesKey 87 = .ok (.iload 4, 2)) ∧ (decode cX8_takesKey 89 = .ok (.iadd, 1)) ∧ (decode cX8_takesKey 90 = .ok (.caload, 1)) ∧ (decode cX8_takesKey 91 = .ok (.if_icmp .ne 7, 3)) ∧ (decode cX8_takesKey 94 = .ok (.iconst 1, 1)) ∧ (decode cX8_takesKey 95 = .ok (.goto 4, 3)) ∧ (decode cX8_takesKey 98 = .ok (.iconst 0, 1)) ∧ (decode cX8_takesKey 99 = .ok (.istore_n 3, 1)) ∧ (decode cX8_takesKey 100 = .ok (.iinc 4 1, 3)) ∧ (decode cX8_takesKey 103 = .ok (.goto (-48), 3)) ∧ True := dc_cj [(50, .iconst 0, 1), (51, .istore_n 3, 1), (52, .iconst 0, 1), (53, .istore 4, 2), (55, .iload 4, 2), (57, .iload_n 2, 1), (58, .if_icmp .ge 48, 3), (61, .iload_n 3, 1), (62, .ifCond .eq 44, 3), (65, .aload_n 0, 1), (66, .getfield 29, 3), (69, .aload_n 0, 1), (70, .getfield 198, 3), (73, .iload 4, 2), (75, .iadd, 1), (76, .iaload, 1), (77, .aload_n 0, 1), (78, .getfield 32, 3), (81, .aload_n 0, 1), (82, .getfield 36, 3), (85, .iload_n 1, 1), (86, .iaload, 1), (87, .iload 4, 2), (89, .iadd, 1), (90, .caload, 1), (91, .if_icmp .ne 7, 3), (94, .iconst 1, 1), (95, .goto 4, 3), (98, .iconst 0, 1), (99, .istore_n 3, 1), (100, .iinc 4 1, 3), (103, .goto (-48), 3)] (by decide +kernel)
theorem dX8_takesKey_50 : decode cX8_takesKey 50 = .ok (.iconst 0, 1) := edX8_takesKey_50.1
theorem dX8_takesKey_51 : decode cX8_takesKey 51 = .ok (.istore_n 3, 1) := edX8_takesKey_50.2.1
theorem dX8_takesKey_52 : decode cX8_takesKey 52 = .ok (.iconst 0, 1) := edX8_takesKey_50.2.2.1
theorem dX8_takesKey_53 : decode cX8_takesKey 53 = .ok (.istore 4, 2) := edX8_takesKey_50.2.2.2.1
theorem dX8_takesKey_55 : decode cX8_takesKey 55 = .ok (.iload 4, 2) := edX8_takesKey_50.2.2.2.2.1
theorem dX8_takesKey_57 : decode cX8_takesKey 57 = .ok (.iload_n 2, 1) := edX8_takesKey_50.2.2.2.2.2.1
theorem dX8_takesKey_58 : decode cX8_takesKey 58 = .ok (.if_icmp .ge 48, 3) := edX8_takesKey_50.2.2.2.2.2.2.1
theorem dX8_takesKey_61 : decode cX8_takesKey 61 = .ok (.iload_n 3, 1) := edX8_takesKey_50.2.2.2.2.2.2.2.1
theorem dX8_takesKey_62 : decode cX8_takesKey 62 = .ok (.ifCond .eq 44, 3) := edX8_takesKey_50.2.2.2.2.2.2.2.2.1
theorem dX8_takesKey_65 : decode cX8_takesKey 65 = .ok (.aload_n 0, 1) := edX8_takesKey_50.2.2.2.2.2.2.2.2.2.1
theorem dX8_takesKey_66 : decode cX8_takesKey 66 = .ok (.getfield 29, 3) := edX8_takesKey_50.2.2.2.2.2.2.2.2.2.2.1
theorem dX8_takesKey_69 : decode cX8_takesKey 69 = .ok (.aload_n 0, 1) := edX8_takesKey_50.2.2.2.2.2.2.2.2.2.2.2.1
theorem dX8_takesKey_70 : decode cX8_takesKey 70 = .ok (.getfield 198, 3) := edX8_takesKey_50.2.2.2.2.2.2.2.2.2.2.2.2.1
theorem dX8_takesKey_73 : decode cX8_takesKey 73 = .ok (.iload 4, 2) := edX8_takesKey_50.2.2.2.2.2.2.2.2.2.2.2.2.2.1
theorem dX8_takesKey_75 : decode cX8_takesKey 75 = .ok (.iadd, 1) := edX8_takesKey_50.2.2.2.2.2.2.2.2.2.2.2.2.2.2.1
theorem dX8_takesKey_76 : decode cX8_takesKey 76 = .ok (.iaload, 1) := edX8_takesKey_50.2.2.2.2.2.2.2.2.2.2.2.2.2.2.2.1
theorem dX8_takesKey_77 : decode cX8_takesKey 77 = .ok (.aload_n 0, 1) := edX8_takesKey_50.2.2.2.2.2.2.2.2.2.2.2.2.2.2.2.2.1
theorem dX8_takesKey_78 : decode cX8_takesKey 78 = .ok (.getfield 32, 3) := edX8_takesKey_50.2.2.2.2.2.2.2.2.2.2.2.2.2.2.2.2.2.1
theorem dX8_takesKey_81 : decode cX8_takesKey 81 = .ok (.aload_n 0, 1) := edX8_takesKey_50.2.2.2.2.2.2.2.2.2.2.2.2.2.2.2.2.2.2.1
theorem dX8_takesKey_82 : decode cX8_takesKey 82 = .ok (.getfield 36, 3) := edX8_takesKey_50.2.2.2.2.2.2.2.2.2.2.2.2.2.2.2.2.2.2.2.1
theorem dX8_takesKey_85 : decode cX8_takesKey 85 = .ok (.iload_n 1, 1) := edX8_takesKey_50.2.2.2.2.2.2.2.2.2.2.2.2.2.2.2.2.2.2.2.2.1
theorem dX8_takesKey_86 : decode cX8_takesKey 86 = .ok (.iaload, 1) := edX8_takesKey_50.2.2.2.2.2.2.2.2.2.2.2.2.2.2.2.2.2.2.2.2.2.1
theorem dX8_takesKey_87 : decode cX8_takesKey 87 = .ok (.iload 4, 2) := edX8_takesKey_50.2.2.2.2.2.2.2.2.2.2.2.2.2.2.2.2.2.2.2.2.2.2.1
theorem dX8_takesKey_89 : decode cX8_takesKey 89 = .ok (.iadd, 1) := edX8_takesKey_50.2.2.2.2.2.2.2.2.2.2.2.2.2.2.2.2.2.2.2.2.2.2.2.1
theorem dX8_takesKey_90 : decode cX8_takesKey 90 = .ok (.caload, 1) := edX8_takesKey_50.2.2.2.2.2.2.2.2.2.2.2.2.2.2.2.2.2.2.2.2.2.2.2.2.1
theorem dX8_takesKey_91 : decode cX8_takesKey 91 = .ok (.if_icmp .ne 7, 3) := edX8_takesKey_50.2.2.2.2.2.2.2.2.2.2.2.2.2.2.2.2.2.2.2.2.2.2.2.2.2.1
theorem dX8_takesKey_94 : decode cX8_takesKey 94 = .ok (.iconst 1, 1) := edX8_takesKey_50.2.2.2.2.2.2.2.2.2.2.2.2.2.2.2.2.2.2.2.2.2.2.2.2.2.2.1
theorem dX8_takesKey_95 : decode cX8_takesKey 95 = .ok (.goto 4, 3) := edX8_takesKey_50.2.2.2.2.2.2.2.2.2.2.2.2.2.2.2.2.2.2.2.2.2.2.2.2.2.2.2.1
theorem dX8_takesKey_98 : decode cX8_takesKey 98 = .ok (.iconst 0, 1) := edX8_takesKey_50.2.2.2.2.2.2.2.2.2.2.2.2.2.2.2.2.2.2.2.2.2.2.2.2.2.2.2.2.1
theorem dX8_takesKey_99 : decode cX8_takesKey 99 = .ok (.istore_n 3, 1) := edX8_takesKey_50.2.2.2.2.2.2.2.2.2.2.2.2.2.2.2.2.2.2.2.2.2.2.2.2.2.2.2.2.2.1
theorem dX8_takesKey_100 : decode cX8_takesKey 100 = .ok (.iinc 4 1, 3) := edX8_takesKey_50.2.2.2.2.2.2.2.2.2.2.2.2.2.2.2.2.2.2.2.2.2.2.2.2.2.2.2.2.2.2.1
theorem dX8_takesKey_103 : decode cX8_takesKey 103 = .ok (.goto (-48), 3) := edX8_takesKey_50.2.2.2.2.2.2.2.2.2.2.2.2.2.2.2.2.2.2.2.2.2.2.2.2.2.2.2.2.2.2.2.1
theorem edX8_takesKey_106 : (decode cX8_takesKey 106 = .ok (.iload_n 3, 1)) ∧ (decode cX8_takesKey 107 = .ok (.ifCond .eq 14, 3)) ∧ (decode cX8_takesKey 110 = .ok (.aload_n 0, 1)) ∧ (decode cX8_takesKey 111 = .ok (.iload_n 1, 1)) ∧ (decode cX8_takesKey 112 = .ok (.putfield 216, 3)) ∧ (decode cX8_takesKey 115 = .ok (.aload_n 0, 1)) ∧ (decode cX8_takesKey 116 = .ok (.invokevirtual 219, 3)) ∧ (decode cX8_takesKey 119 = .ok (.iconst 1, 1)) ∧ (decode cX8_takesKey 120 = .ok (.ireturn, 1)) ∧ (decode cX8_takesKey 121 = .ok (.iinc 1 1, 3)) ∧ (decode cX8_takesKey 124 = .ok (.goto (-112), 3)) ∧ (decode cX8_takesKey 127 = .ok (.iconst 0, 1)) ∧ (decode cX8_takesKey 128 = .ok (.ireturn, 1)) ∧ True := dc_cj [(106, .iload_n 3, 1), (107, .ifCond .eq 14, 3), (110, .aload_n 0, 1), (111, .iload_n 1, 1), (112, .putfield 216, 3), (115, .aload_n 0, 1), (116, .invokevirtual 219, 3), (119, .iconst 1, 1), (120, .ireturn, 1), (121, .iinc 1 1, 3), (124, .goto (-112), 3), (127, .iconst 0, 1), (128, .ireturn, 1)] (by decide +kernel)
theorem dX8_takesKey_106 : decode cX8_takesKey 106 = .ok (.iload_n 3, 1) := edX8_takesKey_106.1
theorem dX8_takesKey_107 : decode cX8_takesKey 107 = .ok (.ifCond .eq 14, 3) := edX8_takesKey_106.2.1
theorem dX8_takesKey_110 : decode cX8_takesKey 110 = .ok (.aload_n 0, 1) := edX8_takesKey_106.2.2.1
theorem dX8_takesKey_111 : decode cX8_takesKey 111 = .ok (.iload_n 1, 1) := edX8_takesKey_106.2.2.2.1
theorem dX8_takesKey_112 : decode cX8_takesKey 112 = .ok (.putfield 216, 3) := edX8_takesKey_106.2.2.2.2.1
theorem dX8_takesKey_115 : decode cX8_takesKey 115 = .ok (.aload_n 0, 1) := edX8_takesKey_106.2.2.2.2.2.1
theorem dX8_takesKey_116 : decode cX8_takesKey 116 = .ok (.invokevirtual 219, 3) := edX8_takesKey_106.2.2.2.2.2.2.1
theorem dX8_takesKey_119 : decode cX8_takesKey 119 = .ok (.iconst 1, 1) := edX8_takesKey_106.2.2.2.2.2.2.2.1
theorem dX8_takesKey_120 : decode cX8_takesKey 120 = .ok (.ireturn, 1) := edX8_takesKey_106.2.2.2.2.2.2.2.2.1
theorem dX8_takesKey_121 : decode cX8_takesKey 121 = .ok (.iinc 1 1, 3) := edX8_takesKey_106.2.2.2.2.2.2.2.2.2.1
theorem dX8_takesKey_124 : decode cX8_takesKey 124 = .ok (.goto (-112), 3) := edX8_takesKey_106.2.2.2.2.2.2.2.2.2.2.1
theorem dX8_takesKey_127 : decode cX8_takesKey 127 = .ok (.iconst 0, 1) := edX8_takesKey_106.2.2.2.2.2.2.2.2.2.2.2.1
theorem dX8_takesKey_128 : decode cX8_takesKey 128 = .ok (.ireturn, 1) := edX8_takesKey_106.2.2.2.2.2.2.2.2.2.2.2.2.1
theorem edX8_nameOf_0 : (decode cX8_nameOf 0 = .ok (.aload_n 0, 1)) ∧ (decode cX8_nameOf 1 = .ok (.getfield 216, 3)) ∧ (decode cX8_nameOf 4 = .ok (.lookupswitch 82 #[(0, 28), (1, 60)], 28)) ∧ (decode cX8_nameOf 32 = .ok (.iload_n 1, 1)) ∧ (decode cX8_nameOf 33 = .ok (.bipush 112, 2)) ∧ (decode cX8_nameOf 35 = .ok (.if_icmp .ne 7, 3)) ∧ (decode cX8_nameOf 38 = .ok (.iconst 0, 1)) ∧ (decode cX8_nameOf 39 = .ok (.goto 24, 3)) ∧ (decode cX8_nameOf 42 = .ok (.iload_n 1, 1)) ∧ (decode cX8_nameOf 43 = .ok (.bipush 104, 2)) ∧ (decode cX8_nameOf 45 = .ok (.if_icmp .ne 7, 3)) ∧ (decode cX8_nameOf 48 = .ok (.iconst 1, 1)) ∧ (decode cX8_nameOf 49 = .ok (.goto 14, 3)) ∧ (decode cX8_nameOf 52 = .ok (.iload_n 1, 1)) ∧ (decode cX8_nameOf 53 = .ok (.bipush 115, 2)) ∧ (decode cX8_nameOf 55 = .ok (.if_icmp .ne 7, 3)) ∧ (decode cX8_nameOf 58 = .ok (.iconst 2, 1)) ∧ (decode cX8_nameOf 59 = .ok (.goto 4, 3)) ∧ (decode cX8_nameOf 62 = .ok (.iconst (-1), 1)) ∧ (decode cX8_nameOf 63 = .ok (.ireturn, 1)) ∧ (decode cX8_nameOf 64 = .ok (.iload_n 1, 1)) ∧ (decode cX8_nameOf 65 = .ok (.bipush 108, 2)) ∧ (decode cX8_nameOf 67 = .ok (.if_icmp .ne 7, 3)) ∧ (decode cX8_nameOf 70 = .ok (.iconst 0, 1)) ∧ (decode cX8_nameOf 71 = .ok (.goto 14, 3)) ∧ (decode cX8_nameOf 74 = .ok (.iload_n 1, 1)) ∧ (decode cX8_nameOf 75 = .ok (.bipush 112, 2)) ∧ (decode cX8_nameOf 77 = .ok (.if_icmp .ne 7, 3)) ∧ (decode cX8_nameOf 80 = .ok (.iconst 1, 1)) ∧ (decode cX8_nameOf 81 = .ok (.goto 4, 3)) ∧ (decode cX8_nameOf 84 = .ok (.iconst (-1), 1)) ∧ (decode cX8_nameOf 85 = .ok (.ireturn, 1)) ∧ True := dc_cj [(0, .aload_n 0, 1), (1, .getfield 216, 3), (4, .lookupswitch 82 #[(0, 28), (1, 60)], 28), (32, .iload_n 1, 1), (33, .bipush 112, 2), (35, .if_icmp .ne 7, 3), (38, .iconst 0, 1), (39, .goto 24, 3), (42, .iload_n 1, 1), (43, .bipush 104, 2), (45, .if_icmp .ne 7, 3), (48, .iconst 1, 1), (49, .goto 14, 3), (52, .iload_n 1, 1), (53, .bipush 115, 2), (55, .if_icmp .ne 7, 3), (58, .iconst 2, 1), (59, .goto 4, 3), (62, .iconst (-1), 1), (63, .ireturn, 1), (64, .iload_n 1, 1), (65, .bipush 108, 2), (67, .if_icmp .ne 7, 3), (70, .iconst 0, 1), (71, .goto 14, 3), (74, .iload_n 1, 1), (75, .bipush 112, 2), (77, .if_icmp .ne 7, 3), (80, .iconst 1, 1), (81, .goto 4, 3), (84, .iconst (-1), 1), (85, .ireturn, 1)] (by decide +kernel)
theorem dX8_nameOf_0 : decode cX8_nameOf 0 = .ok (.aload_n 0, 1) := edX8_nameOf_0.1
theorem dX8_nameOf_1 : decode cX8_nameOf 1 = .ok (.getfield 216, 3) := edX8_nameOf_0.2.1
theorem dX8_nameOf_4 : decode cX8_nameOf 4 = .ok (.lookupswitch 82 #[(0, 28), (1, 60)], 28) := edX8_nameOf_0.2.2.1
theorem dX8_nameOf_32 : decode cX8_nameOf 32 = .ok (.iload_n 1, 1) := edX8_nameOf_0.2.2.2.1
theorem dX8_nameOf_33 : decode cX8_nameOf 33 = .ok (.bipush 112, 2) := edX8_nameOf_0.2.2.2.2.1
theorem dX8_nameOf_35 : decode cX8_nameOf 35 = .ok (.if_icmp .ne 7, 3) := edX8_nameOf_0.2.2.2.2.2.1
theorem dX8_nameOf_38 : decode cX8_nameOf 38 = .ok (.iconst 0, 1) := edX8_nameOf_0.2.2.2.2.2.2.1
theorem dX8_nameOf_39 : decode cX8_nameOf 39 = .ok (.goto 24, 3) := edX8_nameOf_0.2.2.2.2.2.2.2.1
theorem dX8_nameOf_42 : decode cX8_nameOf 42 = .ok (.iload_n 1, 1) := edX8_nameOf_0.2.2.2.2.2.2.2.2.1
theorem dX8_nameOf_43 : decode cX8_nameOf 43 = .ok (.bipush 104, 2) := edX8_nameOf_0.2.2.2.2.2.2.2.2.2.1
theorem dX8_nameOf_45 : decode cX8_nameOf 45 = .ok (.if_icmp .ne 7, 3) := edX8_nameOf_0.2.2.2.2.2.2.2.2.2.2.1
theorem dX8_nameOf_48 : decode cX8_nameOf 48 = .ok (.iconst 1, 1) := edX8_nameOf_0.2.2.2.2.2.2.2.2.2.2.2.1
theorem dX8_nameOf_49 : decode cX8_nameOf 49 = .ok (.goto 14, 3) := edX8_nameOf_0.2.2.2.2.2.2.2.2.2.2.2.2.1
theorem dX8_nameOf_52 : decode cX8_nameOf 52 = .ok (.iload_n 1, 1) := edX8_nameOf_0.2.2.2.2.2.2.2.2.2.2.2.2.2.1
theorem dX8_nameOf_53 : decode cX8_nameOf 53 = .ok (.bipush 115, 2) := edX8_nameOf_0.2.2.2.2.2.2.2.2.2.2.2.2.2.2.1
theorem dX8_nameOf_55 : decode cX8_nameOf 55 = .ok (.if_icmp .ne 7, 3) := edX8_nameOf_0.2.2.2.2.2.2.2.2.2.2.2.2.2.2.2.1
theorem dX8_nameOf_58 : decode cX8_nameOf 58 = .ok (.iconst 2, 1) := edX8_nameOf_0.2.2.2.2.2.2.2.2.2.2.2.2.2.2.2.2.1
theorem dX8_nameOf_59 : decode cX8_nameOf 59 = .ok (.goto 4, 3) := edX8_nameOf_0.2.2.2.2.2.2.2.2.2.2.2.2.2.2.2.2.2.1
theorem dX8_nameOf_62 : decode cX8_nameOf 62 = .ok (.iconst (-1), 1) := edX8_nameOf_0.2.2.2.2.2.2.2.2.2.2.2.2.2.2.2.2.2.2.1
theorem dX8_nameOf_63 : decode cX8_nameOf 63 = .ok (.ireturn, 1) := edX8_nameOf_0.2.2.2.2.2.2.2.2.2.2.2.2.2.2.2.2.2.2.2.1
theorem dX8_nameOf_64 : decode cX8_nameOf 64 = .ok (.iload_n 1, 1) := edX8_nameOf_0.2.2.2.2.2.2.2.2.2.2.2.2.2.2.2.2.2.2.2.2.1
theorem dX8_nameOf_65 : decode cX8_nameOf 65 = .ok (.bipush 108, 2) := edX8_nameOf_0.2.2.2.2.2.2.2.2.2.2.2.2.2.2.2.2.2.2.2.2.2.1
theorem dX8_nameOf_67 : decode cX8_nameOf 67 = .ok (.if_icmp .ne 7, 3) := edX8_nameOf_0.2.2.2.2.2.2.2.2.2.2.2.2.2.2.2.2.2.2.2.2.2.2.1
theorem dX8_nameOf_70 : decode cX8_nameOf 70 = .ok (.iconst 0, 1) := edX8_nameOf_0.2.2.2.2.2.2.2.2.2.2.2.2.2.2.2.2.2.2.2.2.2.2.2.1
theorem dX8_nameOf_71 : decode cX8_nameOf 71 = .ok (.goto 14, 3) := edX8_nameOf_0.2.2.2.2.2.2.2.2.2.2.2.2.2.2.2.2.2.2.2.2.2.2.2.2.1
theorem dX8_nameOf_74 : decode cX8_nameOf 74 = .ok (.iload_n 1, 1) := edX8_nameOf_0.2.2.2.2.2.2.2.2.2.2.2.2.2.2.2.2.2.2.2.2.2.2.2.2.2.1
theorem dX8_nameOf_75 : decode cX8_nameOf 75 = .ok (.bipush 112, 2) := edX8_nameOf_0.2.2.2.2.2.2.2.2.2.2.2.2.2.2.2.2.2.2.2.2.2.2.2.2.2.2.1
theorem dX8_nameOf_77 : decode cX8_nameOf 77 = .ok (.if_icmp .ne 7, 3) := edX8_nameOf_0.2.2.2.2.2.2.2.2.2.2.2.2.2.2.2.2.2.2.2.2.2.2.2.2.2.2.2.1
theorem dX8_nameOf_80 : decode cX8_nameOf 80 = .ok (.iconst 1, 1) := edX8_nameOf_0.2.2.2.2.2.2.2.2.2.2.2.2.2.2.2.2.2.2.2.2.2.2.2.2.2.2.2.2.1
theorem dX8_nameOf_81 : decode cX8_nameOf 81 = .ok (.goto 4, 3) := edX8_nameOf_0.2.2.2.2.2.2.2.2.2.2.2.2.2.2.2.2.2.2.2.2.2.2.2.2.2.2.2.2.2.1
theorem dX8_nameOf_84 : decode cX8_nameOf 84 = .ok (.iconst (-1), 1) := edX8_nameOf_0.2.2.2.2.2.2.2.2.2.2.2.2.2.2.2.2.2.2.2.2.2.2.2.2.2.2.2.2.2.2.1
theorem dX8_nameOf_85 : decode cX8_nameOf 85 = .ok (.ireturn, 1) := edX8_nameOf_0.2.2.2.2.2.2.2.2.2.2.2.2.2.2.2.2.2.2.2.2.2.2.2.2.2.2.2.2.2.2.2.1
theorem edX8_nameOf_86 : (decode cX8_nameOf 86 = .ok (.iload_n 1, 1)) ∧ (decode cX8_nameOf 87 = .ok (.bipush 121, 2)) ∧ (decode cX8_nameOf 89 = .ok (.if_icmp .ne 7, 3)) ∧ (decode cX8_nameOf 92 = .ok (.iconst 0, 1)) ∧ (decode cX8_nameOf 93 = .ok (.goto 14, 3)) ∧ (decode cX8_nameOf 96 = .ok (.iload_n 1, 1)) ∧ (decode cX8_nameOf 97 = .ok (.bipush 110, 2)) ∧ (decode cX8_nameOf 99 = .ok (.if_icmp .ne 7, 3)) ∧ (decode cX8_nameOf 102 = .ok (.iconst 1, 1)) ∧ (decode cX8_nameOf 103 = .ok (.goto 4, 3)) ∧ (decode cX8_nameOf 106 = .ok (.iconst (-1), 1)) ∧ (decode cX8_nameOf 107 = .ok (.ireturn, 1)) ∧ True := dc_cj [(86, .iload_n 1, 1), (87, .bipush 121, 2), (89, .if_icmp .ne 7, 3), (92, .iconst 0, 1), (93, .goto 14, 3), (96, .iload_n 1, 1), (97, .bipush 110, 2), (99, .if_icmp .ne 7, 3), (102, .iconst 1, 1), (103, .goto 4, 3), (106, .iconst (-1), 1), (107, .ireturn, 1)] (by decide +kernel)
theorem dX8_nameOf_86 : decode cX8_nameOf 86 = .ok (.iload_n 1, 1) := edX8_nameOf_86.1
theorem dX8_nameOf_87 : decode cX8_nameOf 87 = .ok (.bipush 121, 2) := edX8_nameOf_86.2.1
theorem dX8_nameOf_89 : decode cX8_nameOf 89 = .ok (.if_icmp .ne 7, 3) := edX8_nameOf_86.2.2.1
theorem dX8_nameOf_92 : decode cX8_nameOf 92 = .ok (.iconst 0, 1) := edX8_nameOf_86.2.2.2.1
theorem dX8_nameOf_93 : decode cX8_nameOf 93 = .ok (.goto 14, 3) := edX8_nameOf_86.2.2.2.2.1
theorem dX8_nameOf_96 : decode cX8_nameOf 96 = .ok (.iload_n 1, 1) := edX8_nameOf_86.2.2.2.2.2.1
theorem dX8_nameOf_97 : decode cX8_nameOf 97 = .ok (.bipush 110, 2) := edX8_nameOf_86.2.2.2.2.2.2.1
theorem dX8_nameOf_99 : decode cX8_nameOf 99 = .ok (.if_icmp .ne 7, 3) := edX8_nameOf_86.2.2.2.2.2.2.2.1
theorem dX8_nameOf_102 : decode cX8_nameOf 102 = .ok (.iconst 1, 1) := edX8_nameOf_86.2.2.2.2.2.2.2.2.1
theorem dX8_nameOf_103 : decode cX8_nameOf 103 = .ok (.goto 4, 3) := edX8_nameOf_86.2.2.2.2.2.2.2.2.2.1
theorem dX8_nameOf_106 : decode cX8_nameOf 106 = .ok (.iconst (-1), 1) := edX8_nameOf_86.2.2.2.2.2.2.2.2.2.2.1
theorem dX8_nameOf_107 : decode cX8_nameOf 107 = .ok (.ireturn, 1) := edX8_nameOf_86.2.2.2.2.2.2.2.2.2.2.2.1
theorem edX8_rank_0 : (decode cX8_rank 0 = .ok (.iload_n 0, 1)) ∧ (decode cX8_rank 1 = .ok (.iconst (-1), 1)) ∧ (decode cX8_rank 2 = .ok (.if_icmp .ne 7, 3)) ∧ (decode cX8_rank 5 = .ok (.iconst 1, 1)) ∧ (decode cX8_rank 6 = .ok (.goto 45, 3)) ∧ (decode cX8_rank 9 = .ok (.iload_n 0, 1)) ∧ (decode cX8_rank 10 = .ok (.bipush (-2), 2)) ∧ (decode cX8_rank 12 = .ok (.if_icmp .ne 7, 3)) ∧ (decode cX8_rank 15 = .ok (.iconst 2, 1)) ∧ (decode cX8_rank 16 = .ok (.goto 35, 3)) ∧ (decode cX8_rank 19 = .ok (.iload_n 0, 1)) ∧ (decode cX8_rank 20 = .ok (.bipush (-5), 2)) ∧ (decode cX8_rank 22 = .ok (.if_icmp .lt 7, 3)) ∧ (decode cX8_rank 25 = .ok (.iconst 3, 1)) ∧ (decode cX8_rank 26 = .ok (.goto 25, 3)) ∧ (decode cX8_rank 29 = .ok (.iload_n 0, 1)) ∧ (decode cX8_rank 30 = .ok (.bipush (-7), 2)) ∧ (decode cX8_rank 32 = .ok (.if_icmp .lt 7, 3)) ∧ (decode cX8_rank 35 = .ok (.iconst 4, 1)) ∧ (decode cX8_rank 36 = .ok (.goto 15, 3)) ∧ (decode cX8_rank 39 = .ok (.iload_n 0, 1)) ∧ (decode cX8_rank 40 = .ok (.bipush (-9), 2)) ∧ (decode cX8_rank 42 = .ok (.if_icmp .lt 7, 3)) ∧ (decode cX8_rank 45 = .ok (.iconst 5, 1)) ∧ (decode cX8_rank 46 = .ok (.goto 5, 3)) ∧ (decode cX8_rank 49 = .ok (.bipush 6, 2)) ∧ (decode cX8_rank 51 = .ok (.ireturn, 1)) ∧ True := dc_cj [(0, .iload_n 0, 1), (1, .iconst (-1), 1), (2, .if_icmp .ne 7, 3), (5, .iconst 1, 1), (6, .goto 45, 3), (9, .iload_n 0, 1), (10, .bipush (-2), 2), (12, .if_icmp .ne 7, 3), (15, .iconst 2, 1), (16, .goto 35, 3), (19, .iload_n 0, 1), (20, .bipush (-5), 2), (22, .if_icmp .lt 7, 3), (25, .iconst 3, 1), (26, .goto 25, 3), (29, .iload_n 0, 1), (30, .bipush (-7), 2), (32, .if_icmp .lt 7, 3), (35, .iconst 4, 1), (36, .goto 15, 3), (39, .iload_n 0, 1), (40, .bipush (-9), 2), (42, .if_icmp .lt 7, 3), (45, .iconst 5, 1), (46, .goto 5, 3), (49, .bipush 6, 2), (51, .ireturn, 1)] (by decide +kernel)
theorem dX8_rank_0 : decode cX8_rank 0 = .ok (.iload_n 0, 1) := edX8_rank_0.1
theorem dX8_rank_1 : decode cX8_rank 1 = .ok (.iconst (-1), 1) := edX8_rank_0.2.1
theorem dX8_rank_2 : decode cX8_rank 2 = .ok (.if_icmp .ne 7, 3) := edX8_rank_0.2.2.1
theorem dX8_rank_5 : decode cX8_rank 5 = .ok (.iconst 1, 1) := edX8_rank_0.2.2.2.1
theorem dX8_rank_6 : decode cX8_rank 6 = .ok (.goto 45, 3) := edX8_rank_0.2.2.2.2.1
theorem dX8_rank_9 : decode cX8_rank 9 = .ok (.iload_n 0, 1) := edX8_rank_0.2.2.2.2.2.1
theorem dX8_rank_10 : decode cX8_rank 10 = .ok (.bipush (-2), 2) := edX8_rank_0.2.2.2.2.2.2.1
theorem dX8_rank_12 : decode cX8_rank 12 = .ok (.if_icmp .ne 7, 3) := edX8_rank_0.2.2.2.2.2.2.2.1
theorem dX8_rank_15 : decode cX8_rank 15 = .ok (.iconst 2, 1) := edX8_rank_0.2.2.2.2.2.2.2.2.1
theorem dX8_rank_16 : decode cX8_rank 16 = .ok (.goto 35, 3) := edX8_rank_0.2.2.2.2.2.2.2.2.2.1
theorem dX8_rank_19 : decode cX8_rank 19 = .ok (.iload_n 0, 1) := edX8_rank_0.2.2.2.2.2.2.2.2.2.2.1
theorem dX8_rank_20 : decode cX8_rank 20 = .ok (.bipush (-5), 2) := edX8_rank_0.2.2.2.2.2.2.2.2.2.2.2.1
theorem dX8_rank_22 : decode cX8_rank 22 = .ok (.if_icmp .lt 7, 3) := edX8_rank_0.2.2.2.2.2.2.2.2.2.2.2.2.1
theorem dX8_rank_25 : decode cX8_rank 25 = .ok (.iconst 3, 1) := edX8_rank_0.2.2.2.2.2.2.2.2.2.2.2.2.2.1
theorem dX8_rank_26 : decode cX8_rank 26 = .ok (.goto 25, 3) := edX8_rank_0.2.2.2.2.2.2.2.2.2.2.2.2.2.2.1
theorem dX8_rank_29 : decode cX8_rank 29 = .ok (.iload_n 0, 1) := edX8_rank_0.2.2.2.2.2.2.2.2.2.2.2.2.2.2.2.1
theorem dX8_rank_30 : decode cX8_rank 30 = .ok (.bipush (-7), 2) := edX8_rank_0.2.2.2.2.2.2.2.2.2.2.2.2.2.2.2.2.1
theorem dX8_rank_32 : decode cX8_rank 32 = .ok (.if_icmp .lt 7, 3) := edX8_rank_0.2.2.2.2.2.2.2.2.2.2.2.2.2.2.2.2.2.1
theorem dX8_rank_35 : decode cX8_rank 35 = .ok (.iconst 4, 1) := edX8_rank_0.2.2.2.2.2.2.2.2.2.2.2.2.2.2.2.2.2.2.1
theorem dX8_rank_36 : decode cX8_rank 36 = .ok (.goto 15, 3) := edX8_rank_0.2.2.2.2.2.2.2.2.2.2.2.2.2.2.2.2.2.2.2.1
theorem dX8_rank_39 : decode cX8_rank 39 = .ok (.iload_n 0, 1) := edX8_rank_0.2.2.2.2.2.2.2.2.2.2.2.2.2.2.2.2.2.2.2.2.1
theorem dX8_rank_40 : decode cX8_rank 40 = .ok (.bipush (-9), 2) := edX8_rank_0.2.2.2.2.2.2.2.2.2.2.2.2.2.2.2.2.2.2.2.2.2.1
theorem dX8_rank_42 : decode cX8_rank 42 = .ok (.if_icmp .lt 7, 3) := edX8_rank_0.2.2.2.2.2.2.2.2.2.2.2.2.2.2.2.2.2.2.2.2.2.2.1
theorem dX8_rank_45 : decode cX8_rank 45 = .ok (.iconst 5, 1) := edX8_rank_0.2.2.2.2.2.2.2.2.2.2.2.2.2.2.2.2.2.2.2.2.2.2.2.1
theorem dX8_rank_46 : decode cX8_rank 46 = .ok (.goto 5, 3) := edX8_rank_0.2.2.2.2.2.2.2.2.2.2.2.2.2.2.2.2.2.2.2.2.2.2.2.2.1
theorem dX8_rank_49 : decode cX8_rank 49 = .ok (.bipush 6, 2) := edX8_rank_0.2.2.2.2.2.2.2.2.2.2.2.2.2.2.2.2.2.2.2.2.2.2.2.2.2.1
theorem dX8_rank_51 : decode cX8_rank 51 = .ok (.ireturn, 1) := edX8_rank_0.2.2.2.2.2.2.2.2.2.2.2.2.2.2.2.2.2.2.2.2.2.2.2.2.2.2.1
theorem edX8_settle_0 : (decode cX8_settle 0 = .ok (.aload_n 0, 1)) ∧ (decode cX8_settle 1 = .ok (.getfield 222, 3)) ∧ (decode cX8_settle 4 = .ok (.ifCond .le 78, 3)) ∧ (decode cX8_settle 7 = .ok (.aload_n 0, 1)) ∧ (decode cX8_settle 8 = .ok (.getfield 42, 3)) ∧ (decode cX8_settle 11 = .ok (.aload_n 0, 1)) ∧ (decode cX8_settle 12 = .ok (.getfield 222, 3)) ∧ (decode cX8_settle 15 = .ok (.iconst 1, 1)) ∧ (decode cX8_settle 16 = .ok (.isub, 1)) ∧ (decode cX8_settle 17 = .ok (.iaload, 1)) ∧ (decode cX8_settle 18 = .ok (.bipush (-11), 2)) ∧ (decode cX8_settle 20 = .ok (.if_icmp .eq 62, 3)) ∧ (decode cX8_settle 23 = .ok (.aload_n 0, 1)) ∧ (decode cX8_settle 24 = .ok (.getfield 42, 3)) ∧ (decode cX8_settle 27 = .ok (.aload_n 0, 1)) ∧ (decode cX8_settle 28 = .ok (.getfield 222, 3)) ∧ (decode cX8_settle 31 = .ok (.iconst 1, 1)) ∧ (decode cX8_settle 32 = .ok (.isub, 1)) ∧ (decode cX8_settle 33 = .ok (.iaload, 1)) ∧ (decode cX8_settle 34 = .ok (.invokestatic 225, 3)) ∧ (decode cX8_settle 37 = .ok (.iload_n 1, 1)) ∧ (decode cX8_settle 38 = .ok (.if_icmp .lt 44, 3)) ∧ (decode cX8_settle 41 = .ok (.aload_n 0, 1)) ∧ (decode cX8_settle 42 = .ok (.dup, 1)) ∧ (decode cX8_settle 43 = .ok (.getfield 222, 3)) ∧ (decode cX8_settle 46 = .ok (.iconst 1, 1)) ∧ (decode cX8_settle 47 = .ok (.isub, 1)) ∧ (decode cX8_settle 48 = .ok (.putfield 222, 3)) ∧ (decode cX8_settle 51 = .ok (.aload_n 0, 1)) ∧ (decode cX8_settle 52 = .ok (.getfield 39, 3)) ∧ (decode cX8_settle 55 = .ok (.aload_n 0, 1)) ∧ (decode cX8_settle 56 = .ok (.getfield 228, 3)) ∧ True := dc_cj [(0, .aload_n 0, 1), (1, .getfield 222, 3), (4, .ifCond .le 78, 3), (7, .aload_n 0, 1), (8, .getfield 42, 3), (11, .aload_n 0, 1), (12, .getfield 222, 3), (15, .iconst 1, 1), (16, .isub, 1), (17, .iaload, 1), (18, .bipush (-11), 2), (20, .if_icmp .eq 62, 3), (23, .aload_n 0, 1), (24, .getfield 42, 3), (27, .aload_n 0, 1), (28, .getfield 222, 3), (31, .iconst 1, 1), (32, .isub, 1), (33, .iaload, 1), (34, .invokestatic 225, 3), (37, .iload_n 1, 1), (38, .if_icmp .lt 44, 3), (41, .aload_n 0, 1), (42, .dup, 1), (43, .getfield 222, 3), (46, .iconst 1, 1), (47, .isub, 1), (48, .putfield 222, 3), (51, .aload_n 0, 1), (52, .getfield 39, 3), (55, .aload_n 0, 1), (56, .getfield 228, 3)] (by decide +kernel)
theorem dX8_settle_0 : decode cX8_settle 0 = .ok (.aload_n 0, 1) := edX8_settle_0.1
theorem dX8_settle_1 : decode cX8_settle 1 = .ok (.getfield 222, 3) := edX8_settle_0.2.1
theorem dX8_settle_4 : decode cX8_settle 4 = .ok (.ifCond .le 78, 3) := edX8_settle_0.2.2.1
theorem dX8_settle_7 : decode cX8_settle 7 = .ok (.aload_n 0, 1) := edX8_settle_0.2.2.2.1
theorem dX8_settle_8 : decode cX8_settle 8 = .ok (.getfield 42, 3) := edX8_settle_0.2.2.2.2.1
theorem dX8_settle_11 : decode cX8_settle 11 = .ok (.aload_n 0, 1) := edX8_settle_0.2.2.2.2.2.1
theorem dX8_settle_12 : decode cX8_settle 12 = .ok (.getfield 222, 3) := edX8_settle_0.2.2.2.2.2.2.1
theorem dX8_settle_15 : decode cX8_settle 15 = .ok (.iconst 1, 1) := edX8_settle_0.2.2.2.2.2.2.2.1
theorem dX8_settle_16 : decode cX8_settle 16 = .ok (.isub, 1) := edX8_settle_0.2.2.2.2.2.2.2.2.1
theorem dX8_settle_17 : decode cX8_settle 17 = .ok (.iaload, 1) := edX8_settle_0.2.2.2.2.2.2.2.2.2.1
theorem dX8_settle_18 : decode cX8_settle 18 = .ok (.bipush (-11), 2) := edX8_settle_0.2.2.2.2.2.2.2.2.2.2.1
theorem dX8_settle_20 : decode cX8_settle 20 = .ok (.if_icmp .eq 62, 3) := edX8_settle_0.2.2.2.2.2.2.2.2.2.2.2.1
theorem dX8_settle_23 : decode cX8_settle 23 = .ok (.aload_n 0, 1) := edX8_settle_0.2.2.2.2.2.2.2.2.2.2.2.2.1
theorem dX8_settle_24 : decode cX8_settle 24 = .ok (.getfield 42, 3) := edX8_settle_0.2.2.2.2.2.2.2.2.2.2.2.2.2.1
theorem dX8_settle_27 : decode cX8_settle 27 = .ok (.aload_n 0, 1) := edX8_settle_0.2.2.2.2.2.2.2.2.2.2.2.2.2.2.1
theorem dX8_settle_28 : decode cX8_settle 28 = .ok (.getfield 222, 3) := edX8_settle_0.2.2.2.2.2.2.2.2.2.2.2.2.2.2.2.1
theorem dX8_settle_31 : decode cX8_settle 31 = .ok (.iconst 1, 1) := edX8_settle_0.2.2.2.2.2.2.2.2.2.2.2.2.2.2.2.2.1
theorem dX8_settle_32 : decode cX8_settle 32 = .ok (.isub, 1) := edX8_settle_0.2.2.2.2.2.2.2.2.2.2.2.2.2.2.2.2.2.1
theorem dX8_settle_33 : decode cX8_settle 33 = .ok (.iaload, 1) := edX8_settle_0.2.2.2.2.2.2.2.2.2.2.2.2.2.2.2.2.2.2.1
theorem dX8_settle_34 : decode cX8_settle 34 = .ok (.invokestatic 225, 3) := edX8_settle_0.2.2.2.2.2.2.2.2.2.2.2.2.2.2.2.2.2.2.2.1
theorem dX8_settle_37 : decode cX8_settle 37 = .ok (.iload_n 1, 1) := edX8_settle_0.2.2.2.2.2.2.2.2.2.2.2.2.2.2.2.2.2.2.2.2.1
theorem dX8_settle_38 : decode cX8_settle 38 = .ok (.if_icmp .lt 44, 3) := edX8_settle_0.2.2.2.2.2.2.2.2.2.2.2.2.2.2.2.2.2.2.2.2.2.1
theorem dX8_settle_41 : decode cX8_settle 41 = .ok (.aload_n 0, 1) := edX8_settle_0.2.2.2.2.2.2.2.2.2.2.2.2.2.2.2.2.2.2.2.2.2.2.1
theorem dX8_settle_42 : decode cX8_settle 42 = .ok (.dup, 1) := edX8_settle_0.2.2.2.2.2.2.2.2.2.2.2.2.2.2.2.2.2.2.2.2.2.2.2.1
theorem dX8_settle_43 : decode cX8_settle 43 = .ok (.getfield 222, 3) := edX8_settle_0.2.2.2.2.2.2.2.2.2.2.2.2.2.2.2.2.2.2.2.2.2.2.2.2.1
theorem dX8_settle_46 : decode cX8_settle 46 = .ok (.iconst 1, 1) := edX8_settle_0.2.2.2.2.2.2.2.2.2.2.2.2.2.2.2.2.2.2.2.2.2.2.2.2.2.1
theorem dX8_settle_47 : decode cX8_settle 47 = .ok (.isub, 1) := edX8_settle_0.2.2.2.2.2.2.2.2.2.2.2.2.2.2.2.2.2.2.2.2.2.2.2.2.2.2.1
theorem dX8_settle_48 : decode cX8_settle 48 = .ok (.putfield 222, 3) := edX8_settle_0.2.2.2.2.2.2.2.2.2.2.2.2.2.2.2.2.2.2.2.2.2.2.2.2.2.2.2.1
theorem dX8_settle_51 : decode cX8_settle 51 = .ok (.aload_n 0, 1) := edX8_settle_0.2.2.2.2.2.2.2.2.2.2.2.2.2.2.2.2.2.2.2.2.2.2.2.2.2.2.2.2.1
theorem dX8_settle_52 : decode cX8_settle 52 = .ok (.getfield 39, 3) := edX8_settle_0.2.2.2.2.2.2.2.2.2.2.2.2.2.2.2.2.2.2.2.2.2.2.2.2.2.2.2.2.2.1
theorem dX8_settle_55 : decode cX8_settle 55 = .ok (.aload_n 0, 1) := edX8_settle_0.2.2.2.2.2.2.2.2.2.2.2.2.2.2.2.2.2.2.2.2.2.2.2.2.2.2.2.2.2.2.1
theorem dX8_settle_56 : decode cX8_settle 56 = .ok (.getfield 228, 3) := edX8_settle_0.2.2.2.2.2.2.2.2.2.2.2.2.2.2.2.2.2.2.2.2.2.2.2.2.2.2.2.2.2.2.2.1
theorem edX8_settle_59 : (decode cX8_settle 59 = .ok (.aload_n 0, 1)) ∧ (decode cX8_settle 60 = .ok (.getfield 42, 3)) ∧ (decode cX8_settle 63 = .ok (.aload_n 0, 1)) ∧ (decode cX8_settle 64 = .ok (.getfield 222, 3)) ∧ (decode cX8_settle 67 = .ok (.iaload, 1)) ∧ (decode cX8_settle 68 = .ok (.iastore, 1)) ∧ (decode cX8_settle 69 = .ok (.aload_n 0, 1)) ∧ (decode cX8_settle 70 = .ok (.dup, 1)) ∧ (decode cX8_settle 71 = .ok (.getfield 228, 3)) ∧ (decode cX8_settle 74 = .ok (.iconst 1, 1)) ∧ (decode cX8_settle 75 = .ok (.iadd, 1)) ∧ (decode cX8_settle 76 = .ok (.putfield 228, 3)) ∧ (decode cX8_settle 79 = .ok (.goto (-79), 3)) ∧ (decode cX8_settle 82 = .ok (.return_, 1)) ∧ True := dc_cj [(59, .aload_n 0, 1), (60, .getfield 42, 3), (63, .aload_n 0, 1), (64, .getfield 222, 3), (67, .iaload, 1), (68, .iastore, 1), (69, .aload_n 0, 1), (70, .dup, 1), (71, .getfield 228, 3), (74, .iconst 1, 1), (75, .iadd, 1), (76, .putfield 228, 3), (79, .goto (-79), 3), (82, .return_, 1)] (by decide +kernel)
theorem dX8_settle_59 : decode cX8_settle 59 = .ok (.aload_n 0, 1) := edX8_settle_59.1
theorem dX8_settle_60 : decode cX8_settle 60 = .ok (.getfield 42, 3) := edX8_settle_59.2.1
theorem dX8_settle_63 : decode cX8_settle 63 = .ok (.aload_n 0, 1) := edX8_settle_59.2.2.1
theorem dX8_settle_64 : decode cX8_settle 64 = .ok (.getfield 222, 3) := edX8_settle_59.2.2.2.1
theorem dX8_settle_67 : decode cX8_settle 67 = .ok (.iaload, 1) := edX8_settle_59.2.2.2.2.1
theorem dX8_settle_68 : decode cX8_settle 68 = .ok (.iastore, 1) := edX8_settle_59.2.2.2.2.2.1
theorem dX8_settle_69 : decode cX8_settle 69 = .ok (.aload_n 0, 1) := edX8_settle_59.2.2.2.2.2.2.1
theorem dX8_settle_70 : decode cX8_settle 70 = .ok (.dup, 1) := edX8_settle_59.2.2.2.2.2.2.2.1
theorem dX8_settle_71 : decode cX8_settle 71 = .ok (.getfield 228, 3) := edX8_settle_59.2.2.2.2.2.2.2.2.1
theorem dX8_settle_74 : decode cX8_settle 74 = .ok (.iconst 1, 1) := edX8_settle_59.2.2.2.2.2.2.2.2.2.1
theorem dX8_settle_75 : decode cX8_settle 75 = .ok (.iadd, 1) := edX8_settle_59.2.2.2.2.2.2.2.2.2.2.1
theorem dX8_settle_76 : decode cX8_settle 76 = .ok (.putfield 228, 3) := edX8_settle_59.2.2.2.2.2.2.2.2.2.2.2.1
theorem dX8_settle_79 : decode cX8_settle 79 = .ok (.goto (-79), 3) := edX8_settle_59.2.2.2.2.2.2.2.2.2.2.2.2.1
theorem dX8_settle_82 : decode cX8_settle 82 = .ok (.return_, 1) := edX8_settle_59.2.2.2.2.2.2.2.2.2.2.2.2.2.1
theorem edX8_signHere_0 : (decode cX8_signHere 0 = .ok (.aload_n 0, 1)) ∧ (decode cX8_signHere 1 = .ok (.getfield 204, 3)) ∧ (decode cX8_signHere 4 = .ok (.iconst 3, 1)) ∧ (decode cX8_signHere 5 = .ok (.if_icmp .eq 5, 3)) ∧ (decode cX8_signHere 8 = .ok (.iconst 0, 1)) ∧ (decode cX8_signHere 9 = .ok (.ireturn, 1)) ∧ (decode cX8_signHere 10 = .ok (.aload_n 0, 1)) ∧ (decode cX8_signHere 11 = .ok (.getfield 210, 3)) ∧ (decode cX8_signHere 14 = .ok (.lookupswitch 108 #[(38, 84), (42, 102), (43, 96), (45, 99), (47, 105), (60, 87), (61, 90), (62, 93), (124, 82)], 82)) ∧ (decode cX8_signHere 96 = .ok (.iconst (-1), 1)) ∧ (decode cX8_signHere 97 = .ok (.ireturn, 1)) ∧ (decode cX8_signHere 98 = .ok (.bipush (-2), 2)) ∧ (decode cX8_signHere 100 = .ok (.ireturn, 1)) ∧ (decode cX8_signHere 101 = .ok (.bipush (-3), 2)) ∧ (decode cX8_signHere 103 = .ok (.ireturn, 1)) ∧ (decode cX8_signHere 104 = .ok (.bipush (-4), 2)) ∧ (decode cX8_signHere 106 = .ok (.ireturn, 1)) ∧ (decode cX8_signHere 107 = .ok (.bipush (-5), 2)) ∧ (decode cX8_signHere 109 = .ok (.ireturn, 1)) ∧ (decode cX8_signHere 110 = .ok (.bipush (-6), 2)) ∧ (decode cX8_signHere 112 = .ok (.ireturn, 1)) ∧ (decode cX8_signHere 113 = .ok (.bipush (-7), 2)) ∧ (decode cX8_signHere 115 = .ok (.ireturn, 1)) ∧ (decode cX8_signHere 116 = .ok (.bipush (-8), 2)) ∧ (decode cX8_signHere 118 = .ok (.ireturn, 1)) ∧ (decode cX8_signHere 119 = .ok (.bipush (-9), 2)) ∧ (decode cX8_signHere 121 = .ok (.ireturn, 1)) ∧ (decode cX8_signHere 122 = .ok (.iconst 0, 1)) ∧ (decode cX8_signHere 123 = .ok (.ireturn, 1)) ∧ True := dc_cj [(0, .aload_n 0, 1), (1, .getfield 204, 3), (4, .iconst 3, 1), (5, .if_icmp .eq 5, 3), (8, .iconst 0, 1), (9, .ireturn, 1), (10, .aload_n 0, 1), (11, .getfield 210, 3), (14, .lookupswitch 108 #[(38, 84), (42, 102), (43, 96), (45, 99), (47, 105), (60, 87), (61, 90), (62, 93), (124, 82)], 82), (96, .iconst (-1), 1), (97, .ireturn, 1), (98, .bipush (-2), 2), (100, .ireturn, 1), (101, .bipush (-3), 2), (103, .ireturn, 1), (104, .bipush (-4), 2), (106, .ireturn, 1), (107, .bipush (-5), 2), (109, .ireturn, 1), (110, .bipush (-6), 2), (112, .ireturn, 1), (113, .bipush (-7), 2), (115, .ireturn, 1), (116, .bipush (-8), 2), (118, .ireturn, 1), (119, .bipush (-9), 2), (121, .ireturn, 1), (122, .iconst 0, 1), (123, .ireturn, 1)] (by decide +kernel)
theorem dX8_signHere_0 : decode cX8_signHere 0 = .ok (.aload_n 0, 1) := edX8_signHere_0.1
theorem dX8_signHere_1 : decode cX8_signHere 1 = .ok (.getfield 204, 3) := edX8_signHere_0.2.1
theorem dX8_signHere_4 : decode cX8_signHere 4 = .ok (.iconst 3, 1) := edX8_signHere_0.2.2.1
theorem dX8_signHere_5 : decode cX8_signHere 5 = .ok (.if_icmp .eq 5, 3) := edX8_signHere_0.2.2.2.1
theorem dX8_signHere_8 : decode cX8_signHere 8 = .ok (.iconst 0, 1) := edX8_signHere_0.2.2.2.2.1
theorem dX8_signHere_9 : decode cX8_signHere 9 = .ok (.ireturn, 1) := edX8_signHere_0.2.2.2.2.2.1
theorem dX8_signHere_10 : decode cX8_signHere 10 = .ok (.aload_n 0, 1) := edX8_signHere_0.2.2.2.2.2.2.1
theorem dX8_signHere_11 : decode cX8_signHere 11 = .ok (.getfield 210, 3) := edX8_signHere_0.2.2.2.2.2.2.2.1
theorem dX8_signHere_14 : decode cX8_signHere 14 = .ok (.lookupswitch 108 #[(38, 84), (42, 102), (43, 96), (45, 99), (47, 105), (60, 87), (61, 90), (62, 93), (124, 82)], 82) := edX8_signHere_0.2.2.2.2.2.2.2.2.1
theorem dX8_signHere_96 : decode cX8_signHere 96 = .ok (.iconst (-1), 1) := edX8_signHere_0.2.2.2.2.2.2.2.2.2.1
theorem dX8_signHere_97 : decode cX8_signHere 97 = .ok (.ireturn, 1) := edX8_signHere_0.2.2.2.2.2.2.2.2.2.2.1
theorem dX8_signHere_98 : decode cX8_signHere 98 = .ok (.bipush (-2), 2) := edX8_signHere_0.2.2.2.2.2.2.2.2.2.2.2.1
theorem dX8_signHere_100 : decode cX8_signHere 100 = .ok (.ireturn, 1) := edX8_signHere_0.2.2.2.2.2.2.2.2.2.2.2.2.1
theorem dX8_signHere_101 : decode cX8_signHere 101 = .ok (.bipush (-3), 2) := edX8_signHere_0.2.2.2.2.2.2.2.2.2.2.2.2.2.1
theorem dX8_signHere_103 : decode cX8_signHere 103 = .ok (.ireturn, 1) := edX8_signHere_0.2.2.2.2.2.2.2.2.2.2.2.2.2.2.1
theorem dX8_signHere_104 : decode cX8_signHere 104 = .ok (.bipush (-4), 2) := edX8_signHere_0.2.2.2.2.2.2.2.2.2.2.2.2.2.2.2.1
theorem dX8_signHere_106 : decode cX8_signHere 106 = .ok (.ireturn, 1) := edX8_signHere_0.2.2.2.2.2.2.2.2.2.2.2.2.2.2.2.2.1
theorem dX8_signHere_107 : decode cX8_signHere 107 = .ok (.bipush (-5), 2) := edX8_signHere_0.2.2.2.2.2.2.2.2.2.2.2.2.2.2.2.2.2.1
theorem dX8_signHere_109 : decode cX8_signHere 109 = .ok (.ireturn, 1) := edX8_signHere_0.2.2.2.2.2.2.2.2.2.2.2.2.2.2.2.2.2.2.1
theorem dX8_signHere_110 : decode cX8_signHere 110 = .ok (.bipush (-6), 2) := edX8_signHere_0.2.2.2.2.2.2.2.2.2.2.2.2.2.2.2.2.2.2.2.1
theorem dX8_signHere_112 : decode cX8_signHere 112 = .ok (.ireturn, 1) := edX8_signHere_0.2.2.2.2.2.2.2.2.2.2.2.2.2.2.2.2.2.2.2.2.1
theorem dX8_signHere_113 : decode cX8_signHere 113 = .ok (.bipush (-7), 2) := edX8_signHere_0.2.2.2.2.2.2.2.2.2.2.2.2.2.2.2.2.2.2.2.2.2.1
theorem dX8_signHere_115 : decode cX8_signHere 115 = .ok (.ireturn, 1) := edX8_signHere_0.2.2.2.2.2.2.2.2.2.2.2.2.2.2.2.2.2.2.2.2.2.2.1
theorem dX8_signHere_116 : decode cX8_signHere 116 = .ok (.bipush (-8), 2) := edX8_signHere_0.2.2.2.2.2.2.2.2.2.2.2.2.2.2.2.2.2.2.2.2.2.2.2.1
theorem dX8_signHere_118 : decode cX8_signHere 118 = .ok (.ireturn, 1) := edX8_signHere_0.2.2.2.2.2.2.2.2.2.2.2.2.2.2.2.2.2.2.2.2.2.2.2.2.1
theorem dX8_signHere_119 : decode cX8_signHere 119 = .ok (.bipush (-9), 2) := edX8_signHere_0.2.2.2.2.2.2.2.2.2.2.2.2.2.2.2.2.2.2.2.2.2.2.2.2.2.1
theorem dX8_signHere_121 : decode cX8_signHere 121 = .ok (.ireturn, 1) := edX8_signHere_0.2.2.2.2.2.2.2.2.2.2.2.2.2.2.2.2.2.2.2.2.2.2.2.2.2.2.1
theorem dX8_signHere_122 : decode cX8_signHere 122 = .ok (.iconst 0, 1) := edX8_signHere_0.2.2.2.2.2.2.2.2.2.2.2.2.2.2.2.2.2.2.2.2.2.2.2.2.2.2.2.1
theorem dX8_signHere_123 : decode cX8_signHere 123 = .ok (.ireturn, 1) := edX8_signHere_0.2.2.2.2.2.2.2.2.2.2.2.2.2.2.2.2.2.2.2.2.2.2.2.2.2.2.2.2.1
theorem edX8_takesPart_0 : (decode cX8_takesPart 0 = .ok (.aload_n 0, 1)) ∧ (decode cX8_takesPart 1 = .ok (.getfield 204, 3)) ∧ (decode cX8_takesPart 4 = .ok (.iconst 1, 1)) ∧ (decode cX8_takesPart 5 = .ok (.if_icmp .ne 31, 3)) ∧ (decode cX8_takesPart 8 = .ok (.aload_n 0, 1)) ∧ (decode cX8_takesPart 9 = .ok (.getfield 195, 3)) ∧ (decode cX8_takesPart 12 = .ok (.aload_n 0, 1)) ∧ (decode cX8_takesPart 13 = .ok (.getfield 198, 3)) ∧ (decode cX8_takesPart 16 = .ok (.isub, 1)) ∧ (decode cX8_takesPart 17 = .ok (.iconst 1, 1)) ∧ (decode cX8_takesPart 18 = .ok (.if_icmp .ne 18, 3)) ∧ (decode cX8_takesPart 21 = .ok (.aload_n 0, 1)) ∧ (decode cX8_takesPart 22 = .ok (.aload_n 0, 1)) ∧ (decode cX8_takesPart 23 = .ok (.getfield 210, 3)) ∧ (decode cX8_takesPart 26 = .ok (.invokevirtual 231, 3)) ∧ (decode cX8_takesPart 29 = .ok (.ifCond .lt 7, 3)) ∧ (decode cX8_takesPart 32 = .ok (.iconst 1, 1)) ∧ (decode cX8_takesPart 33 = .ok (.goto 4, 3)) ∧ (decode cX8_takesPart 36 = .ok (.iconst 0, 1)) ∧ (decode cX8_takesPart 37 = .ok (.istore_n 1, 1)) ∧ (decode cX8_takesPart 38 = .ok (.aload_n 0, 1)) ∧ (decode cX8_takesPart 39 = .ok (.getfield 204, 3)) ∧ (decode cX8_takesPart 42 = .ok (.iconst 2, 1)) ∧ (decode cX8_takesPart 43 = .ok (.if_icmp .eq 9, 3)) ∧ (decode cX8_takesPart 46 = .ok (.iload_n 1, 1)) ∧ (decode cX8_takesPart 47 = .ok (.ifCond .ne 5, 3)) ∧ (decode cX8_takesPart 50 = .ok (.iconst 0, 1)) ∧ (decode cX8_takesPart 51 = .ok (.ireturn, 1)) ∧ (decode cX8_takesPart 52 = .ok (.aload_n 0, 1)) ∧ (decode cX8_takesPart 53 = .ok (.getfield 39, 3)) ∧ (decode cX8_takesPart 56 = .ok (.aload_n 0, 1)) ∧ (decode cX8_takesPart 57 = .ok (.getfield 228, 3)) ∧ True := dc_cj [(0, .aload_n 0, 1), (1, .getfield 204, 3), (4, .iconst 1, 1), (5, .if_icmp .ne 31, 3), (8, .aload_n 0, 1), (9, .getfield 195, 3), (12, .aload_n 0, 1), (13, .getfield 198, 3), (16, .isub, 1), (17, .iconst 1, 1), (18, .if_icmp .ne 18, 3), (21, .aload_n 0, 1), (22, .aload_n 0, 1), (23, .getfield 210, 3), (26, .invokevirtual 231, 3), (29, .ifCond .lt 7, 3), (32, .iconst 1, 1), (33, .goto 4, 3), (36, .iconst 0, 1), (37, .istore_n 1, 1), (38, .aload_n 0, 1), (39, .getfield 204, 3), (42, .iconst 2, 1), (43, .if_icmp .eq 9, 3), (46, .iload_n 1, 1), (47, .ifCond .ne 5, 3), (50, .iconst 0, 1), (51, .ireturn, 1), (52, .aload_n 0, 1), (53, .getfield 39, 3), (56, .aload_n 0, 1), (57, .getfield 228, 3)] (by decide +kernel)
theorem dX8_takesPart_0 : decode cX8_takesPart 0 = .ok (.aload_n 0, 1) := edX8_takesPart_0.1
theorem dX8_takesPart_1 : decode cX8_takesPart 1 = .ok (.getfield 204, 3) := edX8_takesPart_0.2.1
theorem dX8_takesPart_4 : decode cX8_takesPart 4 = .ok (.iconst 1, 1) := edX8_takesPart_0.2.2.1
theorem dX8_takesPart_5 : decode cX8_takesPart 5 = .ok (.if_icmp .ne 31, 3) := edX8_takesPart_0.2.2.2.1
theorem dX8_takesPart_8 : decode cX8_takesPart 8 = .ok (.aload_n 0, 1) := edX8_takesPart_0.2.2.2.2.1
theorem dX8_takesPart_9 : decode cX8_takesPart 9 = .ok (.getfield 195, 3) := edX8_takesPart_0.2.2.2.2.2.1
theorem dX8_takesPart_12 : decode cX8_takesPart 12 = .ok (.aload_n 0, 1) := edX8_takesPart_0.2.2.2.2.2.2.1
theorem dX8_takesPart_13 : decode cX8_takesPart 13 = .ok (.getfield 198, 3) := edX8_takesPart_0.2.2.2.2.2.2.2.1
theorem dX8_takesPart_16 : decode cX8_takesPart 16 = .ok (.isub, 1) := edX8_takesPart_0.2.2.2.2.2.2.2.2.1
theorem dX8_takesPart_17 : decode cX8_takesPart 17 = .ok (.iconst 1, 1) := edX8_takesPart_0.2.2.2.2.2.2.2.2.2.1
theorem dX8_takesPart_18 : decode cX8_takesPart 18 = .ok (.if_icmp .ne 18, 3) := edX8_takesPart_0.2.2.2.2.2.2.2.2.2.2.1
theorem dX8_takesPart_21 : decode cX8_takesPart 21 = .ok (.aload_n 0, 1) := edX8_takesPart_0.2.2.2.2.2.2.2.2.2.2.2.1
theorem dX8_takesPart_22 : decode cX8_takesPart 22 = .ok (.aload_n 0, 1) := edX8_takesPart_0.2.2.2.2.2.2.2.2.2.2.2.2.1
theorem dX8_takesPart_23 : decode cX8_takesPart 23 = .ok (.getfield 210, 3) := edX8_takesPart_0.2.2.2.2.2.2.2.2.2.2.2.2.2.1
theorem dX8_takesPart_26 : decode cX8_takesPart 26 = .ok (.invokevirtual 231, 3) := edX8_takesPart_0.2.2.2.2.2.2.2.2.2.2.2.2.2.2.1
theorem dX8_takesPart_29 : decode cX8_takesPart 29 = .ok (.ifCond .lt 7, 3) := edX8_takesPart_0.2.2.2.2.2.2.2.2.2.2.2.2.2.2.2.1
theorem dX8_takesPart_32 : decode cX8_takesPart 32 = .ok (.iconst 1, 1) := edX8_takesPart_0.2.2.2.2.2.2.2.2.2.2.2.2.2.2.2.2.1
theorem dX8_takesPart_33 : decode cX8_takesPart 33 = .ok (.goto 4, 3) := edX8_takesPart_0.2.2.2.2.2.2.2.2.2.2.2.2.2.2.2.2.2.1
theorem dX8_takesPart_36 : decode cX8_takesPart 36 = .ok (.iconst 0, 1) := edX8_takesPart_0.2.2.2.2.2.2.2.2.2.2.2.2.2.2.2.2.2.2.1
theorem dX8_takesPart_37 : decode cX8_takesPart 37 = .ok (.istore_n 1, 1) := edX8_takesPart_0.2.2.2.2.2.2.2.2.2.2.2.2.2.2.2.2.2.2.2.1
theorem dX8_takesPart_38 : decode cX8_takesPart 38 = .ok (.aload_n 0, 1) := edX8_takesPart_0.2.2.2.2.2.2.2.2.2.2.2.2.2.2.2.2.2.2.2.2.1
theorem dX8_takesPart_39 : decode cX8_takesPart 39 = .ok (.getfield 204, 3) := edX8_takesPart_0.2.2.2.2.2.2.2.2.2.2.2.2.2.2.2.2.2.2.2.2.2.1
theorem dX8_takesPart_42 : decode cX8_takesPart 42 = .ok (.iconst 2, 1) := edX8_takesPart_0.2.2.2.2.2.2.2.2.2.2.2.2.2.2.2.2.2.2.2.2.2.2.1
theorem dX8_takesPart_43 : decode cX8_takesPart 43 = .ok (.if_icmp .eq 9, 3) := edX8_takesPart_0.2.2.2.2.2.2.2.2.2.2.2.2.2.2.2.2.2.2.2.2.2.2.2.1
theorem dX8_takesPart_46 : decode cX8_takesPart 46 = .ok (.iload_n 1, 1) := edX8_takesPart_0.2.2.2.2.2.2.2.2.2.2.2.2.2.2.2.2.2.2.2.2.2.2.2.2.1
theorem dX8_takesPart_47 : decode cX8_takesPart 47 = .ok (.ifCond .ne 5, 3) := edX8_takesPart_0.2.2.2.2.2.2.2.2.2.2.2.2.2.2.2.2.2.2.2.2.2.2.2.2.2.1
theorem dX8_takesPart_50 : decode cX8_takesPart 50 = .ok (.iconst 0, 1) := edX8_takesPart_0.2.2.2.2.2.2.2.2.2.2.2.2.2.2.2.2.2.2.2.2.2.2.2.2.2.2.1
theorem dX8_takesPart_51 : decode cX8_takesPart 51 = .ok (.ireturn, 1) := edX8_takesPart_0.2.2.2.2.2.2.2.2.2.2.2.2.2.2.2.2.2.2.2.2.2.2.2.2.2.2.2.1
theorem dX8_takesPart_52 : decode cX8_takesPart 52 = .ok (.aload_n 0, 1) := edX8_takesPart_0.2.2.2.2.2.2.2.2.2.2.2.2.2.2.2.2.2.2.2.2.2.2.2.2.2.2.2.2.1
theorem dX8_takesPart_53 : decode cX8_takesPart 53 = .ok (.getfield 39, 3) := edX8_takesPart_0.2.2.2.2.2.2.2.2.2.2.2.2.2.2.2.2.2.2.2.2.2.2.2.2.2.2.2.2.2.1
theorem dX8_takesPart_56 : decode cX8_takesPart 56 = .ok (.aload_n 0, 1) := edX8_takesPart_0.2.2.2.2.2.2.2.2.2.2.2.2.2.2.2.2.2.2.2.2.2.2.2.2.2.2.2.2.2.2.1
theorem dX8_takesPart_57 : decode cX8_takesPart 57 = .ok (.getfield 228, 3) := edX8_takesPart_0.2.2.2.2.2.2.2.2.2.2.2.2.2.2.2.2.2.2.2.2.2.2.2.2.2.2.2.2.2.2.2.1
theorem edX8_takesPart_60 : (decode cX8_takesPart 60 = .ok (.aload_n 0, 1)) ∧ (decode cX8_takesPart 61 = .ok (.getfield 204, 3)) ∧ (decode cX8_takesPart 64 = .ok (.iconst 2, 1)) ∧ (decode cX8_takesPart 65 = .ok (.if_icmp .ne 10, 3)) ∧ (decode cX8_takesPart 68 = .ok (.aload_n 0, 1)) ∧ (decode cX8_takesPart 69 = .ok (.getfield 210, 3)) ∧ (decode cX8_takesPart 72 = .ok (.goto 15, 3)) ∧ (decode cX8_takesPart 75 = .ok (.sipush 10000, 3)) ∧ (decode cX8_takesPart 78 = .ok (.aload_n 0, 1)) ∧ (decode cX8_takesPart 79 = .ok (.aload_n 0, 1)) ∧ (decode cX8_takesPart 80 = .ok (.getfield 210, 3)) ∧ (decode cX8_takesPart 83 = .ok (.invokevirtual 231, 3)) ∧ (decode cX8_takesPart 86 = .ok (.iadd, 1)) ∧ (decode cX8_takesPart 87 = .ok (.iastore, 1)) ∧ (decode cX8_takesPart 88 = .ok (.aload_n 0, 1)) ∧ (decode cX8_takesPart 89 = .ok (.dup, 1)) ∧ (decode cX8_takesPart 90 = .ok (.getfield 228, 3)) ∧ (decode cX8_takesPart 93 = .ok (.iconst 1, 1)) ∧ (decode cX8_takesPart 94 = .ok (.iadd, 1)) ∧ (decode cX8_takesPart 95 = .ok (.putfield 228, 3)) ∧ (decode cX8_takesPart 98 = .ok (.aload_n 0, 1)) ∧ (decode cX8_takesPart 99 = .ok (.dup, 1)) ∧ (decode cX8_takesPart 100 = .ok (.getfield 234, 3)) ∧ (decode cX8_takesPart 103 = .ok (.iconst 1, 1)) ∧ (decode cX8_takesPart 104 = .ok (.iadd, 1)) ∧ (decode cX8_takesPart 105 = .ok (.putfield 234, 3)) ∧ (decode cX8_takesPart 108 = .ok (.aload_n 0, 1)) ∧ (decode cX8_takesPart 109 = .ok (.bipush 6, 2)) ∧ (decode cX8_takesPart 111 = .ok (.invokevirtual 237, 3)) ∧ (decode cX8_takesPart 114 = .ok (.aload_n 0, 1)) ∧ (decode cX8_takesPart 115 = .ok (.invokevirtual 219, 3)) ∧ (decode cX8_takesPart 118 = .ok (.iconst 1, 1)) ∧ True := dc_cj [(60, .aload_n 0, 1), (61, .getfield 204, 3), (64, .iconst 2, 1), (65, .if_icmp .ne 10, 3), (68, .aload_n 0, 1), (69, .getfield 210, 3), (72, .goto 15, 3), (75, .sipush 10000, 3), (78, .aload_n 0, 1), (79, .aload_n 0, 1), (80, .getfield 210, 3), (83, .invokevirtual 231, 3), (86, .iadd, 1), (87, .iastore, 1), (88, .aload_n 0, 1), (89, .dup, 1), (90, .getfield 228, 3), (93, .iconst 1, 1), (94, .iadd, 1), (95, .putfield 228, 3), (98, .aload_n 0, 1), (99, .dup, 1), (100, .getfield 234, 3), (103, .iconst 1, 1), (104, .iadd, 1), (105, .putfield 234, 3), (108, .aload_n 0, 1), (109, .bipush 6, 2), (111, .invokevirtual 237, 3), (114, .aload_n 0, 1), (115, .invokevirtual 219, 3), (118, .iconst 1, 1)] (by decide +kernel)
theorem dX8_takesPart_60 : decode cX8_takesPart 60 = .ok (.aload_n 0, 1) := edX8_takesPart_60.1
theorem dX8_takesPart_61 : decode cX8_takesPart 61 = .ok (.getfield 204, 3) := edX8_takesPart_60.2.1
theorem dX8_takesPart_64 : decode cX8_takesPart 64 = .ok (.iconst 2, 1) := edX8_takesPart_60.2.2.1
theorem dX8_takesPart_65 : decode cX8_takesPart 65 = .ok (.if_icmp .ne 10, 3) := edX8_takesPart_60.2.2.2.1
theorem dX8_takesPart_68 : decode cX8_takesPart 68 = .ok (.aload_n 0, 1) := edX8_takesPart_60.2.2.2.2.1
theorem dX8_takesPart_69 : decode cX8_takesPart 69 = .ok (.getfield 210, 3) := edX8_takesPart_60.2.2.2.2.2.1
theorem dX8_takesPart_72 : decode cX8_takesPart 72 = .ok (.goto 15, 3) := edX8_takesPart_60.2.2.2.2.2.2.1
theorem dX8_takesPart_75 : decode cX8_takesPart 75 = .ok (.sipush 10000, 3) := edX8_takesPart_60.2.2.2.2.2.2.2.1
theorem dX8_takesPart_78 : decode cX8_takesPart 78 = .ok (.aload_n 0, 1) := edX8_takesPart_60.2.2.2.2.2.2.2.2.1
theorem dX8_takesPart_79 : decode cX8_takesPart 79 = .ok (.aload_n 0, 1) := edX8_takesPart_60.2.2.2.2.2.2.2.2.2.1
theorem dX8_takesPart_80 : decode cX8_takesPart 80 = .ok (.getfield 210, 3) := edX8_takesPart_60.2.2.2.2.2.2.2.2.2.2.1
theorem dX8_takesPart_83 : decode cX8_takesPart 83 = .ok (.invokevirtual 231, 3) := edX8_takesPart_60.2.2.2.2.2.2.2.2.2.2.2.1
theorem dX8_takesPart_86 : decode cX8_takesPart 86 = .ok (.iadd, 1) := edX8_takesPart_60.2.2.2.2.2.2.2.2.2.2.2.2.1
theorem dX8_takesPart_87 : decode cX8_takesPart 87 = .ok (.iastore, 1) := edX8_takesPart_60.2.2.2.2.2.2.2.2.2.2.2.2.2.1
theorem dX8_takesPart_88 : decode cX8_takesPart 88 = .ok (.aload_n 0, 1) := edX8_takesPart_60.2.2.2.2.2.2.2.2.2.2.2.2.2.2.1
theorem dX8_takesPart_89 : decode cX8_takesPart 89 = .ok (.dup, 1) := edX8_takesPart_60.2.2.2.2.2.2.2.2.2.2.2.2.2.2.2.1
theorem dX8_takesPart_90 : decode cX8_takesPart 90 = .ok (.getfield 228, 3) := edX8_takesPart_60.2.2.2.2.2.2.2.2.2.2.2.2.2.2.2.2.1
theorem dX8_takesPart_93 : decode cX8_takesPart 93 = .ok (.iconst 1, 1) := edX8_takesPart_60.2.2.2.2.2.2.2.2.2.2.2.2.2.2.2.2.2.1
theorem dX8_takesPart_94 : decode cX8_takesPart 94 = .ok (.iadd, 1) := edX8_takesPart_60.2.2.2.2.2.2.2.2.2.2.2.2.2.2.2.2.2.2.1
theorem dX8_takesPart_95 : decode cX8_takesPart 95 = .ok (.putfield 228, 3) := edX8_takesPart_60.2.2.2.2.2.2.2.2.2.2.2.2.2.2.2.2.2.2.2.1
theorem dX8_takesPart_98 : decode cX8_takesPart 98 = .ok (.aload_n 0, 1) := edX8_takesPart_60.2.2.2.2.2.2.2.2.2.2.2.2.2.2.2.2.2.2.2.2.1
theorem dX8_takesPart_99 : decode cX8_takesPart 99 = .ok (.dup, 1) := edX8_takesPart_60.2.2.2.2.2.2.2.2.2.2.2.2.2.2.2.2.2.2.2.2.2.1
theorem dX8_takesPart_100 : decode cX8_takesPart 100 = .ok (.getfield 234, 3) := edX8_takesPart_60.2.2.2.2.2.2.2.2.2.2.2.2.2.2.2.2.2.2.2.2.2.2.1
theorem dX8_takesPart_103 : decode cX8_takesPart 103 = .ok (.iconst 1, 1) := edX8_takesPart_60.2.2.2.2.2.2.2.2.2.2.2.2.2.2.2.2.2.2.2.2.2.2.2.1
theorem dX8_takesPart_104 : decode cX8_takesPart 104 = .ok (.iadd, 1) := edX8_takesPart_60.2.2.2.2.2.2.2.2.2.2.2.2.2.2.2.2.2.2.2.2.2.2.2.2.1
theorem dX8_takesPart_105 : decode cX8_takesPart 105 = .ok (.putfield 234, 3) := edX8_takesPart_60.2.2.2.2.2.2.2.2.2.2.2.2.2.2.2.2.2.2.2.2.2.2.2.2.2.1
theorem dX8_takesPart_108 : decode cX8_takesPart 108 = .ok (.aload_n 0, 1) := edX8_takesPart_60.2.2.2.2.2.2.2.2.2.2.2.2.2.2.2.2.2.2.2.2.2.2.2.2.2.2.1
theorem dX8_takesPart_109 : decode cX8_takesPart 109 = .ok (.bipush 6, 2) := edX8_takesPart_60.2.2.2.2.2.2.2.2.2.2.2.2.2.2.2.2.2.2.2.2.2.2.2.2.2.2.2.1
theorem dX8_takesPart_111 : decode cX8_takesPart 111 = .ok (.invokevirtual 237, 3) := edX8_takesPart_60.2.2.2.2.2.2.2.2.2.2.2.2.2.2.2.2.2.2.2.2.2.2.2.2.2.2.2.2.1
theorem dX8_takesPart_114 : decode cX8_takesPart 114 = .ok (.aload_n 0, 1) := edX8_takesPart_60.2.2.2.2.2.2.2.2.2.2.2.2.2.2.2.2.2.2.2.2.2.2.2.2.2.2.2.2.2.1
theorem dX8_takesPart_115 : decode cX8_takesPart 115 = .ok (.invokevirtual 219, 3) := edX8_takesPart_60.2.2.2.2.2.2.2.2.2.2.2.2.2.2.2.2.2.2.2.2.2.2.2.2.2.2.2.2.2.2.1
theorem dX8_takesPart_118 : decode cX8_takesPart 118 = .ok (.iconst 1, 1) := edX8_takesPart_60.2.2.2.2.2.2.2.2.2.2.2.2.2.2.2.2.2.2.2.2.2.2.2.2.2.2.2.2.2.2.2.1
theorem edX8_takesPart_119 : (decode cX8_takesPart 119 = .ok (.ireturn, 1)) ∧ True := dc_cj [(119, .ireturn, 1)] (by decide +kernel)
theorem dX8_takesPart_119 : decode cX8_takesPart 119 = .ok (.ireturn, 1) := edX8_takesPart_119.1
theorem edX8_takesE_0 : (decode cX8_takesE 0 = .ok (.iconst 0, 1)) ∧ (decode cX8_takesE 1 = .ok (.istore_n 1, 1)) ∧ (decode cX8_takesE 2 = .ok (.iconst 0, 1)) ∧ (decode cX8_takesE 3 = .ok (.istore_n 2, 1)) ∧ (decode cX8_takesE 4 = .ok (.iconst 1, 1)) ∧ (decode cX8_takesE 5 = .ok (.istore_n 3, 1)) ∧ (decode cX8_takesE 6 = .ok (.aload_n 0, 1)) ∧ (decode cX8_takesE 7 = .ok (.iconst 0, 1)) ∧ (decode cX8_takesE 8 = .ok (.putfield 228, 3)) ∧ (decode cX8_takesE 11 = .ok (.aload_n 0, 1)) ∧ (decode cX8_takesE 12 = .ok (.iconst 0, 1)) ∧ (decode cX8_takesE 13 = .ok (.putfield 234, 3)) ∧ (decode cX8_takesE 16 = .ok (.aload_n 0, 1)) ∧ (decode cX8_takesE 17 = .ok (.iconst 0, 1)) ∧ (decode cX8_takesE 18 = .ok (.putfield 222, 3)) ∧ (decode cX8_takesE 21 = .ok (.aload_n 0, 1)) ∧ (decode cX8_takesE 22 = .ok (.getfield 45, 3)) ∧ (decode cX8_takesE 25 = .ok (.iconst 0, 1)) ∧ (decode cX8_takesE 26 = .ok (.iconst 0, 1)) ∧ (decode cX8_takesE 27 = .ok (.bastore, 1)) ∧ (decode cX8_takesE 28 = .ok (.iload_n 3, 1)) ∧ (decode cX8_takesE 29 = .ok (.ifCond .ne 10, 3)) ∧ (decode cX8_takesE 32 = .ok (.aload_n 0, 1)) ∧ (decode cX8_takesE 33 = .ok (.getfield 204, 3)) ∧ (decode cX8_takesE 36 = .ok (.ifCond .eq 309, 3)) ∧ (decode cX8_takesE 39 = .ok (.iload_n 3, 1)) ∧ (decode cX8_takesE 40 = .ok (.ifCond .eq 140, 3)) ∧ (decode cX8_takesE 43 = .ok (.aload_n 0, 1)) ∧ (decode cX8_takesE 44 = .ok (.getfield 204, 3)) ∧ (decode cX8_takesE 47 = .ok (.iconst 3, 1)) ∧ (decode cX8_takesE 48 = .ok (.if_icmp .ne 49, 3)) ∧ (decode cX8_takesE 51 = .ok (.aload_n 0, 1)) ∧ True := dc_cj [(0, .iconst 0, 1), (1, .istore_n 1, 1), (2, .iconst 0, 1), (3, .istore_n 2, 1), (4, .iconst 1, 1), (5, .istore_n 3, 1), (6, .aload_n 0, 1), (7, .iconst 0, 1), (8, .putfield 228, 3), (11, .aload_n 0, 1), (12, .iconst 0, 1), (13, .putfield 234, 3), (16, .aload_n 0, 1), (17, .iconst 0, 1), (18, .putfield 222, 3), (21, .aload_n 0, 1), (22, .getfield 45, 3), (25, .iconst 0, 1), (26, .iconst 0, 1), (27, .bastore, 1), (28, .iload_n 3, 1), (29, .ifCond .ne 10, 3), (32, .aload_n 0, 1), (33, .getfield 204, 3), (36, .ifCond .eq 309, 3), (39, .iload_n 3, 1), (40, .ifCond .eq 140, 3), (43, .aload_n 0, 1), (44, .getfield 204, 3), (47, .iconst 3, 1), (48, .if_icmp .ne 49, 3), (51, .aload_n 0, 1)] (by decide +kernel)
theorem dX8_takesE_0 : decode cX8_takesE 0 = .ok (.iconst 0, 1) := edX8_takesE_0.1
theorem dX8_takesE_1 : decode cX8_takesE 1 = .ok (.istore_n 1, 1) := edX8_takesE_0.2.1
theorem dX8_takesE_2 : decode cX8_takesE 2 = .ok (.iconst 0, 1) := edX8_takesE_0.2.2.1
theorem dX8_takesE_3 : decode cX8_takesE 3 = .ok (.istore_n 2, 1) := edX8_takesE_0.2.2.2.1
theorem dX8_takesE_4 : decode cX8_takesE 4 = .ok (.iconst 1, 1) := edX8_takesE_0.2.2.2.2.1
theorem dX8_takesE_5 : decode cX8_takesE 5 = .ok (.istore_n 3, 1) := edX8_takesE_0.2.2.2.2.2.1
theorem dX8_takesE_6 : decode cX8_takesE 6 = .ok (.aload_n 0, 1) := edX8_takesE_0.2.2.2.2.2.2.1
theorem dX8_takesE_7 : decode cX8_takesE 7 = .ok (.iconst 0, 1) := edX8_takesE_0.2.2.2.2.2.2.2.1
theorem dX8_takesE_8 : decode cX8_takesE 8 = .ok (.putfield 228, 3) := edX8_takesE_0.2.2.2.2.2.2.2.2.1
theorem dX8_takesE_11 : decode cX8_takesE 11 = .ok (.aload_n 0, 1) := edX8_takesE_0.2.2.2.2.2.2.2.2.2.1
theorem dX8_takesE_12 : decode cX8_takesE 12 = .ok (.iconst 0, 1) := edX8_takesE_0.2.2.2.2.2.2.2.2.2.2.1
theorem dX8_takesE_13 : decode cX8_takesE 13 = .ok (.putfield 234, 3) := edX8_takesE_0.2.2.2.2.2.2.2.2.2.2.2.1
theorem dX8_takesE_16 : decode cX8_takesE 16 = .ok (.aload_n 0, 1) := edX8_takesE_0.2.2.2.2.2.2.2.2.2.2.2.2.1
theorem dX8_takesE_17 : decode cX8_takesE 17 = .ok (.iconst 0, 1) := edX8_takesE_0.2.2.2.2.2.2.2.2.2.2.2.2.2.1
theorem dX8_takesE_18 : decode cX8_takesE 18 = .ok (.putfield 222, 3) := edX8_takesE_0.2.2.2.2.2.2.2.2.2.2.2.2.2.2.1
theorem dX8_takesE_21 : decode cX8_takesE 21 = .ok (.aload_n 0, 1) := edX8_takesE_0.2.2.2.2.2.2.2.2.2.2.2.2.2.2.2.1
theorem dX8_takesE_22 : decode cX8_takesE 22 = .ok (.getfield 45, 3) := edX8_takesE_0.2.2.2.2.2.2.2.2.2.2.2.2.2.2.2.2.1
theorem dX8_takesE_25 : decode cX8_takesE 25 = .ok (.iconst 0, 1) := edX8_takesE_0.2.2.2.2.2.2.2.2.2.2.2.2.2.2.2.2.2.1
theorem dX8_takesE_26 : decode cX8_takesE 26 = .ok (.iconst 0, 1) := edX8_takesE_0.2.2.2.2.2.2.2.2.2.2.2.2.2.2.2.2.2.2.1
theorem dX8_takesE_27 : decode cX8_takesE 27 = .ok (.bastore, 1) := edX8_takesE_0.2.2.2.2.2.2.2.2.2.2.2.2.2.2.2.2.2.2.2.1
theorem dX8_takesE_28 : decode cX8_takesE 28 = .ok (.iload_n 3, 1) := edX8_takesE_0.2.2.2.2.2.2.2.2.2.2.2.2.2.2.2.2.2.2.2.2.1
theorem dX8_takesE_29 : decode cX8_takesE 29 = .ok (.ifCond .ne 10, 3) := edX8_takesE_0.2.2.2.2.2.2.2.2.2.2.2.2.2.2.2.2.2.2.2.2.2.1
theorem dX8_takesE_32 : decode cX8_takesE 32 = .ok (.aload_n 0, 1) := edX8_takesE_0.2.2.2.2.2.2.2.2.2.2.2.2.2.2.2.2.2.2.2.2.2.2.1
theorem dX8_takesE_33 : decode cX8_takesE 33 = .ok (.getfield 204, 3) := edX8_takesE_0.2.2.2.2.2.2.2.2.2.2.2.2.2.2.2.2.2.2.2.2.2.2.2.1
theorem dX8_takesE_36 : decode cX8_takesE 36 = .ok (.ifCond .eq 309, 3) := edX8_takesE_0.2.2.2.2.2.2.2.2.2.2.2.2.2.2.2.2.2.2.2.2.2.2.2.2.1
theorem dX8_takesE_39 : decode cX8_takesE 39 = .ok (.iload_n 3, 1) := edX8_takesE_0.2.2.2.2.2.2.2.2.2.2.2.2.2.2.2.2.2.2.2.2.2.2.2.2.2.1
theorem dX8_takesE_40 : decode cX8_takesE 40 = .ok (.ifCond .eq 140, 3) := edX8_takesE_0.2.2.2.2.2.2.2.2.2.2.2.2.2.2.2.2.2.2.2.2.2.2.2.2.2.2.1
theorem dX8_takesE_43 : decode cX8_takesE 43 = .ok (.aload_n 0, 1) := edX8_takesE_0.2.2.2.2.2.2.2.2.2.2.2.2.2.2.2.2.2.2.2.2.2.2.2.2.2.2.2.1
theorem dX8_takesE_44 : decode cX8_takesE 44 = .ok (.getfield 204, 3) := edX8_takesE_0.2.2.2.2.2.2.2.2.2.2.2.2.2.2.2.2.2.2.2.2.2.2.2.2.2.2.2.2.1
theorem dX8_takesE_47 : decode cX8_takesE 47 = .ok (.iconst 3, 1) := edX8_takesE_0.2.2.2.2.2.2.2.2.2.2.2.2.2.2.2.2.2.2.2.2.2.2.2.2.2.2.2.2.2.1
theorem dX8_takesE_48 : decode cX8_takesE 48 = .ok (.if_icmp .ne 49, 3) := edX8_takesE_0.2.2.2.2.2.2.2.2.2.2.2.2.2.2.2.2.2.2.2.2.2.2.2.2.2.2.2.2.2.2.1
theorem dX8_takesE_51 : decode cX8_takesE 51 = .ok (.aload_n 0, 1) := edX8_takesE_0.2.2.2.2.2.2.2.2.2.2.2.2.2.2.2.2.2.2.2.2.2.2.2.2.2.2.2.2.2.2.2.1
theorem edX8_takesE_52 : (decode cX8_takesE 52 = .ok (.getfield 210, 3)) ∧ (decode cX8_takesE 55 = .ok (.bipush 33, 2)) ∧ (decode cX8_takesE 57 = .ok (.if_icmp .ne 40, 3)) ∧ (decode cX8_takesE 60 = .ok (.iload_n 2, 1)) ∧ (decode cX8_takesE 61 = .ok (.bipush 8, 2)) ∧ (decode cX8_takesE 63 = .ok (.if_icmp .ge 34, 3)) ∧ (decode cX8_takesE 66 = .ok (.aload_n 0, 1)) ∧ (decode cX8_takesE 67 = .ok (.getfield 42, 3)) ∧ (decode cX8_takesE 70 = .ok (.aload_n 0, 1)) ∧ (decode cX8_takesE 71 = .ok (.getfield 222, 3)) ∧ (decode cX8_takesE 74 = .ok (.bipush (-10), 2)) ∧ (decode cX8_takesE 76 = .ok (.iastore, 1)) ∧ (decode cX8_takesE 77 = .ok (.aload_n 0, 1)) ∧ (decode cX8_takesE 78 = .ok (.dup, 1)) ∧ (decode cX8_takesE 79 = .ok (.getfield 222, 3)) ∧ (decode cX8_takesE 82 = .ok (.iconst 1, 1)) ∧ (decode cX8_takesE 83 = .ok (.iadd, 1)) ∧ (decode cX8_takesE 84 = .ok (.putfield 222, 3)) ∧ (decode cX8_takesE 87 = .ok (.iinc 2 1, 3)) ∧ (decode cX8_takesE 90 = .ok (.aload_n 0, 1)) ∧ (decode cX8_takesE 91 = .ok (.invokevirtual 219, 3)) ∧ (decode cX8_takesE 94 = .ok (.goto 78, 3)) ∧ (decode cX8_takesE 97 = .ok (.aload_n 0, 1)) ∧ (decode cX8_takesE 98 = .ok (.getfield 204, 3)) ∧ (decode cX8_takesE 101 = .ok (.iconst 3, 1)) ∧ (decode cX8_takesE 102 = .ok (.if_icmp .ne 56, 3)) ∧ (decode cX8_takesE 105 = .ok (.aload_n 0, 1)) ∧ (decode cX8_takesE 106 = .ok (.getfield 210, 3)) ∧ (decode cX8_takesE 109 = .ok (.bipush 40, 2)) ∧ (decode cX8_takesE 111 = .ok (.if_icmp .ne 47, 3)) ∧ (decode cX8_takesE 114 = .ok (.iload_n 1, 1)) ∧ (decode cX8_takesE 115 = .ok (.bipush 8, 2)) ∧ True := dc_cj [(52, .getfield 210, 3), (55, .bipush 33, 2), (57, .if_icmp .ne 40, 3), (60, .iload_n 2, 1), (61, .bipush 8, 2), (63, .if_icmp .ge 34, 3), (66, .aload_n 0, 1), (67, .getfield 42, 3), (70, .aload_n 0, 1), (71, .getfield 222, 3), (74, .bipush (-10), 2), (76, .iastore, 1), (77, .aload_n 0, 1), (78, .dup, 1), (79, .getfield 222, 3), (82, .iconst 1, 1), (83, .iadd, 1), (84, .putfield 222, 3), (87, .iinc 2 1, 3), (90, .aload_n 0, 1), (91, .invokevirtual 219, 3), (94, .goto 78, 3), (97, .aload_n 0, 1), (98, .getfield 204, 3), (101, .iconst 3, 1), (102, .if_icmp .ne 56, 3), (105, .aload_n 0, 1), (106, .getfield 210, 3), (109, .bipush 40, 2), (111, .if_icmp .ne 47, 3), (114, .iload_n 1, 1), (115, .bipush 8, 2)] (by decide +kernel)
theorem dX8_takesE_52 : decode cX8_takesE 52 = .ok (.getfield 210, 3) := edX8_takesE_52.1
theorem dX8_takesE_55 : decode cX8_takesE 55 = .ok (.bipush 33, 2) := edX8_takesE_52.2.1
theorem dX8_takesE_57 : decode cX8_takesE 57 = .ok (.if_icmp .ne 40, 3) := edX8_takesE_52.2.2.1
theorem dX8_takesE_60 : decode cX8_takesE 60 = .ok (.iload_n 2, 1) := edX8_takesE_52.2.2.2.1
theorem dX8_takesE_61 : decode cX8_takesE 61 = .ok (.bipush 8, 2) := edX8_takesE_52.2.2.2.2.1
theorem dX8_takesE_63 : decode cX8_takesE 63 = .ok (.if_icmp .ge 34, 3) := edX8_takesE_52.2.2.2.2.2.1
theorem dX8_takesE_66 : decode cX8_takesE 66 = .ok (.aload_n 0, 1) := edX8_takesE_52.2.2.2.2.2.2.1
theorem dX8_takesE_67 : decode cX8_takesE 67 = .ok (.getfield 42, 3) := edX8_takesE_52.2.2.2.2.2.2.2.1
theorem dX8_takesE_70 : decode cX8_takesE 70 = .ok (.aload_n 0, 1) := edX8_takesE_52.2.2.2.2.2.2.2.2.1
theorem dX8_takesE_71 : decode cX8_takesE 71 = .ok (.getfield 222, 3) := edX8_takesE_52.2.2.2.2.2.2.2.2.2.1
theorem dX8_takesE_74 : decode cX8_takesE 74 = .ok (.bipush (-10), 2) := edX8_takesE_52.2.2.2.2.2.2.2.2.2.2.1
theorem dX8_takesE_76 : decode cX8_takesE 76 = .ok (.iastore, 1) := edX8_takesE_52.2.2.2.2.2.2.2.2.2.2.2.1
theorem dX8_takesE_77 : decode cX8_takesE 77 = .ok (.aload_n 0, 1) := edX8_takesE_52.2.2.2.2.2.2.2.2.2.2.2.2.1
theorem dX8_takesE_78 : decode cX8_takesE 78 = .ok (.dup, 1) := edX8_takesE_52.2.2.2.2.2.2.2.2.2.2.2.2.2.1
theorem dX8_takesE_79 : decode cX8_takesE 79 = .ok (.getfield 222, 3) := edX8_takesE_52.2.2.2.2.2.2.2.2.2.2.2.2.2.2.1
theorem dX8_takesE_82 : decode cX8_takesE 82 = .ok (.iconst 1, 1) := edX8_takesE_52.2.2.2.2.2.2.2.2.2.2.2.2.2.2.2.1
theorem dX8_takesE_83 : decode cX8_takesE 83 = .ok (.iadd, 1) := edX8_takesE_52.2.2.2.2.2.2.2.2.2.2.2.2.2.2.2.2.1
theorem dX8_takesE_84 : decode cX8_takesE 84 = .ok (.putfield 222, 3) := edX8_takesE_52.2.2.2.2.2.2.2.2.2.2.2.2.2.2.2.2.2.1
theorem dX8_takesE_87 : decode cX8_takesE 87 = .ok (.iinc 2 1, 3) := edX8_takesE_52.2.2.2.2.2.2.2.2.2.2.2.2.2.2.2.2.2.2.1
theorem dX8_takesE_90 : decode cX8_takesE 90 = .ok (.aload_n 0, 1) := edX8_takesE_52.2.2.2.2.2.2.2.2.2.2.2.2.2.2.2.2.2.2.2.1
theorem dX8_takesE_91 : decode cX8_takesE 91 = .ok (.invokevirtual 219, 3) := edX8_takesE_52.2.2.2.2.2.2.2.2.2.2.2.2.2.2.2.2.2.2.2.2.1
theorem dX8_takesE_94 : decode cX8_takesE 94 = .ok (.goto 78, 3) := edX8_takesE_52.2.2.2.2.2.2.2.2.2.2.2.2.2.2.2.2.2.2.2.2.2.1
theorem dX8_takesE_97 : decode cX8_takesE 97 = .ok (.aload_n 0, 1) := edX8_takesE_52.2.2.2.2.2.2.2.2.2.2.2.2.2.2.2.2.2.2.2.2.2.2.1
theorem dX8_takesE_98 : decode cX8_takesE 98 = .ok (.getfield 204, 3) := edX8_takesE_52.2.2.2.2.2.2.2.2.2.2.2.2.2.2.2.2.2.2.2.2.2.2.2.1
theorem dX8_takesE_101 : decode cX8_takesE 101 = .ok (.iconst 3, 1) := edX8_takesE_52.2.2.2.2.2.2.2.2.2.2.2.2.2.2.2.2.2.2.2.2.2.2.2.2.1
theorem dX8_takesE_102 : decode cX8_takesE 102 = .ok (.if_icmp .ne 56, 3) := edX8_takesE_52.2.2.2.2.2.2.2.2.2.2.2.2.2.2.2.2.2.2.2.2.2.2.2.2.2.1
theorem dX8_takesE_105 : decode cX8_takesE 105 = .ok (.aload_n 0, 1) := edX8_takesE_52.2.2.2.2.2.2.2.2.2.2.2.2.2.2.2.2.2.2.2.2.2.2.2.2.2.2.1
theorem dX8_takesE_106 : decode cX8_takesE 106 = .ok (.getfield 210, 3) := edX8_takesE_52.2.2.2.2.2.2.2.2.2.2.2.2.2.2.2.2.2.2.2.2.2.2.2.2.2.2.2.1
theorem dX8_takesE_109 : decode cX8_takesE 109 = .ok (.bipush 40, 2) := edX8_takesE_52.2.2.2.2.2.2.2.2.2.2.2.2.2.2.2.2.2.2.2.2.2.2.2.2.2.2.2.2.1
theorem dX8_takesE_111 : decode cX8_takesE 111 = .ok (.if_icmp .ne 47, 3) := edX8_takesE_52.2.2.2.2.2.2.2.2.2.2.2.2.2.2.2.2.2.2.2.2.2.2.2.2.2.2.2.2.2.1
theorem dX8_takesE_114 : decode cX8_takesE 114 = .ok (.iload_n 1, 1) := edX8_takesE_52.2.2.2.2.2.2.2.2.2.2.2.2.2.2.2.2.2.2.2.2.2.2.2.2.2.2.2.2.2.2.1
theorem dX8_takesE_115 : decode cX8_takesE 115 = .ok (.bipush 8, 2) := edX8_takesE_52.2.2.2.2.2.2.2.2.2.2.2.2.2.2.2.2.2.2.2.2.2.2.2.2.2.2.2.2.2.2.2.1
theorem edX8_takesE_117 : (decode cX8_takesE 117 = .ok (.if_icmp .ge 41, 3)) ∧ (decode cX8_takesE 120 = .ok (.aload_n 0, 1)) ∧ (decode cX8_takesE 121 = .ok (.getfield 42, 3)) ∧ (decode cX8_takesE 124 = .ok (.aload_n 0, 1)) ∧ (decode cX8_takesE 125 = .ok (.getfield 222, 3)) ∧ (decode cX8_takesE 128 = .ok (.bipush (-11), 2)) ∧ (decode cX8_takesE 130 = .ok (.iastore, 1)) ∧ (decode cX8_takesE 131 = .ok (.aload_n 0, 1)) ∧ (decode cX8_takesE 132 = .ok (.dup, 1)) ∧ (decode cX8_takesE 133 = .ok (.getfield 222, 3)) ∧ (decode cX8_takesE 136 = .ok (.iconst 1, 1)) ∧ (decode cX8_takesE 137 = .ok (.iadd, 1)) ∧ (decode cX8_takesE 138 = .ok (.putfield 222, 3)) ∧ (decode cX8_takesE 141 = .ok (.iinc 1 1, 3)) ∧ (decode cX8_takesE 144 = .ok (.aload_n 0, 1)) ∧ (decode cX8_takesE 145 = .ok (.getfield 45, 3)) ∧ (decode cX8_takesE 148 = .ok (.iload_n 1, 1)) ∧ (decode cX8_takesE 149 = .ok (.iconst 0, 1)) ∧ (decode cX8_takesE 150 = .ok (.bastore, 1)) ∧ (decode cX8_takesE 151 = .ok (.aload_n 0, 1)) ∧ (decode cX8_takesE 152 = .ok (.invokevirtual 219, 3)) ∧ (decode cX8_takesE 155 = .ok (.goto 17, 3)) ∧ (decode cX8_takesE 158 = .ok (.aload_n 0, 1)) ∧ (decode cX8_takesE 159 = .ok (.invokevirtual 240, 3)) ∧ (decode cX8_takesE 162 = .ok (.ifCond .eq 8, 3)) ∧ (decode cX8_takesE 165 = .ok (.iconst 0, 1)) ∧ (decode cX8_takesE 166 = .ok (.istore_n 3, 1)) ∧ (decode cX8_takesE 167 = .ok (.goto 5, 3)) ∧ (decode cX8_takesE 170 = .ok (.iconst 0, 1)) ∧ (decode cX8_takesE 171 = .ok (.ireturn, 1)) ∧ (decode cX8_takesE 172 = .ok (.aload_n 0, 1)) ∧ (decode cX8_takesE 173 = .ok (.invokevirtual 243, 3)) ∧ True := dc_cj [(117, .if_icmp .ge 41, 3), (120, .aload_n 0, 1), (121, .getfield 42, 3), (124, .aload_n 0, 1), (125, .getfield 222, 3), (128, .bipush (-11), 2), (130, .iastore, 1), (131, .aload_n 0, 1), (132, .dup, 1), (133, .getfield 222, 3), (136, .iconst 1, 1), (137, .iadd, 1), (138, .putfield 222, 3), (141, .iinc 1 1, 3), (144, .aload_n 0, 1), (145, .getfield 45, 3), (148, .iload_n 1, 1), (149, .iconst 0, 1), (150, .bastore, 1), (151, .aload_n 0, 1), (152, .invokevirtual 219, 3), (155, .goto 17, 3), (158, .aload_n 0, 1), (159, .invokevirtual 240, 3), (162, .ifCond .eq 8, 3), (165, .iconst 0, 1), (166, .istore_n 3, 1), (167, .goto 5, 3), (170, .iconst 0, 1), (171, .ireturn, 1), (172, .aload_n 0, 1), (173, .invokevirtual 243, 3)] (by decide +kernel)
theorem dX8_takesE_117 : decode cX8_takesE 117 = .ok (.if_icmp .ge 41, 3) := edX8_takesE_117.1
theorem dX8_takesE_120 : decode cX8_takesE 120 = .ok (.aload_n 0, 1) := edX8_takesE_117.2.1
theorem dX8_takesE_121 : decode cX8_takesE 121 = .ok (.getfield 42, 3) := edX8_takesE_117.2.2.1
theorem dX8_takesE_124 : decode cX8_takesE 124 = .ok (.aload_n 0, 1) := edX8_takesE_117.2.2.2.1
theorem dX8_takesE_125 : decode cX8_takesE 125 = .ok (.getfield 222, 3) := edX8_takesE_117.2.2.2.2.1
theorem dX8_takesE_128 : decode cX8_takesE 128 = .ok (.bipush (-11), 2) := edX8_takesE_117.2.2.2.2.2.1
theorem dX8_takesE_130 : decode cX8_takesE 130 = .ok (.iastore, 1) := edX8_takesE_117.2.2.2.2.2.2.1
theorem dX8_takesE_131 : decode cX8_takesE 131 = .ok (.aload_n 0, 1) := edX8_takesE_117.2.2.2.2.2.2.2.1
theorem dX8_takesE_132 : decode cX8_takesE 132 = .ok (.dup, 1) := edX8_takesE_117.2.2.2.2.2.2.2.2.1
theorem dX8_takesE_133 : decode cX8_takesE 133 = .ok (.getfield 222, 3) := edX8_takesE_117.2.2.2.2.2.2.2.2.2.1
theorem dX8_takesE_136 : decode cX8_takesE 136 = .ok (.iconst 1, 1) := edX8_takesE_117.2.2.2.2.2.2.2.2.2.2.1
theorem dX8_takesE_137 : decode cX8_takesE 137 = .ok (.iadd, 1) := edX8_takesE_117.2.2.2.2.2.2.2.2.2.2.2.1
theorem dX8_takesE_138 : decode cX8_takesE 138 = .ok (.putfield 222, 3) := edX8_takesE_117.2.2.2.2.2.2.2.2.2.2.2.2.1
theorem dX8_takesE_141 : decode cX8_takesE 141 = .ok (.iinc 1 1, 3) := edX8_takesE_117.2.2.2.2.2.2.2.2.2.2.2.2.2.1
theorem dX8_takesE_144 : decode cX8_takesE 144 = .ok (.aload_n 0, 1) := edX8_takesE_117.2.2.2.2.2.2.2.2.2.2.2.2.2.2.1
theorem dX8_takesE_145 : decode cX8_takesE 145 = .ok (.getfield 45, 3) := edX8_takesE_117.2.2.2.2.2.2.2.2.2.2.2.2.2.2.2.1
theorem dX8_takesE_148 : decode cX8_takesE 148 = .ok (.iload_n 1, 1) := edX8_takesE_117.2.2.2.2.2.2.2.2.2.2.2.2.2.2.2.2.1
theorem dX8_takesE_149 : decode cX8_takesE 149 = .ok (.iconst 0, 1) := edX8_takesE_117.2.2.2.2.2.2.2.2.2.2.2.2.2.2.2.2.2.1
theorem dX8_takesE_150 : decode cX8_takesE 150 = .ok (.bastore, 1) := edX8_takesE_117.2.2.2.2.2.2.2.2.2.2.2.2.2.2.2.2.2.2.1
theorem dX8_takesE_151 : decode cX8_takesE 151 = .ok (.aload_n 0, 1) := edX8_takesE_117.2.2.2.2.2.2.2.2.2.2.2.2.2.2.2.2.2.2.2.1
theorem dX8_takesE_152 : decode cX8_takesE 152 = .ok (.invokevirtual 219, 3) := edX8_takesE_117.2.2.2.2.2.2.2.2.2.2.2.2.2.2.2.2.2.2.2.2.1
theorem dX8_takesE_155 : decode cX8_takesE 155 = .ok (.goto 17, 3) := edX8_takesE_117.2.2.2.2.2.2.2.2.2.2.2.2.2.2.2.2.2.2.2.2.2.1
theorem dX8_takesE_158 : decode cX8_takesE 158 = .ok (.aload_n 0, 1) := edX8_takesE_117.2.2.2.2.2.2.2.2.2.2.2.2.2.2.2.2.2.2.2.2.2.2.1
theorem dX8_takesE_159 : decode cX8_takesE 159 = .ok (.invokevirtual 240, 3) := edX8_takesE_117.2.2.2.2.2.2.2.2.2.2.2.2.2.2.2.2.2.2.2.2.2.2.2.1
theorem dX8_takesE_162 : decode cX8_takesE 162 = .ok (.ifCond .eq 8, 3) := edX8_takesE_117.2.2.2.2.2.2.2.2.2.2.2.2.2.2.2.2.2.2.2.2.2.2.2.2.1
theorem dX8_takesE_165 : decode cX8_takesE 165 = .ok (.iconst 0, 1) := edX8_takesE_117.2.2.2.2.2.2.2.2.2.2.2.2.2.2.2.2.2.2.2.2.2.2.2.2.2.1
theorem dX8_takesE_166 : decode cX8_takesE 166 = .ok (.istore_n 3, 1) := edX8_takesE_117.2.2.2.2.2.2.2.2.2.2.2.2.2.2.2.2.2.2.2.2.2.2.2.2.2.2.1
theorem dX8_takesE_167 : decode cX8_takesE 167 = .ok (.goto 5, 3) := edX8_takesE_117.2.2.2.2.2.2.2.2.2.2.2.2.2.2.2.2.2.2.2.2.2.2.2.2.2.2.2.1
theorem dX8_takesE_170 : decode cX8_takesE 170 = .ok (.iconst 0, 1) := edX8_takesE_117.2.2.2.2.2.2.2.2.2.2.2.2.2.2.2.2.2.2.2.2.2.2.2.2.2.2.2.2.1
theorem dX8_takesE_171 : decode cX8_takesE 171 = .ok (.ireturn, 1) := edX8_takesE_117.2.2.2.2.2.2.2.2.2.2.2.2.2.2.2.2.2.2.2.2.2.2.2.2.2.2.2.2.2.1
theorem dX8_takesE_172 : decode cX8_takesE 172 = .ok (.aload_n 0, 1) := edX8_takesE_117.2.2.2.2.2.2.2.2.2.2.2.2.2.2.2.2.2.2.2.2.2.2.2.2.2.2.2.2.2.2.1
theorem dX8_takesE_173 : decode cX8_takesE 173 = .ok (.invokevirtual 243, 3) := edX8_takesE_117.2.2.2.2.2.2.2.2.2.2.2.2.2.2.2.2.2.2.2.2.2.2.2.2.2.2.2.2.2.2.2.1
theorem edX8_takesE_176 : (decode cX8_takesE 176 = .ok (.istore_n 2, 1)) ∧ (decode cX8_takesE 177 = .ok (.goto (-149), 3)) ∧ (decode cX8_takesE 180 = .ok (.aload_n 0, 1)) ∧ (decode cX8_takesE 181 = .ok (.getfield 204, 3)) ∧ (decode cX8_takesE 184 = .ok (.iconst 3, 1)) ∧ (decode cX8_takesE 185 = .ok (.if_icmp .ne 52, 3)) ∧ (decode cX8_takesE 188 = .ok (.aload_n 0, 1)) ∧ (decode cX8_takesE 189 = .ok (.getfield 210, 3)) ∧ (decode cX8_takesE 192 = .ok (.bipush 41, 2)) ∧ (decode cX8_takesE 194 = .ok (.if_icmp .ne 43, 3)) ∧ (decode cX8_takesE 197 = .ok (.iload_n 1, 1)) ∧ (decode cX8_takesE 198 = .ok (.ifCond .le 39, 3)) ∧ (decode cX8_takesE 201 = .ok (.aload_n 0, 1)) ∧ (decode cX8_takesE 202 = .ok (.iconst 0, 1)) ∧ (decode cX8_takesE 203 = .ok (.invokevirtual 237, 3)) ∧ (decode cX8_takesE 206 = .ok (.aload_n 0, 1)) ∧ (decode cX8_takesE 207 = .ok (.dup, 1)) ∧ (decode cX8_takesE 208 = .ok (.getfield 222, 3)) ∧ (decode cX8_takesE 211 = .ok (.iconst 1, 1)) ∧ (decode cX8_takesE 212 = .ok (.isub, 1)) ∧ (decode cX8_takesE 213 = .ok (.putfield 222, 3)) ∧ (decode cX8_takesE 216 = .ok (.iinc 1 (-1), 3)) ∧ (decode cX8_takesE 219 = .ok (.aload_n 0, 1)) ∧ (decode cX8_takesE 220 = .ok (.bipush 6, 2)) ∧ (decode cX8_takesE 222 = .ok (.invokevirtual 237, 3)) ∧ (decode cX8_takesE 225 = .ok (.aload_n 0, 1)) ∧ (decode cX8_takesE 226 = .ok (.invokevirtual 243, 3)) ∧ (decode cX8_takesE 229 = .ok (.istore_n 2, 1)) ∧ (decode cX8_takesE 230 = .ok (.aload_n 0, 1)) ∧ (decode cX8_takesE 231 = .ok (.invokevirtual 219, 3)) ∧ (decode cX8_takesE 234 = .ok (.goto (-206), 3)) ∧ (decode cX8_takesE 237 = .ok (.aload_n 0, 1)) ∧ True := dc_cj [(176, .istore_n 2, 1), (177, .goto (-149), 3), (180, .aload_n 0, 1), (181, .getfield 204, 3), (184, .iconst 3, 1), (185, .if_icmp .ne 52, 3), (188, .aload_n 0, 1), (189, .getfield 210, 3), (192, .bipush 41, 2), (194, .if_icmp .ne 43, 3), (197, .iload_n 1, 1), (198, .ifCond .le 39, 3), (201, .aload_n 0, 1), (202, .iconst 0, 1), (203, .invokevirtual 237, 3), (206, .aload_n 0, 1), (207, .dup, 1), (208, .getfield 222, 3), (211, .iconst 1, 1), (212, .isub, 1), (213, .putfield 222, 3), (216, .iinc 1 (-1), 3), (219, .aload_n 0, 1), (220, .bipush 6, 2), (222, .invokevirtual 237, 3), (225, .aload_n 0, 1), (226, .invokevirtual 243, 3), (229, .istore_n 2, 1), (230, .aload_n 0, 1), (231, .invokevirtual 219, 3), (234, .goto (-206), 3), (237, .aload_n 0, 1)] (by decide +kernel)
theorem dX8_takesE_176 : decode cX8_takesE 176 = .ok (.istore_n 2, 1) := edX8_takesE_176.1
theorem dX8_takesE_177 : decode cX8_takesE 177 = .ok (.goto (-149), 3) := edX8_takesE_176.2.1
theorem dX8_takesE_180 : decode cX8_takesE 180 = .ok (.aload_n 0, 1) := edX8_takesE_176.2.2.1
theorem dX8_takesE_181 : decode cX8_takesE 181 = .ok (.getfield 204, 3) := edX8_takesE_176.2.2.2.1
theorem dX8_takesE_184 : decode cX8_takesE 184 = .ok (.iconst 3, 1) := edX8_takesE_176.2.2.2.2.1
theorem dX8_takesE_185 : decode cX8_takesE 185 = .ok (.if_icmp .ne 52, 3) := edX8_takesE_176.2.2.2.2.2.1
theorem dX8_takesE_188 : decode cX8_takesE 188 = .ok (.aload_n 0, 1) := edX8_takesE_176.2.2.2.2.2.2.1
theorem dX8_takesE_189 : decode cX8_takesE 189 = .ok (.getfield 210, 3) := edX8_takesE_176.2.2.2.2.2.2.2.1
theorem dX8_takesE_192 : decode cX8_takesE 192 = .ok (.bipush 41, 2) := edX8_takesE_176.2.2.2.2.2.2.2.2.1
theorem dX8_takesE_194 : decode cX8_takesE 194 = .ok (.if_icmp .ne 43, 3) := edX8_takesE_176.2.2.2.2.2.2.2.2.2.1
theorem dX8_takesE_197 : decode cX8_takesE 197 = .ok (.iload_n 1, 1) := edX8_takesE_176.2.2.2.2.2.2.2.2.2.2.1
theorem dX8_takesE_198 : decode cX8_takesE 198 = .ok (.ifCond .le 39, 3) := edX8_takesE_176.2.2.2.2.2.2.2.2.2.2.2.1
theorem dX8_takesE_201 : decode cX8_takesE 201 = .ok (.aload_n 0, 1) := edX8_takesE_176.2.2.2.2.2.2.2.2.2.2.2.2.1
theorem dX8_takesE_202 : decode cX8_takesE 202 = .ok (.iconst 0, 1) := edX8_takesE_176.2.2.2.2.2.2.2.2.2.2.2.2.2.1
theorem dX8_takesE_203 : decode cX8_takesE 203 = .ok (.invokevirtual 237, 3) := edX8_takesE_176.2.2.2.2.2.2.2.2.2.2.2.2.2.2.1
theorem dX8_takesE_206 : decode cX8_takesE 206 = .ok (.aload_n 0, 1) := edX8_takesE_176.2.2.2.2.2.2.2.2.2.2.2.2.2.2.2.1
theorem dX8_takesE_207 : decode cX8_takesE 207 = .ok (.dup, 1) := edX8_takesE_176.2.2.2.2.2.2.2.2.2.2.2.2.2.2.2.2.1
theorem dX8_takesE_208 : decode cX8_takesE 208 = .ok (.getfield 222, 3) := edX8_takesE_176.2.2.2.2.2.2.2.2.2.2.2.2.2.2.2.2.2.1
theorem dX8_takesE_211 : decode cX8_takesE 211 = .ok (.iconst 1, 1) := edX8_takesE_176.2.2.2.2.2.2.2.2.2.2.2.2.2.2.2.2.2.2.1
theorem dX8_takesE_212 : decode cX8_takesE 212 = .ok (.isub, 1) := edX8_takesE_176.2.2.2.2.2.2.2.2.2.2.2.2.2.2.2.2.2.2.2.1
theorem dX8_takesE_213 : decode cX8_takesE 213 = .ok (.putfield 222, 3) := edX8_takesE_176.2.2.2.2.2.2.2.2.2.2.2.2.2.2.2.2.2.2.2.2.1
theorem dX8_takesE_216 : decode cX8_takesE 216 = .ok (.iinc 1 (-1), 3) := edX8_takesE_176.2.2.2.2.2.2.2.2.2.2.2.2.2.2.2.2.2.2.2.2.2.1
theorem dX8_takesE_219 : decode cX8_takesE 219 = .ok (.aload_n 0, 1) := edX8_takesE_176.2.2.2.2.2.2.2.2.2.2.2.2.2.2.2.2.2.2.2.2.2.2.1
theorem dX8_takesE_220 : decode cX8_takesE 220 = .ok (.bipush 6, 2) := edX8_takesE_176.2.2.2.2.2.2.2.2.2.2.2.2.2.2.2.2.2.2.2.2.2.2.2.1
theorem dX8_takesE_222 : decode cX8_takesE 222 = .ok (.invokevirtual 237, 3) := edX8_takesE_176.2.2.2.2.2.2.2.2.2.2.2.2.2.2.2.2.2.2.2.2.2.2.2.2.1
theorem dX8_takesE_225 : decode cX8_takesE 225 = .ok (.aload_n 0, 1) := edX8_takesE_176.2.2.2.2.2.2.2.2.2.2.2.2.2.2.2.2.2.2.2.2.2.2.2.2.2.1
theorem dX8_takesE_226 : decode cX8_takesE 226 = .ok (.invokevirtual 243, 3) := edX8_takesE_176.2.2.2.2.2.2.2.2.2.2.2.2.2.2.2.2.2.2.2.2.2.2.2.2.2.2.1
theorem dX8_takesE_229 : decode cX8_takesE 229 = .ok (.istore_n 2, 1) := edX8_takesE_176.2.2.2.2.2.2.2.2.2.2.2.2.2.2.2.2.2.2.2.2.2.2.2.2.2.2.2.1
theorem dX8_takesE_230 : decode cX8_takesE 230 = .ok (.aload_n 0, 1) := edX8_takesE_176.2.2.2.2.2.2.2.2.2.2.2.2.2.2.2.2.2.2.2.2.2.2.2.2.2.2.2.2.1
theorem dX8_takesE_231 : decode cX8_takesE 231 = .ok (.invokevirtual 219, 3) := edX8_takesE_176.2.2.2.2.2.2.2.2.2.2.2.2.2.2.2.2.2.2.2.2.2.2.2.2.2.2.2.2.2.1
theorem dX8_takesE_234 : decode cX8_takesE 234 = .ok (.goto (-206), 3) := edX8_takesE_176.2.2.2.2.2.2.2.2.2.2.2.2.2.2.2.2.2.2.2.2.2.2.2.2.2.2.2.2.2.2.1
theorem dX8_takesE_237 : decode cX8_takesE 237 = .ok (.aload_n 0, 1) := edX8_takesE_176.2.2.2.2.2.2.2.2.2.2.2.2.2.2.2.2.2.2.2.2.2.2.2.2.2.2.2.2.2.2.2.1
theorem edX8_takesE_238 : (decode cX8_takesE 238 = .ok (.invokevirtual 246, 3)) ∧ (decode cX8_takesE 241 = .ok (.istore 4, 2)) ∧ (decode cX8_takesE 243 = .ok (.iload 4, 2)) ∧ (decode cX8_takesE 245 = .ok (.ifCond .eq 21, 3)) ∧ (decode cX8_takesE 248 = .ok (.iload 4, 2)) ∧ (decode cX8_takesE 250 = .ok (.invokestatic 225, 3)) ∧ (decode cX8_takesE 253 = .ok (.iconst 3, 1)) ∧ (decode cX8_takesE 254 = .ok (.if_icmp .ne 14, 3)) ∧ (decode cX8_takesE 257 = .ok (.aload_n 0, 1)) ∧ (decode cX8_takesE 258 = .ok (.getfield 45, 3)) ∧ (decode cX8_takesE 261 = .ok (.iload_n 1, 1)) ∧ (decode cX8_takesE 262 = .ok (.baload, 1)) ∧ (decode cX8_takesE 263 = .ok (.ifCond .eq 5, 3)) ∧ (decode cX8_takesE 266 = .ok (.iconst 0, 1)) ∧ (decode cX8_takesE 267 = .ok (.ireturn, 1)) ∧ (decode cX8_takesE 268 = .ok (.aload_n 0, 1)) ∧ (decode cX8_takesE 269 = .ok (.getfield 45, 3)) ∧ (decode cX8_takesE 272 = .ok (.iload_n 1, 1)) ∧ (decode cX8_takesE 273 = .ok (.iload 4, 2)) ∧ (decode cX8_takesE 275 = .ok (.invokestatic 225, 3)) ∧ (decode cX8_takesE 278 = .ok (.iconst 3, 1)) ∧ (decode cX8_takesE 279 = .ok (.if_icmp .eq 21, 3)) ∧ (decode cX8_takesE 282 = .ok (.iload 4, 2)) ∧ (decode cX8_takesE 284 = .ok (.invokestatic 225, 3)) ∧ (decode cX8_takesE 287 = .ok (.iconst 3, 1)) ∧ (decode cX8_takesE 288 = .ok (.if_icmp .le 16, 3)) ∧ (decode cX8_takesE 291 = .ok (.aload_n 0, 1)) ∧ (decode cX8_takesE 292 = .ok (.getfield 45, 3)) ∧ (decode cX8_takesE 295 = .ok (.iload_n 1, 1)) ∧ (decode cX8_takesE 296 = .ok (.baload, 1)) ∧ (decode cX8_takesE 297 = .ok (.ifCond .eq 7, 3)) ∧ (decode cX8_takesE 300 = .ok (.iconst 1, 1)) ∧ True := dc_cj [(238, .invokevirtual 246, 3), (241, .istore 4, 2), (243, .iload 4, 2), (245, .ifCond .eq 21, 3), (248, .iload 4, 2), (250, .invokestatic 225, 3), (253, .iconst 3, 1), (254, .if_icmp .ne 14, 3), (257, .aload_n 0, 1), (258, .getfield 45, 3), (261, .iload_n 1, 1), (262, .baload, 1), (263, .ifCond .eq 5, 3), (266, .iconst 0, 1), (267, .ireturn, 1), (268, .aload_n 0, 1), (269, .getfield 45, 3), (272, .iload_n 1, 1), (273, .iload 4, 2), (275, .invokestatic 225, 3), (278, .iconst 3, 1), (279, .if_icmp .eq 21, 3), (282, .iload 4, 2), (284, .invokestatic 225, 3), (287, .iconst 3, 1), (288, .if_icmp .le 16, 3), (291, .aload_n 0, 1), (292, .getfield 45, 3), (295, .iload_n 1, 1), (296, .baload, 1), (297, .ifCond .eq 7, 3), (300, .iconst 1, 1)] (by decide +kernel)
theorem dX8_takesE_238 : decode cX8_takesE 238 = .ok (.invokevirtual 246, 3) := edX8_takesE_238.1
theorem dX8_takesE_241 : decode cX8_takesE 241 = .ok (.istore 4, 2) := edX8_takesE_238.2.1
theorem dX8_takesE_243 : decode cX8_takesE 243 = .ok (.iload 4, 2) := edX8_takesE_238.2.2.1
theorem dX8_takesE_245 : decode cX8_takesE 245 = .ok (.ifCond .eq 21, 3) := edX8_takesE_238.2.2.2.1
theorem dX8_takesE_248 : decode cX8_takesE 248 = .ok (.iload 4, 2) := edX8_takesE_238.2.2.2.2.1
theorem dX8_takesE_250 : decode cX8_takesE 250 = .ok (.invokestatic 225, 3) := edX8_takesE_238.2.2.2.2.2.1
theorem dX8_takesE_253 : decode cX8_takesE 253 = .ok (.iconst 3, 1) := edX8_takesE_238.2.2.2.2.2.2.1
theorem dX8_takesE_254 : decode cX8_takesE 254 = .ok (.if_icmp .ne 14, 3) := edX8_takesE_238.2.2.2.2.2.2.2.1
theorem dX8_takesE_257 : decode cX8_takesE 257 = .ok (.aload_n 0, 1) := edX8_takesE_238.2.2.2.2.2.2.2.2.1
theorem dX8_takesE_258 : decode cX8_takesE 258 = .ok (.getfield 45, 3) := edX8_takesE_238.2.2.2.2.2.2.2.2.2.1
theorem dX8_takesE_261 : decode cX8_takesE 261 = .ok (.iload_n 1, 1) := edX8_takesE_238.2.2.2.2.2.2.2.2.2.2.1
theorem dX8_takesE_262 : decode cX8_takesE 262 = .ok (.baload, 1) := edX8_takesE_238.2.2.2.2.2.2.2.2.2.2.2.1
theorem dX8_takesE_263 : decode cX8_takesE 263 = .ok (.ifCond .eq 5, 3) := edX8_takesE_238.2.2.2.2.2.2.2.2.2.2.2.2.1
theorem dX8_takesE_266 : decode cX8_takesE 266 = .ok (.iconst 0, 1) := edX8_takesE_238.2.2.2.2.2.2.2.2.2.2.2.2.2.1
theorem dX8_takesE_267 : decode cX8_takesE 267 = .ok (.ireturn, 1) := edX8_takesE_238.2.2.2.2.2.2.2.2.2.2.2.2.2.2.1
theorem dX8_takesE_268 : decode cX8_takesE 268 = .ok (.aload_n 0, 1) := edX8_takesE_238.2.2.2.2.2.2.2.2.2.2.2.2.2.2.2.1
theorem dX8_takesE_269 : decode cX8_takesE 269 = .ok (.getfield 45, 3) := edX8_takesE_238.2.2.2.2.2.2.2.2.2.2.2.2.2.2.2.2.1
theorem dX8_takesE_272 : decode cX8_takesE 272 = .ok (.iload_n 1, 1) := edX8_takesE_238.2.2.2.2.2.2.2.2.2.2.2.2.2.2.2.2.2.1
theorem dX8_takesE_273 : decode cX8_takesE 273 = .ok (.iload 4, 2) := edX8_takesE_238.2.2.2.2.2.2.2.2.2.2.2.2.2.2.2.2.2.2.1
theorem dX8_takesE_275 : decode cX8_takesE 275 = .ok (.invokestatic 225, 3) := edX8_takesE_238.2.2.2.2.2.2.2.2.2.2.2.2.2.2.2.2.2.2.2.1
theorem dX8_takesE_278 : decode cX8_takesE 278 = .ok (.iconst 3, 1) := edX8_takesE_238.2.2.2.2.2.2.2.2.2.2.2.2.2.2.2.2.2.2.2.2.1
theorem dX8_takesE_279 : decode cX8_takesE 279 = .ok (.if_icmp .eq 21, 3) := edX8_takesE_238.2.2.2.2.2.2.2.2.2.2.2.2.2.2.2.2.2.2.2.2.2.1
theorem dX8_takesE_282 : decode cX8_takesE 282 = .ok (.iload 4, 2) := edX8_takesE_238.2.2.2.2.2.2.2.2.2.2.2.2.2.2.2.2.2.2.2.2.2.2.1
theorem dX8_takesE_284 : decode cX8_takesE 284 = .ok (.invokestatic 225, 3) := edX8_takesE_238.2.2.2.2.2.2.2.2.2.2.2.2.2.2.2.2.2.2.2.2.2.2.2.1
theorem dX8_takesE_287 : decode cX8_takesE 287 = .ok (.iconst 3, 1) := edX8_takesE_238.2.2.2.2.2.2.2.2.2.2.2.2.2.2.2.2.2.2.2.2.2.2.2.2.1
theorem dX8_takesE_288 : decode cX8_takesE 288 = .ok (.if_icmp .le 16, 3) := edX8_takesE_238.2.2.2.2.2.2.2.2.2.2.2.2.2.2.2.2.2.2.2.2.2.2.2.2.2.1
theorem dX8_takesE_291 : decode cX8_takesE 291 = .ok (.aload_n 0, 1) := edX8_takesE_238.2.2.2.2.2.2.2.2.2.2.2.2.2.2.2.2.2.2.2.2.2.2.2.2.2.2.1
theorem dX8_takesE_292 : decode cX8_takesE 292 = .ok (.getfield 45, 3) := edX8_takesE_238.2.2.2.2.2.2.2.2.2.2.2.2.2.2.2.2.2.2.2.2.2.2.2.2.2.2.2.1
theorem dX8_takesE_295 : decode cX8_takesE 295 = .ok (.iload_n 1, 1) := edX8_takesE_238.2.2.2.2.2.2.2.2.2.2.2.2.2.2.2.2.2.2.2.2.2.2.2.2.2.2.2.2.1
theorem dX8_takesE_296 : decode cX8_takesE 296 = .ok (.baload, 1) := edX8_takesE_238.2.2.2.2.2.2.2.2.2.2.2.2.2.2.2.2.2.2.2.2.2.2.2.2.2.2.2.2.2.1
theorem dX8_takesE_297 : decode cX8_takesE 297 = .ok (.ifCond .eq 7, 3) := edX8_takesE_238.2.2.2.2.2.2.2.2.2.2.2.2.2.2.2.2.2.2.2.2.2.2.2.2.2.2.2.2.2.2.1
theorem dX8_takesE_300 : decode cX8_takesE 300 = .ok (.iconst 1, 1) := edX8_takesE_238.2.2.2.2.2.2.2.2.2.2.2.2.2.2.2.2.2.2.2.2.2.2.2.2.2.2.2.2.2.2.2.1
theorem edX8_takesE_301 : (decode cX8_takesE 301 = .ok (.goto 4, 3)) ∧ (decode cX8_takesE 304 = .ok (.iconst 0, 1)) ∧ (decode cX8_takesE 305 = .ok (.bastore, 1)) ∧ (decode cX8_takesE 306 = .ok (.aload_n 0, 1)) ∧ (decode cX8_takesE 307 = .ok (.iload 4, 2)) ∧ (decode cX8_takesE 309 = .ok (.invokestatic 225, 3)) ∧ (decode cX8_takesE 312 = .ok (.invokevirtual 237, 3)) ∧ (decode cX8_takesE 315 = .ok (.aload_n 0, 1)) ∧ (decode cX8_takesE 316 = .ok (.getfield 42, 3)) ∧ (decode cX8_takesE 319 = .ok (.aload_n 0, 1)) ∧ (decode cX8_takesE 320 = .ok (.getfield 222, 3)) ∧ (decode cX8_takesE 323 = .ok (.iload 4, 2)) ∧ (decode cX8_takesE 325 = .ok (.iastore, 1)) ∧ (decode cX8_takesE 326 = .ok (.aload_n 0, 1)) ∧ (decode cX8_takesE 327 = .ok (.dup, 1)) ∧ (decode cX8_takesE 328 = .ok (.getfield 222, 3)) ∧ (decode cX8_takesE 331 = .ok (.iconst 1, 1)) ∧ (decode cX8_takesE 332 = .ok (.iadd, 1)) ∧ (decode cX8_takesE 333 = .ok (.putfield 222, 3)) ∧ (decode cX8_takesE 336 = .ok (.iconst 1, 1)) ∧ (decode cX8_takesE 337 = .ok (.istore_n 3, 1)) ∧ (decode cX8_takesE 338 = .ok (.aload_n 0, 1)) ∧ (decode cX8_takesE 339 = .ok (.invokevirtual 219, 3)) ∧ (decode cX8_takesE 342 = .ok (.goto (-314), 3)) ∧ (decode cX8_takesE 345 = .ok (.aload_n 0, 1)) ∧ (decode cX8_takesE 346 = .ok (.iconst 0, 1)) ∧ (decode cX8_takesE 347 = .ok (.invokevirtual 237, 3)) ∧ (decode cX8_takesE 350 = .ok (.iload_n 1, 1)) ∧ (decode cX8_takesE 351 = .ok (.ifCond .ne 7, 3)) ∧ (decode cX8_takesE 354 = .ok (.iconst 1, 1)) ∧ (decode cX8_takesE 355 = .ok (.goto 4, 3)) ∧ (decode cX8_takesE 358 = .ok (.iconst 0, 1)) ∧ True := dc_cj [(301, .goto 4, 3), (304, .iconst 0, 1), (305, .bastore, 1), (306, .aload_n 0, 1), (307, .iload 4, 2), (309, .invokestatic 225, 3), (312, .invokevirtual 237, 3), (315, .aload_n 0, 1), (316, .getfield 42, 3), (319, .aload_n 0, 1), (320, .getfield 222, 3), (323, .iload 4, 2), (325, .iastore, 1), (326, .aload_n 0, 1), (327, .dup, 1), (328, .getfield 222, 3), (331, .iconst 1, 1), (332, .iadd, 1), (333, .putfield 222, 3), (336, .iconst 1, 1), (337, .istore_n 3, 1), (338, .aload_n 0, 1), (339, .invokevirtual 219, 3), (342, .goto (-314), 3), (345, .aload_n 0, 1), (346, .iconst 0, 1), (347, .invokevirtual 237, 3), (350, .iload_n 1, 1), (351, .ifCond .ne 7, 3), (354, .iconst 1, 1), (355, .goto 4, 3), (358, .iconst 0, 1)] (by decide +kernel)
theorem dX8_takesE_301 : decode cX8_takesE 301 = .ok (.goto 4, 3) := edX8_takesE_301.1
theorem dX8_takesE_304 : decode cX8_takesE 304 = .ok (.iconst 0, 1) := edX8_takesE_301.2.1
theorem dX8_takesE_305 : decode cX8_takesE 305 = .ok (.bastore, 1) := edX8_takesE_301.2.2.1
theorem dX8_takesE_306 : decode cX8_takesE 306 = .ok (.aload_n 0, 1) := edX8_takesE_301.2.2.2.1
theorem dX8_takesE_307 : decode cX8_takesE 307 = .ok (.iload 4, 2) := edX8_takesE_301.2.2.2.2.1
theorem dX8_takesE_309 : decode cX8_takesE 309 = .ok (.invokestatic 225, 3) := edX8_takesE_301.2.2.2.2.2.1
theorem dX8_takesE_312 : decode cX8_takesE 312 = .ok (.invokevirtual 237, 3) := edX8_takesE_301.2.2.2.2.2.2.1
theorem dX8_takesE_315 : decode cX8_takesE 315 = .ok (.aload_n 0, 1) := edX8_takesE_301.2.2.2.2.2.2.2.1
theorem dX8_takesE_316 : decode cX8_takesE 316 = .ok (.getfield 42, 3) := edX8_takesE_301.2.2.2.2.2.2.2.2.1
theorem dX8_takesE_319 : decode cX8_takesE 319 = .ok (.aload_n 0, 1) := edX8_takesE_301.2.2.2.2.2.2.2.2.2.1
theorem dX8_takesE_320 : decode cX8_takesE 320 = .ok (.getfield 222, 3) := edX8_takesE_301.2.2.2.2.2.2.2.2.2.2.1
theorem dX8_takesE_323 : decode cX8_takesE 323 = .ok (.iload 4, 2) := edX8_takesE_301.2.2.2.2.2.2.2.2.2.2.2.1
theorem dX8_takesE_325 : decode cX8_takesE 325 = .ok (.iastore, 1) := edX8_takesE_301.2.2.2.2.2.2.2.2.2.2.2.2.1
theorem dX8_takesE_326 : decode cX8_takesE 326 = .ok (.aload_n 0, 1) := edX8_takesE_301.2.2.2.2.2.2.2.2.2.2.2.2.2.1
theorem dX8_takesE_327 : decode cX8_takesE 327 = .ok (.dup, 1) := edX8_takesE_301.2.2.2.2.2.2.2.2.2.2.2.2.2.2.1
theorem dX8_takesE_328 : decode cX8_takesE 328 = .ok (.getfield 222, 3) := edX8_takesE_301.2.2.2.2.2.2.2.2.2.2.2.2.2.2.2.1
theorem dX8_takesE_331 : decode cX8_takesE 331 = .ok (.iconst 1, 1) := edX8_takesE_301.2.2.2.2.2.2.2.2.2.2.2.2.2.2.2.2.1
theorem dX8_takesE_332 : decode cX8_takesE 332 = .ok (.iadd, 1) := edX8_takesE_301.2.2.2.2.2.2.2.2.2.2.2.2.2.2.2.2.2.1
theorem dX8_takesE_333 : decode cX8_takesE 333 = .ok (.putfield 222, 3) := edX8_takesE_301.2.2.2.2.2.2.2.2.2.2.2.2.2.2.2.2.2.2.1
theorem dX8_takesE_336 : decode cX8_takesE 336 = .ok (.iconst 1, 1) := edX8_takesE_301.2.2.2.2.2.2.2.2.2.2.2.2.2.2.2.2.2.2.2.1
theorem dX8_takesE_337 : decode cX8_takesE 337 = .ok (.istore_n 3, 1) := edX8_takesE_301.2.2.2.2.2.2.2.2.2.2.2.2.2.2.2.2.2.2.2.2.1
theorem dX8_takesE_338 : decode cX8_takesE 338 = .ok (.aload_n 0, 1) := edX8_takesE_301.2.2.2.2.2.2.2.2.2.2.2.2.2.2.2.2.2.2.2.2.2.1
theorem dX8_takesE_339 : decode cX8_takesE 339 = .ok (.invokevirtual 219, 3) := edX8_takesE_301.2.2.2.2.2.2.2.2.2.2.2.2.2.2.2.2.2.2.2.2.2.2.1
theorem dX8_takesE_342 : decode cX8_takesE 342 = .ok (.goto (-314), 3) := edX8_takesE_301.2.2.2.2.2.2.2.2.2.2.2.2.2.2.2.2.2.2.2.2.2.2.2.1
theorem dX8_takesE_345 : decode cX8_takesE 345 = .ok (.aload_n 0, 1) := edX8_takesE_301.2.2.2.2.2.2.2.2.2.2.2.2.2.2.2.2.2.2.2.2.2.2.2.2.1
theorem dX8_takesE_346 : decode cX8_takesE 346 = .ok (.iconst 0, 1) := edX8_takesE_301.2.2.2.2.2.2.2.2.2.2.2.2.2.2.2.2.2.2.2.2.2.2.2.2.2.1
theorem dX8_takesE_347 : decode cX8_takesE 347 = .ok (.invokevirtual 237, 3) := edX8_takesE_301.2.2.2.2.2.2.2.2.2.2.2.2.2.2.2.2.2.2.2.2.2.2.2.2.2.2.1
theorem dX8_takesE_350 : decode cX8_takesE 350 = .ok (.iload_n 1, 1) := edX8_takesE_301.2.2.2.2.2.2.2.2.2.2.2.2.2.2.2.2.2.2.2.2.2.2.2.2.2.2.2.1
theorem dX8_takesE_351 : decode cX8_takesE 351 = .ok (.ifCond .ne 7, 3) := edX8_takesE_301.2.2.2.2.2.2.2.2.2.2.2.2.2.2.2.2.2.2.2.2.2.2.2.2.2.2.2.2.1
theorem dX8_takesE_354 : decode cX8_takesE 354 = .ok (.iconst 1, 1) := edX8_takesE_301.2.2.2.2.2.2.2.2.2.2.2.2.2.2.2.2.2.2.2.2.2.2.2.2.2.2.2.2.2.1
theorem dX8_takesE_355 : decode cX8_takesE 355 = .ok (.goto 4, 3) := edX8_takesE_301.2.2.2.2.2.2.2.2.2.2.2.2.2.2.2.2.2.2.2.2.2.2.2.2.2.2.2.2.2.2.1
theorem dX8_takesE_358 : decode cX8_takesE 358 = .ok (.iconst 0, 1) := edX8_takesE_301.2.2.2.2.2.2.2.2.2.2.2.2.2.2.2.2.2.2.2.2.2.2.2.2.2.2.2.2.2.2.2.1
theorem edX8_takesE_359 : (decode cX8_takesE 359 = .ok (.ireturn, 1)) ∧ True := dc_cj [(359, .ireturn, 1)] (by decide +kernel)
theorem dX8_takesE_359 : decode cX8_takesE 359 = .ok (.ireturn, 1) := edX8_takesE_359.1
theorem edX8_notsOpen_0 : (decode cX8_notsOpen 0 = .ok (.iconst 0, 1)) ∧ (decode cX8_notsOpen 1 = .ok (.istore_n 1, 1)) ∧ (decode cX8_notsOpen 2 = .ok (.iconst 0, 1)) ∧ (decode cX8_notsOpen 3 = .ok (.istore_n 2, 1)) ∧ (decode cX8_notsOpen 4 = .ok (.iload_n 2, 1)) ∧ (decode cX8_notsOpen 5 = .ok (.aload_n 0, 1)) ∧ (decode cX8_notsOpen 6 = .ok (.getfield 222, 3)) ∧ (decode cX8_notsOpen 9 = .ok (.if_icmp .ge 28, 3)) ∧ (decode cX8_notsOpen 12 = .ok (.iload_n 1, 1)) ∧ (decode cX8_notsOpen 13 = .ok (.aload_n 0, 1)) ∧ (decode cX8_notsOpen 14 = .ok (.getfield 42, 3)) ∧ (decode cX8_notsOpen 17 = .ok (.iload_n 2, 1)) ∧ (decode cX8_notsOpen 18 = .ok (.iaload, 1)) ∧ (decode cX8_notsOpen 19 = .ok (.bipush (-10), 2)) ∧ (decode cX8_notsOpen 21 = .ok (.if_icmp .ne 7, 3)) ∧ (decode cX8_notsOpen 24 = .ok (.iconst 1, 1)) ∧ (decode cX8_notsOpen 25 = .ok (.goto 4, 3)) ∧ (decode cX8_notsOpen 28 = .ok (.iconst 0, 1)) ∧ (decode cX8_notsOpen 29 = .ok (.iadd, 1)) ∧ (decode cX8_notsOpen 30 = .ok (.istore_n 1, 1)) ∧ (decode cX8_notsOpen 31 = .ok (.iinc 2 1, 3)) ∧ (decode cX8_notsOpen 34 = .ok (.goto (-30), 3)) ∧ (decode cX8_notsOpen 37 = .ok (.iload_n 1, 1)) ∧ (decode cX8_notsOpen 38 = .ok (.ireturn, 1)) ∧ True := dc_cj [(0, .iconst 0, 1), (1, .istore_n 1, 1), (2, .iconst 0, 1), (3, .istore_n 2, 1), (4, .iload_n 2, 1), (5, .aload_n 0, 1), (6, .getfield 222, 3), (9, .if_icmp .ge 28, 3), (12, .iload_n 1, 1), (13, .aload_n 0, 1), (14, .getfield 42, 3), (17, .iload_n 2, 1), (18, .iaload, 1), (19, .bipush (-10), 2), (21, .if_icmp .ne 7, 3), (24, .iconst 1, 1), (25, .goto 4, 3), (28, .iconst 0, 1), (29, .iadd, 1), (30, .istore_n 1, 1), (31, .iinc 2 1, 3), (34, .goto (-30), 3), (37, .iload_n 1, 1), (38, .ireturn, 1)] (by decide +kernel)
theorem dX8_notsOpen_0 : decode cX8_notsOpen 0 = .ok (.iconst 0, 1) := edX8_notsOpen_0.1
theorem dX8_notsOpen_1 : decode cX8_notsOpen 1 = .ok (.istore_n 1, 1) := edX8_notsOpen_0.2.1
theorem dX8_notsOpen_2 : decode cX8_notsOpen 2 = .ok (.iconst 0, 1) := edX8_notsOpen_0.2.2.1
theorem dX8_notsOpen_3 : decode cX8_notsOpen 3 = .ok (.istore_n 2, 1) := edX8_notsOpen_0.2.2.2.1
theorem dX8_notsOpen_4 : decode cX8_notsOpen 4 = .ok (.iload_n 2, 1) := edX8_notsOpen_0.2.2.2.2.1
theorem dX8_notsOpen_5 : decode cX8_notsOpen 5 = .ok (.aload_n 0, 1) := edX8_notsOpen_0.2.2.2.2.2.1
theorem dX8_notsOpen_6 : decode cX8_notsOpen 6 = .ok (.getfield 222, 3) := edX8_notsOpen_0.2.2.2.2.2.2.1
theorem dX8_notsOpen_9 : decode cX8_notsOpen 9 = .ok (.if_icmp .ge 28, 3) := edX8_notsOpen_0.2.2.2.2.2.2.2.1
theorem dX8_notsOpen_12 : decode cX8_notsOpen 12 = .ok (.iload_n 1, 1) := edX8_notsOpen_0.2.2.2.2.2.2.2.2.1
theorem dX8_notsOpen_13 : decode cX8_notsOpen 13 = .ok (.aload_n 0, 1) := edX8_notsOpen_0.2.2.2.2.2.2.2.2.2.1
theorem dX8_notsOpen_14 : decode cX8_notsOpen 14 = .ok (.getfield 42, 3) := edX8_notsOpen_0.2.2.2.2.2.2.2.2.2.2.1
theorem dX8_notsOpen_17 : decode cX8_notsOpen 17 = .ok (.iload_n 2, 1) := edX8_notsOpen_0.2.2.2.2.2.2.2.2.2.2.2.1
theorem dX8_notsOpen_18 : decode cX8_notsOpen 18 = .ok (.iaload, 1) := edX8_notsOpen_0.2.2.2.2.2.2.2.2.2.2.2.2.1
theorem dX8_notsOpen_19 : decode cX8_notsOpen 19 = .ok (.bipush (-10), 2) := edX8_notsOpen_0.2.2.2.2.2.2.2.2.2.2.2.2.2.1
theorem dX8_notsOpen_21 : decode cX8_notsOpen 21 = .ok (.if_icmp .ne 7, 3) := edX8_notsOpen_0.2.2.2.2.2.2.2.2.2.2.2.2.2.2.1
theorem dX8_notsOpen_24 : decode cX8_notsOpen 24 = .ok (.iconst 1, 1) := edX8_notsOpen_0.2.2.2.2.2.2.2.2.2.2.2.2.2.2.2.1
theorem dX8_notsOpen_25 : decode cX8_notsOpen 25 = .ok (.goto 4, 3) := edX8_notsOpen_0.2.2.2.2.2.2.2.2.2.2.2.2.2.2.2.2.1
theorem dX8_notsOpen_28 : decode cX8_notsOpen 28 = .ok (.iconst 0, 1) := edX8_notsOpen_0.2.2.2.2.2.2.2.2.2.2.2.2.2.2.2.2.2.1
theorem dX8_notsOpen_29 : decode cX8_notsOpen 29 = .ok (.iadd, 1) := edX8_notsOpen_0.2.2.2.2.2.2.2.2.2.2.2.2.2.2.2.2.2.2.1
theorem dX8_notsOpen_30 : decode cX8_notsOpen 30 = .ok (.istore_n 1, 1) := edX8_notsOpen_0.2.2.2.2.2.2.2.2.2.2.2.2.2.2.2.2.2.2.2.1
theorem dX8_notsOpen_31 : decode cX8_notsOpen 31 = .ok (.iinc 2 1, 3) := edX8_notsOpen_0.2.2.2.2.2.2.2.2.2.2.2.2.2.2.2.2.2.2.2.2.1
theorem dX8_notsOpen_34 : decode cX8_notsOpen 34 = .ok (.goto (-30), 3) := edX8_notsOpen_0.2.2.2.2.2.2.2.2.2.2.2.2.2.2.2.2.2.2.2.2.2.1
theorem dX8_notsOpen_37 : decode cX8_notsOpen 37 = .ok (.iload_n 1, 1) := edX8_notsOpen_0.2.2.2.2.2.2.2.2.2.2.2.2.2.2.2.2.2.2.2.2.2.2.1
theorem dX8_notsOpen_38 : decode cX8_notsOpen 38 = .ok (.ireturn, 1) := edX8_notsOpen_0.2.2.2.2.2.2.2.2.2.2.2.2.2.2.2.2.2.2.2.2.2.2.2.1
theorem edX8_text_0 : (decode cX8_text 0 = .ok (.aload_n 0, 1)) ∧ (decode cX8_text 1 = .ok (.iconst 0, 1)) ∧ (decode cX8_text 2 = .ok (.putfield 195, 3)) ∧ (decode cX8_text 5 = .ok (.aload_n 0, 1)) ∧ (decode cX8_text 6 = .ok (.iconst (-1), 1)) ∧ (decode cX8_text 7 = .ok (.putfield 201, 3)) ∧ (decode cX8_text 10 = .ok (.aload_n 0, 1)) ∧ (decode cX8_text 11 = .ok (.invokevirtual 219, 3)) ∧ (decode cX8_text 14 = .ok (.aload_n 0, 1)) ∧ (decode cX8_text 15 = .ok (.invokevirtual 249, 3)) ∧ (decode cX8_text 18 = .ok (.ifCond .eq 14, 3)) ∧ (decode cX8_text 21 = .ok (.aload_n 0, 1)) ∧ (decode cX8_text 22 = .ok (.invokevirtual 252, 3)) ∧ (decode cX8_text 25 = .ok (.ifCond .eq 7, 3)) ∧ (decode cX8_text 28 = .ok (.iconst 1, 1)) ∧ (decode cX8_text 29 = .ok (.goto 4, 3)) ∧ (decode cX8_text 32 = .ok (.iconst 0, 1)) ∧ (decode cX8_text 33 = .ok (.istore_n 1, 1)) ∧ (decode cX8_text 34 = .ok (.aload_n 0, 1)) ∧ (decode cX8_text 35 = .ok (.iconst 0, 1)) ∧ (decode cX8_text 36 = .ok (.putfield 192, 3)) ∧ (decode cX8_text 39 = .ok (.iload_n 1, 1)) ∧ (decode cX8_text 40 = .ok (.ifCond .ne 11, 3)) ∧ (decode cX8_text 43 = .ok (.bipush (-100), 2)) ∧ (decode cX8_text 45 = .ok (.aload_n 0, 1)) ∧ (decode cX8_text 46 = .ok (.getfield 198, 3)) ∧ (decode cX8_text 49 = .ok (.isub, 1)) ∧ (decode cX8_text 50 = .ok (.ireturn, 1)) ∧ (decode cX8_text 51 = .ok (.aload_n 0, 1)) ∧ (decode cX8_text 52 = .ok (.getfield 9, 3)) ∧ (decode cX8_text 55 = .ok (.bipush 7, 2)) ∧ (decode cX8_text 57 = .ok (.iaload, 1)) ∧ True := dc_cj [(0, .aload_n 0, 1), (1, .iconst 0, 1), (2, .putfield 195, 3), (5, .aload_n 0, 1), (6, .iconst (-1), 1), (7, .putfield 201, 3), (10, .aload_n 0, 1), (11, .invokevirtual 219, 3), (14, .aload_n 0, 1), (15, .invokevirtual 249, 3), (18, .ifCond .eq 14, 3), (21, .aload_n 0, 1), (22, .invokevirtual 252, 3), (25, .ifCond .eq 7, 3), (28, .iconst 1, 1), (29, .goto 4, 3), (32, .iconst 0, 1), (33, .istore_n 1, 1), (34, .aload_n 0, 1), (35, .iconst 0, 1), (36, .putfield 192, 3), (39, .iload_n 1, 1), (40, .ifCond .ne 11, 3), (43, .bipush (-100), 2), (45, .aload_n 0, 1), (46, .getfield 198, 3), (49, .isub, 1), (50, .ireturn, 1), (51, .aload_n 0, 1), (52, .getfield 9, 3), (55, .bipush 7, 2), (57, .iaload, 1)] (by decide +kernel)
theorem dX8_text_0 : decode cX8_text 0 = .ok (.aload_n 0, 1) := edX8_text_0.1
theorem dX8_text_1 : decode cX8_text 1 = .ok (.iconst 0, 1) := edX8_text_0.2.1
theorem dX8_text_2 : decode cX8_text 2 = .ok (.putfield 195, 3) := edX8_text_0.2.2.1
theorem dX8_text_5 : decode cX8_text 5 = .ok (.aload_n 0, 1) := edX8_text_0.2.2.2.1
theorem dX8_text_6 : decode cX8_text 6 = .ok (.iconst (-1), 1) := edX8_text_0.2.2.2.2.1
theorem dX8_text_7 : decode cX8_text 7 = .ok (.putfield 201, 3) := edX8_text_0.2.2.2.2.2.1
theorem dX8_text_10 : decode cX8_text 10 = .ok (.aload_n 0, 1) := edX8_text_0.2.2.2.2.2.2.1
theorem dX8_text_11 : decode cX8_text 11 = .ok (.invokevirtual 219, 3) := edX8_text_0.2.2.2.2.2.2.2.1
theorem dX8_text_14 : decode cX8_text 14 = .ok (.aload_n 0, 1) := edX8_text_0.2.2.2.2.2.2.2.2.1
theorem dX8_text_15 : decode cX8_text 15 = .ok (.invokevirtual 249, 3) := edX8_text_0.2.2.2.2.2.2.2.2.2.1
theorem dX8_text_18 : decode cX8_text 18 = .ok (.ifCond .eq 14, 3) := edX8_text_0.2.2.2.2.2.2.2.2.2.2.1
theorem dX8_text_21 : decode cX8_text 21 = .ok (.aload_n 0, 1) := edX8_text_0.2.2.2.2.2.2.2.2.2.2.2.1
theorem dX8_text_22 : decode cX8_text 22 = .ok (.invokevirtual 252, 3) := edX8_text_0.2.2.2.2.2.2.2.2.2.2.2.2.1
theorem dX8_text_25 : decode cX8_text 25 = .ok (.ifCond .eq 7, 3) := edX8_text_0.2.2.2.2.2.2.2.2.2.2.2.2.2.1
theorem dX8_text_28 : decode cX8_text 28 = .ok (.iconst 1, 1) := edX8_text_0.2.2.2.2.2.2.2.2.2.2.2.2.2.2.1
theorem dX8_text_29 : decode cX8_text 29 = .ok (.goto 4, 3) := edX8_text_0.2.2.2.2.2.2.2.2.2.2.2.2.2.2.2.1
theorem dX8_text_32 : decode cX8_text 32 = .ok (.iconst 0, 1) := edX8_text_0.2.2.2.2.2.2.2.2.2.2.2.2.2.2.2.2.1
theorem dX8_text_33 : decode cX8_text 33 = .ok (.istore_n 1, 1) := edX8_text_0.2.2.2.2.2.2.2.2.2.2.2.2.2.2.2.2.2.1
theorem dX8_text_34 : decode cX8_text 34 = .ok (.aload_n 0, 1) := edX8_text_0.2.2.2.2.2.2.2.2.2.2.2.2.2.2.2.2.2.2.1
theorem dX8_text_35 : decode cX8_text 35 = .ok (.iconst 0, 1) := edX8_text_0.2.2.2.2.2.2.2.2.2.2.2.2.2.2.2.2.2.2.2.1
theorem dX8_text_36 : decode cX8_text 36 = .ok (.putfield 192, 3) := edX8_text_0.2.2.2.2.2.2.2.2.2.2.2.2.2.2.2.2.2.2.2.2.1
theorem dX8_text_39 : decode cX8_text 39 = .ok (.iload_n 1, 1) := edX8_text_0.2.2.2.2.2.2.2.2.2.2.2.2.2.2.2.2.2.2.2.2.2.1
theorem dX8_text_40 : decode cX8_text 40 = .ok (.ifCond .ne 11, 3) := edX8_text_0.2.2.2.2.2.2.2.2.2.2.2.2.2.2.2.2.2.2.2.2.2.2.1
theorem dX8_text_43 : decode cX8_text 43 = .ok (.bipush (-100), 2) := edX8_text_0.2.2.2.2.2.2.2.2.2.2.2.2.2.2.2.2.2.2.2.2.2.2.2.1
theorem dX8_text_45 : decode cX8_text 45 = .ok (.aload_n 0, 1) := edX8_text_0.2.2.2.2.2.2.2.2.2.2.2.2.2.2.2.2.2.2.2.2.2.2.2.2.1
theorem dX8_text_46 : decode cX8_text 46 = .ok (.getfield 198, 3) := edX8_text_0.2.2.2.2.2.2.2.2.2.2.2.2.2.2.2.2.2.2.2.2.2.2.2.2.2.1
theorem dX8_text_49 : decode cX8_text 49 = .ok (.isub, 1) := edX8_text_0.2.2.2.2.2.2.2.2.2.2.2.2.2.2.2.2.2.2.2.2.2.2.2.2.2.2.1
theorem dX8_text_50 : decode cX8_text 50 = .ok (.ireturn, 1) := edX8_text_0.2.2.2.2.2.2.2.2.2.2.2.2.2.2.2.2.2.2.2.2.2.2.2.2.2.2.2.1
theorem dX8_text_51 : decode cX8_text 51 = .ok (.aload_n 0, 1) := edX8_text_0.2.2.2.2.2.2.2.2.2.2.2.2.2.2.2.2.2.2.2.2.2.2.2.2.2.2.2.2.1
theorem dX8_text_52 : decode cX8_text 52 = .ok (.getfield 9, 3) := edX8_text_0.2.2.2.2.2.2.2.2.2.2.2.2.2.2.2.2.2.2.2.2.2.2.2.2.2.2.2.2.2.1
theorem dX8_text_55 : decode cX8_text 55 = .ok (.bipush 7, 2) := edX8_text_0.2.2.2.2.2.2.2.2.2.2.2.2.2.2.2.2.2.2.2.2.2.2.2.2.2.2.2.2.2.2.1
theorem dX8_text_57 : decode cX8_text 57 = .ok (.iaload, 1) := edX8_text_0.2.2.2.2.2.2.2.2.2.2.2.2.2.2.2.2.2.2.2.2.2.2.2.2.2.2.2.2.2.2.2.1
theorem edX8_text_58 : (decode cX8_text 58 = .ok (.bipush 14, 2)) ∧ (decode cX8_text 60 = .ok (.if_icmp .ne 6, 3)) ∧ (decode cX8_text 63 = .ok (.ldc 92, 2)) ∧ (decode cX8_text 65 = .ok (.ireturn, 1)) ∧ (decode cX8_text 66 = .ok (.aload_n 0, 1)) ∧ (decode cX8_text 67 = .ok (.getfield 9, 3)) ∧ (decode cX8_text 70 = .ok (.bipush 7, 2)) ∧ (decode cX8_text 72 = .ok (.iaload, 1)) ∧ (decode cX8_text 73 = .ok (.istore_n 2, 1)) ∧ (decode cX8_text 74 = .ok (.aload_n 0, 1)) ∧ (decode cX8_text 75 = .ok (.getfield 9, 3)) ∧ (decode cX8_text 78 = .ok (.bipush 62, 2)) ∧ (decode cX8_text 80 = .ok (.iconst 2, 1)) ∧ (decode cX8_text 81 = .ok (.iload_n 2, 1)) ∧ (decode cX8_text 82 = .ok (.imul, 1)) ∧ (decode cX8_text 83 = .ok (.iadd, 1)) ∧ (decode cX8_text 84 = .ok (.sipush 1000, 3)) ∧ (decode cX8_text 87 = .ok (.aload_n 0, 1)) ∧ (decode cX8_text 88 = .ok (.getfield 216, 3)) ∧ (decode cX8_text 91 = .ok (.imul, 1)) ∧ (decode cX8_text 92 = .ok (.aload_n 0, 1)) ∧ (decode cX8_text 93 = .ok (.getfield 228, 3)) ∧ (decode cX8_text 96 = .ok (.iadd, 1)) ∧ (decode cX8_text 97 = .ok (.iastore, 1)) ∧ (decode cX8_text 98 = .ok (.aload_n 0, 1)) ∧ (decode cX8_text 99 = .ok (.getfield 9, 3)) ∧ (decode cX8_text 102 = .ok (.bipush 62, 2)) ∧ (decode cX8_text 104 = .ok (.iconst 2, 1)) ∧ (decode cX8_text 105 = .ok (.iload_n 2, 1)) ∧ (decode cX8_text 106 = .ok (.imul, 1)) ∧ (decode cX8_text 107 = .ok (.iadd, 1)) ∧ (decode cX8_text 108 = .ok (.iconst 1, 1)) ∧ True := dc_cj [(58, .bipush 14, 2), (60, .if_icmp .ne 6, 3), (63, .ldc 92, 2), (65, .ireturn, 1), (66, .aload_n 0, 1), (67, .getfield 9, 3), (70, .bipush 7, 2), (72, .iaload, 1), (73, .istore_n 2, 1), (74, .aload_n 0, 1), (75, .getfield 9, 3), (78, .bipush 62, 2), (80, .iconst 2, 1), (81, .iload_n 2, 1), (82, .imul, 1), (83, .iadd, 1), (84, .sipush 1000, 3), (87, .aload_n 0, 1), (88, .getfield 216, 3), (91, .imul, 1), (92, .aload_n 0, 1), (93, .getfield 228, 3), (96, .iadd, 1), (97, .iastore, 1), (98, .aload_n 0, 1), (99, .getfield 9, 3), (102, .bipush 62, 2), (104, .iconst 2, 1), (105, .iload_n 2, 1), (106, .imul, 1), (107, .iadd, 1), (108, .iconst 1, 1)] (by decide +kernel)
theorem dX8_text_58 : decode cX8_text 58 = .ok (.bipush 14, 2) := edX8_text_58.1
theorem dX8_text_60 : decode cX8_text 60 = .ok (.if_icmp .ne 6, 3) := edX8_text_58.2.1
theorem dX8_text_63 : decode cX8_text 63 = .ok (.ldc 92, 2) := edX8_text_58.2.2.1
theorem dX8_text_65 : decode cX8_text 65 = .ok (.ireturn, 1) := edX8_text_58.2.2.2.1
theorem dX8_text_66 : decode cX8_text 66 = .ok (.aload_n 0, 1) := edX8_text_58.2.2.2.2.1
theorem dX8_text_67 : decode cX8_text 67 = .ok (.getfield 9, 3) := edX8_text_58.2.2.2.2.2.1
theorem dX8_text_70 : decode cX8_text 70 = .ok (.bipush 7, 2) := edX8_text_58.2.2.2.2.2.2.1
theorem dX8_text_72 : decode cX8_text 72 = .ok (.iaload, 1) := edX8_text_58.2.2.2.2.2.2.2.1
theorem dX8_text_73 : decode cX8_text 73 = .ok (.istore_n 2, 1) := edX8_text_58.2.2.2.2.2.2.2.2.1
theorem dX8_text_74 : decode cX8_text 74 = .ok (.aload_n 0, 1) := edX8_text_58.2.2.2.2.2.2.2.2.2.1
theorem dX8_text_75 : decode cX8_text 75 = .ok (.getfield 9, 3) := edX8_text_58.2.2.2.2.2.2.2.2.2.2.1
theorem dX8_text_78 : decode cX8_text 78 = .ok (.bipush 62, 2) := edX8_text_58.2.2.2.2.2.2.2.2.2.2.2.1
theorem dX8_text_80 : decode cX8_text 80 = .ok (.iconst 2, 1) := edX8_text_58.2.2.2.2.2.2.2.2.2.2.2.2.1
theorem dX8_text_81 : decode cX8_text 81 = .ok (.iload_n 2, 1) := edX8_text_58.2.2.2.2.2.2.2.2.2.2.2.2.2.1
theorem dX8_text_82 : decode cX8_text 82 = .ok (.imul, 1) := edX8_text_58.2.2.2.2.2.2.2.2.2.2.2.2.2.2.1
theorem dX8_text_83 : decode cX8_text 83 = .ok (.iadd, 1) := edX8_text_58.2.2.2.2.2.2.2.2.2.2.2.2.2.2.2.1
theorem dX8_text_84 : decode cX8_text 84 = .ok (.sipush 1000, 3) := edX8_text_58.2.2.2.2.2.2.2.2.2.2.2.2.2.2.2.2.1
theorem dX8_text_87 : decode cX8_text 87 = .ok (.aload_n 0, 1) := edX8_text_58.2.2.2.2.2.2.2.2.2.2.2.2.2.2.2.2.2.1
theorem dX8_text_88 : decode cX8_text 88 = .ok (.getfield 216, 3) := edX8_text_58.2.2.2.2.2.2.2.2.2.2.2.2.2.2.2.2.2.2.1
theorem dX8_text_91 : decode cX8_text 91 = .ok (.imul, 1) := edX8_text_58.2.2.2.2.2.2.2.2.2.2.2.2.2.2.2.2.2.2.2.1
theorem dX8_text_92 : decode cX8_text 92 = .ok (.aload_n 0, 1) := edX8_text_58.2.2.2.2.2.2.2.2.2.2.2.2.2.2.2.2.2.2.2.2.1
theorem dX8_text_93 : decode cX8_text 93 = .ok (.getfield 228, 3) := edX8_text_58.2.2.2.2.2.2.2.2.2.2.2.2.2.2.2.2.2.2.2.2.2.1
theorem dX8_text_96 : decode cX8_text 96 = .ok (.iadd, 1) := edX8_text_58.2.2.2.2.2.2.2.2.2.2.2.2.2.2.2.2.2.2.2.2.2.2.1
theorem dX8_text_97 : decode cX8_text 97 = .ok (.iastore, 1) := edX8_text_58.2.2.2.2.2.2.2.2.2.2.2.2.2.2.2.2.2.2.2.2.2.2.2.1
theorem dX8_text_98 : decode cX8_text 98 = .ok (.aload_n 0, 1) := edX8_text_58.2.2.2.2.2.2.2.2.2.2.2.2.2.2.2.2.2.2.2.2.2.2.2.2.1
theorem dX8_text_99 : decode cX8_text 99 = .ok (.getfield 9, 3) := edX8_text_58.2.2.2.2.2.2.2.2.2.2.2.2.2.2.2.2.2.2.2.2.2.2.2.2.2.1
theorem dX8_text_102 : decode cX8_text 102 = .ok (.bipush 62, 2) := edX8_text_58.2.2.2.2.2.2.2.2.2.2.2.2.2.2.2.2.2.2.2.2.2.2.2.2.2.2.1
theorem dX8_text_104 : decode cX8_text 104 = .ok (.iconst 2, 1) := edX8_text_58.2.2.2.2.2.2.2.2.2.2.2.2.2.2.2.2.2.2.2.2.2.2.2.2.2.2.2.1
theorem dX8_text_105 : decode cX8_text 105 = .ok (.iload_n 2, 1) := edX8_text_58.2.2.2.2.2.2.2.2.2.2.2.2.2.2.2.2.2.2.2.2.2.2.2.2.2.2.2.2.1
theorem dX8_text_106 : decode cX8_text 106 = .ok (.imul, 1) := edX8_text_58.2.2.2.2.2.2.2.2.2.2.2.2.2.2.2.2.2.2.2.2.2.2.2.2.2.2.2.2.2.1
theorem dX8_text_107 : decode cX8_text 107 = .ok (.iadd, 1) := edX8_text_58.2.2.2.2.2.2.2.2.2.2.2.2.2.2.2.2.2.2.2.2.2.2.2.2.2.2.2.2.2.2.1
theorem dX8_text_108 : decode cX8_text 108 = .ok (.iconst 1, 1) := edX8_text_58.2.2.2.2.2.2.2.2.2.2.2.2.2.2.2.2.2.2.2.2.2.2.2.2.2.2.2.2.2.2.2.1
theorem edX8_text_109 : (decode cX8_text 109 = .ok (.iadd, 1)) ∧ (decode cX8_text 110 = .ok (.aload_n 0, 1)) ∧ (decode cX8_text 111 = .ok (.getfield 234, 3)) ∧ (decode cX8_text 114 = .ok (.iastore, 1)) ∧ (decode cX8_text 115 = .ok (.iconst 0, 1)) ∧ (decode cX8_text 116 = .ok (.istore_n 3, 1)) ∧ (decode cX8_text 117 = .ok (.iload_n 3, 1)) ∧ (decode cX8_text 118 = .ok (.aload_n 0, 1)) ∧ (decode cX8_text 119 = .ok (.getfield 228, 3)) ∧ (decode cX8_text 122 = .ok (.if_icmp .ge 29, 3)) ∧ (decode cX8_text 125 = .ok (.aload_n 0, 1)) ∧ (decode cX8_text 126 = .ok (.getfield 9, 3)) ∧ (decode cX8_text 129 = .ok (.bipush 90, 2)) ∧ (decode cX8_text 131 = .ok (.bipush 96, 2)) ∧ (decode cX8_text 133 = .ok (.iload_n 2, 1)) ∧ (decode cX8_text 134 = .ok (.imul, 1)) ∧ (decode cX8_text 135 = .ok (.iadd, 1)) ∧ (decode cX8_text 136 = .ok (.iload_n 3, 1)) ∧ (decode cX8_text 137 = .ok (.iadd, 1)) ∧ (decode cX8_text 138 = .ok (.aload_n 0, 1)) ∧ (decode cX8_text 139 = .ok (.getfield 39, 3)) ∧ (decode cX8_text 142 = .ok (.iload_n 3, 1)) ∧ (decode cX8_text 143 = .ok (.iaload, 1)) ∧ (decode cX8_text 144 = .ok (.iastore, 1)) ∧ (decode cX8_text 145 = .ok (.iinc 3 1, 3)) ∧ (decode cX8_text 148 = .ok (.goto (-31), 3)) ∧ (decode cX8_text 151 = .ok (.aload_n 0, 1)) ∧ (decode cX8_text 152 = .ok (.getfield 9, 3)) ∧ (decode cX8_text 155 = .ok (.bipush 7, 2)) ∧ (decode cX8_text 157 = .ok (.dup2, 1)) ∧ (decode cX8_text 158 = .ok (.iaload, 1)) ∧ (decode cX8_text 159 = .ok (.iconst 1, 1)) ∧ True := dc_cj [(109, .iadd, 1), (110, .aload_n 0, 1), (111, .getfield 234, 3), (114, .iastore, 1), (115, .iconst 0, 1), (116, .istore_n 3, 1), (117, .iload_n 3, 1), (118, .aload_n 0, 1), (119, .getfield 228, 3), (122, .if_icmp .ge 29, 3), (125, .aload_n 0, 1), (126, .getfield 9, 3), (129, .bipush 90, 2), (131, .bipush 96, 2), (133, .iload_n 2, 1), (134, .imul, 1), (135, .iadd, 1), (136, .iload_n 3, 1), (137, .iadd, 1), (138, .aload_n 0, 1), (139, .getfield 39, 3), (142, .iload_n 3, 1), (143, .iaload, 1), (144, .iastore, 1), (145, .iinc 3 1, 3), (148, .goto (-31), 3), (151, .aload_n 0, 1), (152, .getfield 9, 3), (155, .bipush 7, 2), (157, .dup2, 1), (158, .iaload, 1), (159, .iconst 1, 1)] (by decide +kernel)
theorem dX8_text_109 : decode cX8_text 109 = .ok (.iadd, 1) := edX8_text_109.1
theorem dX8_text_110 : decode cX8_text 110 = .ok (.aload_n 0, 1) := edX8_text_109.2.1
theorem dX8_text_111 : decode cX8_text 111 = .ok (.getfield 234, 3) := edX8_text_109.2.2.1
theorem dX8_text_114 : decode cX8_text 114 = .ok (.iastore, 1) := edX8_text_109.2.2.2.1
theorem dX8_text_115 : decode cX8_text 115 = .ok (.iconst 0, 1) := edX8_text_109.2.2.2.2.1
theorem dX8_text_116 : decode cX8_text 116 = .ok (.istore_n 3, 1) := edX8_text_109.2.2.2.2.2.1
theorem dX8_text_117 : decode cX8_text 117 = .ok (.iload_n 3, 1) := edX8_text_109.2.2.2.2.2.2.1
theorem dX8_text_118 : decode cX8_text 118 = .ok (.aload_n 0, 1) := edX8_text_109.2.2.2.2.2.2.2.1
theorem dX8_text_119 : decode cX8_text 119 = .ok (.getfield 228, 3) := edX8_text_109.2.2.2.2.2.2.2.2.1
theorem dX8_text_122 : decode cX8_text 122 = .ok (.if_icmp .ge 29, 3) := edX8_text_109.2.2.2.2.2.2.2.2.2.1
theorem dX8_text_125 : decode cX8_text 125 = .ok (.aload_n 0, 1) := edX8_text_109.2.2.2.2.2.2.2.2.2.2.1
theorem dX8_text_126 : decode cX8_text 126 = .ok (.getfield 9, 3) := edX8_text_109.2.2.2.2.2.2.2.2.2.2.2.1
theorem dX8_text_129 : decode cX8_text 129 = .ok (.bipush 90, 2) := edX8_text_109.2.2.2.2.2.2.2.2.2.2.2.2.1
theorem dX8_text_131 : decode cX8_text 131 = .ok (.bipush 96, 2) := edX8_text_109.2.2.2.2.2.2.2.2.2.2.2.2.2.1
theorem dX8_text_133 : decode cX8_text 133 = .ok (.iload_n 2, 1) := edX8_text_109.2.2.2.2.2.2.2.2.2.2.2.2.2.2.1
theorem dX8_text_134 : decode cX8_text 134 = .ok (.imul, 1) := edX8_text_109.2.2.2.2.2.2.2.2.2.2.2.2.2.2.2.1
theorem dX8_text_135 : decode cX8_text 135 = .ok (.iadd, 1) := edX8_text_109.2.2.2.2.2.2.2.2.2.2.2.2.2.2.2.2.1
theorem dX8_text_136 : decode cX8_text 136 = .ok (.iload_n 3, 1) := edX8_text_109.2.2.2.2.2.2.2.2.2.2.2.2.2.2.2.2.2.1
theorem dX8_text_137 : decode cX8_text 137 = .ok (.iadd, 1) := edX8_text_109.2.2.2.2.2.2.2.2.2.2.2.2.2.2.2.2.2.2.1
theorem dX8_text_138 : decode cX8_text 138 = .ok (.aload_n 0, 1) := edX8_text_109.2.2.2.2.2.2.2.2.2.2.2.2.2.2.2.2.2.2.2.1
theorem dX8_text_139 : decode cX8_text 139 = .ok (.getfield 39, 3) := edX8_text_109.2.2.2.2.2.2.2.2.2.2.2.2.2.2.2.2.2.2.2.2.1
theorem dX8_text_142 : decode cX8_text 142 = .ok (.iload_n 3, 1) := edX8_text_109.2.2.2.2.2.2.2.2.2.2.2.2.2.2.2.2.2.2.2.2.2.1
theorem dX8_text_143 : decode cX8_text 143 = .ok (.iaload, 1) := edX8_text_109.2.2.2.2.2.2.2.2.2.2.2.2.2.2.2.2.2.2.2.2.2.2.1
theorem dX8_text_144 : decode cX8_text 144 = .ok (.iastore, 1) := edX8_text_109.2.2.2.2.2.2.2.2.2.2.2.2.2.2.2.2.2.2.2.2.2.2.2.1
theorem dX8_text_145 : decode cX8_text 145 = .ok (.iinc 3 1, 3) := edX8_text_109.2.2.2.2.2.2.2.2.2.2.2.2.2.2.2.2.2.2.2.2.2.2.2.2.1
theorem dX8_text_148 : decode cX8_text 148 = .ok (.goto (-31), 3) := edX8_text_109.2.2.2.2.2.2.2.2.2.2.2.2.2.2.2.2.2.2.2.2.2.2.2.2.2.1
theorem dX8_text_151 : decode cX8_text 151 = .ok (.aload_n 0, 1) := edX8_text_109.2.2.2.2.2.2.2.2.2.2.2.2.2.2.2.2.2.2.2.2.2.2.2.2.2.2.1
theorem dX8_text_152 : decode cX8_text 152 = .ok (.getfield 9, 3) := edX8_text_109.2.2.2.2.2.2.2.2.2.2.2.2.2.2.2.2.2.2.2.2.2.2.2.2.2.2.2.1
theorem dX8_text_155 : decode cX8_text 155 = .ok (.bipush 7, 2) := edX8_text_109.2.2.2.2.2.2.2.2.2.2.2.2.2.2.2.2.2.2.2.2.2.2.2.2.2.2.2.2.1
theorem dX8_text_157 : decode cX8_text 157 = .ok (.dup2, 1) := edX8_text_109.2.2.2.2.2.2.2.2.2.2.2.2.2.2.2.2.2.2.2.2.2.2.2.2.2.2.2.2.2.1
theorem dX8_text_158 : decode cX8_text 158 = .ok (.iaload, 1) := edX8_text_109.2.2.2.2.2.2.2.2.2.2.2.2.2.2.2.2.2.2.2.2.2.2.2.2.2.2.2.2.2.2.1
theorem dX8_text_159 : decode cX8_text 159 = .ok (.iconst 1, 1) := edX8_text_109.2.2.2.2.2.2.2.2.2.2.2.2.2.2.2.2.2.2.2.2.2.2.2.2.2.2.2.2.2.2.2.1
theorem edX8_text_160 : (decode cX8_text 160 = .ok (.iadd, 1)) ∧ (decode cX8_text 161 = .ok (.iastore, 1)) ∧ (decode cX8_text 162 = .ok (.iload_n 2, 1)) ∧ (decode cX8_text 163 = .ok (.ireturn, 1)) ∧ True := dc_cj [(160, .iadd, 1), (161, .iastore, 1), (162, .iload_n 2, 1), (163, .ireturn, 1)] (by decide +kernel)
theorem dX8_text_160 : decode cX8_text 160 = .ok (.iadd, 1) := edX8_text_160.1
theorem dX8_text_161 : decode cX8_text 161 = .ok (.iastore, 1) := edX8_text_160.2.1
theorem dX8_text_162 : decode cX8_text 162 = .ok (.iload_n 2, 1) := edX8_text_160.2.2.1
theorem dX8_text_163 : decode cX8_text 163 = .ok (.ireturn, 1) := edX8_text_160.2.2.2.1
theorem edX8_textTold_0 : (decode cX8_textTold 0 = .ok (.iload_n 1, 1)) ∧ (decode cX8_textTold 1 = .ok (.iconst 0, 1)) ∧ (decode cX8_textTold 2 = .ok (.aload_n 0, 1)) ∧ (decode cX8_textTold 3 = .ok (.getfield 9, 3)) ∧ (decode cX8_textTold 6 = .ok (.bipush 7, 2)) ∧ (decode cX8_textTold 8 = .ok (.iaload, 1)) ∧ (decode cX8_textTold 9 = .ok (.iconst 1, 1)) ∧ (decode cX8_textTold 10 = .ok (.isub, 1)) ∧ (decode cX8_textTold 11 = .ok (.invokestatic 83, 3)) ∧ (decode cX8_textTold 14 = .ok (.ifCond .eq 12, 3)) ∧ (decode cX8_textTold 17 = .ok (.iload_n 2, 1)) ∧ (decode cX8_textTold 18 = .ok (.iconst 0, 1)) ∧ (decode cX8_textTold 19 = .ok (.iconst 1, 1)) ∧ (decode cX8_textTold 20 = .ok (.invokestatic 83, 3)) ∧ (decode cX8_textTold 23 = .ok (.ifCond .ne 6, 3)) ∧ (decode cX8_textTold 26 = .ok (.ldc 91, 2)) ∧ (decode cX8_textTold 28 = .ok (.ireturn, 1)) ∧ (decode cX8_textTold 29 = .ok (.iload_n 2, 1)) ∧ (decode cX8_textTold 30 = .ok (.ifCond .ne 21, 3)) ∧ (decode cX8_textTold 33 = .ok (.aload_n 0, 1)) ∧ (decode cX8_textTold 34 = .ok (.getfield 9, 3)) ∧ (decode cX8_textTold 37 = .ok (.bipush 62, 2)) ∧ (decode cX8_textTold 39 = .ok (.iconst 2, 1)) ∧ (decode cX8_textTold 40 = .ok (.iload_n 1, 1)) ∧ (decode cX8_textTold 41 = .ok (.imul, 1)) ∧ (decode cX8_textTold 42 = .ok (.iadd, 1)) ∧ (decode cX8_textTold 43 = .ok (.iaload, 1)) ∧ (decode cX8_textTold 44 = .ok (.sipush 1000, 3)) ∧ (decode cX8_textTold 47 = .ok (.idiv, 1)) ∧ (decode cX8_textTold 48 = .ok (.goto 16, 3)) ∧ (decode cX8_textTold 51 = .ok (.aload_n 0, 1)) ∧ (decode cX8_textTold 52 = .ok (.getfield 9, 3)) ∧ True := dc_cj [(0, .iload_n 1, 1), (1, .iconst 0, 1), (2, .aload_n 0, 1), (3, .getfield 9, 3), (6, .bipush 7, 2), (8, .iaload, 1), (9, .iconst 1, 1), (10, .isub, 1), (11, .invokestatic 83, 3), (14, .ifCond .eq 12, 3), (17, .iload_n 2, 1), (18, .iconst 0, 1), (19, .iconst 1, 1), (20, .invokestatic 83, 3), (23, .ifCond .ne 6, 3), (26, .ldc 91, 2), (28, .ireturn, 1), (29, .iload_n 2, 1), (30, .ifCond .ne 21, 3), (33, .aload_n 0, 1), (34, .getfield 9, 3), (37, .bipush 62, 2), (39, .iconst 2, 1), (40, .iload_n 1, 1), (41, .imul, 1), (42, .iadd, 1), (43, .iaload, 1), (44, .sipush 1000, 3), (47, .idiv, 1), (48, .goto 16, 3), (51, .aload_n 0, 1), (52, .getfield 9, 3)] (by decide +kernel)
theorem dX8_textTold_0 : decode cX8_textTold 0 = .ok (.iload_n 1, 1) := edX8_textTold_0.1
theorem dX8_textTold_1 : decode cX8_textTold 1 = .ok (.iconst 0, 1) := edX8_textTold_0.2.1
theorem dX8_textTold_2 : decode cX8_textTold 2 = .ok (.aload_n 0, 1) := edX8_textTold_0.2.2.1
theorem dX8_textTold_3 : decode cX8_textTold 3 = .ok (.getfield 9, 3) := edX8_textTold_0.2.2.2.1
theorem dX8_textTold_6 : decode cX8_textTold 6 = .ok (.bipush 7, 2) := edX8_textTold_0.2.2.2.2.1
theorem dX8_textTold_8 : decode cX8_textTold 8 = .ok (.iaload, 1) := edX8_textTold_0.2.2.2.2.2.1
theorem dX8_textTold_9 : decode cX8_textTold 9 = .ok (.iconst 1, 1) := edX8_textTold_0.2.2.2.2.2.2.1
theorem dX8_textTold_10 : decode cX8_textTold 10 = .ok (.isub, 1) := edX8_textTold_0.2.2.2.2.2.2.2.1
theorem dX8_textTold_11 : decode cX8_textTold 11 = .ok (.invokestatic 83, 3) := edX8_textTold_0.2.2.2.2.2.2.2.2.1
theorem dX8_textTold_14 : decode cX8_textTold 14 = .ok (.ifCond .eq 12, 3) := edX8_textTold_0.2.2.2.2.2.2.2.2.2.1
theorem dX8_textTold_17 : decode cX8_textTold 17 = .ok (.iload_n 2, 1) := edX8_textTold_0.2.2.2.2.2.2.2.2.2.2.1
theorem dX8_textTold_18 : decode cX8_textTold 18 = .ok (.iconst 0, 1) := edX8_textTold_0.2.2.2.2.2.2.2.2.2.2.2.1
theorem dX8_textTold_19 : decode cX8_textTold 19 = .ok (.iconst 1, 1) := edX8_textTold_0.2.2.2.2.2.2.2.2.2.2.2.2.1
theorem dX8_textTold_20 : decode cX8_textTold 20 = .ok (.invokestatic 83, 3) := edX8_textTold_0.2.2.2.2.2.2.2.2.2.2.2.2.2.1
theorem dX8_textTold_23 : decode cX8_textTold 23 = .ok (.ifCond .ne 6, 3) := edX8_textTold_0.2.2.2.2.2.2.2.2.2.2.2.2.2.2.1
theorem dX8_textTold_26 : decode cX8_textTold 26 = .ok (.ldc 91, 2) := edX8_textTold_0.2.2.2.2.2.2.2.2.2.2.2.2.2.2.2.1
theorem dX8_textTold_28 : decode cX8_textTold 28 = .ok (.ireturn, 1) := edX8_textTold_0.2.2.2.2.2.2.2.2.2.2.2.2.2.2.2.2.1
theorem dX8_textTold_29 : decode cX8_textTold 29 = .ok (.iload_n 2, 1) := edX8_textTold_0.2.2.2.2.2.2.2.2.2.2.2.2.2.2.2.2.2.1
theorem dX8_textTold_30 : decode cX8_textTold 30 = .ok (.ifCond .ne 21, 3) := edX8_textTold_0.2.2.2.2.2.2.2.2.2.2.2.2.2.2.2.2.2.2.1
theorem dX8_textTold_33 : decode cX8_textTold 33 = .ok (.aload_n 0, 1) := edX8_textTold_0.2.2.2.2.2.2.2.2.2.2.2.2.2.2.2.2.2.2.2.1
theorem dX8_textTold_34 : decode cX8_textTold 34 = .ok (.getfield 9, 3) := edX8_textTold_0.2.2.2.2.2.2.2.2.2.2.2.2.2.2.2.2.2.2.2.2.1
theorem dX8_textTold_37 : decode cX8_textTold 37 = .ok (.bipush 62, 2) := edX8_textTold_0.2.2.2.2.2.2.2.2.2.2.2.2.2.2.2.2.2.2.2.2.2.1
theorem dX8_textTold_39 : decode cX8_textTold 39 = .ok (.iconst 2, 1) := edX8_textTold_0.2.2.2.2.2.2.2.2.2.2.2.2.2.2.2.2.2.2.2.2.2.2.1
theorem dX8_textTold_40 : decode cX8_textTold 40 = .ok (.iload_n 1, 1) := edX8_textTold_0.2.2.2.2.2.2.2.2.2.2.2.2.2.2.2.2.2.2.2.2.2.2.2.1
theorem dX8_textTold_41 : decode cX8_textTold 41 = .ok (.imul, 1) := edX8_textTold_0.2.2.2.2.2.2.2.2.2.2.2.2.2.2.2.2.2.2.2.2.2.2.2.2.1
theorem dX8_textTold_42 : decode cX8_textTold 42 = .ok (.iadd, 1) := edX8_textTold_0.2.2.2.2.2.2.2.2.2.2.2.2.2.2.2.2.2.2.2.2.2.2.2.2.2.1
theorem dX8_textTold_43 : decode cX8_textTold 43 = .ok (.iaload, 1) := edX8_textTold_0.2.2.2.2.2.2.2.2.2.2.2.2.2.2.2.2.2.2.2.2.2.2.2.2.2.2.1
theorem dX8_textTold_44 : decode cX8_textTold 44 = .ok (.sipush 1000, 3) := edX8_textTold_0.2.2.2.2.2.2.2.2.2.2.2.2.2.2.2.2.2.2.2.2.2.2.2.2.2.2.2.1
theorem dX8_textTold_47 : decode cX8_textTold 47 = .ok (.idiv, 1) := edX8_textTold_0.2.2.2.2.2.2.2.2.2.2.2.2.2.2.2.2.2.2.2.2.2.2.2.2.2.2.2.2.1
theorem dX8_textTold_48 : decode cX8_textTold 48 = .ok (.goto 16, 3) := edX8_textTold_0.2.2.2.2.2.2.2.2.2.2.2.2.2.2.2.2.2.2.2.2.2.2.2.2.2.2.2.2.2.1
theorem dX8_textTold_51 : decode cX8_textTold 51 = .ok (.aload_n 0, 1) := edX8_textTold_0.2.2.2.2.2.2.2.2.2.2.2.2.2.2.2.2.2.2.2.2.2.2.2.2.2.2.2.2.2.2.1
theorem dX8_textTold_52 : decode cX8_textTold 52 = .ok (.getfield 9, 3) := edX8_textTold_0.2.2.2.2.2.2.2.2.2.2.2.2.2.2.2.2.2.2.2.2.2.2.2.2.2.2.2.2.2.2.2.1
theorem edX8_textTold_55 : (decode cX8_textTold 55 = .ok (.bipush 62, 2)) ∧ (decode cX8_textTold 57 = .ok (.iconst 2, 1)) ∧ (decode cX8_textTold 58 = .ok (.iload_n 1, 1)) ∧ (decode cX8_textTold 59 = .ok (.imul, 1)) ∧ (decode cX8_textTold 60 = .ok (.iadd, 1)) ∧ (decode cX8_textTold 61 = .ok (.iconst 1, 1)) ∧ (decode cX8_textTold 62 = .ok (.iadd, 1)) ∧ (decode cX8_textTold 63 = .ok (.iaload, 1)) ∧ (decode cX8_textTold 64 = .ok (.ireturn, 1)) ∧ True := dc_cj [(55, .bipush 62, 2), (57, .iconst 2, 1), (58, .iload_n 1, 1), (59, .imul, 1), (60, .iadd, 1), (61, .iconst 1, 1), (62, .iadd, 1), (63, .iaload, 1), (64, .ireturn, 1)] (by decide +kernel)
theorem dX8_textTold_55 : decode cX8_textTold 55 = .ok (.bipush 62, 2) := edX8_textTold_55.1
theorem dX8_textTold_57 : decode cX8_textTold 57 = .ok (.iconst 2, 1) := edX8_textTold_55.2.1
theorem dX8_textTold_58 : decode cX8_textTold 58 = .ok (.iload_n 1, 1) := edX8_textTold_55.2.2.1
theorem dX8_textTold_59 : decode cX8_textTold 59 = .ok (.imul, 1) := edX8_textTold_55.2.2.2.1
theorem dX8_textTold_60 : decode cX8_textTold 60 = .ok (.iadd, 1) := edX8_textTold_55.2.2.2.2.1
theorem dX8_textTold_61 : decode cX8_textTold 61 = .ok (.iconst 1, 1) := edX8_textTold_55.2.2.2.2.2.1
theorem dX8_textTold_62 : decode cX8_textTold 62 = .ok (.iadd, 1) := edX8_textTold_55.2.2.2.2.2.2.1
theorem dX8_textTold_63 : decode cX8_textTold 63 = .ok (.iaload, 1) := edX8_textTold_55.2.2.2.2.2.2.2.1
theorem dX8_textTold_64 : decode cX8_textTold 64 = .ok (.ireturn, 1) := edX8_textTold_55.2.2.2.2.2.2.2.2.1
theorem edX8_counts_0 : (decode cX8_counts 0 = .ok (.aload_n 0, 1)) ∧ (decode cX8_counts 1 = .ok (.getfield 9, 3)) ∧ (decode cX8_counts 4 = .ok (.bipush 7, 2)) ∧ (decode cX8_counts 6 = .ok (.iaload, 1)) ∧ (decode cX8_counts 7 = .ok (.iconst 1, 1)) ∧ (decode cX8_counts 8 = .ok (.isub, 1)) ∧ (decode cX8_counts 9 = .ok (.istore_n 2, 1)) ∧ (decode cX8_counts 10 = .ok (.iload_n 2, 1)) ∧ (decode cX8_counts 11 = .ok (.ifCond .lt 30, 3)) ∧ (decode cX8_counts 14 = .ok (.aload_n 0, 1)) ∧ (decode cX8_counts 15 = .ok (.getfield 9, 3)) ∧ (decode cX8_counts 18 = .ok (.bipush 62, 2)) ∧ (decode cX8_counts 20 = .ok (.iconst 2, 1)) ∧ (decode cX8_counts 21 = .ok (.iload_n 2, 1)) ∧ (decode cX8_counts 22 = .ok (.imul, 1)) ∧ (decode cX8_counts 23 = .ok (.iadd, 1)) ∧ (decode cX8_counts 24 = .ok (.iaload, 1)) ∧ (decode cX8_counts 25 = .ok (.sipush 1000, 3)) ∧ (decode cX8_counts 28 = .ok (.idiv, 1)) ∧ (decode cX8_counts 29 = .ok (.iload_n 1, 1)) ∧ (decode cX8_counts 30 = .ok (.if_icmp .ne 5, 3)) ∧ (decode cX8_counts 33 = .ok (.iload_n 2, 1)) ∧ (decode cX8_counts 34 = .ok (.ireturn, 1)) ∧ (decode cX8_counts 35 = .ok (.iinc 2 (-1), 3)) ∧ (decode cX8_counts 38 = .ok (.goto (-28), 3)) ∧ (decode cX8_counts 41 = .ok (.iconst (-1), 1)) ∧ (decode cX8_counts 42 = .ok (.ireturn, 1)) ∧ True := dc_cj [(0, .aload_n 0, 1), (1, .getfield 9, 3), (4, .bipush 7, 2), (6, .iaload, 1), (7, .iconst 1, 1), (8, .isub, 1), (9, .istore_n 2, 1), (10, .iload_n 2, 1), (11, .ifCond .lt 30, 3), (14, .aload_n 0, 1), (15, .getfield 9, 3), (18, .bipush 62, 2), (20, .iconst 2, 1), (21, .iload_n 2, 1), (22, .imul, 1), (23, .iadd, 1), (24, .iaload, 1), (25, .sipush 1000, 3), (28, .idiv, 1), (29, .iload_n 1, 1), (30, .if_icmp .ne 5, 3), (33, .iload_n 2, 1), (34, .ireturn, 1), (35, .iinc 2 (-1), 3), (38, .goto (-28), 3), (41, .iconst (-1), 1), (42, .ireturn, 1)] (by decide +kernel)
theorem dX8_counts_0 : decode cX8_counts 0 = .ok (.aload_n 0, 1) := edX8_counts_0.1
theorem dX8_counts_1 : decode cX8_counts 1 = .ok (.getfield 9, 3) := edX8_counts_0.2.1
theorem dX8_counts_4 : decode cX8_counts 4 = .ok (.bipush 7, 2) := edX8_counts_0.2.2.1
theorem dX8_counts_6 : decode cX8_counts 6 = .ok (.iaload, 1) := edX8_counts_0.2.2.2.1
theorem dX8_counts_7 : decode cX8_counts 7 = .ok (.iconst 1, 1) := edX8_counts_0.2.2.2.2.1
theorem dX8_counts_8 : decode cX8_counts 8 = .ok (.isub, 1) := edX8_counts_0.2.2.2.2.2.1
theorem dX8_counts_9 : decode cX8_counts 9 = .ok (.istore_n 2, 1) := edX8_counts_0.2.2.2.2.2.2.1
theorem dX8_counts_10 : decode cX8_counts 10 = .ok (.iload_n 2, 1) := edX8_counts_0.2.2.2.2.2.2.2.1
theorem dX8_counts_11 : decode cX8_counts 11 = .ok (.ifCond .lt 30, 3) := edX8_counts_0.2.2.2.2.2.2.2.2.1
theorem dX8_counts_14 : decode cX8_counts 14 = .ok (.aload_n 0, 1) := edX8_counts_0.2.2.2.2.2.2.2.2.2.1
theorem dX8_counts_15 : decode cX8_counts 15 = .ok (.getfield 9, 3) := edX8_counts_0.2.2.2.2.2.2.2.2.2.2.1
theorem dX8_counts_18 : decode cX8_counts 18 = .ok (.bipush 62, 2) := edX8_counts_0.2.2.2.2.2.2.2.2.2.2.2.1
theorem dX8_counts_20 : decode cX8_counts 20 = .ok (.iconst 2, 1) := edX8_counts_0.2.2.2.2.2.2.2.2.2.2.2.2.1
theorem dX8_counts_21 : decode cX8_counts 21 = .ok (.iload_n 2, 1) := edX8_counts_0.2.2.2.2.2.2.2.2.2.2.2.2.2.1
theorem dX8_counts_22 : decode cX8_counts 22 = .ok (.imul, 1) := edX8_counts_0.2.2.2.2.2.2.2.2.2.2.2.2.2.2.1
theorem dX8_counts_23 : decode cX8_counts 23 = .ok (.iadd, 1) := edX8_counts_0.2.2.2.2.2.2.2.2.2.2.2.2.2.2.2.1
theorem dX8_counts_24 : decode cX8_counts 24 = .ok (.iaload, 1) := edX8_counts_0.2.2.2.2.2.2.2.2.2.2.2.2.2.2.2.2.1
theorem dX8_counts_25 : decode cX8_counts 25 = .ok (.sipush 1000, 3) := edX8_counts_0.2.2.2.2.2.2.2.2.2.2.2.2.2.2.2.2.2.1
theorem dX8_counts_28 : decode cX8_counts 28 = .ok (.idiv, 1) := edX8_counts_0.2.2.2.2.2.2.2.2.2.2.2.2.2.2.2.2.2.2.1
theorem dX8_counts_29 : decode cX8_counts 29 = .ok (.iload_n 1, 1) := edX8_counts_0.2.2.2.2.2.2.2.2.2.2.2.2.2.2.2.2.2.2.2.1
theorem dX8_counts_30 : decode cX8_counts 30 = .ok (.if_icmp .ne 5, 3) := edX8_counts_0.2.2.2.2.2.2.2.2.2.2.2.2.2.2.2.2.2.2.2.2.1
theorem dX8_counts_33 : decode cX8_counts 33 = .ok (.iload_n 2, 1) := edX8_counts_0.2.2.2.2.2.2.2.2.2.2.2.2.2.2.2.2.2.2.2.2.2.1
theorem dX8_counts_34 : decode cX8_counts 34 = .ok (.ireturn, 1) := edX8_counts_0.2.2.2.2.2.2.2.2.2.2.2.2.2.2.2.2.2.2.2.2.2.2.1
theorem dX8_counts_35 : decode cX8_counts 35 = .ok (.iinc 2 (-1), 3) := edX8_counts_0.2.2.2.2.2.2.2.2.2.2.2.2.2.2.2.2.2.2.2.2.2.2.2.1
theorem dX8_counts_38 : decode cX8_counts 38 = .ok (.goto (-28), 3) := edX8_counts_0.2.2.2.2.2.2.2.2.2.2.2.2.2.2.2.2.2.2.2.2.2.2.2.2.1
theorem dX8_counts_41 : decode cX8_counts 41 = .ok (.iconst (-1), 1) := edX8_counts_0.2.2.2.2.2.2.2.2.2.2.2.2.2.2.2.2.2.2.2.2.2.2.2.2.2.1
theorem dX8_counts_42 : decode cX8_counts 42 = .ok (.ireturn, 1) := edX8_counts_0.2.2.2.2.2.2.2.2.2.2.2.2.2.2.2.2.2.2.2.2.2.2.2.2.2.2.1
theorem edX8_why_0 : (decode cX8_why 0 = .ok (.iload_n 1, 1)) ∧ (decode cX8_why 1 = .ok (.iconst 0, 1)) ∧ (decode cX8_why 2 = .ok (.iconst 2, 1)) ∧ (decode cX8_why 3 = .ok (.invokestatic 83, 3)) ∧ (decode cX8_why 6 = .ok (.ifCond .ne 6, 3)) ∧ (decode cX8_why 9 = .ok (.ldc 91, 2)) ∧ (decode cX8_why 11 = .ok (.ireturn, 1)) ∧ (decode cX8_why 12 = .ok (.aload_n 0, 1)) ∧ (decode cX8_why 13 = .ok (.iload_n 1, 1)) ∧ (decode cX8_why 14 = .ok (.invokevirtual 97, 3)) ∧ (decode cX8_why 17 = .ok (.istore_n 2, 1)) ∧ (decode cX8_why 18 = .ok (.iload_n 2, 1)) ∧ (decode cX8_why 19 = .ok (.ifCond .ge 8, 3)) ∧ (decode cX8_why 22 = .ok (.ldc 82, 2)) ∧ (decode cX8_why 24 = .ok (.goto 4, 3)) ∧ (decode cX8_why 27 = .ok (.iload_n 2, 1)) ∧ (decode cX8_why 28 = .ok (.ireturn, 1)) ∧ True := dc_cj [(0, .iload_n 1, 1), (1, .iconst 0, 1), (2, .iconst 2, 1), (3, .invokestatic 83, 3), (6, .ifCond .ne 6, 3), (9, .ldc 91, 2), (11, .ireturn, 1), (12, .aload_n 0, 1), (13, .iload_n 1, 1), (14, .invokevirtual 97, 3), (17, .istore_n 2, 1), (18, .iload_n 2, 1), (19, .ifCond .ge 8, 3), (22, .ldc 82, 2), (24, .goto 4, 3), (27, .iload_n 2, 1), (28, .ireturn, 1)] (by decide +kernel)
theorem dX8_why_0 : decode cX8_why 0 = .ok (.iload_n 1, 1) := edX8_why_0.1
theorem dX8_why_1 : decode cX8_why 1 = .ok (.iconst 0, 1) := edX8_why_0.2.1
theorem dX8_why_2 : decode cX8_why 2 = .ok (.iconst 2, 1) := edX8_why_0.2.2.1
theorem dX8_why_3 : decode cX8_why 3 = .ok (.invokestatic 83, 3) := edX8_why_0.2.2.2.1
theorem dX8_why_6 : decode cX8_why 6 = .ok (.ifCond .ne 6, 3) := edX8_why_0.2.2.2.2.1
theorem dX8_why_9 : decode cX8_why 9 = .ok (.ldc 91, 2) := edX8_why_0.2.2.2.2.2.1
theorem dX8_why_11 : decode cX8_why 11 = .ok (.ireturn, 1) := edX8_why_0.2.2.2.2.2.2.1
theorem dX8_why_12 : decode cX8_why 12 = .ok (.aload_n 0, 1) := edX8_why_0.2.2.2.2.2.2.2.1
theorem dX8_why_13 : decode cX8_why 13 = .ok (.iload_n 1, 1) := edX8_why_0.2.2.2.2.2.2.2.2.1
theorem dX8_why_14 : decode cX8_why 14 = .ok (.invokevirtual 97, 3) := edX8_why_0.2.2.2.2.2.2.2.2.2.1
theorem dX8_why_17 : decode cX8_why 17 = .ok (.istore_n 2, 1) := edX8_why_0.2.2.2.2.2.2.2.2.2.2.1
theorem dX8_why_18 : decode cX8_why 18 = .ok (.iload_n 2, 1) := edX8_why_0.2.2.2.2.2.2.2.2.2.2.2.1
theorem dX8_why_19 : decode cX8_why 19 = .ok (.ifCond .ge 8, 3) := edX8_why_0.2.2.2.2.2.2.2.2.2.2.2.2.1
theorem dX8_why_22 : decode cX8_why 22 = .ok (.ldc 82, 2) := edX8_why_0.2.2.2.2.2.2.2.2.2.2.2.2.2.1
theorem dX8_why_24 : decode cX8_why 24 = .ok (.goto 4, 3) := edX8_why_0.2.2.2.2.2.2.2.2.2.2.2.2.2.2.1
theorem dX8_why_27 : decode cX8_why 27 = .ok (.iload_n 2, 1) := edX8_why_0.2.2.2.2.2.2.2.2.2.2.2.2.2.2.2.1
theorem dX8_why_28 : decode cX8_why 28 = .ok (.ireturn, 1) := edX8_why_0.2.2.2.2.2.2.2.2.2.2.2.2.2.2.2.2.1
theorem edX8_two_0 : (decode cX8_two 0 = .ok (.iload_n 0, 1)) ∧ (decode cX8_two 1 = .ok (.tableswitch 120 (-8) (-1) #[116, 112, 108, 97, 86, 75, 61, 47], 47)) ∧ (decode cX8_two 48 = .ok (.iload_n 1, 1)) ∧ (decode cX8_two 49 = .ok (.ifCond .ne 7, 3)) ∧ (decode cX8_two 52 = .ok (.iload_n 2, 1)) ∧ (decode cX8_two 53 = .ok (.ifCond .eq 7, 3)) ∧ (decode cX8_two 56 = .ok (.iconst 1, 1)) ∧ (decode cX8_two 57 = .ok (.goto 4, 3)) ∧ (decode cX8_two 60 = .ok (.iconst 0, 1)) ∧ (decode cX8_two 61 = .ok (.ireturn, 1)) ∧ (decode cX8_two 62 = .ok (.iload_n 1, 1)) ∧ (decode cX8_two 63 = .ok (.ifCond .eq 11, 3)) ∧ (decode cX8_two 66 = .ok (.iload_n 2, 1)) ∧ (decode cX8_two 67 = .ok (.ifCond .eq 7, 3)) ∧ (decode cX8_two 70 = .ok (.iconst 1, 1)) ∧ (decode cX8_two 71 = .ok (.goto 4, 3)) ∧ (decode cX8_two 74 = .ok (.iconst 0, 1)) ∧ (decode cX8_two 75 = .ok (.ireturn, 1)) ∧ (decode cX8_two 76 = .ok (.iload_n 1, 1)) ∧ (decode cX8_two 77 = .ok (.iload_n 2, 1)) ∧ (decode cX8_two 78 = .ok (.if_icmp .ge 7, 3)) ∧ (decode cX8_two 81 = .ok (.iconst 1, 1)) ∧ (decode cX8_two 82 = .ok (.goto 4, 3)) ∧ (decode cX8_two 85 = .ok (.iconst 0, 1)) ∧ (decode cX8_two 86 = .ok (.ireturn, 1)) ∧ (decode cX8_two 87 = .ok (.iload_n 1, 1)) ∧ (decode cX8_two 88 = .ok (.iload_n 2, 1)) ∧ (decode cX8_two 89 = .ok (.if_icmp .ne 7, 3)) ∧ (decode cX8_two 92 = .ok (.iconst 1, 1)) ∧ (decode cX8_two 93 = .ok (.goto 4, 3)) ∧ (decode cX8_two 96 = .ok (.iconst 0, 1)) ∧ (decode cX8_two 97 = .ok (.ireturn, 1)) ∧ True := dc_cj [(0, .iload_n 0, 1), (1, .tableswitch 120 (-8) (-1) #[116, 112, 108, 97, 86, 75, 61, 47], 47), (48, .iload_n 1, 1), (49, .ifCond .ne 7, 3), (52, .iload_n 2, 1), (53, .ifCond .eq 7, 3), (56, .iconst 1, 1), (57, .goto 4, 3), (60, .iconst 0, 1), (61, .ireturn, 1), (62, .iload_n 1, 1), (63, .ifCond .eq 11, 3), (66, .iload_n 2, 1), (67, .ifCond .eq 7, 3), (70, .iconst 1, 1), (71, .goto 4, 3), (74, .iconst 0, 1), (75, .ireturn, 1), (76, .iload_n 1, 1), (77, .iload_n 2, 1), (78, .if_icmp .ge 7, 3), (81, .iconst 1, 1), (82, .goto 4, 3), (85, .iconst 0, 1), (86, .ireturn, 1), (87, .iload_n 1, 1), (88, .iload_n 2, 1), (89, .if_icmp .ne 7, 3), (92, .iconst 1, 1), (93, .goto 4, 3), (96, .iconst 0, 1), (97, .ireturn, 1)] (by decide +kernel)
theorem dX8_two_0 : decode cX8_two 0 = .ok (.iload_n 0, 1) := edX8_two_0.1
theorem dX8_two_1 : decode cX8_two 1 = .ok (.tableswitch 120 (-8) (-1) #[116, 112, 108, 97, 86, 75, 61, 47], 47) := edX8_two_0.2.1
theorem dX8_two_48 : decode cX8_two 48 = .ok (.iload_n 1, 1) := edX8_two_0.2.2.1
theorem dX8_two_49 : decode cX8_two 49 = .ok (.ifCond .ne 7, 3) := edX8_two_0.2.2.2.1
theorem dX8_two_52 : decode cX8_two 52 = .ok (.iload_n 2, 1) := edX8_two_0.2.2.2.2.1
theorem dX8_two_53 : decode cX8_two 53 = .ok (.ifCond .eq 7, 3) := edX8_two_0.2.2.2.2.2.1
theorem dX8_two_56 : decode cX8_two 56 = .ok (.iconst 1, 1) := edX8_two_0.2.2.2.2.2.2.1
theorem dX8_two_57 : decode cX8_two 57 = .ok (.goto 4, 3) := edX8_two_0.2.2.2.2.2.2.2.1
theorem dX8_two_60 : decode cX8_two 60 = .ok (.iconst 0, 1) := edX8_two_0.2.2.2.2.2.2.2.2.1
theorem dX8_two_61 : decode cX8_two 61 = .ok (.ireturn, 1) := edX8_two_0.2.2.2.2.2.2.2.2.2.1
theorem dX8_two_62 : decode cX8_two 62 = .ok (.iload_n 1, 1) := edX8_two_0.2.2.2.2.2.2.2.2.2.2.1
theorem dX8_two_63 : decode cX8_two 63 = .ok (.ifCond .eq 11, 3) := edX8_two_0.2.2.2.2.2.2.2.2.2.2.2.1
theorem dX8_two_66 : decode cX8_two 66 = .ok (.iload_n 2, 1) := edX8_two_0.2.2.2.2.2.2.2.2.2.2.2.2.1
theorem dX8_two_67 : decode cX8_two 67 = .ok (.ifCond .eq 7, 3) := edX8_two_0.2.2.2.2.2.2.2.2.2.2.2.2.2.1
theorem dX8_two_70 : decode cX8_two 70 = .ok (.iconst 1, 1) := edX8_two_0.2.2.2.2.2.2.2.2.2.2.2.2.2.2.1
theorem dX8_two_71 : decode cX8_two 71 = .ok (.goto 4, 3) := edX8_two_0.2.2.2.2.2.2.2.2.2.2.2.2.2.2.2.1
theorem dX8_two_74 : decode cX8_two 74 = .ok (.iconst 0, 1) := edX8_two_0.2.2.2.2.2.2.2.2.2.2.2.2.2.2.2.2.1
theorem dX8_two_75 : decode cX8_two 75 = .ok (.ireturn, 1) := edX8_two_0.2.2.2.2.2.2.2.2.2.2.2.2.2.2.2.2.2.1
theorem dX8_two_76 : decode cX8_two 76 = .ok (.iload_n 1, 1) := edX8_two_0.2.2.2.2.2.2.2.2.2.2.2.2.2.2.2.2.2.2.1
theorem dX8_two_77 : decode cX8_two 77 = .ok (.iload_n 2, 1) := edX8_two_0.2.2.2.2.2.2.2.2.2.2.2.2.2.2.2.2.2.2.2.1
theorem dX8_two_78 : decode cX8_two 78 = .ok (.if_icmp .ge 7, 3) := edX8_two_0.2.2.2.2.2.2.2.2.2.2.2.2.2.2.2.2.2.2.2.2.1
theorem dX8_two_81 : decode cX8_two 81 = .ok (.iconst 1, 1) := edX8_two_0.2.2.2.2.2.2.2.2.2.2.2.2.2.2.2.2.2.2.2.2.2.1
theorem dX8_two_82 : decode cX8_two 82 = .ok (.goto 4, 3) := edX8_two_0.2.2.2.2.2.2.2.2.2.2.2.2.2.2.2.2.2.2.2.2.2.2.1
theorem dX8_two_85 : decode cX8_two 85 = .ok (.iconst 0, 1) := edX8_two_0.2.2.2.2.2.2.2.2.2.2.2.2.2.2.2.2.2.2.2.2.2.2.2.1
theorem dX8_two_86 : decode cX8_two 86 = .ok (.ireturn, 1) := edX8_two_0.2.2.2.2.2.2.2.2.2.2.2.2.2.2.2.2.2.2.2.2.2.2.2.2.1
theorem dX8_two_87 : decode cX8_two 87 = .ok (.iload_n 1, 1) := edX8_two_0.2.2.2.2.2.2.2.2.2.2.2.2.2.2.2.2.2.2.2.2.2.2.2.2.2.1
theorem dX8_two_88 : decode cX8_two 88 = .ok (.iload_n 2, 1) := edX8_two_0.2.2.2.2.2.2.2.2.2.2.2.2.2.2.2.2.2.2.2.2.2.2.2.2.2.2.1
theorem dX8_two_89 : decode cX8_two 89 = .ok (.if_icmp .ne 7, 3) := edX8_two_0.2.2.2.2.2.2.2.2.2.2.2.2.2.2.2.2.2.2.2.2.2.2.2.2.2.2.2.1
theorem dX8_two_92 : decode cX8_two 92 = .ok (.iconst 1, 1) := edX8_two_0.2.2.2.2.2.2.2.2.2.2.2.2.2.2.2.2.2.2.2.2.2.2.2.2.2.2.2.2.1
theorem dX8_two_93 : decode cX8_two 93 = .ok (.goto 4, 3) := edX8_two_0.2.2.2.2.2.2.2.2.2.2.2.2.2.2.2.2.2.2.2.2.2.2.2.2.2.2.2.2.2.1
theorem dX8_two_96 : decode cX8_two 96 = .ok (.iconst 0, 1) := edX8_two_0.2.2.2.2.2.2.2.2.2.2.2.2.2.2.2.2.2.2.2.2.2.2.2.2.2.2.2.2.2.2.1
theorem dX8_two_97 : decode cX8_two 97 = .ok (.ireturn, 1) := edX8_two_0.2.2.2.2.2.2.2.2.2.2.2.2.2.2.2.2.2.2.2.2.2.2.2.2.2.2.2.2.2.2.2.1
theorem edX8_two_98 : (decode cX8_two 98 = .ok (.iload_n 1, 1)) ∧ (decode cX8_two 99 = .ok (.iload_n 2, 1)) ∧ (decode cX8_two 100 = .ok (.if_icmp .le 7, 3)) ∧ (decode cX8_two 103 = .ok (.iconst 1, 1)) ∧ (decode cX8_two 104 = .ok (.goto 4, 3)) ∧ (decode cX8_two 107 = .ok (.iconst 0, 1)) ∧ (decode cX8_two 108 = .ok (.ireturn, 1)) ∧ (decode cX8_two 109 = .ok (.iload_n 1, 1)) ∧ (decode cX8_two 110 = .ok (.iload_n 2, 1)) ∧ (decode cX8_two 111 = .ok (.iadd, 1)) ∧ (decode cX8_two 112 = .ok (.ireturn, 1)) ∧ (decode cX8_two 113 = .ok (.iload_n 1, 1)) ∧ (decode cX8_two 114 = .ok (.iload_n 2, 1)) ∧ (decode cX8_two 115 = .ok (.isub, 1)) ∧ (decode cX8_two 116 = .ok (.ireturn, 1)) ∧ (decode cX8_two 117 = .ok (.iload_n 1, 1)) ∧ (decode cX8_two 118 = .ok (.iload_n 2, 1)) ∧ (decode cX8_two 119 = .ok (.imul, 1)) ∧ (decode cX8_two 120 = .ok (.ireturn, 1)) ∧ (decode cX8_two 121 = .ok (.iload_n 2, 1)) ∧ (decode cX8_two 122 = .ok (.ifCond .ne 7, 3)) ∧ (decode cX8_two 125 = .ok (.iconst 0, 1)) ∧ (decode cX8_two 126 = .ok (.goto 6, 3)) ∧ (decode cX8_two 129 = .ok (.iload_n 1, 1)) ∧ (decode cX8_two 130 = .ok (.iload_n 2, 1)) ∧ (decode cX8_two 131 = .ok (.idiv, 1)) ∧ (decode cX8_two 132 = .ok (.ireturn, 1)) ∧ True := dc_cj [(98, .iload_n 1, 1), (99, .iload_n 2, 1), (100, .if_icmp .le 7, 3), (103, .iconst 1, 1), (104, .goto 4, 3), (107, .iconst 0, 1), (108, .ireturn, 1), (109, .iload_n 1, 1), (110, .iload_n 2, 1), (111, .iadd, 1), (112, .ireturn, 1), (113, .iload_n 1, 1), (114, .iload_n 2, 1), (115, .isub, 1), (116, .ireturn, 1), (117, .iload_n 1, 1), (118, .iload_n 2, 1), (119, .imul, 1), (120, .ireturn, 1), (121, .iload_n 2, 1), (122, .ifCond .ne 7, 3), (125, .iconst 0, 1), (126, .goto 6, 3), (129, .iload_n 1, 1), (130, .iload_n 2, 1), (131, .idiv, 1), (132, .ireturn, 1)] (by decide +kernel)
theorem dX8_two_98 : decode cX8_two 98 = .ok (.iload_n 1, 1) := edX8_two_98.1
theorem dX8_two_99 : decode cX8_two 99 = .ok (.iload_n 2, 1) := edX8_two_98.2.1
theorem dX8_two_100 : decode cX8_two 100 = .ok (.if_icmp .le 7, 3) := edX8_two_98.2.2.1
theorem dX8_two_103 : decode cX8_two 103 = .ok (.iconst 1, 1) := edX8_two_98.2.2.2.1
theorem dX8_two_104 : decode cX8_two 104 = .ok (.goto 4, 3) := edX8_two_98.2.2.2.2.1
theorem dX8_two_107 : decode cX8_two 107 = .ok (.iconst 0, 1) := edX8_two_98.2.2.2.2.2.1
theorem dX8_two_108 : decode cX8_two 108 = .ok (.ireturn, 1) := edX8_two_98.2.2.2.2.2.2.1
theorem dX8_two_109 : decode cX8_two 109 = .ok (.iload_n 1, 1) := edX8_two_98.2.2.2.2.2.2.2.1
theorem dX8_two_110 : decode cX8_two 110 = .ok (.iload_n 2, 1) := edX8_two_98.2.2.2.2.2.2.2.2.1
theorem dX8_two_111 : decode cX8_two 111 = .ok (.iadd, 1) := edX8_two_98.2.2.2.2.2.2.2.2.2.1
theorem dX8_two_112 : decode cX8_two 112 = .ok (.ireturn, 1) := edX8_two_98.2.2.2.2.2.2.2.2.2.2.1
theorem dX8_two_113 : decode cX8_two 113 = .ok (.iload_n 1, 1) := edX8_two_98.2.2.2.2.2.2.2.2.2.2.2.1
theorem dX8_two_114 : decode cX8_two 114 = .ok (.iload_n 2, 1) := edX8_two_98.2.2.2.2.2.2.2.2.2.2.2.2.1
theorem dX8_two_115 : decode cX8_two 115 = .ok (.isub, 1) := edX8_two_98.2.2.2.2.2.2.2.2.2.2.2.2.2.1
theorem dX8_two_116 : decode cX8_two 116 = .ok (.ireturn, 1) := edX8_two_98.2.2.2.2.2.2.2.2.2.2.2.2.2.2.1
theorem dX8_two_117 : decode cX8_two 117 = .ok (.iload_n 1, 1) := edX8_two_98.2.2.2.2.2.2.2.2.2.2.2.2.2.2.2.1
theorem dX8_two_118 : decode cX8_two 118 = .ok (.iload_n 2, 1) := edX8_two_98.2.2.2.2.2.2.2.2.2.2.2.2.2.2.2.2.1
theorem dX8_two_119 : decode cX8_two 119 = .ok (.imul, 1) := edX8_two_98.2.2.2.2.2.2.2.2.2.2.2.2.2.2.2.2.2.1
theorem dX8_two_120 : decode cX8_two 120 = .ok (.ireturn, 1) := edX8_two_98.2.2.2.2.2.2.2.2.2.2.2.2.2.2.2.2.2.2.1
theorem dX8_two_121 : decode cX8_two 121 = .ok (.iload_n 2, 1) := edX8_two_98.2.2.2.2.2.2.2.2.2.2.2.2.2.2.2.2.2.2.2.1
theorem dX8_two_122 : decode cX8_two 122 = .ok (.ifCond .ne 7, 3) := edX8_two_98.2.2.2.2.2.2.2.2.2.2.2.2.2.2.2.2.2.2.2.2.1
theorem dX8_two_125 : decode cX8_two 125 = .ok (.iconst 0, 1) := edX8_two_98.2.2.2.2.2.2.2.2.2.2.2.2.2.2.2.2.2.2.2.2.2.1
theorem dX8_two_126 : decode cX8_two 126 = .ok (.goto 6, 3) := edX8_two_98.2.2.2.2.2.2.2.2.2.2.2.2.2.2.2.2.2.2.2.2.2.2.1
theorem dX8_two_129 : decode cX8_two 129 = .ok (.iload_n 1, 1) := edX8_two_98.2.2.2.2.2.2.2.2.2.2.2.2.2.2.2.2.2.2.2.2.2.2.2.1
theorem dX8_two_130 : decode cX8_two 130 = .ok (.iload_n 2, 1) := edX8_two_98.2.2.2.2.2.2.2.2.2.2.2.2.2.2.2.2.2.2.2.2.2.2.2.2.1
theorem dX8_two_131 : decode cX8_two 131 = .ok (.idiv, 1) := edX8_two_98.2.2.2.2.2.2.2.2.2.2.2.2.2.2.2.2.2.2.2.2.2.2.2.2.2.1
theorem dX8_two_132 : decode cX8_two 132 = .ok (.ireturn, 1) := edX8_two_98.2.2.2.2.2.2.2.2.2.2.2.2.2.2.2.2.2.2.2.2.2.2.2.2.2.2.1
theorem edX8_worksOut_0 : (decode cX8_worksOut 0 = .ok (.iconst 0, 1)) ∧ (decode cX8_worksOut 1 = .ok (.istore_n 2, 1)) ∧ (decode cX8_worksOut 2 = .ok (.aload_n 0, 1)) ∧ (decode cX8_worksOut 3 = .ok (.getfield 9, 3)) ∧ (decode cX8_worksOut 6 = .ok (.bipush 62, 2)) ∧ (decode cX8_worksOut 8 = .ok (.iconst 2, 1)) ∧ (decode cX8_worksOut 9 = .ok (.iload_n 1, 1)) ∧ (decode cX8_worksOut 10 = .ok (.imul, 1)) ∧ (decode cX8_worksOut 11 = .ok (.iadd, 1)) ∧ (decode cX8_worksOut 12 = .ok (.iaload, 1)) ∧ (decode cX8_worksOut 13 = .ok (.sipush 1000, 3)) ∧ (decode cX8_worksOut 16 = .ok (.irem, 1)) ∧ (decode cX8_worksOut 17 = .ok (.istore_n 3, 1)) ∧ (decode cX8_worksOut 18 = .ok (.iconst 0, 1)) ∧ (decode cX8_worksOut 19 = .ok (.istore 4, 2)) ∧ (decode cX8_worksOut 21 = .ok (.iload 4, 2)) ∧ (decode cX8_worksOut 23 = .ok (.iload_n 3, 1)) ∧ (decode cX8_worksOut 24 = .ok (.if_icmp .ge 131, 3)) ∧ (decode cX8_worksOut 27 = .ok (.aload_n 0, 1)) ∧ (decode cX8_worksOut 28 = .ok (.getfield 9, 3)) ∧ (decode cX8_worksOut 31 = .ok (.bipush 90, 2)) ∧ (decode cX8_worksOut 33 = .ok (.bipush 96, 2)) ∧ (decode cX8_worksOut 35 = .ok (.iload_n 1, 1)) ∧ (decode cX8_worksOut 36 = .ok (.imul, 1)) ∧ (decode cX8_worksOut 37 = .ok (.iadd, 1)) ∧ (decode cX8_worksOut 38 = .ok (.iload 4, 2)) ∧ (decode cX8_worksOut 40 = .ok (.iadd, 1)) ∧ (decode cX8_worksOut 41 = .ok (.iaload, 1)) ∧ (decode cX8_worksOut 42 = .ok (.istore 5, 2)) ∧ (decode cX8_worksOut 44 = .ok (.iload 5, 2)) ∧ (decode cX8_worksOut 46 = .ok (.ifCond .lt 39, 3)) ∧ (decode cX8_worksOut 49 = .ok (.aload_n 0, 1)) ∧ True := dc_cj [(0, .iconst 0, 1), (1, .istore_n 2, 1), (2, .aload_n 0, 1), (3, .getfield 9, 3), (6, .bipush 62, 2), (8, .iconst 2, 1), (9, .iload_n 1, 1), (10, .imul, 1), (11, .iadd, 1), (12, .iaload, 1), (13, .sipush 1000, 3), (16, .irem, 1), (17, .istore_n 3, 1), (18, .iconst 0, 1), (19, .istore 4, 2), (21, .iload 4, 2), (23, .iload_n 3, 1), (24, .if_icmp .ge 131, 3), (27, .aload_n 0, 1), (28, .getfield 9, 3), (31, .bipush 90, 2), (33, .bipush 96, 2), (35, .iload_n 1, 1), (36, .imul, 1), (37, .iadd, 1), (38, .iload 4, 2), (40, .iadd, 1), (41, .iaload, 1), (42, .istore 5, 2), (44, .iload 5, 2), (46, .ifCond .lt 39, 3), (49, .aload_n 0, 1)] (by decide +kernel)
theorem dX8_worksOut_0 : decode cX8_worksOut 0 = .ok (.iconst 0, 1) := edX8_worksOut_0.1
theorem dX8_worksOut_1 : decode cX8_worksOut 1 = .ok (.istore_n 2, 1) := edX8_worksOut_0.2.1
theorem dX8_worksOut_2 : decode cX8_worksOut 2 = .ok (.aload_n 0, 1) := edX8_worksOut_0.2.2.1
theorem dX8_worksOut_3 : decode cX8_worksOut 3 = .ok (.getfield 9, 3) := edX8_worksOut_0.2.2.2.1
theorem dX8_worksOut_6 : decode cX8_worksOut 6 = .ok (.bipush 62, 2) := edX8_worksOut_0.2.2.2.2.1
theorem dX8_worksOut_8 : decode cX8_worksOut 8 = .ok (.iconst 2, 1) := edX8_worksOut_0.2.2.2.2.2.1
theorem dX8_worksOut_9 : decode cX8_worksOut 9 = .ok (.iload_n 1, 1) := edX8_worksOut_0.2.2.2.2.2.2.1
theorem dX8_worksOut_10 : decode cX8_worksOut 10 = .ok (.imul, 1) := edX8_worksOut_0.2.2.2.2.2.2.2.1
theorem dX8_worksOut_11 : decode cX8_worksOut 11 = .ok (.iadd, 1) := edX8_worksOut_0.2.2.2.2.2.2.2.2.1
theorem dX8_worksOut_12 : decode cX8_worksOut 12 = .ok (.iaload, 1) := edX8_worksOut_0.2.2.2.2.2.2.2.2.2.1
theorem dX8_worksOut_13 : decode cX8_worksOut 13 = .ok (.sipush 1000, 3) := edX8_worksOut_0.2.2.2.2.2.2.2.2.2.2.1
theorem dX8_worksOut_16 : decode cX8_worksOut 16 = .ok (.irem, 1) := edX8_worksOut_0.2.2.2.2.2.2.2.2.2.2.2.1
theorem dX8_worksOut_17 : decode cX8_worksOut 17 = .ok (.istore_n 3, 1) := edX8_worksOut_0.2.2.2.2.2.2.2.2.2.2.2.2.1
theorem dX8_worksOut_18 : decode cX8_worksOut 18 = .ok (.iconst 0, 1) := edX8_worksOut_0.2.2.2.2.2.2.2.2.2.2.2.2.2.1
theorem dX8_worksOut_19 : decode cX8_worksOut 19 = .ok (.istore 4, 2) := edX8_worksOut_0.2.2.2.2.2.2.2.2.2.2.2.2.2.2.1
theorem dX8_worksOut_21 : decode cX8_worksOut 21 = .ok (.iload 4, 2) := edX8_worksOut_0.2.2.2.2.2.2.2.2.2.2.2.2.2.2.2.1
theorem dX8_worksOut_23 : decode cX8_worksOut 23 = .ok (.iload_n 3, 1) := edX8_worksOut_0.2.2.2.2.2.2.2.2.2.2.2.2.2.2.2.2.1
theorem dX8_worksOut_24 : decode cX8_worksOut 24 = .ok (.if_icmp .ge 131, 3) := edX8_worksOut_0.2.2.2.2.2.2.2.2.2.2.2.2.2.2.2.2.2.1
theorem dX8_worksOut_27 : decode cX8_worksOut 27 = .ok (.aload_n 0, 1) := edX8_worksOut_0.2.2.2.2.2.2.2.2.2.2.2.2.2.2.2.2.2.2.1
theorem dX8_worksOut_28 : decode cX8_worksOut 28 = .ok (.getfield 9, 3) := edX8_worksOut_0.2.2.2.2.2.2.2.2.2.2.2.2.2.2.2.2.2.2.2.1
theorem dX8_worksOut_31 : decode cX8_worksOut 31 = .ok (.bipush 90, 2) := edX8_worksOut_0.2.2.2.2.2.2.2.2.2.2.2.2.2.2.2.2.2.2.2.2.1
theorem dX8_worksOut_33 : decode cX8_worksOut 33 = .ok (.bipush 96, 2) := edX8_worksOut_0.2.2.2.2.2.2.2.2.2.2.2.2.2.2.2.2.2.2.2.2.2.1
theorem dX8_worksOut_35 : decode cX8_worksOut 35 = .ok (.iload_n 1, 1) := edX8_worksOut_0.2.2.2.2.2.2.2.2.2.2.2.2.2.2.2.2.2.2.2.2.2.2.1
theorem dX8_worksOut_36 : decode cX8_worksOut 36 = .ok (.imul, 1) := edX8_worksOut_0.2.2.2.2.2.2.2.2.2.2.2.2.2.2.2.2.2.2.2.2.2.2.2.1
theorem dX8_worksOut_37 : decode cX8_worksOut 37 = .ok (.iadd, 1) := edX8_worksOut_0.2.2.2.2.2.2.2.2.2.2.2.2.2.2.2.2.2.2.2.2.2.2.2.2.1
theorem dX8_worksOut_38 : decode cX8_worksOut 38 = .ok (.iload 4, 2) := edX8_worksOut_0.2.2.2.2.2.2.2.2.2.2.2.2.2.2.2.2.2.2.2.2.2.2.2.2.2.1
theorem dX8_worksOut_40 : decode cX8_worksOut 40 = .ok (.iadd, 1) := edX8_worksOut_0.2.2.2.2.2.2.2.2.2.2.2.2.2.2.2.2.2.2.2.2.2.2.2.2.2.2.1
theorem dX8_worksOut_41 : decode cX8_worksOut 41 = .ok (.iaload, 1) := edX8_worksOut_0.2.2.2.2.2.2.2.2.2.2.2.2.2.2.2.2.2.2.2.2.2.2.2.2.2.2.2.1
theorem dX8_worksOut_42 : decode cX8_worksOut 42 = .ok (.istore 5, 2) := edX8_worksOut_0.2.2.2.2.2.2.2.2.2.2.2.2.2.2.2.2.2.2.2.2.2.2.2.2.2.2.2.2.1
theorem dX8_worksOut_44 : decode cX8_worksOut 44 = .ok (.iload 5, 2) := edX8_worksOut_0.2.2.2.2.2.2.2.2.2.2.2.2.2.2.2.2.2.2.2.2.2.2.2.2.2.2.2.2.2.1
theorem dX8_worksOut_46 : decode cX8_worksOut 46 = .ok (.ifCond .lt 39, 3) := edX8_worksOut_0.2.2.2.2.2.2.2.2.2.2.2.2.2.2.2.2.2.2.2.2.2.2.2.2.2.2.2.2.2.2.1
theorem dX8_worksOut_49 : decode cX8_worksOut 49 = .ok (.aload_n 0, 1) := edX8_worksOut_0.2.2.2.2.2.2.2.2.2.2.2.2.2.2.2.2.2.2.2.2.2.2.2.2.2.2.2.2.2.2.2.1
theorem edX8_worksOut_50 : (decode cX8_worksOut 50 = .ok (.getfield 49, 3)) ∧ (decode cX8_worksOut 53 = .ok (.iload_n 2, 1)) ∧ (decode cX8_worksOut 54 = .ok (.iload 5, 2)) ∧ (decode cX8_worksOut 56 = .ok (.sipush 10000, 3)) ∧ (decode cX8_worksOut 59 = .ok (.if_icmp .ge 8, 3)) ∧ (decode cX8_worksOut 62 = .ok (.iload 5, 2)) ∧ (decode cX8_worksOut 64 = .ok (.goto 14, 3)) ∧ (decode cX8_worksOut 67 = .ok (.aload_n 0, 1)) ∧ (decode cX8_worksOut 68 = .ok (.getfield 52, 3)) ∧ (decode cX8_worksOut 71 = .ok (.iload 5, 2)) ∧ (decode cX8_worksOut 73 = .ok (.sipush 10000, 3)) ∧ (decode cX8_worksOut 76 = .ok (.isub, 1)) ∧ (decode cX8_worksOut 77 = .ok (.iaload, 1)) ∧ (decode cX8_worksOut 78 = .ok (.iastore, 1)) ∧ (decode cX8_worksOut 79 = .ok (.iinc 2 1, 3)) ∧ (decode cX8_worksOut 82 = .ok (.goto 67, 3)) ∧ (decode cX8_worksOut 85 = .ok (.iload 5, 2)) ∧ (decode cX8_worksOut 87 = .ok (.bipush (-10), 2)) ∧ (decode cX8_worksOut 89 = .ok (.if_icmp .ne 30, 3)) ∧ (decode cX8_worksOut 92 = .ok (.aload_n 0, 1)) ∧ (decode cX8_worksOut 93 = .ok (.getfield 49, 3)) ∧ (decode cX8_worksOut 96 = .ok (.iload_n 2, 1)) ∧ (decode cX8_worksOut 97 = .ok (.iconst 1, 1)) ∧ (decode cX8_worksOut 98 = .ok (.isub, 1)) ∧ (decode cX8_worksOut 99 = .ok (.aload_n 0, 1)) ∧ (decode cX8_worksOut 100 = .ok (.getfield 49, 3)) ∧ (decode cX8_worksOut 103 = .ok (.iload_n 2, 1)) ∧ (decode cX8_worksOut 104 = .ok (.iconst 1, 1)) ∧ (decode cX8_worksOut 105 = .ok (.isub, 1)) ∧ (decode cX8_worksOut 106 = .ok (.iaload, 1)) ∧ (decode cX8_worksOut 107 = .ok (.ifCond .ne 7, 3)) ∧ (decode cX8_worksOut 110 = .ok (.iconst 1, 1)) ∧ True := dc_cj [(50, .getfield 49, 3), (53, .iload_n 2, 1), (54, .iload 5, 2), (56, .sipush 10000, 3), (59, .if_icmp .ge 8, 3), (62, .iload 5, 2), (64, .goto 14, 3), (67, .aload_n 0, 1), (68, .getfield 52, 3), (71, .iload 5, 2), (73, .sipush 10000, 3), (76, .isub, 1), (77, .iaload, 1), (78, .iastore, 1), (79, .iinc 2 1, 3), (82, .goto 67, 3), (85, .iload 5, 2), (87, .bipush (-10), 2), (89, .if_icmp .ne 30, 3), (92, .aload_n 0, 1), (93, .getfield 49, 3), (96, .iload_n 2, 1), (97, .iconst 1, 1), (98, .isub, 1), (99, .aload_n 0, 1), (100, .getfield 49, 3), (103, .iload_n 2, 1), (104, .iconst 1, 1), (105, .isub, 1), (106, .iaload, 1), (107, .ifCond .ne 7, 3), (110, .iconst 1, 1)] (by decide +kernel)
theorem dX8_worksOut_50 : decode cX8_worksOut 50 = .ok (.getfield 49, 3) := edX8_worksOut_50.1
theorem dX8_worksOut_53 : decode cX8_worksOut 53 = .ok (.iload_n 2, 1) := edX8_worksOut_50.2.1
theorem dX8_worksOut_54 : decode cX8_worksOut 54 = .ok (.iload 5, 2) := edX8_worksOut_50.2.2.1
theorem dX8_worksOut_56 : decode cX8_worksOut 56 = .ok (.sipush 10000, 3) := edX8_worksOut_50.2.2.2.1
theorem dX8_worksOut_59 : decode cX8_worksOut 59 = .ok (.if_icmp .ge 8, 3) := edX8_worksOut_50.2.2.2.2.1
theorem dX8_worksOut_62 : decode cX8_worksOut 62 = .ok (.iload 5, 2) := edX8_worksOut_50.2.2.2.2.2.1
theorem dX8_worksOut_64 : decode cX8_worksOut 64 = .ok (.goto 14, 3) := edX8_worksOut_50.2.2.2.2.2.2.1
theorem dX8_worksOut_67 : decode cX8_worksOut 67 = .ok (.aload_n 0, 1) := edX8_worksOut_50.2.2.2.2.2.2.2.1
theorem dX8_worksOut_68 : decode cX8_worksOut 68 = .ok (.getfield 52, 3) := edX8_worksOut_50.2.2.2.2.2.2.2.2.1
theorem dX8_worksOut_71 : decode cX8_worksOut 71 = .ok (.iload 5, 2) := edX8_worksOut_50.2.2.2.2.2.2.2.2.2.1
theorem dX8_worksOut_73 : decode cX8_worksOut 73 = .ok (.sipush 10000, 3) := edX8_worksOut_50.2.2.2.2.2.2.2.2.2.2.1
theorem dX8_worksOut_76 : decode cX8_worksOut 76 = .ok (.isub, 1) := edX8_worksOut_50.2.2.2.2.2.2.2.2.2.2.2.1
theorem dX8_worksOut_77 : decode cX8_worksOut 77 = .ok (.iaload, 1) := edX8_worksOut_50.2.2.2.2.2.2.2.2.2.2.2.2.1
theorem dX8_worksOut_78 : decode cX8_worksOut 78 = .ok (.iastore, 1) := edX8_worksOut_50.2.2.2.2.2.2.2.2.2.2.2.2.2.1
theorem dX8_worksOut_79 : decode cX8_worksOut 79 = .ok (.iinc 2 1, 3) := edX8_worksOut_50.2.2.2.2.2.2.2.2.2.2.2.2.2.2.1
theorem dX8_worksOut_82 : decode cX8_worksOut 82 = .ok (.goto 67, 3) := edX8_worksOut_50.2.2.2.2.2.2.2.2.2.2.2.2.2.2.2.1
theorem dX8_worksOut_85 : decode cX8_worksOut 85 = .ok (.iload 5, 2) := edX8_worksOut_50.2.2.2.2.2.2.2.2.2.2.2.2.2.2.2.2.1
theorem dX8_worksOut_87 : decode cX8_worksOut 87 = .ok (.bipush (-10), 2) := edX8_worksOut_50.2.2.2.2.2.2.2.2.2.2.2.2.2.2.2.2.2.1
theorem dX8_worksOut_89 : decode cX8_worksOut 89 = .ok (.if_icmp .ne 30, 3) := edX8_worksOut_50.2.2.2.2.2.2.2.2.2.2.2.2.2.2.2.2.2.2.1
theorem dX8_worksOut_92 : decode cX8_worksOut 92 = .ok (.aload_n 0, 1) := edX8_worksOut_50.2.2.2.2.2.2.2.2.2.2.2.2.2.2.2.2.2.2.2.1
theorem dX8_worksOut_93 : decode cX8_worksOut 93 = .ok (.getfield 49, 3) := edX8_worksOut_50.2.2.2.2.2.2.2.2.2.2.2.2.2.2.2.2.2.2.2.2.1
theorem dX8_worksOut_96 : decode cX8_worksOut 96 = .ok (.iload_n 2, 1) := edX8_worksOut_50.2.2.2.2.2.2.2.2.2.2.2.2.2.2.2.2.2.2.2.2.2.1
theorem dX8_worksOut_97 : decode cX8_worksOut 97 = .ok (.iconst 1, 1) := edX8_worksOut_50.2.2.2.2.2.2.2.2.2.2.2.2.2.2.2.2.2.2.2.2.2.2.1
theorem dX8_worksOut_98 : decode cX8_worksOut 98 = .ok (.isub, 1) := edX8_worksOut_50.2.2.2.2.2.2.2.2.2.2.2.2.2.2.2.2.2.2.2.2.2.2.2.1
theorem dX8_worksOut_99 : decode cX8_worksOut 99 = .ok (.aload_n 0, 1) := edX8_worksOut_50.2.2.2.2.2.2.2.2.2.2.2.2.2.2.2.2.2.2.2.2.2.2.2.2.1
theorem dX8_worksOut_100 : decode cX8_worksOut 100 = .ok (.getfield 49, 3) := edX8_worksOut_50.2.2.2.2.2.2.2.2.2.2.2.2.2.2.2.2.2.2.2.2.2.2.2.2.2.1
theorem dX8_worksOut_103 : decode cX8_worksOut 103 = .ok (.iload_n 2, 1) := edX8_worksOut_50.2.2.2.2.2.2.2.2.2.2.2.2.2.2.2.2.2.2.2.2.2.2.2.2.2.2.1
theorem dX8_worksOut_104 : decode cX8_worksOut 104 = .ok (.iconst 1, 1) := edX8_worksOut_50.2.2.2.2.2.2.2.2.2.2.2.2.2.2.2.2.2.2.2.2.2.2.2.2.2.2.2.1
theorem dX8_worksOut_105 : decode cX8_worksOut 105 = .ok (.isub, 1) := edX8_worksOut_50.2.2.2.2.2.2.2.2.2.2.2.2.2.2.2.2.2.2.2.2.2.2.2.2.2.2.2.2.1
theorem dX8_worksOut_106 : decode cX8_worksOut 106 = .ok (.iaload, 1) := edX8_worksOut_50.2.2.2.2.2.2.2.2.2.2.2.2.2.2.2.2.2.2.2.2.2.2.2.2.2.2.2.2.2.1
theorem dX8_worksOut_107 : decode cX8_worksOut 107 = .ok (.ifCond .ne 7, 3) := edX8_worksOut_50.2.2.2.2.2.2.2.2.2.2.2.2.2.2.2.2.2.2.2.2.2.2.2.2.2.2.2.2.2.2.1
theorem dX8_worksOut_110 : decode cX8_worksOut 110 = .ok (.iconst 1, 1) := edX8_worksOut_50.2.2.2.2.2.2.2.2.2.2.2.2.2.2.2.2.2.2.2.2.2.2.2.2.2.2.2.2.2.2.2.1
