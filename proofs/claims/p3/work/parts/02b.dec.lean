theorem edX7_set_0 : (decode cX7_set 0 = .ok (.aload_n 0, 1)) ∧ (decode cX7_set 1 = .ok (.getfield 10, 3)) ∧ (decode cX7_set 4 = .ok (.iload_n 1, 1)) ∧ (decode cX7_set 5 = .ok (.invokevirtual 87, 3)) ∧ (decode cX7_set 8 = .ok (.ifCond .ne 6, 3)) ∧ (decode cX7_set 11 = .ok (.ldc 78, 2)) ∧ (decode cX7_set 13 = .ok (.ireturn, 1)) ∧ (decode cX7_set 14 = .ok (.iload_n 2, 1)) ∧ (decode cX7_set 15 = .ok (.iconst 1, 1)) ∧ (decode cX7_set 16 = .ok (.if_icmp .ne 34, 3)) ∧ (decode cX7_set 19 = .ok (.iload_n 3, 1)) ∧ (decode cX7_set 20 = .ok (.invokestatic 71, 3)) ∧ (decode cX7_set 23 = .ok (.ifCond .eq 27, 3)) ∧ (decode cX7_set 26 = .ok (.aload_n 0, 1)) ∧ (decode cX7_set 27 = .ok (.getfield 10, 3)) ∧ (decode cX7_set 30 = .ok (.getfield 93, 3)) ∧ (decode cX7_set 33 = .ok (.iload_n 1, 1)) ∧ (decode cX7_set 34 = .ok (.iaload, 1)) ∧ (decode cX7_set 35 = .ok (.istore 4, 2)) ∧ (decode cX7_set 37 = .ok (.aload_n 0, 1)) ∧ (decode cX7_set 38 = .ok (.getfield 10, 3)) ∧ (decode cX7_set 41 = .ok (.getfield 93, 3)) ∧ (decode cX7_set 44 = .ok (.iload_n 1, 1)) ∧ (decode cX7_set 45 = .ok (.iload_n 3, 1)) ∧ (decode cX7_set 46 = .ok (.iastore, 1)) ∧ (decode cX7_set 47 = .ok (.iload 4, 2)) ∧ (decode cX7_set 49 = .ok (.ireturn, 1)) ∧ (decode cX7_set 50 = .ok (.iload_n 2, 1)) ∧ (decode cX7_set 51 = .ok (.iconst 2, 1)) ∧ (decode cX7_set 52 = .ok (.if_icmp .ne 37, 3)) ∧ (decode cX7_set 55 = .ok (.iload_n 3, 1)) ∧ (decode cX7_set 56 = .ok (.iconst 0, 1)) ∧ True := dc_cj [(0, .aload_n 0, 1), (1, .getfield 10, 3), (4, .iload_n 1, 1), (5, .invokevirtual 87, 3), (8, .ifCond .ne 6, 3), (11, .ldc 78, 2), (13, .ireturn, 1), (14, .iload_n 2, 1), (15, .iconst 1, 1), (16, .if_icmp .ne 34, 3), (19, .iload_n 3, 1), (20, .invokestatic 71, 3), (23, .ifCond .eq 27, 3), (26, .aload_n 0, 1), (27, .getfield 10, 3), (30, .getfield 93, 3), (33, .iload_n 1, 1), (34, .iaload, 1), (35, .istore 4, 2), (37, .aload_n 0, 1), (38, .getfield 10, 3), (41, .getfield 93, 3), (44, .iload_n 1, 1), (45, .iload_n 3, 1), (46, .iastore, 1), (47, .iload 4, 2), (49, .ireturn, 1), (50, .iload_n 2, 1), (51, .iconst 2, 1), (52, .if_icmp .ne 37, 3), (55, .iload_n 3, 1), (56, .iconst 0, 1)] (by decide +kernel)
theorem dX7_set_0 : decode cX7_set 0 = .ok (.aload_n 0, 1) := edX7_set_0.1
theorem dX7_set_1 : decode cX7_set 1 = .ok (.getfield 10, 3) := edX7_set_0.2.1
theorem dX7_set_4 : decode cX7_set 4 = .ok (.iload_n 1, 1) := edX7_set_0.2.2.1
theorem dX7_set_5 : decode cX7_set 5 = .ok (.invokevirtual 87, 3) := edX7_set_0.2.2.2.1
theorem dX7_set_8 : decode cX7_set 8 = .ok (.ifCond .ne 6, 3) := edX7_set_0.2.2.2.2.1
theorem dX7_set_11 : decode cX7_set 11 = .ok (.ldc 78, 2) := edX7_set_0.2.2.2.2.2.1
theorem dX7_set_13 : decode cX7_set 13 = .ok (.ireturn, 1) := edX7_set_0.2.2.2.2.2.2.1
theorem dX7_set_14 : decode cX7_set 14 = .ok (.iload_n 2, 1) := edX7_set_0.2.2.2.2.2.2.2.1
theorem dX7_set_15 : decode cX7_set 15 = .ok (.iconst 1, 1) := edX7_set_0.2.2.2.2.2.2.2.2.1
theorem dX7_set_16 : decode cX7_set 16 = .ok (.if_icmp .ne 34, 3) := edX7_set_0.2.2.2.2.2.2.2.2.2.1
theorem dX7_set_19 : decode cX7_set 19 = .ok (.iload_n 3, 1) := edX7_set_0.2.2.2.2.2.2.2.2.2.2.1
theorem dX7_set_20 : decode cX7_set 20 = .ok (.invokestatic 71, 3) := edX7_set_0.2.2.2.2.2.2.2.2.2.2.2.1
theorem dX7_set_23 : decode cX7_set 23 = .ok (.ifCond .eq 27, 3) := edX7_set_0.2.2.2.2.2.2.2.2.2.2.2.2.1
theorem dX7_set_26 : decode cX7_set 26 = .ok (.aload_n 0, 1) := edX7_set_0.2.2.2.2.2.2.2.2.2.2.2.2.2.1
theorem dX7_set_27 : decode cX7_set 27 = .ok (.getfield 10, 3) := edX7_set_0.2.2.2.2.2.2.2.2.2.2.2.2.2.2.1
theorem dX7_set_30 : decode cX7_set 30 = .ok (.getfield 93, 3) := edX7_set_0.2.2.2.2.2.2.2.2.2.2.2.2.2.2.2.1
theorem dX7_set_33 : decode cX7_set 33 = .ok (.iload_n 1, 1) := edX7_set_0.2.2.2.2.2.2.2.2.2.2.2.2.2.2.2.2.1
theorem dX7_set_34 : decode cX7_set 34 = .ok (.iaload, 1) := edX7_set_0.2.2.2.2.2.2.2.2.2.2.2.2.2.2.2.2.2.1
theorem dX7_set_35 : decode cX7_set 35 = .ok (.istore 4, 2) := edX7_set_0.2.2.2.2.2.2.2.2.2.2.2.2.2.2.2.2.2.2.1
theorem dX7_set_37 : decode cX7_set 37 = .ok (.aload_n 0, 1) := edX7_set_0.2.2.2.2.2.2.2.2.2.2.2.2.2.2.2.2.2.2.2.1
theorem dX7_set_38 : decode cX7_set 38 = .ok (.getfield 10, 3) := edX7_set_0.2.2.2.2.2.2.2.2.2.2.2.2.2.2.2.2.2.2.2.2.1
theorem dX7_set_41 : decode cX7_set 41 = .ok (.getfield 93, 3) := edX7_set_0.2.2.2.2.2.2.2.2.2.2.2.2.2.2.2.2.2.2.2.2.2.1
theorem dX7_set_44 : decode cX7_set 44 = .ok (.iload_n 1, 1) := edX7_set_0.2.2.2.2.2.2.2.2.2.2.2.2.2.2.2.2.2.2.2.2.2.2.1
theorem dX7_set_45 : decode cX7_set 45 = .ok (.iload_n 3, 1) := edX7_set_0.2.2.2.2.2.2.2.2.2.2.2.2.2.2.2.2.2.2.2.2.2.2.2.1
theorem dX7_set_46 : decode cX7_set 46 = .ok (.iastore, 1) := edX7_set_0.2.2.2.2.2.2.2.2.2.2.2.2.2.2.2.2.2.2.2.2.2.2.2.2.1
theorem dX7_set_47 : decode cX7_set 47 = .ok (.iload 4, 2) := edX7_set_0.2.2.2.2.2.2.2.2.2.2.2.2.2.2.2.2.2.2.2.2.2.2.2.2.2.1
theorem dX7_set_49 : decode cX7_set 49 = .ok (.ireturn, 1) := edX7_set_0.2.2.2.2.2.2.2.2.2.2.2.2.2.2.2.2.2.2.2.2.2.2.2.2.2.2.1
theorem dX7_set_50 : decode cX7_set 50 = .ok (.iload_n 2, 1) := edX7_set_0.2.2.2.2.2.2.2.2.2.2.2.2.2.2.2.2.2.2.2.2.2.2.2.2.2.2.2.1
theorem dX7_set_51 : decode cX7_set 51 = .ok (.iconst 2, 1) := edX7_set_0.2.2.2.2.2.2.2.2.2.2.2.2.2.2.2.2.2.2.2.2.2.2.2.2.2.2.2.2.1
theorem dX7_set_52 : decode cX7_set 52 = .ok (.if_icmp .ne 37, 3) := edX7_set_0.2.2.2.2.2.2.2.2.2.2.2.2.2.2.2.2.2.2.2.2.2.2.2.2.2.2.2.2.2.1
theorem dX7_set_55 : decode cX7_set 55 = .ok (.iload_n 3, 1) := edX7_set_0.2.2.2.2.2.2.2.2.2.2.2.2.2.2.2.2.2.2.2.2.2.2.2.2.2.2.2.2.2.2.1
theorem dX7_set_56 : decode cX7_set 56 = .ok (.iconst 0, 1) := edX7_set_0.2.2.2.2.2.2.2.2.2.2.2.2.2.2.2.2.2.2.2.2.2.2.2.2.2.2.2.2.2.2.2.1
theorem edX7_set_57 : (decode cX7_set 57 = .ok (.bipush 99, 2)) ∧ (decode cX7_set 59 = .ok (.invokestatic 74, 3)) ∧ (decode cX7_set 62 = .ok (.ifCond .eq 27, 3)) ∧ (decode cX7_set 65 = .ok (.aload_n 0, 1)) ∧ (decode cX7_set 66 = .ok (.getfield 10, 3)) ∧ (decode cX7_set 69 = .ok (.getfield 96, 3)) ∧ (decode cX7_set 72 = .ok (.iload_n 1, 1)) ∧ (decode cX7_set 73 = .ok (.iaload, 1)) ∧ (decode cX7_set 74 = .ok (.istore 4, 2)) ∧ (decode cX7_set 76 = .ok (.aload_n 0, 1)) ∧ (decode cX7_set 77 = .ok (.getfield 10, 3)) ∧ (decode cX7_set 80 = .ok (.getfield 96, 3)) ∧ (decode cX7_set 83 = .ok (.iload_n 1, 1)) ∧ (decode cX7_set 84 = .ok (.iload_n 3, 1)) ∧ (decode cX7_set 85 = .ok (.iastore, 1)) ∧ (decode cX7_set 86 = .ok (.iload 4, 2)) ∧ (decode cX7_set 88 = .ok (.ireturn, 1)) ∧ (decode cX7_set 89 = .ok (.ldc 78, 2)) ∧ (decode cX7_set 91 = .ok (.ireturn, 1)) ∧ True := dc_cj [(57, .bipush 99, 2), (59, .invokestatic 74, 3), (62, .ifCond .eq 27, 3), (65, .aload_n 0, 1), (66, .getfield 10, 3), (69, .getfield 96, 3), (72, .iload_n 1, 1), (73, .iaload, 1), (74, .istore 4, 2), (76, .aload_n 0, 1), (77, .getfield 10, 3), (80, .getfield 96, 3), (83, .iload_n 1, 1), (84, .iload_n 3, 1), (85, .iastore, 1), (86, .iload 4, 2), (88, .ireturn, 1), (89, .ldc 78, 2), (91, .ireturn, 1)] (by decide +kernel)
theorem dX7_set_57 : decode cX7_set 57 = .ok (.bipush 99, 2) := edX7_set_57.1
theorem dX7_set_59 : decode cX7_set 59 = .ok (.invokestatic 74, 3) := edX7_set_57.2.1
theorem dX7_set_62 : decode cX7_set 62 = .ok (.ifCond .eq 27, 3) := edX7_set_57.2.2.1
theorem dX7_set_65 : decode cX7_set 65 = .ok (.aload_n 0, 1) := edX7_set_57.2.2.2.1
theorem dX7_set_66 : decode cX7_set 66 = .ok (.getfield 10, 3) := edX7_set_57.2.2.2.2.1
theorem dX7_set_69 : decode cX7_set 69 = .ok (.getfield 96, 3) := edX7_set_57.2.2.2.2.2.1
theorem dX7_set_72 : decode cX7_set 72 = .ok (.iload_n 1, 1) := edX7_set_57.2.2.2.2.2.2.1
theorem dX7_set_73 : decode cX7_set 73 = .ok (.iaload, 1) := edX7_set_57.2.2.2.2.2.2.2.1
theorem dX7_set_74 : decode cX7_set 74 = .ok (.istore 4, 2) := edX7_set_57.2.2.2.2.2.2.2.2.1
theorem dX7_set_76 : decode cX7_set 76 = .ok (.aload_n 0, 1) := edX7_set_57.2.2.2.2.2.2.2.2.2.1
theorem dX7_set_77 : decode cX7_set 77 = .ok (.getfield 10, 3) := edX7_set_57.2.2.2.2.2.2.2.2.2.2.1
theorem dX7_set_80 : decode cX7_set 80 = .ok (.getfield 96, 3) := edX7_set_57.2.2.2.2.2.2.2.2.2.2.2.1
theorem dX7_set_83 : decode cX7_set 83 = .ok (.iload_n 1, 1) := edX7_set_57.2.2.2.2.2.2.2.2.2.2.2.2.1
theorem dX7_set_84 : decode cX7_set 84 = .ok (.iload_n 3, 1) := edX7_set_57.2.2.2.2.2.2.2.2.2.2.2.2.2.1
theorem dX7_set_85 : decode cX7_set 85 = .ok (.iastore, 1) := edX7_set_57.2.2.2.2.2.2.2.2.2.2.2.2.2.2.1
theorem dX7_set_86 : decode cX7_set 86 = .ok (.iload 4, 2) := edX7_set_57.2.2.2.2.2.2.2.2.2.2.2.2.2.2.2.1
theorem dX7_set_88 : decode cX7_set 88 = .ok (.ireturn, 1) := edX7_set_57.2.2.2.2.2.2.2.2.2.2.2.2.2.2.2.2.1
theorem dX7_set_89 : decode cX7_set 89 = .ok (.ldc 78, 2) := edX7_set_57.2.2.2.2.2.2.2.2.2.2.2.2.2.2.2.2.2.1
theorem dX7_set_91 : decode cX7_set 91 = .ok (.ireturn, 1) := edX7_set_57.2.2.2.2.2.2.2.2.2.2.2.2.2.2.2.2.2.2.1
theorem edX7_stand_0 : (decode cX7_stand 0 = .ok (.iload_n 1, 1)) ∧ (decode cX7_stand 1 = .ok (.invokestatic 124, 3)) ∧ (decode cX7_stand 4 = .ok (.ifCond .eq 13, 3)) ∧ (decode cX7_stand 7 = .ok (.iload_n 2, 1)) ∧ (decode cX7_stand 8 = .ok (.iconst 0, 1)) ∧ (decode cX7_stand 9 = .ok (.bipush 9, 2)) ∧ (decode cX7_stand 11 = .ok (.invokestatic 74, 3)) ∧ (decode cX7_stand 14 = .ok (.ifCond .ne 6, 3)) ∧ (decode cX7_stand 17 = .ok (.ldc 78, 2)) ∧ (decode cX7_stand 19 = .ok (.ireturn, 1)) ∧ (decode cX7_stand 20 = .ok (.aload_n 0, 1)) ∧ (decode cX7_stand 21 = .ok (.getfield 10, 3)) ∧ (decode cX7_stand 24 = .ok (.getfield 127, 3)) ∧ (decode cX7_stand 27 = .ok (.iload_n 1, 1)) ∧ (decode cX7_stand 28 = .ok (.iaload, 1)) ∧ (decode cX7_stand 29 = .ok (.istore_n 3, 1)) ∧ (decode cX7_stand 30 = .ok (.aload_n 0, 1)) ∧ (decode cX7_stand 31 = .ok (.getfield 10, 3)) ∧ (decode cX7_stand 34 = .ok (.getfield 127, 3)) ∧ (decode cX7_stand 37 = .ok (.iload_n 1, 1)) ∧ (decode cX7_stand 38 = .ok (.iload_n 2, 1)) ∧ (decode cX7_stand 39 = .ok (.iastore, 1)) ∧ (decode cX7_stand 40 = .ok (.iload_n 3, 1)) ∧ (decode cX7_stand 41 = .ok (.ireturn, 1)) ∧ True := dc_cj [(0, .iload_n 1, 1), (1, .invokestatic 124, 3), (4, .ifCond .eq 13, 3), (7, .iload_n 2, 1), (8, .iconst 0, 1), (9, .bipush 9, 2), (11, .invokestatic 74, 3), (14, .ifCond .ne 6, 3), (17, .ldc 78, 2), (19, .ireturn, 1), (20, .aload_n 0, 1), (21, .getfield 10, 3), (24, .getfield 127, 3), (27, .iload_n 1, 1), (28, .iaload, 1), (29, .istore_n 3, 1), (30, .aload_n 0, 1), (31, .getfield 10, 3), (34, .getfield 127, 3), (37, .iload_n 1, 1), (38, .iload_n 2, 1), (39, .iastore, 1), (40, .iload_n 3, 1), (41, .ireturn, 1)] (by decide +kernel)
theorem dX7_stand_0 : decode cX7_stand 0 = .ok (.iload_n 1, 1) := edX7_stand_0.1
theorem dX7_stand_1 : decode cX7_stand 1 = .ok (.invokestatic 124, 3) := edX7_stand_0.2.1
theorem dX7_stand_4 : decode cX7_stand 4 = .ok (.ifCond .eq 13, 3) := edX7_stand_0.2.2.1
theorem dX7_stand_7 : decode cX7_stand 7 = .ok (.iload_n 2, 1) := edX7_stand_0.2.2.2.1
theorem dX7_stand_8 : decode cX7_stand 8 = .ok (.iconst 0, 1) := edX7_stand_0.2.2.2.2.1
theorem dX7_stand_9 : decode cX7_stand 9 = .ok (.bipush 9, 2) := edX7_stand_0.2.2.2.2.2.1
theorem dX7_stand_11 : decode cX7_stand 11 = .ok (.invokestatic 74, 3) := edX7_stand_0.2.2.2.2.2.2.1
theorem dX7_stand_14 : decode cX7_stand 14 = .ok (.ifCond .ne 6, 3) := edX7_stand_0.2.2.2.2.2.2.2.1
theorem dX7_stand_17 : decode cX7_stand 17 = .ok (.ldc 78, 2) := edX7_stand_0.2.2.2.2.2.2.2.2.1
theorem dX7_stand_19 : decode cX7_stand 19 = .ok (.ireturn, 1) := edX7_stand_0.2.2.2.2.2.2.2.2.2.1
theorem dX7_stand_20 : decode cX7_stand 20 = .ok (.aload_n 0, 1) := edX7_stand_0.2.2.2.2.2.2.2.2.2.2.1
theorem dX7_stand_21 : decode cX7_stand 21 = .ok (.getfield 10, 3) := edX7_stand_0.2.2.2.2.2.2.2.2.2.2.2.1
theorem dX7_stand_24 : decode cX7_stand 24 = .ok (.getfield 127, 3) := edX7_stand_0.2.2.2.2.2.2.2.2.2.2.2.2.1
theorem dX7_stand_27 : decode cX7_stand 27 = .ok (.iload_n 1, 1) := edX7_stand_0.2.2.2.2.2.2.2.2.2.2.2.2.2.1
theorem dX7_stand_28 : decode cX7_stand 28 = .ok (.iaload, 1) := edX7_stand_0.2.2.2.2.2.2.2.2.2.2.2.2.2.2.1
theorem dX7_stand_29 : decode cX7_stand 29 = .ok (.istore_n 3, 1) := edX7_stand_0.2.2.2.2.2.2.2.2.2.2.2.2.2.2.2.1
theorem dX7_stand_30 : decode cX7_stand 30 = .ok (.aload_n 0, 1) := edX7_stand_0.2.2.2.2.2.2.2.2.2.2.2.2.2.2.2.2.1
theorem dX7_stand_31 : decode cX7_stand 31 = .ok (.getfield 10, 3) := edX7_stand_0.2.2.2.2.2.2.2.2.2.2.2.2.2.2.2.2.2.1
theorem dX7_stand_34 : decode cX7_stand 34 = .ok (.getfield 127, 3) := edX7_stand_0.2.2.2.2.2.2.2.2.2.2.2.2.2.2.2.2.2.2.1
theorem dX7_stand_37 : decode cX7_stand 37 = .ok (.iload_n 1, 1) := edX7_stand_0.2.2.2.2.2.2.2.2.2.2.2.2.2.2.2.2.2.2.2.1
theorem dX7_stand_38 : decode cX7_stand 38 = .ok (.iload_n 2, 1) := edX7_stand_0.2.2.2.2.2.2.2.2.2.2.2.2.2.2.2.2.2.2.2.2.1
theorem dX7_stand_39 : decode cX7_stand 39 = .ok (.iastore, 1) := edX7_stand_0.2.2.2.2.2.2.2.2.2.2.2.2.2.2.2.2.2.2.2.2.2.1
theorem dX7_stand_40 : decode cX7_stand 40 = .ok (.iload_n 3, 1) := edX7_stand_0.2.2.2.2.2.2.2.2.2.2.2.2.2.2.2.2.2.2.2.2.2.2.1
theorem dX7_stand_41 : decode cX7_stand 41 = .ok (.ireturn, 1) := edX7_stand_0.2.2.2.2.2.2.2.2.2.2.2.2.2.2.2.2.2.2.2.2.2.2.2.1
theorem edX7_care_0 : (decode cX7_care 0 = .ok (.iload_n 1, 1)) ∧ (decode cX7_care 1 = .ok (.invokestatic 71, 3)) ∧ (decode cX7_care 4 = .ok (.ifCond .eq 20, 3)) ∧ (decode cX7_care 7 = .ok (.iload_n 2, 1)) ∧ (decode cX7_care 8 = .ok (.invokestatic 124, 3)) ∧ (decode cX7_care 11 = .ok (.ifCond .eq 13, 3)) ∧ (decode cX7_care 14 = .ok (.iload_n 3, 1)) ∧ (decode cX7_care 15 = .ok (.iconst 0, 1)) ∧ (decode cX7_care 16 = .ok (.bipush 9, 2)) ∧ (decode cX7_care 18 = .ok (.invokestatic 74, 3)) ∧ (decode cX7_care 21 = .ok (.ifCond .ne 6, 3)) ∧ (decode cX7_care 24 = .ok (.ldc 78, 2)) ∧ (decode cX7_care 26 = .ok (.ireturn, 1)) ∧ (decode cX7_care 27 = .ok (.aload_n 0, 1)) ∧ (decode cX7_care 28 = .ok (.getfield 10, 3)) ∧ (decode cX7_care 31 = .ok (.getfield 130, 3)) ∧ (decode cX7_care 34 = .ok (.iload_n 1, 1)) ∧ (decode cX7_care 35 = .ok (.iload_n 2, 1)) ∧ (decode cX7_care 36 = .ok (.invokestatic 133, 3)) ∧ (decode cX7_care 39 = .ok (.iaload, 1)) ∧ (decode cX7_care 40 = .ok (.istore 4, 2)) ∧ (decode cX7_care 42 = .ok (.aload_n 0, 1)) ∧ (decode cX7_care 43 = .ok (.getfield 10, 3)) ∧ (decode cX7_care 46 = .ok (.getfield 130, 3)) ∧ (decode cX7_care 49 = .ok (.iload_n 1, 1)) ∧ (decode cX7_care 50 = .ok (.iload_n 2, 1)) ∧ (decode cX7_care 51 = .ok (.invokestatic 133, 3)) ∧ (decode cX7_care 54 = .ok (.iload_n 3, 1)) ∧ (decode cX7_care 55 = .ok (.iastore, 1)) ∧ (decode cX7_care 56 = .ok (.iload 4, 2)) ∧ (decode cX7_care 58 = .ok (.ireturn, 1)) ∧ True := dc_cj [(0, .iload_n 1, 1), (1, .invokestatic 71, 3), (4, .ifCond .eq 20, 3), (7, .iload_n 2, 1), (8, .invokestatic 124, 3), (11, .ifCond .eq 13, 3), (14, .iload_n 3, 1), (15, .iconst 0, 1), (16, .bipush 9, 2), (18, .invokestatic 74, 3), (21, .ifCond .ne 6, 3), (24, .ldc 78, 2), (26, .ireturn, 1), (27, .aload_n 0, 1), (28, .getfield 10, 3), (31, .getfield 130, 3), (34, .iload_n 1, 1), (35, .iload_n 2, 1), (36, .invokestatic 133, 3), (39, .iaload, 1), (40, .istore 4, 2), (42, .aload_n 0, 1), (43, .getfield 10, 3), (46, .getfield 130, 3), (49, .iload_n 1, 1), (50, .iload_n 2, 1), (51, .invokestatic 133, 3), (54, .iload_n 3, 1), (55, .iastore, 1), (56, .iload 4, 2), (58, .ireturn, 1)] (by decide +kernel)
theorem dX7_care_0 : decode cX7_care 0 = .ok (.iload_n 1, 1) := edX7_care_0.1
theorem dX7_care_1 : decode cX7_care 1 = .ok (.invokestatic 71, 3) := edX7_care_0.2.1
theorem dX7_care_4 : decode cX7_care 4 = .ok (.ifCond .eq 20, 3) := edX7_care_0.2.2.1
theorem dX7_care_7 : decode cX7_care 7 = .ok (.iload_n 2, 1) := edX7_care_0.2.2.2.1
theorem dX7_care_8 : decode cX7_care 8 = .ok (.invokestatic 124, 3) := edX7_care_0.2.2.2.2.1
theorem dX7_care_11 : decode cX7_care 11 = .ok (.ifCond .eq 13, 3) := edX7_care_0.2.2.2.2.2.1
theorem dX7_care_14 : decode cX7_care 14 = .ok (.iload_n 3, 1) := edX7_care_0.2.2.2.2.2.2.1
theorem dX7_care_15 : decode cX7_care 15 = .ok (.iconst 0, 1) := edX7_care_0.2.2.2.2.2.2.2.1
theorem dX7_care_16 : decode cX7_care 16 = .ok (.bipush 9, 2) := edX7_care_0.2.2.2.2.2.2.2.2.1
theorem dX7_care_18 : decode cX7_care 18 = .ok (.invokestatic 74, 3) := edX7_care_0.2.2.2.2.2.2.2.2.2.1
theorem dX7_care_21 : decode cX7_care 21 = .ok (.ifCond .ne 6, 3) := edX7_care_0.2.2.2.2.2.2.2.2.2.2.1
theorem dX7_care_24 : decode cX7_care 24 = .ok (.ldc 78, 2) := edX7_care_0.2.2.2.2.2.2.2.2.2.2.2.1
theorem dX7_care_26 : decode cX7_care 26 = .ok (.ireturn, 1) := edX7_care_0.2.2.2.2.2.2.2.2.2.2.2.2.1
theorem dX7_care_27 : decode cX7_care 27 = .ok (.aload_n 0, 1) := edX7_care_0.2.2.2.2.2.2.2.2.2.2.2.2.2.1
theorem dX7_care_28 : decode cX7_care 28 = .ok (.getfield 10, 3) := edX7_care_0.2.2.2.2.2.2.2.2.2.2.2.2.2.2.1
theorem dX7_care_31 : decode cX7_care 31 = .ok (.getfield 130, 3) := edX7_care_0.2.2.2.2.2.2.2.2.2.2.2.2.2.2.2.1
theorem dX7_care_34 : decode cX7_care 34 = .ok (.iload_n 1, 1) := edX7_care_0.2.2.2.2.2.2.2.2.2.2.2.2.2.2.2.2.1
theorem dX7_care_35 : decode cX7_care 35 = .ok (.iload_n 2, 1) := edX7_care_0.2.2.2.2.2.2.2.2.2.2.2.2.2.2.2.2.2.1
theorem dX7_care_36 : decode cX7_care 36 = .ok (.invokestatic 133, 3) := edX7_care_0.2.2.2.2.2.2.2.2.2.2.2.2.2.2.2.2.2.2.1
theorem dX7_care_39 : decode cX7_care 39 = .ok (.iaload, 1) := edX7_care_0.2.2.2.2.2.2.2.2.2.2.2.2.2.2.2.2.2.2.2.1
theorem dX7_care_40 : decode cX7_care 40 = .ok (.istore 4, 2) := edX7_care_0.2.2.2.2.2.2.2.2.2.2.2.2.2.2.2.2.2.2.2.2.1
theorem dX7_care_42 : decode cX7_care 42 = .ok (.aload_n 0, 1) := edX7_care_0.2.2.2.2.2.2.2.2.2.2.2.2.2.2.2.2.2.2.2.2.2.1
theorem dX7_care_43 : decode cX7_care 43 = .ok (.getfield 10, 3) := edX7_care_0.2.2.2.2.2.2.2.2.2.2.2.2.2.2.2.2.2.2.2.2.2.2.1
theorem dX7_care_46 : decode cX7_care 46 = .ok (.getfield 130, 3) := edX7_care_0.2.2.2.2.2.2.2.2.2.2.2.2.2.2.2.2.2.2.2.2.2.2.2.1
theorem dX7_care_49 : decode cX7_care 49 = .ok (.iload_n 1, 1) := edX7_care_0.2.2.2.2.2.2.2.2.2.2.2.2.2.2.2.2.2.2.2.2.2.2.2.2.1
theorem dX7_care_50 : decode cX7_care 50 = .ok (.iload_n 2, 1) := edX7_care_0.2.2.2.2.2.2.2.2.2.2.2.2.2.2.2.2.2.2.2.2.2.2.2.2.2.1
theorem dX7_care_51 : decode cX7_care 51 = .ok (.invokestatic 133, 3) := edX7_care_0.2.2.2.2.2.2.2.2.2.2.2.2.2.2.2.2.2.2.2.2.2.2.2.2.2.2.1
theorem dX7_care_54 : decode cX7_care 54 = .ok (.iload_n 3, 1) := edX7_care_0.2.2.2.2.2.2.2.2.2.2.2.2.2.2.2.2.2.2.2.2.2.2.2.2.2.2.2.1
theorem dX7_care_55 : decode cX7_care 55 = .ok (.iastore, 1) := edX7_care_0.2.2.2.2.2.2.2.2.2.2.2.2.2.2.2.2.2.2.2.2.2.2.2.2.2.2.2.2.1
theorem dX7_care_56 : decode cX7_care 56 = .ok (.iload 4, 2) := edX7_care_0.2.2.2.2.2.2.2.2.2.2.2.2.2.2.2.2.2.2.2.2.2.2.2.2.2.2.2.2.2.1
theorem dX7_care_58 : decode cX7_care 58 = .ok (.ireturn, 1) := edX7_care_0.2.2.2.2.2.2.2.2.2.2.2.2.2.2.2.2.2.2.2.2.2.2.2.2.2.2.2.2.2.2.1
theorem edX7_honour_0 : (decode cX7_honour 0 = .ok (.iload_n 1, 1)) ∧ (decode cX7_honour 1 = .ok (.invokestatic 71, 3)) ∧ (decode cX7_honour 4 = .ok (.ifCond .eq 14, 3)) ∧ (decode cX7_honour 7 = .ok (.iload_n 2, 1)) ∧ (decode cX7_honour 8 = .ok (.iconst 0, 1)) ∧ (decode cX7_honour 9 = .ok (.sipush 400, 3)) ∧ (decode cX7_honour 12 = .ok (.invokestatic 74, 3)) ∧ (decode cX7_honour 15 = .ok (.ifCond .ne 6, 3)) ∧ (decode cX7_honour 18 = .ok (.ldc 78, 2)) ∧ (decode cX7_honour 20 = .ok (.ireturn, 1)) ∧ (decode cX7_honour 21 = .ok (.aload_n 0, 1)) ∧ (decode cX7_honour 22 = .ok (.getfield 10, 3)) ∧ (decode cX7_honour 25 = .ok (.getfield 136, 3)) ∧ (decode cX7_honour 28 = .ok (.iload_n 1, 1)) ∧ (decode cX7_honour 29 = .ok (.iaload, 1)) ∧ (decode cX7_honour 30 = .ok (.istore_n 3, 1)) ∧ (decode cX7_honour 31 = .ok (.aload_n 0, 1)) ∧ (decode cX7_honour 32 = .ok (.getfield 10, 3)) ∧ (decode cX7_honour 35 = .ok (.getfield 136, 3)) ∧ (decode cX7_honour 38 = .ok (.iload_n 1, 1)) ∧ (decode cX7_honour 39 = .ok (.iload_n 2, 1)) ∧ (decode cX7_honour 40 = .ok (.iastore, 1)) ∧ (decode cX7_honour 41 = .ok (.iload_n 3, 1)) ∧ (decode cX7_honour 42 = .ok (.ireturn, 1)) ∧ True := dc_cj [(0, .iload_n 1, 1), (1, .invokestatic 71, 3), (4, .ifCond .eq 14, 3), (7, .iload_n 2, 1), (8, .iconst 0, 1), (9, .sipush 400, 3), (12, .invokestatic 74, 3), (15, .ifCond .ne 6, 3), (18, .ldc 78, 2), (20, .ireturn, 1), (21, .aload_n 0, 1), (22, .getfield 10, 3), (25, .getfield 136, 3), (28, .iload_n 1, 1), (29, .iaload, 1), (30, .istore_n 3, 1), (31, .aload_n 0, 1), (32, .getfield 10, 3), (35, .getfield 136, 3), (38, .iload_n 1, 1), (39, .iload_n 2, 1), (40, .iastore, 1), (41, .iload_n 3, 1), (42, .ireturn, 1)] (by decide +kernel)
theorem dX7_honour_0 : decode cX7_honour 0 = .ok (.iload_n 1, 1) := edX7_honour_0.1
theorem dX7_honour_1 : decode cX7_honour 1 = .ok (.invokestatic 71, 3) := edX7_honour_0.2.1
theorem dX7_honour_4 : decode cX7_honour 4 = .ok (.ifCond .eq 14, 3) := edX7_honour_0.2.2.1
theorem dX7_honour_7 : decode cX7_honour 7 = .ok (.iload_n 2, 1) := edX7_honour_0.2.2.2.1
theorem dX7_honour_8 : decode cX7_honour 8 = .ok (.iconst 0, 1) := edX7_honour_0.2.2.2.2.1
theorem dX7_honour_9 : decode cX7_honour 9 = .ok (.sipush 400, 3) := edX7_honour_0.2.2.2.2.2.1
theorem dX7_honour_12 : decode cX7_honour 12 = .ok (.invokestatic 74, 3) := edX7_honour_0.2.2.2.2.2.2.1
theorem dX7_honour_15 : decode cX7_honour 15 = .ok (.ifCond .ne 6, 3) := edX7_honour_0.2.2.2.2.2.2.2.1
theorem dX7_honour_18 : decode cX7_honour 18 = .ok (.ldc 78, 2) := edX7_honour_0.2.2.2.2.2.2.2.2.1
theorem dX7_honour_20 : decode cX7_honour 20 = .ok (.ireturn, 1) := edX7_honour_0.2.2.2.2.2.2.2.2.2.1
theorem dX7_honour_21 : decode cX7_honour 21 = .ok (.aload_n 0, 1) := edX7_honour_0.2.2.2.2.2.2.2.2.2.2.1
theorem dX7_honour_22 : decode cX7_honour 22 = .ok (.getfield 10, 3) := edX7_honour_0.2.2.2.2.2.2.2.2.2.2.2.1
theorem dX7_honour_25 : decode cX7_honour 25 = .ok (.getfield 136, 3) := edX7_honour_0.2.2.2.2.2.2.2.2.2.2.2.2.1
theorem dX7_honour_28 : decode cX7_honour 28 = .ok (.iload_n 1, 1) := edX7_honour_0.2.2.2.2.2.2.2.2.2.2.2.2.2.1
theorem dX7_honour_29 : decode cX7_honour 29 = .ok (.iaload, 1) := edX7_honour_0.2.2.2.2.2.2.2.2.2.2.2.2.2.2.1
theorem dX7_honour_30 : decode cX7_honour 30 = .ok (.istore_n 3, 1) := edX7_honour_0.2.2.2.2.2.2.2.2.2.2.2.2.2.2.2.1
theorem dX7_honour_31 : decode cX7_honour 31 = .ok (.aload_n 0, 1) := edX7_honour_0.2.2.2.2.2.2.2.2.2.2.2.2.2.2.2.2.1
theorem dX7_honour_32 : decode cX7_honour 32 = .ok (.getfield 10, 3) := edX7_honour_0.2.2.2.2.2.2.2.2.2.2.2.2.2.2.2.2.2.1
theorem dX7_honour_35 : decode cX7_honour 35 = .ok (.getfield 136, 3) := edX7_honour_0.2.2.2.2.2.2.2.2.2.2.2.2.2.2.2.2.2.2.1
theorem dX7_honour_38 : decode cX7_honour 38 = .ok (.iload_n 1, 1) := edX7_honour_0.2.2.2.2.2.2.2.2.2.2.2.2.2.2.2.2.2.2.2.1
theorem dX7_honour_39 : decode cX7_honour 39 = .ok (.iload_n 2, 1) := edX7_honour_0.2.2.2.2.2.2.2.2.2.2.2.2.2.2.2.2.2.2.2.2.1
theorem dX7_honour_40 : decode cX7_honour 40 = .ok (.iastore, 1) := edX7_honour_0.2.2.2.2.2.2.2.2.2.2.2.2.2.2.2.2.2.2.2.2.2.1
theorem dX7_honour_41 : decode cX7_honour 41 = .ok (.iload_n 3, 1) := edX7_honour_0.2.2.2.2.2.2.2.2.2.2.2.2.2.2.2.2.2.2.2.2.2.2.1
theorem dX7_honour_42 : decode cX7_honour 42 = .ok (.ireturn, 1) := edX7_honour_0.2.2.2.2.2.2.2.2.2.2.2.2.2.2.2.2.2.2.2.2.2.2.2.1
theorem edX7_rule_0 : (decode cX7_rule 0 = .ok (.iload_n 1, 1)) ∧ (decode cX7_rule 1 = .ok (.ifCond .ne 31, 3)) ∧ (decode cX7_rule 4 = .ok (.iload_n 2, 1)) ∧ (decode cX7_rule 5 = .ok (.iconst 0, 1)) ∧ (decode cX7_rule 6 = .ok (.bipush 99, 2)) ∧ (decode cX7_rule 8 = .ok (.invokestatic 74, 3)) ∧ (decode cX7_rule 11 = .ok (.ifCond .eq 21, 3)) ∧ (decode cX7_rule 14 = .ok (.aload_n 0, 1)) ∧ (decode cX7_rule 15 = .ok (.getfield 10, 3)) ∧ (decode cX7_rule 18 = .ok (.getfield 139, 3)) ∧ (decode cX7_rule 21 = .ok (.istore_n 3, 1)) ∧ (decode cX7_rule 22 = .ok (.aload_n 0, 1)) ∧ (decode cX7_rule 23 = .ok (.getfield 10, 3)) ∧ (decode cX7_rule 26 = .ok (.iload_n 2, 1)) ∧ (decode cX7_rule 27 = .ok (.putfield 139, 3)) ∧ (decode cX7_rule 30 = .ok (.iload_n 3, 1)) ∧ (decode cX7_rule 31 = .ok (.ireturn, 1)) ∧ (decode cX7_rule 32 = .ok (.iload_n 1, 1)) ∧ (decode cX7_rule 33 = .ok (.iconst 1, 1)) ∧ (decode cX7_rule 34 = .ok (.if_icmp .ne 31, 3)) ∧ (decode cX7_rule 37 = .ok (.iload_n 2, 1)) ∧ (decode cX7_rule 38 = .ok (.iconst 1, 1)) ∧ (decode cX7_rule 39 = .ok (.bipush 99, 2)) ∧ (decode cX7_rule 41 = .ok (.invokestatic 74, 3)) ∧ (decode cX7_rule 44 = .ok (.ifCond .eq 21, 3)) ∧ (decode cX7_rule 47 = .ok (.aload_n 0, 1)) ∧ (decode cX7_rule 48 = .ok (.getfield 10, 3)) ∧ (decode cX7_rule 51 = .ok (.getfield 142, 3)) ∧ (decode cX7_rule 54 = .ok (.istore_n 3, 1)) ∧ (decode cX7_rule 55 = .ok (.aload_n 0, 1)) ∧ (decode cX7_rule 56 = .ok (.getfield 10, 3)) ∧ (decode cX7_rule 59 = .ok (.iload_n 2, 1)) ∧ True := dc_cj [(0, .iload_n 1, 1), (1, .ifCond .ne 31, 3), (4, .iload_n 2, 1), (5, .iconst 0, 1), (6, .bipush 99, 2), (8, .invokestatic 74, 3), (11, .ifCond .eq 21, 3), (14, .aload_n 0, 1), (15, .getfield 10, 3), (18, .getfield 139, 3), (21, .istore_n 3, 1), (22, .aload_n 0, 1), (23, .getfield 10, 3), (26, .iload_n 2, 1), (27, .putfield 139, 3), (30, .iload_n 3, 1), (31, .ireturn, 1), (32, .iload_n 1, 1), (33, .iconst 1, 1), (34, .if_icmp .ne 31, 3), (37, .iload_n 2, 1), (38, .iconst 1, 1), (39, .bipush 99, 2), (41, .invokestatic 74, 3), (44, .ifCond .eq 21, 3), (47, .aload_n 0, 1), (48, .getfield 10, 3), (51, .getfield 142, 3), (54, .istore_n 3, 1), (55, .aload_n 0, 1), (56, .getfield 10, 3), (59, .iload_n 2, 1)] (by decide +kernel)
theorem dX7_rule_0 : decode cX7_rule 0 = .ok (.iload_n 1, 1) := edX7_rule_0.1
theorem dX7_rule_1 : decode cX7_rule 1 = .ok (.ifCond .ne 31, 3) := edX7_rule_0.2.1
theorem dX7_rule_4 : decode cX7_rule 4 = .ok (.iload_n 2, 1) := edX7_rule_0.2.2.1
theorem dX7_rule_5 : decode cX7_rule 5 = .ok (.iconst 0, 1) := edX7_rule_0.2.2.2.1
theorem dX7_rule_6 : decode cX7_rule 6 = .ok (.bipush 99, 2) := edX7_rule_0.2.2.2.2.1
theorem dX7_rule_8 : decode cX7_rule 8 = .ok (.invokestatic 74, 3) := edX7_rule_0.2.2.2.2.2.1
theorem dX7_rule_11 : decode cX7_rule 11 = .ok (.ifCond .eq 21, 3) := edX7_rule_0.2.2.2.2.2.2.1
theorem dX7_rule_14 : decode cX7_rule 14 = .ok (.aload_n 0, 1) := edX7_rule_0.2.2.2.2.2.2.2.1
theorem dX7_rule_15 : decode cX7_rule 15 = .ok (.getfield 10, 3) := edX7_rule_0.2.2.2.2.2.2.2.2.1
theorem dX7_rule_18 : decode cX7_rule 18 = .ok (.getfield 139, 3) := edX7_rule_0.2.2.2.2.2.2.2.2.2.1
theorem dX7_rule_21 : decode cX7_rule 21 = .ok (.istore_n 3, 1) := edX7_rule_0.2.2.2.2.2.2.2.2.2.2.1
theorem dX7_rule_22 : decode cX7_rule 22 = .ok (.aload_n 0, 1) := edX7_rule_0.2.2.2.2.2.2.2.2.2.2.2.1
theorem dX7_rule_23 : decode cX7_rule 23 = .ok (.getfield 10, 3) := edX7_rule_0.2.2.2.2.2.2.2.2.2.2.2.2.1
theorem dX7_rule_26 : decode cX7_rule 26 = .ok (.iload_n 2, 1) := edX7_rule_0.2.2.2.2.2.2.2.2.2.2.2.2.2.1
theorem dX7_rule_27 : decode cX7_rule 27 = .ok (.putfield 139, 3) := edX7_rule_0.2.2.2.2.2.2.2.2.2.2.2.2.2.2.1
theorem dX7_rule_30 : decode cX7_rule 30 = .ok (.iload_n 3, 1) := edX7_rule_0.2.2.2.2.2.2.2.2.2.2.2.2.2.2.2.1
theorem dX7_rule_31 : decode cX7_rule 31 = .ok (.ireturn, 1) := edX7_rule_0.2.2.2.2.2.2.2.2.2.2.2.2.2.2.2.2.1
theorem dX7_rule_32 : decode cX7_rule 32 = .ok (.iload_n 1, 1) := edX7_rule_0.2.2.2.2.2.2.2.2.2.2.2.2.2.2.2.2.2.1
theorem dX7_rule_33 : decode cX7_rule 33 = .ok (.iconst 1, 1) := edX7_rule_0.2.2.2.2.2.2.2.2.2.2.2.2.2.2.2.2.2.2.1
theorem dX7_rule_34 : decode cX7_rule 34 = .ok (.if_icmp .ne 31, 3) := edX7_rule_0.2.2.2.2.2.2.2.2.2.2.2.2.2.2.2.2.2.2.2.1
theorem dX7_rule_37 : decode cX7_rule 37 = .ok (.iload_n 2, 1) := edX7_rule_0.2.2.2.2.2.2.2.2.2.2.2.2.2.2.2.2.2.2.2.2.1
theorem dX7_rule_38 : decode cX7_rule 38 = .ok (.iconst 1, 1) := edX7_rule_0.2.2.2.2.2.2.2.2.2.2.2.2.2.2.2.2.2.2.2.2.2.1
theorem dX7_rule_39 : decode cX7_rule 39 = .ok (.bipush 99, 2) := edX7_rule_0.2.2.2.2.2.2.2.2.2.2.2.2.2.2.2.2.2.2.2.2.2.2.1
theorem dX7_rule_41 : decode cX7_rule 41 = .ok (.invokestatic 74, 3) := edX7_rule_0.2.2.2.2.2.2.2.2.2.2.2.2.2.2.2.2.2.2.2.2.2.2.2.1
theorem dX7_rule_44 : decode cX7_rule 44 = .ok (.ifCond .eq 21, 3) := edX7_rule_0.2.2.2.2.2.2.2.2.2.2.2.2.2.2.2.2.2.2.2.2.2.2.2.2.1
theorem dX7_rule_47 : decode cX7_rule 47 = .ok (.aload_n 0, 1) := edX7_rule_0.2.2.2.2.2.2.2.2.2.2.2.2.2.2.2.2.2.2.2.2.2.2.2.2.2.1
theorem dX7_rule_48 : decode cX7_rule 48 = .ok (.getfield 10, 3) := edX7_rule_0.2.2.2.2.2.2.2.2.2.2.2.2.2.2.2.2.2.2.2.2.2.2.2.2.2.2.1
theorem dX7_rule_51 : decode cX7_rule 51 = .ok (.getfield 142, 3) := edX7_rule_0.2.2.2.2.2.2.2.2.2.2.2.2.2.2.2.2.2.2.2.2.2.2.2.2.2.2.2.1
theorem dX7_rule_54 : decode cX7_rule 54 = .ok (.istore_n 3, 1) := edX7_rule_0.2.2.2.2.2.2.2.2.2.2.2.2.2.2.2.2.2.2.2.2.2.2.2.2.2.2.2.2.1
theorem dX7_rule_55 : decode cX7_rule 55 = .ok (.aload_n 0, 1) := edX7_rule_0.2.2.2.2.2.2.2.2.2.2.2.2.2.2.2.2.2.2.2.2.2.2.2.2.2.2.2.2.2.1
theorem dX7_rule_56 : decode cX7_rule 56 = .ok (.getfield 10, 3) := edX7_rule_0.2.2.2.2.2.2.2.2.2.2.2.2.2.2.2.2.2.2.2.2.2.2.2.2.2.2.2.2.2.2.1
theorem dX7_rule_59 : decode cX7_rule 59 = .ok (.iload_n 2, 1) := edX7_rule_0.2.2.2.2.2.2.2.2.2.2.2.2.2.2.2.2.2.2.2.2.2.2.2.2.2.2.2.2.2.2.2.1
theorem edX7_rule_60 : (decode cX7_rule 60 = .ok (.putfield 142, 3)) ∧ (decode cX7_rule 63 = .ok (.iload_n 3, 1)) ∧ (decode cX7_rule 64 = .ok (.ireturn, 1)) ∧ (decode cX7_rule 65 = .ok (.iload_n 1, 1)) ∧ (decode cX7_rule 66 = .ok (.iconst 2, 1)) ∧ (decode cX7_rule 67 = .ok (.if_icmp .ne 31, 3)) ∧ (decode cX7_rule 70 = .ok (.iload_n 2, 1)) ∧ (decode cX7_rule 71 = .ok (.iconst 0, 1)) ∧ (decode cX7_rule 72 = .ok (.bipush 100, 2)) ∧ (decode cX7_rule 74 = .ok (.invokestatic 74, 3)) ∧ (decode cX7_rule 77 = .ok (.ifCond .eq 21, 3)) ∧ (decode cX7_rule 80 = .ok (.aload_n 0, 1)) ∧ (decode cX7_rule 81 = .ok (.getfield 10, 3)) ∧ (decode cX7_rule 84 = .ok (.getfield 145, 3)) ∧ (decode cX7_rule 87 = .ok (.istore_n 3, 1)) ∧ (decode cX7_rule 88 = .ok (.aload_n 0, 1)) ∧ (decode cX7_rule 89 = .ok (.getfield 10, 3)) ∧ (decode cX7_rule 92 = .ok (.iload_n 2, 1)) ∧ (decode cX7_rule 93 = .ok (.putfield 145, 3)) ∧ (decode cX7_rule 96 = .ok (.iload_n 3, 1)) ∧ (decode cX7_rule 97 = .ok (.ireturn, 1)) ∧ (decode cX7_rule 98 = .ok (.ldc 78, 2)) ∧ (decode cX7_rule 100 = .ok (.ireturn, 1)) ∧ True := dc_cj [(60, .putfield 142, 3), (63, .iload_n 3, 1), (64, .ireturn, 1), (65, .iload_n 1, 1), (66, .iconst 2, 1), (67, .if_icmp .ne 31, 3), (70, .iload_n 2, 1), (71, .iconst 0, 1), (72, .bipush 100, 2), (74, .invokestatic 74, 3), (77, .ifCond .eq 21, 3), (80, .aload_n 0, 1), (81, .getfield 10, 3), (84, .getfield 145, 3), (87, .istore_n 3, 1), (88, .aload_n 0, 1), (89, .getfield 10, 3), (92, .iload_n 2, 1), (93, .putfield 145, 3), (96, .iload_n 3, 1), (97, .ireturn, 1), (98, .ldc 78, 2), (100, .ireturn, 1)] (by decide +kernel)
theorem dX7_rule_60 : decode cX7_rule 60 = .ok (.putfield 142, 3) := edX7_rule_60.1
theorem dX7_rule_63 : decode cX7_rule 63 = .ok (.iload_n 3, 1) := edX7_rule_60.2.1
theorem dX7_rule_64 : decode cX7_rule 64 = .ok (.ireturn, 1) := edX7_rule_60.2.2.1
theorem dX7_rule_65 : decode cX7_rule 65 = .ok (.iload_n 1, 1) := edX7_rule_60.2.2.2.1
theorem dX7_rule_66 : decode cX7_rule 66 = .ok (.iconst 2, 1) := edX7_rule_60.2.2.2.2.1
theorem dX7_rule_67 : decode cX7_rule 67 = .ok (.if_icmp .ne 31, 3) := edX7_rule_60.2.2.2.2.2.1
theorem dX7_rule_70 : decode cX7_rule 70 = .ok (.iload_n 2, 1) := edX7_rule_60.2.2.2.2.2.2.1
theorem dX7_rule_71 : decode cX7_rule 71 = .ok (.iconst 0, 1) := edX7_rule_60.2.2.2.2.2.2.2.1
theorem dX7_rule_72 : decode cX7_rule 72 = .ok (.bipush 100, 2) := edX7_rule_60.2.2.2.2.2.2.2.2.1
theorem dX7_rule_74 : decode cX7_rule 74 = .ok (.invokestatic 74, 3) := edX7_rule_60.2.2.2.2.2.2.2.2.2.1
theorem dX7_rule_77 : decode cX7_rule 77 = .ok (.ifCond .eq 21, 3) := edX7_rule_60.2.2.2.2.2.2.2.2.2.2.1
theorem dX7_rule_80 : decode cX7_rule 80 = .ok (.aload_n 0, 1) := edX7_rule_60.2.2.2.2.2.2.2.2.2.2.2.1
theorem dX7_rule_81 : decode cX7_rule 81 = .ok (.getfield 10, 3) := edX7_rule_60.2.2.2.2.2.2.2.2.2.2.2.2.1
theorem dX7_rule_84 : decode cX7_rule 84 = .ok (.getfield 145, 3) := edX7_rule_60.2.2.2.2.2.2.2.2.2.2.2.2.2.1
theorem dX7_rule_87 : decode cX7_rule 87 = .ok (.istore_n 3, 1) := edX7_rule_60.2.2.2.2.2.2.2.2.2.2.2.2.2.2.1
theorem dX7_rule_88 : decode cX7_rule 88 = .ok (.aload_n 0, 1) := edX7_rule_60.2.2.2.2.2.2.2.2.2.2.2.2.2.2.2.1
theorem dX7_rule_89 : decode cX7_rule 89 = .ok (.getfield 10, 3) := edX7_rule_60.2.2.2.2.2.2.2.2.2.2.2.2.2.2.2.2.1
theorem dX7_rule_92 : decode cX7_rule 92 = .ok (.iload_n 2, 1) := edX7_rule_60.2.2.2.2.2.2.2.2.2.2.2.2.2.2.2.2.2.1
theorem dX7_rule_93 : decode cX7_rule 93 = .ok (.putfield 145, 3) := edX7_rule_60.2.2.2.2.2.2.2.2.2.2.2.2.2.2.2.2.2.2.1
theorem dX7_rule_96 : decode cX7_rule 96 = .ok (.iload_n 3, 1) := edX7_rule_60.2.2.2.2.2.2.2.2.2.2.2.2.2.2.2.2.2.2.2.1
theorem dX7_rule_97 : decode cX7_rule 97 = .ok (.ireturn, 1) := edX7_rule_60.2.2.2.2.2.2.2.2.2.2.2.2.2.2.2.2.2.2.2.2.1
theorem dX7_rule_98 : decode cX7_rule 98 = .ok (.ldc 78, 2) := edX7_rule_60.2.2.2.2.2.2.2.2.2.2.2.2.2.2.2.2.2.2.2.2.2.1
theorem dX7_rule_100 : decode cX7_rule 100 = .ok (.ireturn, 1) := edX7_rule_60.2.2.2.2.2.2.2.2.2.2.2.2.2.2.2.2.2.2.2.2.2.2.1
theorem edX7_deal_0 : (decode cX7_deal 0 = .ok (.iload_n 1, 1)) ∧ (decode cX7_deal 1 = .ok (.iconst 1, 1)) ∧ (decode cX7_deal 2 = .ok (.bipush 8, 2)) ∧ (decode cX7_deal 4 = .ok (.invokestatic 74, 3)) ∧ (decode cX7_deal 7 = .ok (.ifCond .ne 6, 3)) ∧ (decode cX7_deal 10 = .ok (.ldc 78, 2)) ∧ (decode cX7_deal 12 = .ok (.ireturn, 1)) ∧ (decode cX7_deal 13 = .ok (.iload_n 1, 1)) ∧ (decode cX7_deal 14 = .ok (.bipush 8, 2)) ∧ (decode cX7_deal 16 = .ok (.aload_n 0, 1)) ∧ (decode cX7_deal 17 = .ok (.getfield 10, 3)) ∧ (decode cX7_deal 20 = .ok (.getfield 79, 3)) ∧ (decode cX7_deal 23 = .ok (.isub, 1)) ∧ (decode cX7_deal 24 = .ok (.invokestatic 148, 3)) ∧ (decode cX7_deal 27 = .ok (.istore_n 2, 1)) ∧ (decode cX7_deal 28 = .ok (.iconst 0, 1)) ∧ (decode cX7_deal 29 = .ok (.istore_n 3, 1)) ∧ (decode cX7_deal 30 = .ok (.iload_n 3, 1)) ∧ (decode cX7_deal 31 = .ok (.iload_n 2, 1)) ∧ (decode cX7_deal 32 = .ok (.if_icmp .ge 57, 3)) ∧ (decode cX7_deal 35 = .ok (.aload_n 0, 1)) ∧ (decode cX7_deal 36 = .ok (.getfield 10, 3)) ∧ (decode cX7_deal 39 = .ok (.invokevirtual 153, 3)) ∧ (decode cX7_deal 42 = .ok (.bipush 6, 2)) ∧ (decode cX7_deal 44 = .ok (.irem, 1)) ∧ (decode cX7_deal 45 = .ok (.istore 4, 2)) ∧ (decode cX7_deal 47 = .ok (.aload_n 0, 1)) ∧ (decode cX7_deal 48 = .ok (.getfield 10, 3)) ∧ (decode cX7_deal 51 = .ok (.invokevirtual 153, 3)) ∧ (decode cX7_deal 54 = .ok (.iconst 2, 1)) ∧ (decode cX7_deal 55 = .ok (.irem, 1)) ∧ (decode cX7_deal 56 = .ok (.istore 5, 2)) ∧ True := dc_cj [(0, .iload_n 1, 1), (1, .iconst 1, 1), (2, .bipush 8, 2), (4, .invokestatic 74, 3), (7, .ifCond .ne 6, 3), (10, .ldc 78, 2), (12, .ireturn, 1), (13, .iload_n 1, 1), (14, .bipush 8, 2), (16, .aload_n 0, 1), (17, .getfield 10, 3), (20, .getfield 79, 3), (23, .isub, 1), (24, .invokestatic 148, 3), (27, .istore_n 2, 1), (28, .iconst 0, 1), (29, .istore_n 3, 1), (30, .iload_n 3, 1), (31, .iload_n 2, 1), (32, .if_icmp .ge 57, 3), (35, .aload_n 0, 1), (36, .getfield 10, 3), (39, .invokevirtual 153, 3), (42, .bipush 6, 2), (44, .irem, 1), (45, .istore 4, 2), (47, .aload_n 0, 1), (48, .getfield 10, 3), (51, .invokevirtual 153, 3), (54, .iconst 2, 1), (55, .irem, 1), (56, .istore 5, 2)] (by decide +kernel)
theorem dX7_deal_0 : decode cX7_deal 0 = .ok (.iload_n 1, 1) := edX7_deal_0.1
theorem dX7_deal_1 : decode cX7_deal 1 = .ok (.iconst 1, 1) := edX7_deal_0.2.1
theorem dX7_deal_2 : decode cX7_deal 2 = .ok (.bipush 8, 2) := edX7_deal_0.2.2.1
theorem dX7_deal_4 : decode cX7_deal 4 = .ok (.invokestatic 74, 3) := edX7_deal_0.2.2.2.1
theorem dX7_deal_7 : decode cX7_deal 7 = .ok (.ifCond .ne 6, 3) := edX7_deal_0.2.2.2.2.1
theorem dX7_deal_10 : decode cX7_deal 10 = .ok (.ldc 78, 2) := edX7_deal_0.2.2.2.2.2.1
theorem dX7_deal_12 : decode cX7_deal 12 = .ok (.ireturn, 1) := edX7_deal_0.2.2.2.2.2.2.1
theorem dX7_deal_13 : decode cX7_deal 13 = .ok (.iload_n 1, 1) := edX7_deal_0.2.2.2.2.2.2.2.1
theorem dX7_deal_14 : decode cX7_deal 14 = .ok (.bipush 8, 2) := edX7_deal_0.2.2.2.2.2.2.2.2.1
theorem dX7_deal_16 : decode cX7_deal 16 = .ok (.aload_n 0, 1) := edX7_deal_0.2.2.2.2.2.2.2.2.2.1
theorem dX7_deal_17 : decode cX7_deal 17 = .ok (.getfield 10, 3) := edX7_deal_0.2.2.2.2.2.2.2.2.2.2.1
theorem dX7_deal_20 : decode cX7_deal 20 = .ok (.getfield 79, 3) := edX7_deal_0.2.2.2.2.2.2.2.2.2.2.2.1
theorem dX7_deal_23 : decode cX7_deal 23 = .ok (.isub, 1) := edX7_deal_0.2.2.2.2.2.2.2.2.2.2.2.2.1
theorem dX7_deal_24 : decode cX7_deal 24 = .ok (.invokestatic 148, 3) := edX7_deal_0.2.2.2.2.2.2.2.2.2.2.2.2.2.1
theorem dX7_deal_27 : decode cX7_deal 27 = .ok (.istore_n 2, 1) := edX7_deal_0.2.2.2.2.2.2.2.2.2.2.2.2.2.2.1
theorem dX7_deal_28 : decode cX7_deal 28 = .ok (.iconst 0, 1) := edX7_deal_0.2.2.2.2.2.2.2.2.2.2.2.2.2.2.2.1
theorem dX7_deal_29 : decode cX7_deal 29 = .ok (.istore_n 3, 1) := edX7_deal_0.2.2.2.2.2.2.2.2.2.2.2.2.2.2.2.2.1
theorem dX7_deal_30 : decode cX7_deal 30 = .ok (.iload_n 3, 1) := edX7_deal_0.2.2.2.2.2.2.2.2.2.2.2.2.2.2.2.2.2.1
theorem dX7_deal_31 : decode cX7_deal 31 = .ok (.iload_n 2, 1) := edX7_deal_0.2.2.2.2.2.2.2.2.2.2.2.2.2.2.2.2.2.2.1
theorem dX7_deal_32 : decode cX7_deal 32 = .ok (.if_icmp .ge 57, 3) := edX7_deal_0.2.2.2.2.2.2.2.2.2.2.2.2.2.2.2.2.2.2.2.1
theorem dX7_deal_35 : decode cX7_deal 35 = .ok (.aload_n 0, 1) := edX7_deal_0.2.2.2.2.2.2.2.2.2.2.2.2.2.2.2.2.2.2.2.2.1
theorem dX7_deal_36 : decode cX7_deal 36 = .ok (.getfield 10, 3) := edX7_deal_0.2.2.2.2.2.2.2.2.2.2.2.2.2.2.2.2.2.2.2.2.2.1
theorem dX7_deal_39 : decode cX7_deal 39 = .ok (.invokevirtual 153, 3) := edX7_deal_0.2.2.2.2.2.2.2.2.2.2.2.2.2.2.2.2.2.2.2.2.2.2.1
theorem dX7_deal_42 : decode cX7_deal 42 = .ok (.bipush 6, 2) := edX7_deal_0.2.2.2.2.2.2.2.2.2.2.2.2.2.2.2.2.2.2.2.2.2.2.2.1
theorem dX7_deal_44 : decode cX7_deal 44 = .ok (.irem, 1) := edX7_deal_0.2.2.2.2.2.2.2.2.2.2.2.2.2.2.2.2.2.2.2.2.2.2.2.2.1
theorem dX7_deal_45 : decode cX7_deal 45 = .ok (.istore 4, 2) := edX7_deal_0.2.2.2.2.2.2.2.2.2.2.2.2.2.2.2.2.2.2.2.2.2.2.2.2.2.1
theorem dX7_deal_47 : decode cX7_deal 47 = .ok (.aload_n 0, 1) := edX7_deal_0.2.2.2.2.2.2.2.2.2.2.2.2.2.2.2.2.2.2.2.2.2.2.2.2.2.2.1
theorem dX7_deal_48 : decode cX7_deal 48 = .ok (.getfield 10, 3) := edX7_deal_0.2.2.2.2.2.2.2.2.2.2.2.2.2.2.2.2.2.2.2.2.2.2.2.2.2.2.2.1
theorem dX7_deal_51 : decode cX7_deal 51 = .ok (.invokevirtual 153, 3) := edX7_deal_0.2.2.2.2.2.2.2.2.2.2.2.2.2.2.2.2.2.2.2.2.2.2.2.2.2.2.2.2.1
theorem dX7_deal_54 : decode cX7_deal 54 = .ok (.iconst 2, 1) := edX7_deal_0.2.2.2.2.2.2.2.2.2.2.2.2.2.2.2.2.2.2.2.2.2.2.2.2.2.2.2.2.2.1
theorem dX7_deal_55 : decode cX7_deal 55 = .ok (.irem, 1) := edX7_deal_0.2.2.2.2.2.2.2.2.2.2.2.2.2.2.2.2.2.2.2.2.2.2.2.2.2.2.2.2.2.2.1
theorem dX7_deal_56 : decode cX7_deal 56 = .ok (.istore 5, 2) := edX7_deal_0.2.2.2.2.2.2.2.2.2.2.2.2.2.2.2.2.2.2.2.2.2.2.2.2.2.2.2.2.2.2.2.1
theorem edX7_deal_58 : (decode cX7_deal 58 = .ok (.aload_n 0, 1)) ∧ (decode cX7_deal 59 = .ok (.getfield 10, 3)) ∧ (decode cX7_deal 62 = .ok (.invokevirtual 153, 3)) ∧ (decode cX7_deal 65 = .ok (.bipush 100, 2)) ∧ (decode cX7_deal 67 = .ok (.irem, 1)) ∧ (decode cX7_deal 68 = .ok (.istore 6, 2)) ∧ (decode cX7_deal 70 = .ok (.aload_n 0, 1)) ∧ (decode cX7_deal 71 = .ok (.getfield 10, 3)) ∧ (decode cX7_deal 74 = .ok (.iload 4, 2)) ∧ (decode cX7_deal 76 = .ok (.iload 5, 2)) ∧ (decode cX7_deal 78 = .ok (.iload 6, 2)) ∧ (decode cX7_deal 80 = .ok (.invokevirtual 83, 3)) ∧ (decode cX7_deal 83 = .ok (.iinc 3 1, 3)) ∧ (decode cX7_deal 86 = .ok (.goto (-56), 3)) ∧ (decode cX7_deal 89 = .ok (.iload_n 2, 1)) ∧ (decode cX7_deal 90 = .ok (.ireturn, 1)) ∧ True := dc_cj [(58, .aload_n 0, 1), (59, .getfield 10, 3), (62, .invokevirtual 153, 3), (65, .bipush 100, 2), (67, .irem, 1), (68, .istore 6, 2), (70, .aload_n 0, 1), (71, .getfield 10, 3), (74, .iload 4, 2), (76, .iload 5, 2), (78, .iload 6, 2), (80, .invokevirtual 83, 3), (83, .iinc 3 1, 3), (86, .goto (-56), 3), (89, .iload_n 2, 1), (90, .ireturn, 1)] (by decide +kernel)
theorem dX7_deal_58 : decode cX7_deal 58 = .ok (.aload_n 0, 1) := edX7_deal_58.1
theorem dX7_deal_59 : decode cX7_deal 59 = .ok (.getfield 10, 3) := edX7_deal_58.2.1
theorem dX7_deal_62 : decode cX7_deal 62 = .ok (.invokevirtual 153, 3) := edX7_deal_58.2.2.1
theorem dX7_deal_65 : decode cX7_deal 65 = .ok (.bipush 100, 2) := edX7_deal_58.2.2.2.1
theorem dX7_deal_67 : decode cX7_deal 67 = .ok (.irem, 1) := edX7_deal_58.2.2.2.2.1
theorem dX7_deal_68 : decode cX7_deal 68 = .ok (.istore 6, 2) := edX7_deal_58.2.2.2.2.2.1
theorem dX7_deal_70 : decode cX7_deal 70 = .ok (.aload_n 0, 1) := edX7_deal_58.2.2.2.2.2.2.1
theorem dX7_deal_71 : decode cX7_deal 71 = .ok (.getfield 10, 3) := edX7_deal_58.2.2.2.2.2.2.2.1
theorem dX7_deal_74 : decode cX7_deal 74 = .ok (.iload 4, 2) := edX7_deal_58.2.2.2.2.2.2.2.2.1
theorem dX7_deal_76 : decode cX7_deal 76 = .ok (.iload 5, 2) := edX7_deal_58.2.2.2.2.2.2.2.2.2.1
theorem dX7_deal_78 : decode cX7_deal 78 = .ok (.iload 6, 2) := edX7_deal_58.2.2.2.2.2.2.2.2.2.2.1
theorem dX7_deal_80 : decode cX7_deal 80 = .ok (.invokevirtual 83, 3) := edX7_deal_58.2.2.2.2.2.2.2.2.2.2.2.1
theorem dX7_deal_83 : decode cX7_deal 83 = .ok (.iinc 3 1, 3) := edX7_deal_58.2.2.2.2.2.2.2.2.2.2.2.2.1
theorem dX7_deal_86 : decode cX7_deal 86 = .ok (.goto (-56), 3) := edX7_deal_58.2.2.2.2.2.2.2.2.2.2.2.2.2.1
theorem dX7_deal_89 : decode cX7_deal 89 = .ok (.iload_n 2, 1) := edX7_deal_58.2.2.2.2.2.2.2.2.2.2.2.2.2.2.1
theorem dX7_deal_90 : decode cX7_deal 90 = .ok (.ireturn, 1) := edX7_deal_58.2.2.2.2.2.2.2.2.2.2.2.2.2.2.2.1
theorem edX7_seed_0 : (decode cX7_seed 0 = .ok (.aload_n 0, 1)) ∧ (decode cX7_seed 1 = .ok (.getfield 10, 3)) ∧ (decode cX7_seed 4 = .ok (.getfield 157, 3)) ∧ (decode cX7_seed 7 = .ok (.istore_n 2, 1)) ∧ (decode cX7_seed 8 = .ok (.aload_n 0, 1)) ∧ (decode cX7_seed 9 = .ok (.getfield 10, 3)) ∧ (decode cX7_seed 12 = .ok (.iload_n 1, 1)) ∧ (decode cX7_seed 13 = .ok (.putfield 157, 3)) ∧ (decode cX7_seed 16 = .ok (.iload_n 2, 1)) ∧ (decode cX7_seed 17 = .ok (.ireturn, 1)) ∧ True := dc_cj [(0, .aload_n 0, 1), (1, .getfield 10, 3), (4, .getfield 157, 3), (7, .istore_n 2, 1), (8, .aload_n 0, 1), (9, .getfield 10, 3), (12, .iload_n 1, 1), (13, .putfield 157, 3), (16, .iload_n 2, 1), (17, .ireturn, 1)] (by decide +kernel)
theorem dX7_seed_0 : decode cX7_seed 0 = .ok (.aload_n 0, 1) := edX7_seed_0.1
theorem dX7_seed_1 : decode cX7_seed 1 = .ok (.getfield 10, 3) := edX7_seed_0.2.1
theorem dX7_seed_4 : decode cX7_seed 4 = .ok (.getfield 157, 3) := edX7_seed_0.2.2.1
theorem dX7_seed_7 : decode cX7_seed 7 = .ok (.istore_n 2, 1) := edX7_seed_0.2.2.2.1
theorem dX7_seed_8 : decode cX7_seed 8 = .ok (.aload_n 0, 1) := edX7_seed_0.2.2.2.2.1
theorem dX7_seed_9 : decode cX7_seed 9 = .ok (.getfield 10, 3) := edX7_seed_0.2.2.2.2.2.1
theorem dX7_seed_12 : decode cX7_seed 12 = .ok (.iload_n 1, 1) := edX7_seed_0.2.2.2.2.2.2.1
theorem dX7_seed_13 : decode cX7_seed 13 = .ok (.putfield 157, 3) := edX7_seed_0.2.2.2.2.2.2.2.1
theorem dX7_seed_16 : decode cX7_seed 16 = .ok (.iload_n 2, 1) := edX7_seed_0.2.2.2.2.2.2.2.2.1
theorem dX7_seed_17 : decode cX7_seed 17 = .ok (.ireturn, 1) := edX7_seed_0.2.2.2.2.2.2.2.2.2.1
theorem edX7_posts_0 : (decode cX7_posts 0 = .ok (.iload_n 1, 1)) ∧ (decode cX7_posts 1 = .ok (.iconst 1, 1)) ∧ (decode cX7_posts 2 = .ok (.bipush 100, 2)) ∧ (decode cX7_posts 4 = .ok (.invokestatic 74, 3)) ∧ (decode cX7_posts 7 = .ok (.ifCond .ne 6, 3)) ∧ (decode cX7_posts 10 = .ok (.ldc 78, 2)) ∧ (decode cX7_posts 12 = .ok (.ireturn, 1)) ∧ (decode cX7_posts 13 = .ok (.aload_n 0, 1)) ∧ (decode cX7_posts 14 = .ok (.getfield 10, 3)) ∧ (decode cX7_posts 17 = .ok (.iload_n 1, 1)) ∧ (decode cX7_posts 18 = .ok (.sipush 9999, 3)) ∧ (decode cX7_posts 21 = .ok (.aload_n 0, 1)) ∧ (decode cX7_posts 22 = .ok (.getfield 10, 3)) ∧ (decode cX7_posts 25 = .ok (.getfield 160, 3)) ∧ (decode cX7_posts 28 = .ok (.isub, 1)) ∧ (decode cX7_posts 29 = .ok (.invokestatic 148, 3)) ∧ (decode cX7_posts 32 = .ok (.iconst (-1), 1)) ∧ (decode cX7_posts 33 = .ok (.invokevirtual 163, 3)) ∧ (decode cX7_posts 36 = .ok (.ireturn, 1)) ∧ True := dc_cj [(0, .iload_n 1, 1), (1, .iconst 1, 1), (2, .bipush 100, 2), (4, .invokestatic 74, 3), (7, .ifCond .ne 6, 3), (10, .ldc 78, 2), (12, .ireturn, 1), (13, .aload_n 0, 1), (14, .getfield 10, 3), (17, .iload_n 1, 1), (18, .sipush 9999, 3), (21, .aload_n 0, 1), (22, .getfield 10, 3), (25, .getfield 160, 3), (28, .isub, 1), (29, .invokestatic 148, 3), (32, .iconst (-1), 1), (33, .invokevirtual 163, 3), (36, .ireturn, 1)] (by decide +kernel)
theorem dX7_posts_0 : decode cX7_posts 0 = .ok (.iload_n 1, 1) := edX7_posts_0.1
theorem dX7_posts_1 : decode cX7_posts 1 = .ok (.iconst 1, 1) := edX7_posts_0.2.1
theorem dX7_posts_2 : decode cX7_posts 2 = .ok (.bipush 100, 2) := edX7_posts_0.2.2.1
theorem dX7_posts_4 : decode cX7_posts 4 = .ok (.invokestatic 74, 3) := edX7_posts_0.2.2.2.1
theorem dX7_posts_7 : decode cX7_posts 7 = .ok (.ifCond .ne 6, 3) := edX7_posts_0.2.2.2.2.1
theorem dX7_posts_10 : decode cX7_posts 10 = .ok (.ldc 78, 2) := edX7_posts_0.2.2.2.2.2.1
theorem dX7_posts_12 : decode cX7_posts 12 = .ok (.ireturn, 1) := edX7_posts_0.2.2.2.2.2.2.1
theorem dX7_posts_13 : decode cX7_posts 13 = .ok (.aload_n 0, 1) := edX7_posts_0.2.2.2.2.2.2.2.1
theorem dX7_posts_14 : decode cX7_posts 14 = .ok (.getfield 10, 3) := edX7_posts_0.2.2.2.2.2.2.2.2.1
theorem dX7_posts_17 : decode cX7_posts 17 = .ok (.iload_n 1, 1) := edX7_posts_0.2.2.2.2.2.2.2.2.2.1
theorem dX7_posts_18 : decode cX7_posts 18 = .ok (.sipush 9999, 3) := edX7_posts_0.2.2.2.2.2.2.2.2.2.2.1
theorem dX7_posts_21 : decode cX7_posts 21 = .ok (.aload_n 0, 1) := edX7_posts_0.2.2.2.2.2.2.2.2.2.2.2.1
theorem dX7_posts_22 : decode cX7_posts 22 = .ok (.getfield 10, 3) := edX7_posts_0.2.2.2.2.2.2.2.2.2.2.2.2.1
theorem dX7_posts_25 : decode cX7_posts 25 = .ok (.getfield 160, 3) := edX7_posts_0.2.2.2.2.2.2.2.2.2.2.2.2.2.1
theorem dX7_posts_28 : decode cX7_posts 28 = .ok (.isub, 1) := edX7_posts_0.2.2.2.2.2.2.2.2.2.2.2.2.2.2.1
theorem dX7_posts_29 : decode cX7_posts 29 = .ok (.invokestatic 148, 3) := edX7_posts_0.2.2.2.2.2.2.2.2.2.2.2.2.2.2.2.1
theorem dX7_posts_32 : decode cX7_posts 32 = .ok (.iconst (-1), 1) := edX7_posts_0.2.2.2.2.2.2.2.2.2.2.2.2.2.2.2.2.1
theorem dX7_posts_33 : decode cX7_posts 33 = .ok (.invokevirtual 163, 3) := edX7_posts_0.2.2.2.2.2.2.2.2.2.2.2.2.2.2.2.2.2.1
theorem dX7_posts_36 : decode cX7_posts 36 = .ok (.ireturn, 1) := edX7_posts_0.2.2.2.2.2.2.2.2.2.2.2.2.2.2.2.2.2.2.1
theorem edX7_table_0 : (decode cX7_table 0 = .ok (.iload_n 1, 1)) ∧ (decode cX7_table 1 = .ok (.tableswitch 123 0 6 #[43, 52, 61, 77, 85, 93, 108], 43)) ∧ (decode cX7_table 44 = .ok (.aload_n 0, 1)) ∧ (decode cX7_table 45 = .ok (.getfield 10, 3)) ∧ (decode cX7_table 48 = .ok (.iconst 0, 1)) ∧ (decode cX7_table 49 = .ok (.invokevirtual 166, 3)) ∧ (decode cX7_table 52 = .ok (.ireturn, 1)) ∧ (decode cX7_table 53 = .ok (.aload_n 0, 1)) ∧ (decode cX7_table 54 = .ok (.getfield 10, 3)) ∧ (decode cX7_table 57 = .ok (.iconst 1, 1)) ∧ (decode cX7_table 58 = .ok (.invokevirtual 166, 3)) ∧ (decode cX7_table 61 = .ok (.ireturn, 1)) ∧ (decode cX7_table 62 = .ok (.aload_n 0, 1)) ∧ (decode cX7_table 63 = .ok (.getfield 10, 3)) ∧ (decode cX7_table 66 = .ok (.invokevirtual 169, 3)) ∧ (decode cX7_table 69 = .ok (.ifCond .eq 7, 3)) ∧ (decode cX7_table 72 = .ok (.iconst 1, 1)) ∧ (decode cX7_table 73 = .ok (.goto 4, 3)) ∧ (decode cX7_table 76 = .ok (.iconst 0, 1)) ∧ (decode cX7_table 77 = .ok (.ireturn, 1)) ∧ (decode cX7_table 78 = .ok (.aload_n 0, 1)) ∧ (decode cX7_table 79 = .ok (.getfield 10, 3)) ∧ (decode cX7_table 82 = .ok (.invokevirtual 173, 3)) ∧ (decode cX7_table 85 = .ok (.ireturn, 1)) ∧ (decode cX7_table 86 = .ok (.aload_n 0, 1)) ∧ (decode cX7_table 87 = .ok (.getfield 10, 3)) ∧ (decode cX7_table 90 = .ok (.getfield 176, 3)) ∧ (decode cX7_table 93 = .ok (.ireturn, 1)) ∧ (decode cX7_table 94 = .ok (.aload_n 0, 1)) ∧ (decode cX7_table 95 = .ok (.getfield 10, 3)) ∧ (decode cX7_table 98 = .ok (.aload_n 0, 1)) ∧ (decode cX7_table 99 = .ok (.getfield 10, 3)) ∧ True := dc_cj [(0, .iload_n 1, 1), (1, .tableswitch 123 0 6 #[43, 52, 61, 77, 85, 93, 108], 43), (44, .aload_n 0, 1), (45, .getfield 10, 3), (48, .iconst 0, 1), (49, .invokevirtual 166, 3), (52, .ireturn, 1), (53, .aload_n 0, 1), (54, .getfield 10, 3), (57, .iconst 1, 1), (58, .invokevirtual 166, 3), (61, .ireturn, 1), (62, .aload_n 0, 1), (63, .getfield 10, 3), (66, .invokevirtual 169, 3), (69, .ifCond .eq 7, 3), (72, .iconst 1, 1), (73, .goto 4, 3), (76, .iconst 0, 1), (77, .ireturn, 1), (78, .aload_n 0, 1), (79, .getfield 10, 3), (82, .invokevirtual 173, 3), (85, .ireturn, 1), (86, .aload_n 0, 1), (87, .getfield 10, 3), (90, .getfield 176, 3), (93, .ireturn, 1), (94, .aload_n 0, 1), (95, .getfield 10, 3), (98, .aload_n 0, 1), (99, .getfield 10, 3)] (by decide +kernel)
theorem dX7_table_0 : decode cX7_table 0 = .ok (.iload_n 1, 1) := edX7_table_0.1
theorem dX7_table_1 : decode cX7_table 1 = .ok (.tableswitch 123 0 6 #[43, 52, 61, 77, 85, 93, 108], 43) := edX7_table_0.2.1
theorem dX7_table_44 : decode cX7_table 44 = .ok (.aload_n 0, 1) := edX7_table_0.2.2.1
theorem dX7_table_45 : decode cX7_table 45 = .ok (.getfield 10, 3) := edX7_table_0.2.2.2.1
theorem dX7_table_48 : decode cX7_table 48 = .ok (.iconst 0, 1) := edX7_table_0.2.2.2.2.1
theorem dX7_table_49 : decode cX7_table 49 = .ok (.invokevirtual 166, 3) := edX7_table_0.2.2.2.2.2.1
theorem dX7_table_52 : decode cX7_table 52 = .ok (.ireturn, 1) := edX7_table_0.2.2.2.2.2.2.1
theorem dX7_table_53 : decode cX7_table 53 = .ok (.aload_n 0, 1) := edX7_table_0.2.2.2.2.2.2.2.1
theorem dX7_table_54 : decode cX7_table 54 = .ok (.getfield 10, 3) := edX7_table_0.2.2.2.2.2.2.2.2.1
theorem dX7_table_57 : decode cX7_table 57 = .ok (.iconst 1, 1) := edX7_table_0.2.2.2.2.2.2.2.2.2.1
theorem dX7_table_58 : decode cX7_table 58 = .ok (.invokevirtual 166, 3) := edX7_table_0.2.2.2.2.2.2.2.2.2.2.1
theorem dX7_table_61 : decode cX7_table 61 = .ok (.ireturn, 1) := edX7_table_0.2.2.2.2.2.2.2.2.2.2.2.1
theorem dX7_table_62 : decode cX7_table 62 = .ok (.aload_n 0, 1) := edX7_table_0.2.2.2.2.2.2.2.2.2.2.2.2.1
theorem dX7_table_63 : decode cX7_table 63 = .ok (.getfield 10, 3) := edX7_table_0.2.2.2.2.2.2.2.2.2.2.2.2.2.1
theorem dX7_table_66 : decode cX7_table 66 = .ok (.invokevirtual 169, 3) := edX7_table_0.2.2.2.2.2.2.2.2.2.2.2.2.2.2.1
theorem dX7_table_69 : decode cX7_table 69 = .ok (.ifCond .eq 7, 3) := edX7_table_0.2.2.2.2.2.2.2.2.2.2.2.2.2.2.2.1
theorem dX7_table_72 : decode cX7_table 72 = .ok (.iconst 1, 1) := edX7_table_0.2.2.2.2.2.2.2.2.2.2.2.2.2.2.2.2.1
theorem dX7_table_73 : decode cX7_table 73 = .ok (.goto 4, 3) := edX7_table_0.2.2.2.2.2.2.2.2.2.2.2.2.2.2.2.2.2.1
theorem dX7_table_76 : decode cX7_table 76 = .ok (.iconst 0, 1) := edX7_table_0.2.2.2.2.2.2.2.2.2.2.2.2.2.2.2.2.2.2.1
theorem dX7_table_77 : decode cX7_table 77 = .ok (.ireturn, 1) := edX7_table_0.2.2.2.2.2.2.2.2.2.2.2.2.2.2.2.2.2.2.2.1
theorem dX7_table_78 : decode cX7_table 78 = .ok (.aload_n 0, 1) := edX7_table_0.2.2.2.2.2.2.2.2.2.2.2.2.2.2.2.2.2.2.2.2.1
theorem dX7_table_79 : decode cX7_table 79 = .ok (.getfield 10, 3) := edX7_table_0.2.2.2.2.2.2.2.2.2.2.2.2.2.2.2.2.2.2.2.2.2.1
theorem dX7_table_82 : decode cX7_table 82 = .ok (.invokevirtual 173, 3) := edX7_table_0.2.2.2.2.2.2.2.2.2.2.2.2.2.2.2.2.2.2.2.2.2.2.1
theorem dX7_table_85 : decode cX7_table 85 = .ok (.ireturn, 1) := edX7_table_0.2.2.2.2.2.2.2.2.2.2.2.2.2.2.2.2.2.2.2.2.2.2.2.1
theorem dX7_table_86 : decode cX7_table 86 = .ok (.aload_n 0, 1) := edX7_table_0.2.2.2.2.2.2.2.2.2.2.2.2.2.2.2.2.2.2.2.2.2.2.2.2.1
theorem dX7_table_87 : decode cX7_table 87 = .ok (.getfield 10, 3) := edX7_table_0.2.2.2.2.2.2.2.2.2.2.2.2.2.2.2.2.2.2.2.2.2.2.2.2.2.1
theorem dX7_table_90 : decode cX7_table 90 = .ok (.getfield 176, 3) := edX7_table_0.2.2.2.2.2.2.2.2.2.2.2.2.2.2.2.2.2.2.2.2.2.2.2.2.2.2.1
theorem dX7_table_93 : decode cX7_table 93 = .ok (.ireturn, 1) := edX7_table_0.2.2.2.2.2.2.2.2.2.2.2.2.2.2.2.2.2.2.2.2.2.2.2.2.2.2.2.1
theorem dX7_table_94 : decode cX7_table 94 = .ok (.aload_n 0, 1) := edX7_table_0.2.2.2.2.2.2.2.2.2.2.2.2.2.2.2.2.2.2.2.2.2.2.2.2.2.2.2.2.1
theorem dX7_table_95 : decode cX7_table 95 = .ok (.getfield 10, 3) := edX7_table_0.2.2.2.2.2.2.2.2.2.2.2.2.2.2.2.2.2.2.2.2.2.2.2.2.2.2.2.2.2.1
theorem dX7_table_98 : decode cX7_table 98 = .ok (.aload_n 0, 1) := edX7_table_0.2.2.2.2.2.2.2.2.2.2.2.2.2.2.2.2.2.2.2.2.2.2.2.2.2.2.2.2.2.2.1
theorem dX7_table_99 : decode cX7_table 99 = .ok (.getfield 10, 3) := edX7_table_0.2.2.2.2.2.2.2.2.2.2.2.2.2.2.2.2.2.2.2.2.2.2.2.2.2.2.2.2.2.2.2.1
theorem edX7_table_102 : (decode cX7_table 102 = .ok (.getfield 99, 3)) ∧ (decode cX7_table 105 = .ok (.invokevirtual 179, 3)) ∧ (decode cX7_table 108 = .ok (.ireturn, 1)) ∧ (decode cX7_table 109 = .ok (.aload_n 0, 1)) ∧ (decode cX7_table 110 = .ok (.getfield 10, 3)) ∧ (decode cX7_table 113 = .ok (.aload_n 0, 1)) ∧ (decode cX7_table 114 = .ok (.getfield 10, 3)) ∧ (decode cX7_table 117 = .ok (.getfield 102, 3)) ∧ (decode cX7_table 120 = .ok (.invokevirtual 179, 3)) ∧ (decode cX7_table 123 = .ok (.ireturn, 1)) ∧ (decode cX7_table 124 = .ok (.ldc 78, 2)) ∧ (decode cX7_table 126 = .ok (.ireturn, 1)) ∧ True := dc_cj [(102, .getfield 99, 3), (105, .invokevirtual 179, 3), (108, .ireturn, 1), (109, .aload_n 0, 1), (110, .getfield 10, 3), (113, .aload_n 0, 1), (114, .getfield 10, 3), (117, .getfield 102, 3), (120, .invokevirtual 179, 3), (123, .ireturn, 1), (124, .ldc 78, 2), (126, .ireturn, 1)] (by decide +kernel)
theorem dX7_table_102 : decode cX7_table 102 = .ok (.getfield 99, 3) := edX7_table_102.1
theorem dX7_table_105 : decode cX7_table 105 = .ok (.invokevirtual 179, 3) := edX7_table_102.2.1
theorem dX7_table_108 : decode cX7_table 108 = .ok (.ireturn, 1) := edX7_table_102.2.2.1
theorem dX7_table_109 : decode cX7_table 109 = .ok (.aload_n 0, 1) := edX7_table_102.2.2.2.1
theorem dX7_table_110 : decode cX7_table 110 = .ok (.getfield 10, 3) := edX7_table_102.2.2.2.2.1
theorem dX7_table_113 : decode cX7_table 113 = .ok (.aload_n 0, 1) := edX7_table_102.2.2.2.2.2.1
theorem dX7_table_114 : decode cX7_table 114 = .ok (.getfield 10, 3) := edX7_table_102.2.2.2.2.2.2.1
theorem dX7_table_117 : decode cX7_table 117 = .ok (.getfield 102, 3) := edX7_table_102.2.2.2.2.2.2.2.1
theorem dX7_table_120 : decode cX7_table 120 = .ok (.invokevirtual 179, 3) := edX7_table_102.2.2.2.2.2.2.2.2.1
theorem dX7_table_123 : decode cX7_table 123 = .ok (.ireturn, 1) := edX7_table_102.2.2.2.2.2.2.2.2.2.1
theorem dX7_table_124 : decode cX7_table 124 = .ok (.ldc 78, 2) := edX7_table_102.2.2.2.2.2.2.2.2.2.2.1
theorem dX7_table_126 : decode cX7_table 126 = .ok (.ireturn, 1) := edX7_table_102.2.2.2.2.2.2.2.2.2.2.2.1
theorem edX7_taken_0 : (decode cX7_taken 0 = .ok (.aload_n 0, 1)) ∧ (decode cX7_taken 1 = .ok (.getfield 29, 3)) ∧ (decode cX7_taken 4 = .ok (.aload_n 0, 1)) ∧ (decode cX7_taken 5 = .ok (.getfield 10, 3)) ∧ (decode cX7_taken 8 = .ok (.invokevirtual 183, 3)) ∧ (decode cX7_taken 11 = .ok (.ireturn, 1)) ∧ True := dc_cj [(0, .aload_n 0, 1), (1, .getfield 29, 3), (4, .aload_n 0, 1), (5, .getfield 10, 3), (8, .invokevirtual 183, 3), (11, .ireturn, 1)] (by decide +kernel)
theorem dX7_taken_0 : decode cX7_taken 0 = .ok (.aload_n 0, 1) := edX7_taken_0.1
theorem dX7_taken_1 : decode cX7_taken 1 = .ok (.getfield 29, 3) := edX7_taken_0.2.1
theorem dX7_taken_4 : decode cX7_taken 4 = .ok (.aload_n 0, 1) := edX7_taken_0.2.2.1
theorem dX7_taken_5 : decode cX7_taken 5 = .ok (.getfield 10, 3) := edX7_taken_0.2.2.2.1
theorem dX7_taken_8 : decode cX7_taken 8 = .ok (.invokevirtual 183, 3) := edX7_taken_0.2.2.2.2.1
theorem dX7_taken_11 : decode cX7_taken 11 = .ok (.ireturn, 1) := edX7_taken_0.2.2.2.2.2.1
theorem edX7_terms_0 : (decode cX7_terms 0 = .ok (.iload_n 1, 1)) ∧ (decode cX7_terms 1 = .ok (.ifCond .ne 18, 3)) ∧ (decode cX7_terms 4 = .ok (.aload_n 0, 1)) ∧ (decode cX7_terms 5 = .ok (.getfield 29, 3)) ∧ (decode cX7_terms 8 = .ok (.aload_n 0, 1)) ∧ (decode cX7_terms 9 = .ok (.getfield 10, 3)) ∧ (decode cX7_terms 12 = .ok (.invokevirtual 187, 3)) ∧ (decode cX7_terms 15 = .ok (.invokestatic 112, 3)) ∧ (decode cX7_terms 18 = .ok (.ireturn, 1)) ∧ (decode cX7_terms 19 = .ok (.iload_n 1, 1)) ∧ (decode cX7_terms 20 = .ok (.iconst 1, 1)) ∧ (decode cX7_terms 21 = .ok (.if_icmp .ne 18, 3)) ∧ (decode cX7_terms 24 = .ok (.aload_n 0, 1)) ∧ (decode cX7_terms 25 = .ok (.getfield 29, 3)) ∧ (decode cX7_terms 28 = .ok (.aload_n 0, 1)) ∧ (decode cX7_terms 29 = .ok (.getfield 10, 3)) ∧ (decode cX7_terms 32 = .ok (.invokevirtual 190, 3)) ∧ (decode cX7_terms 35 = .ok (.invokestatic 112, 3)) ∧ (decode cX7_terms 38 = .ok (.ireturn, 1)) ∧ (decode cX7_terms 39 = .ok (.ldc 78, 2)) ∧ (decode cX7_terms 41 = .ok (.ireturn, 1)) ∧ True := dc_cj [(0, .iload_n 1, 1), (1, .ifCond .ne 18, 3), (4, .aload_n 0, 1), (5, .getfield 29, 3), (8, .aload_n 0, 1), (9, .getfield 10, 3), (12, .invokevirtual 187, 3), (15, .invokestatic 112, 3), (18, .ireturn, 1), (19, .iload_n 1, 1), (20, .iconst 1, 1), (21, .if_icmp .ne 18, 3), (24, .aload_n 0, 1), (25, .getfield 29, 3), (28, .aload_n 0, 1), (29, .getfield 10, 3), (32, .invokevirtual 190, 3), (35, .invokestatic 112, 3), (38, .ireturn, 1), (39, .ldc 78, 2), (41, .ireturn, 1)] (by decide +kernel)
theorem dX7_terms_0 : decode cX7_terms 0 = .ok (.iload_n 1, 1) := edX7_terms_0.1
theorem dX7_terms_1 : decode cX7_terms 1 = .ok (.ifCond .ne 18, 3) := edX7_terms_0.2.1
theorem dX7_terms_4 : decode cX7_terms 4 = .ok (.aload_n 0, 1) := edX7_terms_0.2.2.1
theorem dX7_terms_5 : decode cX7_terms 5 = .ok (.getfield 29, 3) := edX7_terms_0.2.2.2.1
theorem dX7_terms_8 : decode cX7_terms 8 = .ok (.aload_n 0, 1) := edX7_terms_0.2.2.2.2.1
theorem dX7_terms_9 : decode cX7_terms 9 = .ok (.getfield 10, 3) := edX7_terms_0.2.2.2.2.2.1
theorem dX7_terms_12 : decode cX7_terms 12 = .ok (.invokevirtual 187, 3) := edX7_terms_0.2.2.2.2.2.2.1
theorem dX7_terms_15 : decode cX7_terms 15 = .ok (.invokestatic 112, 3) := edX7_terms_0.2.2.2.2.2.2.2.1
theorem dX7_terms_18 : decode cX7_terms 18 = .ok (.ireturn, 1) := edX7_terms_0.2.2.2.2.2.2.2.2.1
theorem dX7_terms_19 : decode cX7_terms 19 = .ok (.iload_n 1, 1) := edX7_terms_0.2.2.2.2.2.2.2.2.2.1
theorem dX7_terms_20 : decode cX7_terms 20 = .ok (.iconst 1, 1) := edX7_terms_0.2.2.2.2.2.2.2.2.2.2.1
theorem dX7_terms_21 : decode cX7_terms 21 = .ok (.if_icmp .ne 18, 3) := edX7_terms_0.2.2.2.2.2.2.2.2.2.2.2.1
theorem dX7_terms_24 : decode cX7_terms 24 = .ok (.aload_n 0, 1) := edX7_terms_0.2.2.2.2.2.2.2.2.2.2.2.2.1
theorem dX7_terms_25 : decode cX7_terms 25 = .ok (.getfield 29, 3) := edX7_terms_0.2.2.2.2.2.2.2.2.2.2.2.2.2.1
theorem dX7_terms_28 : decode cX7_terms 28 = .ok (.aload_n 0, 1) := edX7_terms_0.2.2.2.2.2.2.2.2.2.2.2.2.2.2.1
theorem dX7_terms_29 : decode cX7_terms 29 = .ok (.getfield 10, 3) := edX7_terms_0.2.2.2.2.2.2.2.2.2.2.2.2.2.2.2.1
theorem dX7_terms_32 : decode cX7_terms 32 = .ok (.invokevirtual 190, 3) := edX7_terms_0.2.2.2.2.2.2.2.2.2.2.2.2.2.2.2.2.1
theorem dX7_terms_35 : decode cX7_terms 35 = .ok (.invokestatic 112, 3) := edX7_terms_0.2.2.2.2.2.2.2.2.2.2.2.2.2.2.2.2.2.1
theorem dX7_terms_38 : decode cX7_terms 38 = .ok (.ireturn, 1) := edX7_terms_0.2.2.2.2.2.2.2.2.2.2.2.2.2.2.2.2.2.2.1
theorem dX7_terms_39 : decode cX7_terms 39 = .ok (.ldc 78, 2) := edX7_terms_0.2.2.2.2.2.2.2.2.2.2.2.2.2.2.2.2.2.2.2.1
theorem dX7_terms_41 : decode cX7_terms 41 = .ok (.ireturn, 1) := edX7_terms_0.2.2.2.2.2.2.2.2.2.2.2.2.2.2.2.2.2.2.2.2.1
theorem edX7_behind_0 : (decode cX7_behind 0 = .ok (.iload_n 1, 1)) ∧ (decode cX7_behind 1 = .ok (.iconst 0, 1)) ∧ (decode cX7_behind 2 = .ok (.bipush 100, 2)) ∧ (decode cX7_behind 4 = .ok (.invokestatic 74, 3)) ∧ (decode cX7_behind 7 = .ok (.ifCond .eq 12, 3)) ∧ (decode cX7_behind 10 = .ok (.iload_n 2, 1)) ∧ (decode cX7_behind 11 = .ok (.iconst 0, 1)) ∧ (decode cX7_behind 12 = .ok (.iconst 3, 1)) ∧ (decode cX7_behind 13 = .ok (.invokestatic 74, 3)) ∧ (decode cX7_behind 16 = .ok (.ifCond .ne 6, 3)) ∧ (decode cX7_behind 19 = .ok (.ldc 78, 2)) ∧ (decode cX7_behind 21 = .ok (.ireturn, 1)) ∧ (decode cX7_behind 22 = .ok (.aload_n 0, 1)) ∧ (decode cX7_behind 23 = .ok (.getfield 16, 3)) ∧ (decode cX7_behind 26 = .ok (.aload_n 0, 1)) ∧ (decode cX7_behind 27 = .ok (.getfield 10, 3)) ∧ (decode cX7_behind 30 = .ok (.invokevirtual 193, 3)) ∧ (decode cX7_behind 33 = .ok (.aload_n 0, 1)) ∧ (decode cX7_behind 34 = .ok (.getfield 16, 3)) ∧ (decode cX7_behind 37 = .ok (.iload_n 1, 1)) ∧ (decode cX7_behind 38 = .ok (.iconst (-1), 1)) ∧ (decode cX7_behind 39 = .ok (.invokevirtual 163, 3)) ∧ (decode cX7_behind 42 = .ok (.pop, 1)) ∧ (decode cX7_behind 43 = .ok (.iload_n 2, 1)) ∧ (decode cX7_behind 44 = .ok (.tableswitch 60 0 2 #[28, 36, 44], 28)) ∧ (decode cX7_behind 72 = .ok (.aload_n 0, 1)) ∧ (decode cX7_behind 73 = .ok (.getfield 16, 3)) ∧ (decode cX7_behind 76 = .ok (.getfield 139, 3)) ∧ (decode cX7_behind 79 = .ok (.ireturn, 1)) ∧ (decode cX7_behind 80 = .ok (.aload_n 0, 1)) ∧ (decode cX7_behind 81 = .ok (.getfield 16, 3)) ∧ (decode cX7_behind 84 = .ok (.invokevirtual 173, 3)) ∧ True := dc_cj [(0, .iload_n 1, 1), (1, .iconst 0, 1), (2, .bipush 100, 2), (4, .invokestatic 74, 3), (7, .ifCond .eq 12, 3), (10, .iload_n 2, 1), (11, .iconst 0, 1), (12, .iconst 3, 1), (13, .invokestatic 74, 3), (16, .ifCond .ne 6, 3), (19, .ldc 78, 2), (21, .ireturn, 1), (22, .aload_n 0, 1), (23, .getfield 16, 3), (26, .aload_n 0, 1), (27, .getfield 10, 3), (30, .invokevirtual 193, 3), (33, .aload_n 0, 1), (34, .getfield 16, 3), (37, .iload_n 1, 1), (38, .iconst (-1), 1), (39, .invokevirtual 163, 3), (42, .pop, 1), (43, .iload_n 2, 1), (44, .tableswitch 60 0 2 #[28, 36, 44], 28), (72, .aload_n 0, 1), (73, .getfield 16, 3), (76, .getfield 139, 3), (79, .ireturn, 1), (80, .aload_n 0, 1), (81, .getfield 16, 3), (84, .invokevirtual 173, 3)] (by decide +kernel)
theorem dX7_behind_0 : decode cX7_behind 0 = .ok (.iload_n 1, 1) := edX7_behind_0.1
theorem dX7_behind_1 : decode cX7_behind 1 = .ok (.iconst 0, 1) := edX7_behind_0.2.1
theorem dX7_behind_2 : decode cX7_behind 2 = .ok (.bipush 100, 2) := edX7_behind_0.2.2.1
theorem dX7_behind_4 : decode cX7_behind 4 = .ok (.invokestatic 74, 3) := edX7_behind_0.2.2.2.1
theorem dX7_behind_7 : decode cX7_behind 7 = .ok (.ifCond .eq 12, 3) := edX7_behind_0.2.2.2.2.1
theorem dX7_behind_10 : decode cX7_behind 10 = .ok (.iload_n 2, 1) := edX7_behind_0.2.2.2.2.2.1
theorem dX7_behind_11 : decode cX7_behind 11 = .ok (.iconst 0, 1) := edX7_behind_0.2.2.2.2.2.2.1
theorem dX7_behind_12 : decode cX7_behind 12 = .ok (.iconst 3, 1) := edX7_behind_0.2.2.2.2.2.2.2.1
theorem dX7_behind_13 : decode cX7_behind 13 = .ok (.invokestatic 74, 3) := edX7_behind_0.2.2.2.2.2.2.2.2.1
theorem dX7_behind_16 : decode cX7_behind 16 = .ok (.ifCond .ne 6, 3) := edX7_behind_0.2.2.2.2.2.2.2.2.2.1
theorem dX7_behind_19 : decode cX7_behind 19 = .ok (.ldc 78, 2) := edX7_behind_0.2.2.2.2.2.2.2.2.2.2.1
theorem dX7_behind_21 : decode cX7_behind 21 = .ok (.ireturn, 1) := edX7_behind_0.2.2.2.2.2.2.2.2.2.2.2.1
theorem dX7_behind_22 : decode cX7_behind 22 = .ok (.aload_n 0, 1) := edX7_behind_0.2.2.2.2.2.2.2.2.2.2.2.2.1
theorem dX7_behind_23 : decode cX7_behind 23 = .ok (.getfield 16, 3) := edX7_behind_0.2.2.2.2.2.2.2.2.2.2.2.2.2.1
theorem dX7_behind_26 : decode cX7_behind 26 = .ok (.aload_n 0, 1) := edX7_behind_0.2.2.2.2.2.2.2.2.2.2.2.2.2.2.1
theorem dX7_behind_27 : decode cX7_behind 27 = .ok (.getfield 10, 3) := edX7_behind_0.2.2.2.2.2.2.2.2.2.2.2.2.2.2.2.1
theorem dX7_behind_30 : decode cX7_behind 30 = .ok (.invokevirtual 193, 3) := edX7_behind_0.2.2.2.2.2.2.2.2.2.2.2.2.2.2.2.2.1
theorem dX7_behind_33 : decode cX7_behind 33 = .ok (.aload_n 0, 1) := edX7_behind_0.2.2.2.2.2.2.2.2.2.2.2.2.2.2.2.2.2.1
theorem dX7_behind_34 : decode cX7_behind 34 = .ok (.getfield 16, 3) := edX7_behind_0.2.2.2.2.2.2.2.2.2.2.2.2.2.2.2.2.2.2.1
theorem dX7_behind_37 : decode cX7_behind 37 = .ok (.iload_n 1, 1) := edX7_behind_0.2.2.2.2.2.2.2.2.2.2.2.2.2.2.2.2.2.2.2.1
theorem dX7_behind_38 : decode cX7_behind 38 = .ok (.iconst (-1), 1) := edX7_behind_0.2.2.2.2.2.2.2.2.2.2.2.2.2.2.2.2.2.2.2.2.1
theorem dX7_behind_39 : decode cX7_behind 39 = .ok (.invokevirtual 163, 3) := edX7_behind_0.2.2.2.2.2.2.2.2.2.2.2.2.2.2.2.2.2.2.2.2.2.1
theorem dX7_behind_42 : decode cX7_behind 42 = .ok (.pop, 1) := edX7_behind_0.2.2.2.2.2.2.2.2.2.2.2.2.2.2.2.2.2.2.2.2.2.2.1
theorem dX7_behind_43 : decode cX7_behind 43 = .ok (.iload_n 2, 1) := edX7_behind_0.2.2.2.2.2.2.2.2.2.2.2.2.2.2.2.2.2.2.2.2.2.2.2.1
theorem dX7_behind_44 : decode cX7_behind 44 = .ok (.tableswitch 60 0 2 #[28, 36, 44], 28) := edX7_behind_0.2.2.2.2.2.2.2.2.2.2.2.2.2.2.2.2.2.2.2.2.2.2.2.2.1
theorem dX7_behind_72 : decode cX7_behind 72 = .ok (.aload_n 0, 1) := edX7_behind_0.2.2.2.2.2.2.2.2.2.2.2.2.2.2.2.2.2.2.2.2.2.2.2.2.2.1
theorem dX7_behind_73 : decode cX7_behind 73 = .ok (.getfield 16, 3) := edX7_behind_0.2.2.2.2.2.2.2.2.2.2.2.2.2.2.2.2.2.2.2.2.2.2.2.2.2.2.1
theorem dX7_behind_76 : decode cX7_behind 76 = .ok (.getfield 139, 3) := edX7_behind_0.2.2.2.2.2.2.2.2.2.2.2.2.2.2.2.2.2.2.2.2.2.2.2.2.2.2.2.1
theorem dX7_behind_79 : decode cX7_behind 79 = .ok (.ireturn, 1) := edX7_behind_0.2.2.2.2.2.2.2.2.2.2.2.2.2.2.2.2.2.2.2.2.2.2.2.2.2.2.2.2.1
theorem dX7_behind_80 : decode cX7_behind 80 = .ok (.aload_n 0, 1) := edX7_behind_0.2.2.2.2.2.2.2.2.2.2.2.2.2.2.2.2.2.2.2.2.2.2.2.2.2.2.2.2.2.1
theorem dX7_behind_81 : decode cX7_behind 81 = .ok (.getfield 16, 3) := edX7_behind_0.2.2.2.2.2.2.2.2.2.2.2.2.2.2.2.2.2.2.2.2.2.2.2.2.2.2.2.2.2.2.1
theorem dX7_behind_84 : decode cX7_behind 84 = .ok (.invokevirtual 173, 3) := edX7_behind_0.2.2.2.2.2.2.2.2.2.2.2.2.2.2.2.2.2.2.2.2.2.2.2.2.2.2.2.2.2.2.2.1
theorem edX7_behind_87 : (decode cX7_behind 87 = .ok (.ireturn, 1)) ∧ (decode cX7_behind 88 = .ok (.aload_n 0, 1)) ∧ (decode cX7_behind 89 = .ok (.getfield 16, 3)) ∧ (decode cX7_behind 92 = .ok (.invokevirtual 169, 3)) ∧ (decode cX7_behind 95 = .ok (.ifCond .eq 7, 3)) ∧ (decode cX7_behind 98 = .ok (.iconst 1, 1)) ∧ (decode cX7_behind 99 = .ok (.goto 4, 3)) ∧ (decode cX7_behind 102 = .ok (.iconst 0, 1)) ∧ (decode cX7_behind 103 = .ok (.ireturn, 1)) ∧ (decode cX7_behind 104 = .ok (.aload_n 0, 1)) ∧ (decode cX7_behind 105 = .ok (.getfield 16, 3)) ∧ (decode cX7_behind 108 = .ok (.getfield 176, 3)) ∧ (decode cX7_behind 111 = .ok (.ireturn, 1)) ∧ True := dc_cj [(87, .ireturn, 1), (88, .aload_n 0, 1), (89, .getfield 16, 3), (92, .invokevirtual 169, 3), (95, .ifCond .eq 7, 3), (98, .iconst 1, 1), (99, .goto 4, 3), (102, .iconst 0, 1), (103, .ireturn, 1), (104, .aload_n 0, 1), (105, .getfield 16, 3), (108, .getfield 176, 3), (111, .ireturn, 1)] (by decide +kernel)
theorem dX7_behind_87 : decode cX7_behind 87 = .ok (.ireturn, 1) := edX7_behind_87.1
theorem dX7_behind_88 : decode cX7_behind 88 = .ok (.aload_n 0, 1) := edX7_behind_87.2.1
theorem dX7_behind_89 : decode cX7_behind 89 = .ok (.getfield 16, 3) := edX7_behind_87.2.2.1
theorem dX7_behind_92 : decode cX7_behind 92 = .ok (.invokevirtual 169, 3) := edX7_behind_87.2.2.2.1
theorem dX7_behind_95 : decode cX7_behind 95 = .ok (.ifCond .eq 7, 3) := edX7_behind_87.2.2.2.2.1
theorem dX7_behind_98 : decode cX7_behind 98 = .ok (.iconst 1, 1) := edX7_behind_87.2.2.2.2.2.1
theorem dX7_behind_99 : decode cX7_behind 99 = .ok (.goto 4, 3) := edX7_behind_87.2.2.2.2.2.2.1
theorem dX7_behind_102 : decode cX7_behind 102 = .ok (.iconst 0, 1) := edX7_behind_87.2.2.2.2.2.2.2.1
theorem dX7_behind_103 : decode cX7_behind 103 = .ok (.ireturn, 1) := edX7_behind_87.2.2.2.2.2.2.2.2.1
theorem dX7_behind_104 : decode cX7_behind 104 = .ok (.aload_n 0, 1) := edX7_behind_87.2.2.2.2.2.2.2.2.2.1
theorem dX7_behind_105 : decode cX7_behind 105 = .ok (.getfield 16, 3) := edX7_behind_87.2.2.2.2.2.2.2.2.2.2.1
theorem dX7_behind_108 : decode cX7_behind 108 = .ok (.getfield 176, 3) := edX7_behind_87.2.2.2.2.2.2.2.2.2.2.2.1
theorem dX7_behind_111 : decode cX7_behind 111 = .ok (.ireturn, 1) := edX7_behind_87.2.2.2.2.2.2.2.2.2.2.2.2.1
theorem edX7_ends_0 : (decode cX7_ends 0 = .ok (.iload_n 1, 1)) ∧ (decode cX7_ends 1 = .ok (.iconst 0, 1)) ∧ (decode cX7_ends 2 = .ok (.iconst 1, 1)) ∧ (decode cX7_ends 3 = .ok (.invokestatic 74, 3)) ∧ (decode cX7_ends 6 = .ok (.ifCond .ne 6, 3)) ∧ (decode cX7_ends 9 = .ok (.ldc 78, 2)) ∧ (decode cX7_ends 11 = .ok (.ireturn, 1)) ∧ (decode cX7_ends 12 = .ok (.aload_n 0, 1)) ∧ (decode cX7_ends 13 = .ok (.getfield 16, 3)) ∧ (decode cX7_ends 16 = .ok (.aload_n 0, 1)) ∧ (decode cX7_ends 17 = .ok (.getfield 10, 3)) ∧ (decode cX7_ends 20 = .ok (.invokevirtual 193, 3)) ∧ (decode cX7_ends 23 = .ok (.iconst 0, 1)) ∧ (decode cX7_ends 24 = .ok (.istore_n 2, 1)) ∧ (decode cX7_ends 25 = .ok (.iload_n 2, 1)) ∧ (decode cX7_ends 26 = .ok (.sipush 200, 3)) ∧ (decode cX7_ends 29 = .ok (.if_icmp .gt 59, 3)) ∧ (decode cX7_ends 32 = .ok (.aload_n 0, 1)) ∧ (decode cX7_ends 33 = .ok (.getfield 16, 3)) ∧ (decode cX7_ends 36 = .ok (.invokevirtual 169, 3)) ∧ (decode cX7_ends 39 = .ok (.ifCond .eq 13, 3)) ∧ (decode cX7_ends 42 = .ok (.iload_n 1, 1)) ∧ (decode cX7_ends 43 = .ok (.ifCond .ne 7, 3)) ∧ (decode cX7_ends 46 = .ok (.iload_n 2, 1)) ∧ (decode cX7_ends 47 = .ok (.goto 4, 3)) ∧ (decode cX7_ends 50 = .ok (.iconst 1, 1)) ∧ (decode cX7_ends 51 = .ok (.ireturn, 1)) ∧ (decode cX7_ends 52 = .ok (.aload_n 0, 1)) ∧ (decode cX7_ends 53 = .ok (.getfield 16, 3)) ∧ (decode cX7_ends 56 = .ok (.invokevirtual 197, 3)) ∧ (decode cX7_ends 59 = .ok (.ifCond .eq 13, 3)) ∧ (decode cX7_ends 62 = .ok (.iload_n 1, 1)) ∧ True := dc_cj [(0, .iload_n 1, 1), (1, .iconst 0, 1), (2, .iconst 1, 1), (3, .invokestatic 74, 3), (6, .ifCond .ne 6, 3), (9, .ldc 78, 2), (11, .ireturn, 1), (12, .aload_n 0, 1), (13, .getfield 16, 3), (16, .aload_n 0, 1), (17, .getfield 10, 3), (20, .invokevirtual 193, 3), (23, .iconst 0, 1), (24, .istore_n 2, 1), (25, .iload_n 2, 1), (26, .sipush 200, 3), (29, .if_icmp .gt 59, 3), (32, .aload_n 0, 1), (33, .getfield 16, 3), (36, .invokevirtual 169, 3), (39, .ifCond .eq 13, 3), (42, .iload_n 1, 1), (43, .ifCond .ne 7, 3), (46, .iload_n 2, 1), (47, .goto 4, 3), (50, .iconst 1, 1), (51, .ireturn, 1), (52, .aload_n 0, 1), (53, .getfield 16, 3), (56, .invokevirtual 197, 3), (59, .ifCond .eq 13, 3), (62, .iload_n 1, 1)] (by decide +kernel)
theorem dX7_ends_0 : decode cX7_ends 0 = .ok (.iload_n 1, 1) := edX7_ends_0.1
theorem dX7_ends_1 : decode cX7_ends 1 = .ok (.iconst 0, 1) := edX7_ends_0.2.1
theorem dX7_ends_2 : decode cX7_ends 2 = .ok (.iconst 1, 1) := edX7_ends_0.2.2.1
theorem dX7_ends_3 : decode cX7_ends 3 = .ok (.invokestatic 74, 3) := edX7_ends_0.2.2.2.1
theorem dX7_ends_6 : decode cX7_ends 6 = .ok (.ifCond .ne 6, 3) := edX7_ends_0.2.2.2.2.1
theorem dX7_ends_9 : decode cX7_ends 9 = .ok (.ldc 78, 2) := edX7_ends_0.2.2.2.2.2.1
theorem dX7_ends_11 : decode cX7_ends 11 = .ok (.ireturn, 1) := edX7_ends_0.2.2.2.2.2.2.1
theorem dX7_ends_12 : decode cX7_ends 12 = .ok (.aload_n 0, 1) := edX7_ends_0.2.2.2.2.2.2.2.1
theorem dX7_ends_13 : decode cX7_ends 13 = .ok (.getfield 16, 3) := edX7_ends_0.2.2.2.2.2.2.2.2.1
theorem dX7_ends_16 : decode cX7_ends 16 = .ok (.aload_n 0, 1) := edX7_ends_0.2.2.2.2.2.2.2.2.2.1
theorem dX7_ends_17 : decode cX7_ends 17 = .ok (.getfield 10, 3) := edX7_ends_0.2.2.2.2.2.2.2.2.2.2.1
theorem dX7_ends_20 : decode cX7_ends 20 = .ok (.invokevirtual 193, 3) := edX7_ends_0.2.2.2.2.2.2.2.2.2.2.2.1
theorem dX7_ends_23 : decode cX7_ends 23 = .ok (.iconst 0, 1) := edX7_ends_0.2.2.2.2.2.2.2.2.2.2.2.2.1
theorem dX7_ends_24 : decode cX7_ends 24 = .ok (.istore_n 2, 1) := edX7_ends_0.2.2.2.2.2.2.2.2.2.2.2.2.2.1
theorem dX7_ends_25 : decode cX7_ends 25 = .ok (.iload_n 2, 1) := edX7_ends_0.2.2.2.2.2.2.2.2.2.2.2.2.2.2.1
theorem dX7_ends_26 : decode cX7_ends 26 = .ok (.sipush 200, 3) := edX7_ends_0.2.2.2.2.2.2.2.2.2.2.2.2.2.2.2.1
theorem dX7_ends_29 : decode cX7_ends 29 = .ok (.if_icmp .gt 59, 3) := edX7_ends_0.2.2.2.2.2.2.2.2.2.2.2.2.2.2.2.2.1
theorem dX7_ends_32 : decode cX7_ends 32 = .ok (.aload_n 0, 1) := edX7_ends_0.2.2.2.2.2.2.2.2.2.2.2.2.2.2.2.2.2.1
theorem dX7_ends_33 : decode cX7_ends 33 = .ok (.getfield 16, 3) := edX7_ends_0.2.2.2.2.2.2.2.2.2.2.2.2.2.2.2.2.2.2.1
theorem dX7_ends_36 : decode cX7_ends 36 = .ok (.invokevirtual 169, 3) := edX7_ends_0.2.2.2.2.2.2.2.2.2.2.2.2.2.2.2.2.2.2.2.1
theorem dX7_ends_39 : decode cX7_ends 39 = .ok (.ifCond .eq 13, 3) := edX7_ends_0.2.2.2.2.2.2.2.2.2.2.2.2.2.2.2.2.2.2.2.2.1
theorem dX7_ends_42 : decode cX7_ends 42 = .ok (.iload_n 1, 1) := edX7_ends_0.2.2.2.2.2.2.2.2.2.2.2.2.2.2.2.2.2.2.2.2.2.1
theorem dX7_ends_43 : decode cX7_ends 43 = .ok (.ifCond .ne 7, 3) := edX7_ends_0.2.2.2.2.2.2.2.2.2.2.2.2.2.2.2.2.2.2.2.2.2.2.1
theorem dX7_ends_46 : decode cX7_ends 46 = .ok (.iload_n 2, 1) := edX7_ends_0.2.2.2.2.2.2.2.2.2.2.2.2.2.2.2.2.2.2.2.2.2.2.2.1
theorem dX7_ends_47 : decode cX7_ends 47 = .ok (.goto 4, 3) := edX7_ends_0.2.2.2.2.2.2.2.2.2.2.2.2.2.2.2.2.2.2.2.2.2.2.2.2.1
theorem dX7_ends_50 : decode cX7_ends 50 = .ok (.iconst 1, 1) := edX7_ends_0.2.2.2.2.2.2.2.2.2.2.2.2.2.2.2.2.2.2.2.2.2.2.2.2.2.1
theorem dX7_ends_51 : decode cX7_ends 51 = .ok (.ireturn, 1) := edX7_ends_0.2.2.2.2.2.2.2.2.2.2.2.2.2.2.2.2.2.2.2.2.2.2.2.2.2.2.1
theorem dX7_ends_52 : decode cX7_ends 52 = .ok (.aload_n 0, 1) := edX7_ends_0.2.2.2.2.2.2.2.2.2.2.2.2.2.2.2.2.2.2.2.2.2.2.2.2.2.2.2.1
theorem dX7_ends_53 : decode cX7_ends 53 = .ok (.getfield 16, 3) := edX7_ends_0.2.2.2.2.2.2.2.2.2.2.2.2.2.2.2.2.2.2.2.2.2.2.2.2.2.2.2.2.1
theorem dX7_ends_56 : decode cX7_ends 56 = .ok (.invokevirtual 197, 3) := edX7_ends_0.2.2.2.2.2.2.2.2.2.2.2.2.2.2.2.2.2.2.2.2.2.2.2.2.2.2.2.2.2.1
theorem dX7_ends_59 : decode cX7_ends 59 = .ok (.ifCond .eq 13, 3) := edX7_ends_0.2.2.2.2.2.2.2.2.2.2.2.2.2.2.2.2.2.2.2.2.2.2.2.2.2.2.2.2.2.2.1
theorem dX7_ends_62 : decode cX7_ends 62 = .ok (.iload_n 1, 1) := edX7_ends_0.2.2.2.2.2.2.2.2.2.2.2.2.2.2.2.2.2.2.2.2.2.2.2.2.2.2.2.2.2.2.2.1
theorem edX7_ends_63 : (decode cX7_ends 63 = .ok (.ifCond .ne 7, 3)) ∧ (decode cX7_ends 66 = .ok (.iload_n 2, 1)) ∧ (decode cX7_ends 67 = .ok (.goto 4, 3)) ∧ (decode cX7_ends 70 = .ok (.iconst 2, 1)) ∧ (decode cX7_ends 71 = .ok (.ireturn, 1)) ∧ (decode cX7_ends 72 = .ok (.aload_n 0, 1)) ∧ (decode cX7_ends 73 = .ok (.getfield 16, 3)) ∧ (decode cX7_ends 76 = .ok (.iconst 1, 1)) ∧ (decode cX7_ends 77 = .ok (.iconst (-1), 1)) ∧ (decode cX7_ends 78 = .ok (.invokevirtual 163, 3)) ∧ (decode cX7_ends 81 = .ok (.pop, 1)) ∧ (decode cX7_ends 82 = .ok (.iinc 2 1, 3)) ∧ (decode cX7_ends 85 = .ok (.goto (-60), 3)) ∧ (decode cX7_ends 88 = .ok (.ldc 200, 2)) ∧ (decode cX7_ends 90 = .ok (.ireturn, 1)) ∧ True := dc_cj [(63, .ifCond .ne 7, 3), (66, .iload_n 2, 1), (67, .goto 4, 3), (70, .iconst 2, 1), (71, .ireturn, 1), (72, .aload_n 0, 1), (73, .getfield 16, 3), (76, .iconst 1, 1), (77, .iconst (-1), 1), (78, .invokevirtual 163, 3), (81, .pop, 1), (82, .iinc 2 1, 3), (85, .goto (-60), 3), (88, .ldc 200, 2), (90, .ireturn, 1)] (by decide +kernel)
theorem dX7_ends_63 : decode cX7_ends 63 = .ok (.ifCond .ne 7, 3) := edX7_ends_63.1
theorem dX7_ends_66 : decode cX7_ends 66 = .ok (.iload_n 2, 1) := edX7_ends_63.2.1
theorem dX7_ends_67 : decode cX7_ends 67 = .ok (.goto 4, 3) := edX7_ends_63.2.2.1
theorem dX7_ends_70 : decode cX7_ends 70 = .ok (.iconst 2, 1) := edX7_ends_63.2.2.2.1
theorem dX7_ends_71 : decode cX7_ends 71 = .ok (.ireturn, 1) := edX7_ends_63.2.2.2.2.1
theorem dX7_ends_72 : decode cX7_ends 72 = .ok (.aload_n 0, 1) := edX7_ends_63.2.2.2.2.2.1
theorem dX7_ends_73 : decode cX7_ends 73 = .ok (.getfield 16, 3) := edX7_ends_63.2.2.2.2.2.2.1
theorem dX7_ends_76 : decode cX7_ends 76 = .ok (.iconst 1, 1) := edX7_ends_63.2.2.2.2.2.2.2.1
theorem dX7_ends_77 : decode cX7_ends 77 = .ok (.iconst (-1), 1) := edX7_ends_63.2.2.2.2.2.2.2.2.1
theorem dX7_ends_78 : decode cX7_ends 78 = .ok (.invokevirtual 163, 3) := edX7_ends_63.2.2.2.2.2.2.2.2.2.1
theorem dX7_ends_81 : decode cX7_ends 81 = .ok (.pop, 1) := edX7_ends_63.2.2.2.2.2.2.2.2.2.2.1
theorem dX7_ends_82 : decode cX7_ends 82 = .ok (.iinc 2 1, 3) := edX7_ends_63.2.2.2.2.2.2.2.2.2.2.2.1
theorem dX7_ends_85 : decode cX7_ends 85 = .ok (.goto (-60), 3) := edX7_ends_63.2.2.2.2.2.2.2.2.2.2.2.2.1
theorem dX7_ends_88 : decode cX7_ends 88 = .ok (.ldc 200, 2) := edX7_ends_63.2.2.2.2.2.2.2.2.2.2.2.2.2.1
theorem dX7_ends_90 : decode cX7_ends 90 = .ok (.ireturn, 1) := edX7_ends_63.2.2.2.2.2.2.2.2.2.2.2.2.2.2.1
theorem edX7_held_0 : (decode cX7_held 0 = .ok (.iload_n 1, 1)) ∧ (decode cX7_held 1 = .ok (.iconst 1, 1)) ∧ (decode cX7_held 2 = .ok (.bipush 60, 2)) ∧ (decode cX7_held 4 = .ok (.invokestatic 74, 3)) ∧ (decode cX7_held 7 = .ok (.ifCond .ne 6, 3)) ∧ (decode cX7_held 10 = .ok (.ldc 78, 2)) ∧ (decode cX7_held 12 = .ok (.ireturn, 1)) ∧ (decode cX7_held 13 = .ok (.aload_n 0, 1)) ∧ (decode cX7_held 14 = .ok (.iconst (-1), 1)) ∧ (decode cX7_held 15 = .ok (.iload_n 1, 1)) ∧ (decode cX7_held 16 = .ok (.invokevirtual 201, 3)) ∧ (decode cX7_held 19 = .ok (.ifCond .eq 5, 3)) ∧ (decode cX7_held 22 = .ok (.iconst 0, 1)) ∧ (decode cX7_held 23 = .ok (.ireturn, 1)) ∧ (decode cX7_held 24 = .ok (.iconst 0, 1)) ∧ (decode cX7_held 25 = .ok (.istore_n 2, 1)) ∧ (decode cX7_held 26 = .ok (.iconst 0, 1)) ∧ (decode cX7_held 27 = .ok (.istore_n 3, 1)) ∧ (decode cX7_held 28 = .ok (.iload_n 3, 1)) ∧ (decode cX7_held 29 = .ok (.aload_n 0, 1)) ∧ (decode cX7_held 30 = .ok (.getfield 10, 3)) ∧ (decode cX7_held 33 = .ok (.getfield 79, 3)) ∧ (decode cX7_held 36 = .ok (.if_icmp .ge 24, 3)) ∧ (decode cX7_held 39 = .ok (.aload_n 0, 1)) ∧ (decode cX7_held 40 = .ok (.iload_n 3, 1)) ∧ (decode cX7_held 41 = .ok (.iload_n 1, 1)) ∧ (decode cX7_held 42 = .ok (.invokevirtual 201, 3)) ∧ (decode cX7_held 45 = .ok (.ifCond .eq 9, 3)) ∧ (decode cX7_held 48 = .ok (.iload_n 2, 1)) ∧ (decode cX7_held 49 = .ok (.iconst 1, 1)) ∧ (decode cX7_held 50 = .ok (.iload_n 3, 1)) ∧ (decode cX7_held 51 = .ok (.ishl, 1)) ∧ True := dc_cj [(0, .iload_n 1, 1), (1, .iconst 1, 1), (2, .bipush 60, 2), (4, .invokestatic 74, 3), (7, .ifCond .ne 6, 3), (10, .ldc 78, 2), (12, .ireturn, 1), (13, .aload_n 0, 1), (14, .iconst (-1), 1), (15, .iload_n 1, 1), (16, .invokevirtual 201, 3), (19, .ifCond .eq 5, 3), (22, .iconst 0, 1), (23, .ireturn, 1), (24, .iconst 0, 1), (25, .istore_n 2, 1), (26, .iconst 0, 1), (27, .istore_n 3, 1), (28, .iload_n 3, 1), (29, .aload_n 0, 1), (30, .getfield 10, 3), (33, .getfield 79, 3), (36, .if_icmp .ge 24, 3), (39, .aload_n 0, 1), (40, .iload_n 3, 1), (41, .iload_n 1, 1), (42, .invokevirtual 201, 3), (45, .ifCond .eq 9, 3), (48, .iload_n 2, 1), (49, .iconst 1, 1), (50, .iload_n 3, 1), (51, .ishl, 1)] (by decide +kernel)
theorem dX7_held_0 : decode cX7_held 0 = .ok (.iload_n 1, 1) := edX7_held_0.1
theorem dX7_held_1 : decode cX7_held 1 = .ok (.iconst 1, 1) := edX7_held_0.2.1
theorem dX7_held_2 : decode cX7_held 2 = .ok (.bipush 60, 2) := edX7_held_0.2.2.1
theorem dX7_held_4 : decode cX7_held 4 = .ok (.invokestatic 74, 3) := edX7_held_0.2.2.2.1
theorem dX7_held_7 : decode cX7_held 7 = .ok (.ifCond .ne 6, 3) := edX7_held_0.2.2.2.2.1
theorem dX7_held_10 : decode cX7_held 10 = .ok (.ldc 78, 2) := edX7_held_0.2.2.2.2.2.1
theorem dX7_held_12 : decode cX7_held 12 = .ok (.ireturn, 1) := edX7_held_0.2.2.2.2.2.2.1
theorem dX7_held_13 : decode cX7_held 13 = .ok (.aload_n 0, 1) := edX7_held_0.2.2.2.2.2.2.2.1
theorem dX7_held_14 : decode cX7_held 14 = .ok (.iconst (-1), 1) := edX7_held_0.2.2.2.2.2.2.2.2.1
theorem dX7_held_15 : decode cX7_held 15 = .ok (.iload_n 1, 1) := edX7_held_0.2.2.2.2.2.2.2.2.2.1
theorem dX7_held_16 : decode cX7_held 16 = .ok (.invokevirtual 201, 3) := edX7_held_0.2.2.2.2.2.2.2.2.2.2.1
theorem dX7_held_19 : decode cX7_held 19 = .ok (.ifCond .eq 5, 3) := edX7_held_0.2.2.2.2.2.2.2.2.2.2.2.1
theorem dX7_held_22 : decode cX7_held 22 = .ok (.iconst 0, 1) := edX7_held_0.2.2.2.2.2.2.2.2.2.2.2.2.1
theorem dX7_held_23 : decode cX7_held 23 = .ok (.ireturn, 1) := edX7_held_0.2.2.2.2.2.2.2.2.2.2.2.2.2.1
theorem dX7_held_24 : decode cX7_held 24 = .ok (.iconst 0, 1) := edX7_held_0.2.2.2.2.2.2.2.2.2.2.2.2.2.2.1
theorem dX7_held_25 : decode cX7_held 25 = .ok (.istore_n 2, 1) := edX7_held_0.2.2.2.2.2.2.2.2.2.2.2.2.2.2.2.1
theorem dX7_held_26 : decode cX7_held 26 = .ok (.iconst 0, 1) := edX7_held_0.2.2.2.2.2.2.2.2.2.2.2.2.2.2.2.2.1
theorem dX7_held_27 : decode cX7_held 27 = .ok (.istore_n 3, 1) := edX7_held_0.2.2.2.2.2.2.2.2.2.2.2.2.2.2.2.2.2.1
theorem dX7_held_28 : decode cX7_held 28 = .ok (.iload_n 3, 1) := edX7_held_0.2.2.2.2.2.2.2.2.2.2.2.2.2.2.2.2.2.2.1
theorem dX7_held_29 : decode cX7_held 29 = .ok (.aload_n 0, 1) := edX7_held_0.2.2.2.2.2.2.2.2.2.2.2.2.2.2.2.2.2.2.2.1
theorem dX7_held_30 : decode cX7_held 30 = .ok (.getfield 10, 3) := edX7_held_0.2.2.2.2.2.2.2.2.2.2.2.2.2.2.2.2.2.2.2.2.1
theorem dX7_held_33 : decode cX7_held 33 = .ok (.getfield 79, 3) := edX7_held_0.2.2.2.2.2.2.2.2.2.2.2.2.2.2.2.2.2.2.2.2.2.1
theorem dX7_held_36 : decode cX7_held 36 = .ok (.if_icmp .ge 24, 3) := edX7_held_0.2.2.2.2.2.2.2.2.2.2.2.2.2.2.2.2.2.2.2.2.2.2.1
theorem dX7_held_39 : decode cX7_held 39 = .ok (.aload_n 0, 1) := edX7_held_0.2.2.2.2.2.2.2.2.2.2.2.2.2.2.2.2.2.2.2.2.2.2.2.1
theorem dX7_held_40 : decode cX7_held 40 = .ok (.iload_n 3, 1) := edX7_held_0.2.2.2.2.2.2.2.2.2.2.2.2.2.2.2.2.2.2.2.2.2.2.2.2.1
theorem dX7_held_41 : decode cX7_held 41 = .ok (.iload_n 1, 1) := edX7_held_0.2.2.2.2.2.2.2.2.2.2.2.2.2.2.2.2.2.2.2.2.2.2.2.2.2.1
theorem dX7_held_42 : decode cX7_held 42 = .ok (.invokevirtual 201, 3) := edX7_held_0.2.2.2.2.2.2.2.2.2.2.2.2.2.2.2.2.2.2.2.2.2.2.2.2.2.2.1
theorem dX7_held_45 : decode cX7_held 45 = .ok (.ifCond .eq 9, 3) := edX7_held_0.2.2.2.2.2.2.2.2.2.2.2.2.2.2.2.2.2.2.2.2.2.2.2.2.2.2.2.1
theorem dX7_held_48 : decode cX7_held 48 = .ok (.iload_n 2, 1) := edX7_held_0.2.2.2.2.2.2.2.2.2.2.2.2.2.2.2.2.2.2.2.2.2.2.2.2.2.2.2.2.1
theorem dX7_held_49 : decode cX7_held 49 = .ok (.iconst 1, 1) := edX7_held_0.2.2.2.2.2.2.2.2.2.2.2.2.2.2.2.2.2.2.2.2.2.2.2.2.2.2.2.2.2.1
theorem dX7_held_50 : decode cX7_held 50 = .ok (.iload_n 3, 1) := edX7_held_0.2.2.2.2.2.2.2.2.2.2.2.2.2.2.2.2.2.2.2.2.2.2.2.2.2.2.2.2.2.2.1
theorem dX7_held_51 : decode cX7_held 51 = .ok (.ishl, 1) := edX7_held_0.2.2.2.2.2.2.2.2.2.2.2.2.2.2.2.2.2.2.2.2.2.2.2.2.2.2.2.2.2.2.2.1
theorem edX7_held_52 : (decode cX7_held 52 = .ok (.ior, 1)) ∧ (decode cX7_held 53 = .ok (.istore_n 2, 1)) ∧ (decode cX7_held 54 = .ok (.iinc 3 1, 3)) ∧ (decode cX7_held 57 = .ok (.goto (-29), 3)) ∧ (decode cX7_held 60 = .ok (.iload_n 2, 1)) ∧ (decode cX7_held 61 = .ok (.ireturn, 1)) ∧ True := dc_cj [(52, .ior, 1), (53, .istore_n 2, 1), (54, .iinc 3 1, 3), (57, .goto (-29), 3), (60, .iload_n 2, 1), (61, .ireturn, 1)] (by decide +kernel)
theorem dX7_held_52 : decode cX7_held 52 = .ok (.ior, 1) := edX7_held_52.1
theorem dX7_held_53 : decode cX7_held 53 = .ok (.istore_n 2, 1) := edX7_held_52.2.1
theorem dX7_held_54 : decode cX7_held 54 = .ok (.iinc 3 1, 3) := edX7_held_52.2.2.1
theorem dX7_held_57 : decode cX7_held 57 = .ok (.goto (-29), 3) := edX7_held_52.2.2.2.1
theorem dX7_held_60 : decode cX7_held 60 = .ok (.iload_n 2, 1) := edX7_held_52.2.2.2.2.1
theorem dX7_held_61 : decode cX7_held 61 = .ok (.ireturn, 1) := edX7_held_52.2.2.2.2.2.1
theorem edX7_peaceWithout_0 : (decode cX7_peaceWithout 0 = .ok (.aload_n 0, 1)) ∧ (decode cX7_peaceWithout 1 = .ok (.getfield 16, 3)) ∧ (decode cX7_peaceWithout 4 = .ok (.aload_n 0, 1)) ∧ (decode cX7_peaceWithout 5 = .ok (.getfield 10, 3)) ∧ (decode cX7_peaceWithout 8 = .ok (.invokevirtual 193, 3)) ∧ (decode cX7_peaceWithout 11 = .ok (.aload_n 0, 1)) ∧ (decode cX7_peaceWithout 12 = .ok (.getfield 16, 3)) ∧ (decode cX7_peaceWithout 15 = .ok (.iload_n 2, 1)) ∧ (decode cX7_peaceWithout 16 = .ok (.iload_n 1, 1)) ∧ (decode cX7_peaceWithout 17 = .ok (.invokevirtual 163, 3)) ∧ (decode cX7_peaceWithout 20 = .ok (.pop, 1)) ∧ (decode cX7_peaceWithout 21 = .ok (.aload_n 0, 1)) ∧ (decode cX7_peaceWithout 22 = .ok (.getfield 16, 3)) ∧ (decode cX7_peaceWithout 25 = .ok (.invokevirtual 169, 3)) ∧ (decode cX7_peaceWithout 28 = .ok (.ireturn, 1)) ∧ True := dc_cj [(0, .aload_n 0, 1), (1, .getfield 16, 3), (4, .aload_n 0, 1), (5, .getfield 10, 3), (8, .invokevirtual 193, 3), (11, .aload_n 0, 1), (12, .getfield 16, 3), (15, .iload_n 2, 1), (16, .iload_n 1, 1), (17, .invokevirtual 163, 3), (20, .pop, 1), (21, .aload_n 0, 1), (22, .getfield 16, 3), (25, .invokevirtual 169, 3), (28, .ireturn, 1)] (by decide +kernel)
theorem dX7_peaceWithout_0 : decode cX7_peaceWithout 0 = .ok (.aload_n 0, 1) := edX7_peaceWithout_0.1
theorem dX7_peaceWithout_1 : decode cX7_peaceWithout 1 = .ok (.getfield 16, 3) := edX7_peaceWithout_0.2.1
theorem dX7_peaceWithout_4 : decode cX7_peaceWithout 4 = .ok (.aload_n 0, 1) := edX7_peaceWithout_0.2.2.1
theorem dX7_peaceWithout_5 : decode cX7_peaceWithout 5 = .ok (.getfield 10, 3) := edX7_peaceWithout_0.2.2.2.1
theorem dX7_peaceWithout_8 : decode cX7_peaceWithout 8 = .ok (.invokevirtual 193, 3) := edX7_peaceWithout_0.2.2.2.2.1
theorem dX7_peaceWithout_11 : decode cX7_peaceWithout 11 = .ok (.aload_n 0, 1) := edX7_peaceWithout_0.2.2.2.2.2.1
theorem dX7_peaceWithout_12 : decode cX7_peaceWithout 12 = .ok (.getfield 16, 3) := edX7_peaceWithout_0.2.2.2.2.2.2.1
theorem dX7_peaceWithout_15 : decode cX7_peaceWithout 15 = .ok (.iload_n 2, 1) := edX7_peaceWithout_0.2.2.2.2.2.2.2.1
theorem dX7_peaceWithout_16 : decode cX7_peaceWithout 16 = .ok (.iload_n 1, 1) := edX7_peaceWithout_0.2.2.2.2.2.2.2.2.1
theorem dX7_peaceWithout_17 : decode cX7_peaceWithout 17 = .ok (.invokevirtual 163, 3) := edX7_peaceWithout_0.2.2.2.2.2.2.2.2.2.1
theorem dX7_peaceWithout_20 : decode cX7_peaceWithout 20 = .ok (.pop, 1) := edX7_peaceWithout_0.2.2.2.2.2.2.2.2.2.2.1
theorem dX7_peaceWithout_21 : decode cX7_peaceWithout 21 = .ok (.aload_n 0, 1) := edX7_peaceWithout_0.2.2.2.2.2.2.2.2.2.2.2.1
theorem dX7_peaceWithout_22 : decode cX7_peaceWithout 22 = .ok (.getfield 16, 3) := edX7_peaceWithout_0.2.2.2.2.2.2.2.2.2.2.2.2.1
theorem dX7_peaceWithout_25 : decode cX7_peaceWithout 25 = .ok (.invokevirtual 169, 3) := edX7_peaceWithout_0.2.2.2.2.2.2.2.2.2.2.2.2.2.1
theorem dX7_peaceWithout_28 : decode cX7_peaceWithout 28 = .ok (.ireturn, 1) := edX7_peaceWithout_0.2.2.2.2.2.2.2.2.2.2.2.2.2.2.1
theorem edX7_cool_0 : (decode cX7_cool 0 = .ok (.iload_n 1, 1)) ∧ (decode cX7_cool 1 = .ok (.iconst 1, 1)) ∧ (decode cX7_cool 2 = .ok (.bipush 40, 2)) ∧ (decode cX7_cool 4 = .ok (.invokestatic 74, 3)) ∧ (decode cX7_cool 7 = .ok (.ifCond .ne 6, 3)) ∧ (decode cX7_cool 10 = .ok (.ldc 78, 2)) ∧ (decode cX7_cool 12 = .ok (.ireturn, 1)) ∧ (decode cX7_cool 13 = .ok (.bipush 99, 2)) ∧ (decode cX7_cool 15 = .ok (.istore_n 2, 1)) ∧ (decode cX7_cool 16 = .ok (.iload_n 2, 1)) ∧ (decode cX7_cool 17 = .ok (.ifCond .lt 50, 3)) ∧ (decode cX7_cool 20 = .ok (.aload_n 0, 1)) ∧ (decode cX7_cool 21 = .ok (.getfield 16, 3)) ∧ (decode cX7_cool 24 = .ok (.aload_n 0, 1)) ∧ (decode cX7_cool 25 = .ok (.getfield 10, 3)) ∧ (decode cX7_cool 28 = .ok (.invokevirtual 193, 3)) ∧ (decode cX7_cool 31 = .ok (.aload_n 0, 1)) ∧ (decode cX7_cool 32 = .ok (.getfield 16, 3)) ∧ (decode cX7_cool 35 = .ok (.iload_n 2, 1)) ∧ (decode cX7_cool 36 = .ok (.putfield 139, 3)) ∧ (decode cX7_cool 39 = .ok (.aload_n 0, 1)) ∧ (decode cX7_cool 40 = .ok (.getfield 16, 3)) ∧ (decode cX7_cool 43 = .ok (.iload_n 1, 1)) ∧ (decode cX7_cool 44 = .ok (.iconst (-1), 1)) ∧ (decode cX7_cool 45 = .ok (.invokevirtual 163, 3)) ∧ (decode cX7_cool 48 = .ok (.pop, 1)) ∧ (decode cX7_cool 49 = .ok (.aload_n 0, 1)) ∧ (decode cX7_cool 50 = .ok (.getfield 16, 3)) ∧ (decode cX7_cool 53 = .ok (.invokevirtual 169, 3)) ∧ (decode cX7_cool 56 = .ok (.ifCond .eq 5, 3)) ∧ (decode cX7_cool 59 = .ok (.iload_n 2, 1)) ∧ (decode cX7_cool 60 = .ok (.ireturn, 1)) ∧ True := dc_cj [(0, .iload_n 1, 1), (1, .iconst 1, 1), (2, .bipush 40, 2), (4, .invokestatic 74, 3), (7, .ifCond .ne 6, 3), (10, .ldc 78, 2), (12, .ireturn, 1), (13, .bipush 99, 2), (15, .istore_n 2, 1), (16, .iload_n 2, 1), (17, .ifCond .lt 50, 3), (20, .aload_n 0, 1), (21, .getfield 16, 3), (24, .aload_n 0, 1), (25, .getfield 10, 3), (28, .invokevirtual 193, 3), (31, .aload_n 0, 1), (32, .getfield 16, 3), (35, .iload_n 2, 1), (36, .putfield 139, 3), (39, .aload_n 0, 1), (40, .getfield 16, 3), (43, .iload_n 1, 1), (44, .iconst (-1), 1), (45, .invokevirtual 163, 3), (48, .pop, 1), (49, .aload_n 0, 1), (50, .getfield 16, 3), (53, .invokevirtual 169, 3), (56, .ifCond .eq 5, 3), (59, .iload_n 2, 1), (60, .ireturn, 1)] (by decide +kernel)
theorem dX7_cool_0 : decode cX7_cool 0 = .ok (.iload_n 1, 1) := edX7_cool_0.1
theorem dX7_cool_1 : decode cX7_cool 1 = .ok (.iconst 1, 1) := edX7_cool_0.2.1
theorem dX7_cool_2 : decode cX7_cool 2 = .ok (.bipush 40, 2) := edX7_cool_0.2.2.1
theorem dX7_cool_4 : decode cX7_cool 4 = .ok (.invokestatic 74, 3) := edX7_cool_0.2.2.2.1
theorem dX7_cool_7 : decode cX7_cool 7 = .ok (.ifCond .ne 6, 3) := edX7_cool_0.2.2.2.2.1
theorem dX7_cool_10 : decode cX7_cool 10 = .ok (.ldc 78, 2) := edX7_cool_0.2.2.2.2.2.1
theorem dX7_cool_12 : decode cX7_cool 12 = .ok (.ireturn, 1) := edX7_cool_0.2.2.2.2.2.2.1
theorem dX7_cool_13 : decode cX7_cool 13 = .ok (.bipush 99, 2) := edX7_cool_0.2.2.2.2.2.2.2.1
theorem dX7_cool_15 : decode cX7_cool 15 = .ok (.istore_n 2, 1) := edX7_cool_0.2.2.2.2.2.2.2.2.1
theorem dX7_cool_16 : decode cX7_cool 16 = .ok (.iload_n 2, 1) := edX7_cool_0.2.2.2.2.2.2.2.2.2.1
theorem dX7_cool_17 : decode cX7_cool 17 = .ok (.ifCond .lt 50, 3) := edX7_cool_0.2.2.2.2.2.2.2.2.2.2.1
theorem dX7_cool_20 : decode cX7_cool 20 = .ok (.aload_n 0, 1) := edX7_cool_0.2.2.2.2.2.2.2.2.2.2.2.1
theorem dX7_cool_21 : decode cX7_cool 21 = .ok (.getfield 16, 3) := edX7_cool_0.2.2.2.2.2.2.2.2.2.2.2.2.1
theorem dX7_cool_24 : decode cX7_cool 24 = .ok (.aload_n 0, 1) := edX7_cool_0.2.2.2.2.2.2.2.2.2.2.2.2.2.1
theorem dX7_cool_25 : decode cX7_cool 25 = .ok (.getfield 10, 3) := edX7_cool_0.2.2.2.2.2.2.2.2.2.2.2.2.2.2.1
theorem dX7_cool_28 : decode cX7_cool 28 = .ok (.invokevirtual 193, 3) := edX7_cool_0.2.2.2.2.2.2.2.2.2.2.2.2.2.2.2.1
theorem dX7_cool_31 : decode cX7_cool 31 = .ok (.aload_n 0, 1) := edX7_cool_0.2.2.2.2.2.2.2.2.2.2.2.2.2.2.2.2.1
theorem dX7_cool_32 : decode cX7_cool 32 = .ok (.getfield 16, 3) := edX7_cool_0.2.2.2.2.2.2.2.2.2.2.2.2.2.2.2.2.2.1
theorem dX7_cool_35 : decode cX7_cool 35 = .ok (.iload_n 2, 1) := edX7_cool_0.2.2.2.2.2.2.2.2.2.2.2.2.2.2.2.2.2.2.1
theorem dX7_cool_36 : decode cX7_cool 36 = .ok (.putfield 139, 3) := edX7_cool_0.2.2.2.2.2.2.2.2.2.2.2.2.2.2.2.2.2.2.2.1
theorem dX7_cool_39 : decode cX7_cool 39 = .ok (.aload_n 0, 1) := edX7_cool_0.2.2.2.2.2.2.2.2.2.2.2.2.2.2.2.2.2.2.2.2.1
theorem dX7_cool_40 : decode cX7_cool 40 = .ok (.getfield 16, 3) := edX7_cool_0.2.2.2.2.2.2.2.2.2.2.2.2.2.2.2.2.2.2.2.2.2.1
theorem dX7_cool_43 : decode cX7_cool 43 = .ok (.iload_n 1, 1) := edX7_cool_0.2.2.2.2.2.2.2.2.2.2.2.2.2.2.2.2.2.2.2.2.2.2.1
theorem dX7_cool_44 : decode cX7_cool 44 = .ok (.iconst (-1), 1) := edX7_cool_0.2.2.2.2.2.2.2.2.2.2.2.2.2.2.2.2.2.2.2.2.2.2.2.1
theorem dX7_cool_45 : decode cX7_cool 45 = .ok (.invokevirtual 163, 3) := edX7_cool_0.2.2.2.2.2.2.2.2.2.2.2.2.2.2.2.2.2.2.2.2.2.2.2.2.1
theorem dX7_cool_48 : decode cX7_cool 48 = .ok (.pop, 1) := edX7_cool_0.2.2.2.2.2.2.2.2.2.2.2.2.2.2.2.2.2.2.2.2.2.2.2.2.2.1
theorem dX7_cool_49 : decode cX7_cool 49 = .ok (.aload_n 0, 1) := edX7_cool_0.2.2.2.2.2.2.2.2.2.2.2.2.2.2.2.2.2.2.2.2.2.2.2.2.2.2.1
theorem dX7_cool_50 : decode cX7_cool 50 = .ok (.getfield 16, 3) := edX7_cool_0.2.2.2.2.2.2.2.2.2.2.2.2.2.2.2.2.2.2.2.2.2.2.2.2.2.2.2.1
theorem dX7_cool_53 : decode cX7_cool 53 = .ok (.invokevirtual 169, 3) := edX7_cool_0.2.2.2.2.2.2.2.2.2.2.2.2.2.2.2.2.2.2.2.2.2.2.2.2.2.2.2.2.1
theorem dX7_cool_56 : decode cX7_cool 56 = .ok (.ifCond .eq 5, 3) := edX7_cool_0.2.2.2.2.2.2.2.2.2.2.2.2.2.2.2.2.2.2.2.2.2.2.2.2.2.2.2.2.2.1
theorem dX7_cool_59 : decode cX7_cool 59 = .ok (.iload_n 2, 1) := edX7_cool_0.2.2.2.2.2.2.2.2.2.2.2.2.2.2.2.2.2.2.2.2.2.2.2.2.2.2.2.2.2.2.1
theorem dX7_cool_60 : decode cX7_cool 60 = .ok (.ireturn, 1) := edX7_cool_0.2.2.2.2.2.2.2.2.2.2.2.2.2.2.2.2.2.2.2.2.2.2.2.2.2.2.2.2.2.2.2.1
theorem edX7_cool_61 : (decode cX7_cool 61 = .ok (.iinc 2 (-1), 3)) ∧ (decode cX7_cool 64 = .ok (.goto (-48), 3)) ∧ (decode cX7_cool 67 = .ok (.ldc 200, 2)) ∧ (decode cX7_cool 69 = .ok (.ireturn, 1)) ∧ True := dc_cj [(61, .iinc 2 (-1), 3), (64, .goto (-48), 3), (67, .ldc 200, 2), (69, .ireturn, 1)] (by decide +kernel)
theorem dX7_cool_61 : decode cX7_cool 61 = .ok (.iinc 2 (-1), 3) := edX7_cool_61.1
theorem dX7_cool_64 : decode cX7_cool 64 = .ok (.goto (-48), 3) := edX7_cool_61.2.1
theorem dX7_cool_67 : decode cX7_cool 67 = .ok (.ldc 200, 2) := edX7_cool_61.2.2.1
theorem dX7_cool_69 : decode cX7_cool 69 = .ok (.ireturn, 1) := edX7_cool_61.2.2.2.1
theorem edX7_bought_0 : (decode cX7_bought 0 = .ok (.iload_n 1, 1)) ∧ (decode cX7_bought 1 = .ok (.iconst 1, 1)) ∧ (decode cX7_bought 2 = .ok (.bipush 60, 2)) ∧ (decode cX7_bought 4 = .ok (.invokestatic 74, 3)) ∧ (decode cX7_bought 7 = .ok (.ifCond .eq 12, 3)) ∧ (decode cX7_bought 10 = .ok (.iload_n 2, 1)) ∧ (decode cX7_bought 11 = .ok (.iconst 0, 1)) ∧ (decode cX7_bought 12 = .ok (.iconst 1, 1)) ∧ (decode cX7_bought 13 = .ok (.invokestatic 74, 3)) ∧ (decode cX7_bought 16 = .ok (.ifCond .ne 6, 3)) ∧ (decode cX7_bought 19 = .ok (.ldc 78, 2)) ∧ (decode cX7_bought 21 = .ok (.ireturn, 1)) ∧ (decode cX7_bought 22 = .ok (.ldc 200, 2)) ∧ (decode cX7_bought 24 = .ok (.istore_n 3, 1)) ∧ (decode cX7_bought 25 = .ok (.ldc 200, 2)) ∧ (decode cX7_bought 27 = .ok (.istore 4, 2)) ∧ (decode cX7_bought 29 = .ok (.iconst 0, 1)) ∧ (decode cX7_bought 30 = .ok (.istore 5, 2)) ∧ (decode cX7_bought 32 = .ok (.iload 5, 2)) ∧ (decode cX7_bought 34 = .ok (.aload_n 0, 1)) ∧ (decode cX7_bought 35 = .ok (.getfield 10, 3)) ∧ (decode cX7_bought 38 = .ok (.getfield 79, 3)) ∧ (decode cX7_bought 41 = .ok (.if_icmp .ge 80, 3)) ∧ (decode cX7_bought 44 = .ok (.aload_n 0, 1)) ∧ (decode cX7_bought 45 = .ok (.getfield 16, 3)) ∧ (decode cX7_bought 48 = .ok (.aload_n 0, 1)) ∧ (decode cX7_bought 49 = .ok (.getfield 10, 3)) ∧ (decode cX7_bought 52 = .ok (.invokevirtual 193, 3)) ∧ (decode cX7_bought 55 = .ok (.aload_n 0, 1)) ∧ (decode cX7_bought 56 = .ok (.getfield 16, 3)) ∧ (decode cX7_bought 59 = .ok (.getfield 90, 3)) ∧ (decode cX7_bought 62 = .ok (.iload 5, 2)) ∧ True := dc_cj [(0, .iload_n 1, 1), (1, .iconst 1, 1), (2, .bipush 60, 2), (4, .invokestatic 74, 3), (7, .ifCond .eq 12, 3), (10, .iload_n 2, 1), (11, .iconst 0, 1), (12, .iconst 1, 1), (13, .invokestatic 74, 3), (16, .ifCond .ne 6, 3), (19, .ldc 78, 2), (21, .ireturn, 1), (22, .ldc 200, 2), (24, .istore_n 3, 1), (25, .ldc 200, 2), (27, .istore 4, 2), (29, .iconst 0, 1), (30, .istore 5, 2), (32, .iload 5, 2), (34, .aload_n 0, 1), (35, .getfield 10, 3), (38, .getfield 79, 3), (41, .if_icmp .ge 80, 3), (44, .aload_n 0, 1), (45, .getfield 16, 3), (48, .aload_n 0, 1), (49, .getfield 10, 3), (52, .invokevirtual 193, 3), (55, .aload_n 0, 1), (56, .getfield 16, 3), (59, .getfield 90, 3), (62, .iload 5, 2)] (by decide +kernel)
theorem dX7_bought_0 : decode cX7_bought 0 = .ok (.iload_n 1, 1) := edX7_bought_0.1
theorem dX7_bought_1 : decode cX7_bought 1 = .ok (.iconst 1, 1) := edX7_bought_0.2.1
theorem dX7_bought_2 : decode cX7_bought 2 = .ok (.bipush 60, 2) := edX7_bought_0.2.2.1
theorem dX7_bought_4 : decode cX7_bought 4 = .ok (.invokestatic 74, 3) := edX7_bought_0.2.2.2.1
theorem dX7_bought_7 : decode cX7_bought 7 = .ok (.ifCond .eq 12, 3) := edX7_bought_0.2.2.2.2.1
theorem dX7_bought_10 : decode cX7_bought 10 = .ok (.iload_n 2, 1) := edX7_bought_0.2.2.2.2.2.1
theorem dX7_bought_11 : decode cX7_bought 11 = .ok (.iconst 0, 1) := edX7_bought_0.2.2.2.2.2.2.1
theorem dX7_bought_12 : decode cX7_bought 12 = .ok (.iconst 1, 1) := edX7_bought_0.2.2.2.2.2.2.2.1
theorem dX7_bought_13 : decode cX7_bought 13 = .ok (.invokestatic 74, 3) := edX7_bought_0.2.2.2.2.2.2.2.2.1
theorem dX7_bought_16 : decode cX7_bought 16 = .ok (.ifCond .ne 6, 3) := edX7_bought_0.2.2.2.2.2.2.2.2.2.1
theorem dX7_bought_19 : decode cX7_bought 19 = .ok (.ldc 78, 2) := edX7_bought_0.2.2.2.2.2.2.2.2.2.2.1
theorem dX7_bought_21 : decode cX7_bought 21 = .ok (.ireturn, 1) := edX7_bought_0.2.2.2.2.2.2.2.2.2.2.2.1
theorem dX7_bought_22 : decode cX7_bought 22 = .ok (.ldc 200, 2) := edX7_bought_0.2.2.2.2.2.2.2.2.2.2.2.2.1
theorem dX7_bought_24 : decode cX7_bought 24 = .ok (.istore_n 3, 1) := edX7_bought_0.2.2.2.2.2.2.2.2.2.2.2.2.2.1
theorem dX7_bought_25 : decode cX7_bought 25 = .ok (.ldc 200, 2) := edX7_bought_0.2.2.2.2.2.2.2.2.2.2.2.2.2.2.1
theorem dX7_bought_27 : decode cX7_bought 27 = .ok (.istore 4, 2) := edX7_bought_0.2.2.2.2.2.2.2.2.2.2.2.2.2.2.2.1
theorem dX7_bought_29 : decode cX7_bought 29 = .ok (.iconst 0, 1) := edX7_bought_0.2.2.2.2.2.2.2.2.2.2.2.2.2.2.2.2.1
theorem dX7_bought_30 : decode cX7_bought 30 = .ok (.istore 5, 2) := edX7_bought_0.2.2.2.2.2.2.2.2.2.2.2.2.2.2.2.2.2.1
theorem dX7_bought_32 : decode cX7_bought 32 = .ok (.iload 5, 2) := edX7_bought_0.2.2.2.2.2.2.2.2.2.2.2.2.2.2.2.2.2.2.1
theorem dX7_bought_34 : decode cX7_bought 34 = .ok (.aload_n 0, 1) := edX7_bought_0.2.2.2.2.2.2.2.2.2.2.2.2.2.2.2.2.2.2.2.1
theorem dX7_bought_35 : decode cX7_bought 35 = .ok (.getfield 10, 3) := edX7_bought_0.2.2.2.2.2.2.2.2.2.2.2.2.2.2.2.2.2.2.2.2.1
theorem dX7_bought_38 : decode cX7_bought 38 = .ok (.getfield 79, 3) := edX7_bought_0.2.2.2.2.2.2.2.2.2.2.2.2.2.2.2.2.2.2.2.2.2.1
theorem dX7_bought_41 : decode cX7_bought 41 = .ok (.if_icmp .ge 80, 3) := edX7_bought_0.2.2.2.2.2.2.2.2.2.2.2.2.2.2.2.2.2.2.2.2.2.2.1
theorem dX7_bought_44 : decode cX7_bought 44 = .ok (.aload_n 0, 1) := edX7_bought_0.2.2.2.2.2.2.2.2.2.2.2.2.2.2.2.2.2.2.2.2.2.2.2.1
theorem dX7_bought_45 : decode cX7_bought 45 = .ok (.getfield 16, 3) := edX7_bought_0.2.2.2.2.2.2.2.2.2.2.2.2.2.2.2.2.2.2.2.2.2.2.2.2.1
theorem dX7_bought_48 : decode cX7_bought 48 = .ok (.aload_n 0, 1) := edX7_bought_0.2.2.2.2.2.2.2.2.2.2.2.2.2.2.2.2.2.2.2.2.2.2.2.2.2.1
theorem dX7_bought_49 : decode cX7_bought 49 = .ok (.getfield 10, 3) := edX7_bought_0.2.2.2.2.2.2.2.2.2.2.2.2.2.2.2.2.2.2.2.2.2.2.2.2.2.2.1
theorem dX7_bought_52 : decode cX7_bought 52 = .ok (.invokevirtual 193, 3) := edX7_bought_0.2.2.2.2.2.2.2.2.2.2.2.2.2.2.2.2.2.2.2.2.2.2.2.2.2.2.2.1
theorem dX7_bought_55 : decode cX7_bought 55 = .ok (.aload_n 0, 1) := edX7_bought_0.2.2.2.2.2.2.2.2.2.2.2.2.2.2.2.2.2.2.2.2.2.2.2.2.2.2.2.2.1
theorem dX7_bought_56 : decode cX7_bought 56 = .ok (.getfield 16, 3) := edX7_bought_0.2.2.2.2.2.2.2.2.2.2.2.2.2.2.2.2.2.2.2.2.2.2.2.2.2.2.2.2.2.1
theorem dX7_bought_59 : decode cX7_bought 59 = .ok (.getfield 90, 3) := edX7_bought_0.2.2.2.2.2.2.2.2.2.2.2.2.2.2.2.2.2.2.2.2.2.2.2.2.2.2.2.2.2.2.1
theorem dX7_bought_62 : decode cX7_bought 62 = .ok (.iload 5, 2) := edX7_bought_0.2.2.2.2.2.2.2.2.2.2.2.2.2.2.2.2.2.2.2.2.2.2.2.2.2.2.2.2.2.2.2.1
theorem edX7_bought_64 : (decode cX7_bought 64 = .ok (.iconst 5, 1)) ∧ (decode cX7_bought 65 = .ok (.iastore, 1)) ∧ (decode cX7_bought 66 = .ok (.aload_n 0, 1)) ∧ (decode cX7_bought 67 = .ok (.getfield 16, 3)) ∧ (decode cX7_bought 70 = .ok (.iload_n 1, 1)) ∧ (decode cX7_bought 71 = .ok (.iconst (-1), 1)) ∧ (decode cX7_bought 72 = .ok (.invokevirtual 163, 3)) ∧ (decode cX7_bought 75 = .ok (.pop, 1)) ∧ (decode cX7_bought 76 = .ok (.aload_n 0, 1)) ∧ (decode cX7_bought 77 = .ok (.getfield 16, 3)) ∧ (decode cX7_bought 80 = .ok (.aload_n 0, 1)) ∧ (decode cX7_bought 81 = .ok (.getfield 16, 3)) ∧ (decode cX7_bought 84 = .ok (.getfield 93, 3)) ∧ (decode cX7_bought 87 = .ok (.iload 5, 2)) ∧ (decode cX7_bought 89 = .ok (.iaload, 1)) ∧ (decode cX7_bought 90 = .ok (.invokevirtual 166, 3)) ∧ (decode cX7_bought 93 = .ok (.istore 6, 2)) ∧ (decode cX7_bought 95 = .ok (.iload_n 3, 1)) ∧ (decode cX7_bought 96 = .ok (.ldc 200, 2)) ∧ (decode cX7_bought 98 = .ok (.if_icmp .eq 10, 3)) ∧ (decode cX7_bought 101 = .ok (.iload 6, 2)) ∧ (decode cX7_bought 103 = .ok (.iload 4, 2)) ∧ (decode cX7_bought 105 = .ok (.if_icmp .ge 10, 3)) ∧ (decode cX7_bought 108 = .ok (.iload 5, 2)) ∧ (decode cX7_bought 110 = .ok (.istore_n 3, 1)) ∧ (decode cX7_bought 111 = .ok (.iload 6, 2)) ∧ (decode cX7_bought 113 = .ok (.istore 4, 2)) ∧ (decode cX7_bought 115 = .ok (.iinc 5 1, 3)) ∧ (decode cX7_bought 118 = .ok (.goto (-86), 3)) ∧ (decode cX7_bought 121 = .ok (.iload_n 2, 1)) ∧ (decode cX7_bought 122 = .ok (.ifCond .ne 7, 3)) ∧ (decode cX7_bought 125 = .ok (.iload_n 3, 1)) ∧ True := dc_cj [(64, .iconst 5, 1), (65, .iastore, 1), (66, .aload_n 0, 1), (67, .getfield 16, 3), (70, .iload_n 1, 1), (71, .iconst (-1), 1), (72, .invokevirtual 163, 3), (75, .pop, 1), (76, .aload_n 0, 1), (77, .getfield 16, 3), (80, .aload_n 0, 1), (81, .getfield 16, 3), (84, .getfield 93, 3), (87, .iload 5, 2), (89, .iaload, 1), (90, .invokevirtual 166, 3), (93, .istore 6, 2), (95, .iload_n 3, 1), (96, .ldc 200, 2), (98, .if_icmp .eq 10, 3), (101, .iload 6, 2), (103, .iload 4, 2), (105, .if_icmp .ge 10, 3), (108, .iload 5, 2), (110, .istore_n 3, 1), (111, .iload 6, 2), (113, .istore 4, 2), (115, .iinc 5 1, 3), (118, .goto (-86), 3), (121, .iload_n 2, 1), (122, .ifCond .ne 7, 3), (125, .iload_n 3, 1)] (by decide +kernel)
theorem dX7_bought_64 : decode cX7_bought 64 = .ok (.iconst 5, 1) := edX7_bought_64.1
theorem dX7_bought_65 : decode cX7_bought 65 = .ok (.iastore, 1) := edX7_bought_64.2.1
theorem dX7_bought_66 : decode cX7_bought 66 = .ok (.aload_n 0, 1) := edX7_bought_64.2.2.1
theorem dX7_bought_67 : decode cX7_bought 67 = .ok (.getfield 16, 3) := edX7_bought_64.2.2.2.1
theorem dX7_bought_70 : decode cX7_bought 70 = .ok (.iload_n 1, 1) := edX7_bought_64.2.2.2.2.1
theorem dX7_bought_71 : decode cX7_bought 71 = .ok (.iconst (-1), 1) := edX7_bought_64.2.2.2.2.2.1
theorem dX7_bought_72 : decode cX7_bought 72 = .ok (.invokevirtual 163, 3) := edX7_bought_64.2.2.2.2.2.2.1
theorem dX7_bought_75 : decode cX7_bought 75 = .ok (.pop, 1) := edX7_bought_64.2.2.2.2.2.2.2.1
theorem dX7_bought_76 : decode cX7_bought 76 = .ok (.aload_n 0, 1) := edX7_bought_64.2.2.2.2.2.2.2.2.1
theorem dX7_bought_77 : decode cX7_bought 77 = .ok (.getfield 16, 3) := edX7_bought_64.2.2.2.2.2.2.2.2.2.1
theorem dX7_bought_80 : decode cX7_bought 80 = .ok (.aload_n 0, 1) := edX7_bought_64.2.2.2.2.2.2.2.2.2.2.1
theorem dX7_bought_81 : decode cX7_bought 81 = .ok (.getfield 16, 3) := edX7_bought_64.2.2.2.2.2.2.2.2.2.2.2.1
theorem dX7_bought_84 : decode cX7_bought 84 = .ok (.getfield 93, 3) := edX7_bought_64.2.2.2.2.2.2.2.2.2.2.2.2.1
theorem dX7_bought_87 : decode cX7_bought 87 = .ok (.iload 5, 2) := edX7_bought_64.2.2.2.2.2.2.2.2.2.2.2.2.2.1
theorem dX7_bought_89 : decode cX7_bought 89 = .ok (.iaload, 1) := edX7_bought_64.2.2.2.2.2.2.2.2.2.2.2.2.2.2.1
theorem dX7_bought_90 : decode cX7_bought 90 = .ok (.invokevirtual 166, 3) := edX7_bought_64.2.2.2.2.2.2.2.2.2.2.2.2.2.2.2.1
theorem dX7_bought_93 : decode cX7_bought 93 = .ok (.istore 6, 2) := edX7_bought_64.2.2.2.2.2.2.2.2.2.2.2.2.2.2.2.2.1
theorem dX7_bought_95 : decode cX7_bought 95 = .ok (.iload_n 3, 1) := edX7_bought_64.2.2.2.2.2.2.2.2.2.2.2.2.2.2.2.2.2.1
theorem dX7_bought_96 : decode cX7_bought 96 = .ok (.ldc 200, 2) := edX7_bought_64.2.2.2.2.2.2.2.2.2.2.2.2.2.2.2.2.2.2.1
theorem dX7_bought_98 : decode cX7_bought 98 = .ok (.if_icmp .eq 10, 3) := edX7_bought_64.2.2.2.2.2.2.2.2.2.2.2.2.2.2.2.2.2.2.2.1
theorem dX7_bought_101 : decode cX7_bought 101 = .ok (.iload 6, 2) := edX7_bought_64.2.2.2.2.2.2.2.2.2.2.2.2.2.2.2.2.2.2.2.2.1
theorem dX7_bought_103 : decode cX7_bought 103 = .ok (.iload 4, 2) := edX7_bought_64.2.2.2.2.2.2.2.2.2.2.2.2.2.2.2.2.2.2.2.2.2.1
theorem dX7_bought_105 : decode cX7_bought 105 = .ok (.if_icmp .ge 10, 3) := edX7_bought_64.2.2.2.2.2.2.2.2.2.2.2.2.2.2.2.2.2.2.2.2.2.2.1
theorem dX7_bought_108 : decode cX7_bought 108 = .ok (.iload 5, 2) := edX7_bought_64.2.2.2.2.2.2.2.2.2.2.2.2.2.2.2.2.2.2.2.2.2.2.2.1
theorem dX7_bought_110 : decode cX7_bought 110 = .ok (.istore_n 3, 1) := edX7_bought_64.2.2.2.2.2.2.2.2.2.2.2.2.2.2.2.2.2.2.2.2.2.2.2.2.1
theorem dX7_bought_111 : decode cX7_bought 111 = .ok (.iload 6, 2) := edX7_bought_64.2.2.2.2.2.2.2.2.2.2.2.2.2.2.2.2.2.2.2.2.2.2.2.2.2.1
theorem dX7_bought_113 : decode cX7_bought 113 = .ok (.istore 4, 2) := edX7_bought_64.2.2.2.2.2.2.2.2.2.2.2.2.2.2.2.2.2.2.2.2.2.2.2.2.2.2.1
theorem dX7_bought_115 : decode cX7_bought 115 = .ok (.iinc 5 1, 3) := edX7_bought_64.2.2.2.2.2.2.2.2.2.2.2.2.2.2.2.2.2.2.2.2.2.2.2.2.2.2.2.1
theorem dX7_bought_118 : decode cX7_bought 118 = .ok (.goto (-86), 3) := edX7_bought_64.2.2.2.2.2.2.2.2.2.2.2.2.2.2.2.2.2.2.2.2.2.2.2.2.2.2.2.2.1
theorem dX7_bought_121 : decode cX7_bought 121 = .ok (.iload_n 2, 1) := edX7_bought_64.2.2.2.2.2.2.2.2.2.2.2.2.2.2.2.2.2.2.2.2.2.2.2.2.2.2.2.2.2.1
theorem dX7_bought_122 : decode cX7_bought 122 = .ok (.ifCond .ne 7, 3) := edX7_bought_64.2.2.2.2.2.2.2.2.2.2.2.2.2.2.2.2.2.2.2.2.2.2.2.2.2.2.2.2.2.2.1
theorem dX7_bought_125 : decode cX7_bought 125 = .ok (.iload_n 3, 1) := edX7_bought_64.2.2.2.2.2.2.2.2.2.2.2.2.2.2.2.2.2.2.2.2.2.2.2.2.2.2.2.2.2.2.2.1
theorem edX7_bought_126 : (decode cX7_bought 126 = .ok (.goto 5, 3)) ∧ (decode cX7_bought 129 = .ok (.iload 4, 2)) ∧ (decode cX7_bought 131 = .ok (.ireturn, 1)) ∧ True := dc_cj [(126, .goto 5, 3), (129, .iload 4, 2), (131, .ireturn, 1)] (by decide +kernel)
theorem dX7_bought_126 : decode cX7_bought 126 = .ok (.goto 5, 3) := edX7_bought_126.1
theorem dX7_bought_129 : decode cX7_bought 129 = .ok (.iload 4, 2) := edX7_bought_126.2.1
theorem dX7_bought_131 : decode cX7_bought 131 = .ok (.ireturn, 1) := edX7_bought_126.2.2.1
theorem edX7_cared_0 : (decode cX7_cared 0 = .ok (.iload_n 1, 1)) ∧ (decode cX7_cared 1 = .ok (.invokestatic 204, 3)) ∧ (decode cX7_cared 4 = .ok (.ifCond .eq 19, 3)) ∧ (decode cX7_cared 7 = .ok (.iload_n 2, 1)) ∧ (decode cX7_cared 8 = .ok (.invokestatic 71, 3)) ∧ (decode cX7_cared 11 = .ok (.ifCond .eq 12, 3)) ∧ (decode cX7_cared 14 = .ok (.iload_n 3, 1)) ∧ (decode cX7_cared 15 = .ok (.iconst 0, 1)) ∧ (decode cX7_cared 16 = .ok (.iconst 1, 1)) ∧ (decode cX7_cared 17 = .ok (.invokestatic 74, 3)) ∧ (decode cX7_cared 20 = .ok (.ifCond .ne 6, 3)) ∧ (decode cX7_cared 23 = .ok (.ldc 78, 2)) ∧ (decode cX7_cared 25 = .ok (.ireturn, 1)) ∧ (decode cX7_cared 26 = .ok (.aload_n 0, 1)) ∧ (decode cX7_cared 27 = .ok (.getfield 47, 3)) ∧ (decode cX7_cared 30 = .ok (.iload_n 1, 1)) ∧ (decode cX7_cared 31 = .ok (.aaload, 1)) ∧ (decode cX7_cared 32 = .ok (.astore 4, 2)) ∧ (decode cX7_cared 34 = .ok (.aload 4, 2)) ∧ (decode cX7_cared 36 = .ok (.invokevirtual 207, 3)) ∧ (decode cX7_cared 39 = .ok (.ifCond .eq 6, 3)) ∧ (decode cX7_cared 42 = .ok (.ldc 210, 2)) ∧ (decode cX7_cared 44 = .ok (.ireturn, 1)) ∧ (decode cX7_cared 45 = .ok (.ldc 200, 2)) ∧ (decode cX7_cared 47 = .ok (.istore 5, 2)) ∧ (decode cX7_cared 49 = .ok (.ldc 200, 2)) ∧ (decode cX7_cared 51 = .ok (.istore 6, 2)) ∧ (decode cX7_cared 53 = .ok (.iconst 0, 1)) ∧ (decode cX7_cared 54 = .ok (.istore 7, 2)) ∧ (decode cX7_cared 56 = .ok (.iload 7, 2)) ∧ (decode cX7_cared 58 = .ok (.iconst 4, 1)) ∧ (decode cX7_cared 59 = .ok (.if_icmp .ge 76, 3)) ∧ True := dc_cj [(0, .iload_n 1, 1), (1, .invokestatic 204, 3), (4, .ifCond .eq 19, 3), (7, .iload_n 2, 1), (8, .invokestatic 71, 3), (11, .ifCond .eq 12, 3), (14, .iload_n 3, 1), (15, .iconst 0, 1), (16, .iconst 1, 1), (17, .invokestatic 74, 3), (20, .ifCond .ne 6, 3), (23, .ldc 78, 2), (25, .ireturn, 1), (26, .aload_n 0, 1), (27, .getfield 47, 3), (30, .iload_n 1, 1), (31, .aaload, 1), (32, .astore 4, 2), (34, .aload 4, 2), (36, .invokevirtual 207, 3), (39, .ifCond .eq 6, 3), (42, .ldc 210, 2), (44, .ireturn, 1), (45, .ldc 200, 2), (47, .istore 5, 2), (49, .ldc 200, 2), (51, .istore 6, 2), (53, .iconst 0, 1), (54, .istore 7, 2), (56, .iload 7, 2), (58, .iconst 4, 1), (59, .if_icmp .ge 76, 3)] (by decide +kernel)
theorem dX7_cared_0 : decode cX7_cared 0 = .ok (.iload_n 1, 1) := edX7_cared_0.1
theorem dX7_cared_1 : decode cX7_cared 1 = .ok (.invokestatic 204, 3) := edX7_cared_0.2.1
theorem dX7_cared_4 : decode cX7_cared 4 = .ok (.ifCond .eq 19, 3) := edX7_cared_0.2.2.1
theorem dX7_cared_7 : decode cX7_cared 7 = .ok (.iload_n 2, 1) := edX7_cared_0.2.2.2.1
theorem dX7_cared_8 : decode cX7_cared 8 = .ok (.invokestatic 71, 3) := edX7_cared_0.2.2.2.2.1
theorem dX7_cared_11 : decode cX7_cared 11 = .ok (.ifCond .eq 12, 3) := edX7_cared_0.2.2.2.2.2.1
theorem dX7_cared_14 : decode cX7_cared 14 = .ok (.iload_n 3, 1) := edX7_cared_0.2.2.2.2.2.2.1
theorem dX7_cared_15 : decode cX7_cared 15 = .ok (.iconst 0, 1) := edX7_cared_0.2.2.2.2.2.2.2.1
theorem dX7_cared_16 : decode cX7_cared 16 = .ok (.iconst 1, 1) := edX7_cared_0.2.2.2.2.2.2.2.2.1
theorem dX7_cared_17 : decode cX7_cared 17 = .ok (.invokestatic 74, 3) := edX7_cared_0.2.2.2.2.2.2.2.2.2.1
theorem dX7_cared_20 : decode cX7_cared 20 = .ok (.ifCond .ne 6, 3) := edX7_cared_0.2.2.2.2.2.2.2.2.2.2.1
theorem dX7_cared_23 : decode cX7_cared 23 = .ok (.ldc 78, 2) := edX7_cared_0.2.2.2.2.2.2.2.2.2.2.2.1
theorem dX7_cared_25 : decode cX7_cared 25 = .ok (.ireturn, 1) := edX7_cared_0.2.2.2.2.2.2.2.2.2.2.2.2.1
theorem dX7_cared_26 : decode cX7_cared 26 = .ok (.aload_n 0, 1) := edX7_cared_0.2.2.2.2.2.2.2.2.2.2.2.2.2.1
theorem dX7_cared_27 : decode cX7_cared 27 = .ok (.getfield 47, 3) := edX7_cared_0.2.2.2.2.2.2.2.2.2.2.2.2.2.2.1
theorem dX7_cared_30 : decode cX7_cared 30 = .ok (.iload_n 1, 1) := edX7_cared_0.2.2.2.2.2.2.2.2.2.2.2.2.2.2.2.1
theorem dX7_cared_31 : decode cX7_cared 31 = .ok (.aaload, 1) := edX7_cared_0.2.2.2.2.2.2.2.2.2.2.2.2.2.2.2.2.1
theorem dX7_cared_32 : decode cX7_cared 32 = .ok (.astore 4, 2) := edX7_cared_0.2.2.2.2.2.2.2.2.2.2.2.2.2.2.2.2.2.1
theorem dX7_cared_34 : decode cX7_cared 34 = .ok (.aload 4, 2) := edX7_cared_0.2.2.2.2.2.2.2.2.2.2.2.2.2.2.2.2.2.2.1
theorem dX7_cared_36 : decode cX7_cared 36 = .ok (.invokevirtual 207, 3) := edX7_cared_0.2.2.2.2.2.2.2.2.2.2.2.2.2.2.2.2.2.2.2.1
theorem dX7_cared_39 : decode cX7_cared 39 = .ok (.ifCond .eq 6, 3) := edX7_cared_0.2.2.2.2.2.2.2.2.2.2.2.2.2.2.2.2.2.2.2.2.1
theorem dX7_cared_42 : decode cX7_cared 42 = .ok (.ldc 210, 2) := edX7_cared_0.2.2.2.2.2.2.2.2.2.2.2.2.2.2.2.2.2.2.2.2.2.1
theorem dX7_cared_44 : decode cX7_cared 44 = .ok (.ireturn, 1) := edX7_cared_0.2.2.2.2.2.2.2.2.2.2.2.2.2.2.2.2.2.2.2.2.2.2.1
theorem dX7_cared_45 : decode cX7_cared 45 = .ok (.ldc 200, 2) := edX7_cared_0.2.2.2.2.2.2.2.2.2.2.2.2.2.2.2.2.2.2.2.2.2.2.2.1
theorem dX7_cared_47 : decode cX7_cared 47 = .ok (.istore 5, 2) := edX7_cared_0.2.2.2.2.2.2.2.2.2.2.2.2.2.2.2.2.2.2.2.2.2.2.2.2.1
theorem dX7_cared_49 : decode cX7_cared 49 = .ok (.ldc 200, 2) := edX7_cared_0.2.2.2.2.2.2.2.2.2.2.2.2.2.2.2.2.2.2.2.2.2.2.2.2.2.1
theorem dX7_cared_51 : decode cX7_cared 51 = .ok (.istore 6, 2) := edX7_cared_0.2.2.2.2.2.2.2.2.2.2.2.2.2.2.2.2.2.2.2.2.2.2.2.2.2.2.1
theorem dX7_cared_53 : decode cX7_cared 53 = .ok (.iconst 0, 1) := edX7_cared_0.2.2.2.2.2.2.2.2.2.2.2.2.2.2.2.2.2.2.2.2.2.2.2.2.2.2.2.1
theorem dX7_cared_54 : decode cX7_cared 54 = .ok (.istore 7, 2) := edX7_cared_0.2.2.2.2.2.2.2.2.2.2.2.2.2.2.2.2.2.2.2.2.2.2.2.2.2.2.2.2.1
theorem dX7_cared_56 : decode cX7_cared 56 = .ok (.iload 7, 2) := edX7_cared_0.2.2.2.2.2.2.2.2.2.2.2.2.2.2.2.2.2.2.2.2.2.2.2.2.2.2.2.2.2.1
theorem dX7_cared_58 : decode cX7_cared 58 = .ok (.iconst 4, 1) := edX7_cared_0.2.2.2.2.2.2.2.2.2.2.2.2.2.2.2.2.2.2.2.2.2.2.2.2.2.2.2.2.2.2.1
theorem dX7_cared_59 : decode cX7_cared 59 = .ok (.if_icmp .ge 76, 3) := edX7_cared_0.2.2.2.2.2.2.2.2.2.2.2.2.2.2.2.2.2.2.2.2.2.2.2.2.2.2.2.2.2.2.2.1
theorem edX7_cared_62 : (decode cX7_cared 62 = .ok (.aload_n 0, 1)) ∧ (decode cX7_cared 63 = .ok (.getfield 16, 3)) ∧ (decode cX7_cared 66 = .ok (.aload_n 0, 1)) ∧ (decode cX7_cared 67 = .ok (.getfield 10, 3)) ∧ (decode cX7_cared 70 = .ok (.invokevirtual 193, 3)) ∧ (decode cX7_cared 73 = .ok (.aload_n 0, 1)) ∧ (decode cX7_cared 74 = .ok (.getfield 16, 3)) ∧ (decode cX7_cared 77 = .ok (.getfield 130, 3)) ∧ (decode cX7_cared 80 = .ok (.iload_n 2, 1)) ∧ (decode cX7_cared 81 = .ok (.iload 7, 2)) ∧ (decode cX7_cared 83 = .ok (.invokestatic 133, 3)) ∧ (decode cX7_cared 86 = .ok (.bipush 9, 2)) ∧ (decode cX7_cared 88 = .ok (.iastore, 1)) ∧ (decode cX7_cared 89 = .ok (.aload_n 0, 1)) ∧ (decode cX7_cared 90 = .ok (.getfield 16, 3)) ∧ (decode cX7_cared 93 = .ok (.iconst 1, 1)) ∧ (decode cX7_cared 94 = .ok (.iconst (-1), 1)) ∧ (decode cX7_cared 95 = .ok (.invokevirtual 163, 3)) ∧ (decode cX7_cared 98 = .ok (.pop, 1)) ∧ (decode cX7_cared 99 = .ok (.aload_n 0, 1)) ∧ (decode cX7_cared 100 = .ok (.aload 4, 2)) ∧ (decode cX7_cared 102 = .ok (.invokevirtual 211, 3)) ∧ (decode cX7_cared 105 = .ok (.istore 8, 2)) ∧ (decode cX7_cared 107 = .ok (.iload 5, 2)) ∧ (decode cX7_cared 109 = .ok (.ldc 200, 2)) ∧ (decode cX7_cared 111 = .ok (.if_icmp .eq 10, 3)) ∧ (decode cX7_cared 114 = .ok (.iload 8, 2)) ∧ (decode cX7_cared 116 = .ok (.iload 6, 2)) ∧ (decode cX7_cared 118 = .ok (.if_icmp .ge 11, 3)) ∧ (decode cX7_cared 121 = .ok (.iload 7, 2)) ∧ (decode cX7_cared 123 = .ok (.istore 5, 2)) ∧ (decode cX7_cared 125 = .ok (.iload 8, 2)) ∧ True := dc_cj [(62, .aload_n 0, 1), (63, .getfield 16, 3), (66, .aload_n 0, 1), (67, .getfield 10, 3), (70, .invokevirtual 193, 3), (73, .aload_n 0, 1), (74, .getfield 16, 3), (77, .getfield 130, 3), (80, .iload_n 2, 1), (81, .iload 7, 2), (83, .invokestatic 133, 3), (86, .bipush 9, 2), (88, .iastore, 1), (89, .aload_n 0, 1), (90, .getfield 16, 3), (93, .iconst 1, 1), (94, .iconst (-1), 1), (95, .invokevirtual 163, 3), (98, .pop, 1), (99, .aload_n 0, 1), (100, .aload 4, 2), (102, .invokevirtual 211, 3), (105, .istore 8, 2), (107, .iload 5, 2), (109, .ldc 200, 2), (111, .if_icmp .eq 10, 3), (114, .iload 8, 2), (116, .iload 6, 2), (118, .if_icmp .ge 11, 3), (121, .iload 7, 2), (123, .istore 5, 2), (125, .iload 8, 2)] (by decide +kernel)
theorem dX7_cared_62 : decode cX7_cared 62 = .ok (.aload_n 0, 1) := edX7_cared_62.1
theorem dX7_cared_63 : decode cX7_cared 63 = .ok (.getfield 16, 3) := edX7_cared_62.2.1
theorem dX7_cared_66 : decode cX7_cared 66 = .ok (.aload_n 0, 1) := edX7_cared_62.2.2.1
theorem dX7_cared_67 : decode cX7_cared 67 = .ok (.getfield 10, 3) := edX7_cared_62.2.2.2.1
theorem dX7_cared_70 : decode cX7_cared 70 = .ok (.invokevirtual 193, 3) := edX7_cared_62.2.2.2.2.1
theorem dX7_cared_73 : decode cX7_cared 73 = .ok (.aload_n 0, 1) := edX7_cared_62.2.2.2.2.2.1
theorem dX7_cared_74 : decode cX7_cared 74 = .ok (.getfield 16, 3) := edX7_cared_62.2.2.2.2.2.2.1
theorem dX7_cared_77 : decode cX7_cared 77 = .ok (.getfield 130, 3) := edX7_cared_62.2.2.2.2.2.2.2.1
theorem dX7_cared_80 : decode cX7_cared 80 = .ok (.iload_n 2, 1) := edX7_cared_62.2.2.2.2.2.2.2.2.1
theorem dX7_cared_81 : decode cX7_cared 81 = .ok (.iload 7, 2) := edX7_cared_62.2.2.2.2.2.2.2.2.2.1
theorem dX7_cared_83 : decode cX7_cared 83 = .ok (.invokestatic 133, 3) := edX7_cared_62.2.2.2.2.2.2.2.2.2.2.1
theorem dX7_cared_86 : decode cX7_cared 86 = .ok (.bipush 9, 2) := edX7_cared_62.2.2.2.2.2.2.2.2.2.2.2.1
theorem dX7_cared_88 : decode cX7_cared 88 = .ok (.iastore, 1) := edX7_cared_62.2.2.2.2.2.2.2.2.2.2.2.2.1
theorem dX7_cared_89 : decode cX7_cared 89 = .ok (.aload_n 0, 1) := edX7_cared_62.2.2.2.2.2.2.2.2.2.2.2.2.2.1
theorem dX7_cared_90 : decode cX7_cared 90 = .ok (.getfield 16, 3) := edX7_cared_62.2.2.2.2.2.2.2.2.2.2.2.2.2.2.1
theorem dX7_cared_93 : decode cX7_cared 93 = .ok (.iconst 1, 1) := edX7_cared_62.2.2.2.2.2.2.2.2.2.2.2.2.2.2.2.1
theorem dX7_cared_94 : decode cX7_cared 94 = .ok (.iconst (-1), 1) := edX7_cared_62.2.2.2.2.2.2.2.2.2.2.2.2.2.2.2.2.1
theorem dX7_cared_95 : decode cX7_cared 95 = .ok (.invokevirtual 163, 3) := edX7_cared_62.2.2.2.2.2.2.2.2.2.2.2.2.2.2.2.2.2.1
theorem dX7_cared_98 : decode cX7_cared 98 = .ok (.pop, 1) := edX7_cared_62.2.2.2.2.2.2.2.2.2.2.2.2.2.2.2.2.2.2.1
theorem dX7_cared_99 : decode cX7_cared 99 = .ok (.aload_n 0, 1) := edX7_cared_62.2.2.2.2.2.2.2.2.2.2.2.2.2.2.2.2.2.2.2.1
theorem dX7_cared_100 : decode cX7_cared 100 = .ok (.aload 4, 2) := edX7_cared_62.2.2.2.2.2.2.2.2.2.2.2.2.2.2.2.2.2.2.2.2.1
theorem dX7_cared_102 : decode cX7_cared 102 = .ok (.invokevirtual 211, 3) := edX7_cared_62.2.2.2.2.2.2.2.2.2.2.2.2.2.2.2.2.2.2.2.2.2.1
theorem dX7_cared_105 : decode cX7_cared 105 = .ok (.istore 8, 2) := edX7_cared_62.2.2.2.2.2.2.2.2.2.2.2.2.2.2.2.2.2.2.2.2.2.2.1
theorem dX7_cared_107 : decode cX7_cared 107 = .ok (.iload 5, 2) := edX7_cared_62.2.2.2.2.2.2.2.2.2.2.2.2.2.2.2.2.2.2.2.2.2.2.2.1
theorem dX7_cared_109 : decode cX7_cared 109 = .ok (.ldc 200, 2) := edX7_cared_62.2.2.2.2.2.2.2.2.2.2.2.2.2.2.2.2.2.2.2.2.2.2.2.2.1
theorem dX7_cared_111 : decode cX7_cared 111 = .ok (.if_icmp .eq 10, 3) := edX7_cared_62.2.2.2.2.2.2.2.2.2.2.2.2.2.2.2.2.2.2.2.2.2.2.2.2.2.1
theorem dX7_cared_114 : decode cX7_cared 114 = .ok (.iload 8, 2) := edX7_cared_62.2.2.2.2.2.2.2.2.2.2.2.2.2.2.2.2.2.2.2.2.2.2.2.2.2.2.1
theorem dX7_cared_116 : decode cX7_cared 116 = .ok (.iload 6, 2) := edX7_cared_62.2.2.2.2.2.2.2.2.2.2.2.2.2.2.2.2.2.2.2.2.2.2.2.2.2.2.2.1
theorem dX7_cared_118 : decode cX7_cared 118 = .ok (.if_icmp .ge 11, 3) := edX7_cared_62.2.2.2.2.2.2.2.2.2.2.2.2.2.2.2.2.2.2.2.2.2.2.2.2.2.2.2.2.1
theorem dX7_cared_121 : decode cX7_cared 121 = .ok (.iload 7, 2) := edX7_cared_62.2.2.2.2.2.2.2.2.2.2.2.2.2.2.2.2.2.2.2.2.2.2.2.2.2.2.2.2.2.1
theorem dX7_cared_123 : decode cX7_cared 123 = .ok (.istore 5, 2) := edX7_cared_62.2.2.2.2.2.2.2.2.2.2.2.2.2.2.2.2.2.2.2.2.2.2.2.2.2.2.2.2.2.2.1
theorem dX7_cared_125 : decode cX7_cared 125 = .ok (.iload 8, 2) := edX7_cared_62.2.2.2.2.2.2.2.2.2.2.2.2.2.2.2.2.2.2.2.2.2.2.2.2.2.2.2.2.2.2.2.1
theorem edX7_cared_127 : (decode cX7_cared 127 = .ok (.istore 6, 2)) ∧ (decode cX7_cared 129 = .ok (.iinc 7 1, 3)) ∧ (decode cX7_cared 132 = .ok (.goto (-76), 3)) ∧ (decode cX7_cared 135 = .ok (.iload_n 3, 1)) ∧ (decode cX7_cared 136 = .ok (.ifCond .ne 8, 3)) ∧ (decode cX7_cared 139 = .ok (.iload 5, 2)) ∧ (decode cX7_cared 141 = .ok (.goto 5, 3)) ∧ (decode cX7_cared 144 = .ok (.iload 6, 2)) ∧ (decode cX7_cared 146 = .ok (.ireturn, 1)) ∧ True := dc_cj [(127, .istore 6, 2), (129, .iinc 7 1, 3), (132, .goto (-76), 3), (135, .iload_n 3, 1), (136, .ifCond .ne 8, 3), (139, .iload 5, 2), (141, .goto 5, 3), (144, .iload 6, 2), (146, .ireturn, 1)] (by decide +kernel)
theorem dX7_cared_127 : decode cX7_cared 127 = .ok (.istore 6, 2) := edX7_cared_127.1
theorem dX7_cared_129 : decode cX7_cared 129 = .ok (.iinc 7 1, 3) := edX7_cared_127.2.1
theorem dX7_cared_132 : decode cX7_cared 132 = .ok (.goto (-76), 3) := edX7_cared_127.2.2.1
theorem dX7_cared_135 : decode cX7_cared 135 = .ok (.iload_n 3, 1) := edX7_cared_127.2.2.2.1
theorem dX7_cared_136 : decode cX7_cared 136 = .ok (.ifCond .ne 8, 3) := edX7_cared_127.2.2.2.2.1
theorem dX7_cared_139 : decode cX7_cared 139 = .ok (.iload 5, 2) := edX7_cared_127.2.2.2.2.2.1
theorem dX7_cared_141 : decode cX7_cared 141 = .ok (.goto 5, 3) := edX7_cared_127.2.2.2.2.2.2.1
theorem dX7_cared_144 : decode cX7_cared 144 = .ok (.iload 6, 2) := edX7_cared_127.2.2.2.2.2.2.2.1
theorem dX7_cared_146 : decode cX7_cared 146 = .ok (.ireturn, 1) := edX7_cared_127.2.2.2.2.2.2.2.2.1
theorem edX7_differenceFrom_0 : (decode cX7_differenceFrom 0 = .ok (.iconst 0, 1)) ∧ (decode cX7_differenceFrom 1 = .ok (.istore_n 2, 1)) ∧ (decode cX7_differenceFrom 2 = .ok (.iconst 0, 1)) ∧ (decode cX7_differenceFrom 3 = .ok (.istore_n 3, 1)) ∧ (decode cX7_differenceFrom 4 = .ok (.iload_n 3, 1)) ∧ (decode cX7_differenceFrom 5 = .ok (.iconst 4, 1)) ∧ (decode cX7_differenceFrom 6 = .ok (.if_icmp .ge 39, 3)) ∧ (decode cX7_differenceFrom 9 = .ok (.aload_n 1, 1)) ∧ (decode cX7_differenceFrom 10 = .ok (.iload_n 3, 1)) ∧ (decode cX7_differenceFrom 11 = .ok (.invokevirtual 215, 3)) ∧ (decode cX7_differenceFrom 14 = .ok (.ifCond .eq 25, 3)) ∧ (decode cX7_differenceFrom 17 = .ok (.iload_n 2, 1)) ∧ (decode cX7_differenceFrom 18 = .ok (.aload_n 0, 1)) ∧ (decode cX7_differenceFrom 19 = .ok (.getfield 16, 3)) ∧ (decode cX7_differenceFrom 22 = .ok (.getfield 127, 3)) ∧ (decode cX7_differenceFrom 25 = .ok (.iload_n 3, 1)) ∧ (decode cX7_differenceFrom 26 = .ok (.iaload, 1)) ∧ (decode cX7_differenceFrom 27 = .ok (.aload_n 1, 1)) ∧ (decode cX7_differenceFrom 28 = .ok (.getfield 218, 3)) ∧ (decode cX7_differenceFrom 31 = .ok (.iload_n 3, 1)) ∧ (decode cX7_differenceFrom 32 = .ok (.iaload, 1)) ∧ (decode cX7_differenceFrom 33 = .ok (.isub, 1)) ∧ (decode cX7_differenceFrom 34 = .ok (.invokestatic 221, 3)) ∧ (decode cX7_differenceFrom 37 = .ok (.iadd, 1)) ∧ (decode cX7_differenceFrom 38 = .ok (.istore_n 2, 1)) ∧ (decode cX7_differenceFrom 39 = .ok (.iinc 3 1, 3)) ∧ (decode cX7_differenceFrom 42 = .ok (.goto (-38), 3)) ∧ (decode cX7_differenceFrom 45 = .ok (.iload_n 2, 1)) ∧ (decode cX7_differenceFrom 46 = .ok (.ireturn, 1)) ∧ True := dc_cj [(0, .iconst 0, 1), (1, .istore_n 2, 1), (2, .iconst 0, 1), (3, .istore_n 3, 1), (4, .iload_n 3, 1), (5, .iconst 4, 1), (6, .if_icmp .ge 39, 3), (9, .aload_n 1, 1), (10, .iload_n 3, 1), (11, .invokevirtual 215, 3), (14, .ifCond .eq 25, 3), (17, .iload_n 2, 1), (18, .aload_n 0, 1), (19, .getfield 16, 3), (22, .getfield 127, 3), (25, .iload_n 3, 1), (26, .iaload, 1), (27, .aload_n 1, 1), (28, .getfield 218, 3), (31, .iload_n 3, 1), (32, .iaload, 1), (33, .isub, 1), (34, .invokestatic 221, 3), (37, .iadd, 1), (38, .istore_n 2, 1), (39, .iinc 3 1, 3), (42, .goto (-38), 3), (45, .iload_n 2, 1), (46, .ireturn, 1)] (by decide +kernel)
theorem dX7_differenceFrom_0 : decode cX7_differenceFrom 0 = .ok (.iconst 0, 1) := edX7_differenceFrom_0.1
theorem dX7_differenceFrom_1 : decode cX7_differenceFrom 1 = .ok (.istore_n 2, 1) := edX7_differenceFrom_0.2.1
theorem dX7_differenceFrom_2 : decode cX7_differenceFrom 2 = .ok (.iconst 0, 1) := edX7_differenceFrom_0.2.2.1
theorem dX7_differenceFrom_3 : decode cX7_differenceFrom 3 = .ok (.istore_n 3, 1) := edX7_differenceFrom_0.2.2.2.1
theorem dX7_differenceFrom_4 : decode cX7_differenceFrom 4 = .ok (.iload_n 3, 1) := edX7_differenceFrom_0.2.2.2.2.1
theorem dX7_differenceFrom_5 : decode cX7_differenceFrom 5 = .ok (.iconst 4, 1) := edX7_differenceFrom_0.2.2.2.2.2.1
theorem dX7_differenceFrom_6 : decode cX7_differenceFrom 6 = .ok (.if_icmp .ge 39, 3) := edX7_differenceFrom_0.2.2.2.2.2.2.1
theorem dX7_differenceFrom_9 : decode cX7_differenceFrom 9 = .ok (.aload_n 1, 1) := edX7_differenceFrom_0.2.2.2.2.2.2.2.1
theorem dX7_differenceFrom_10 : decode cX7_differenceFrom 10 = .ok (.iload_n 3, 1) := edX7_differenceFrom_0.2.2.2.2.2.2.2.2.1
theorem dX7_differenceFrom_11 : decode cX7_differenceFrom 11 = .ok (.invokevirtual 215, 3) := edX7_differenceFrom_0.2.2.2.2.2.2.2.2.2.1
theorem dX7_differenceFrom_14 : decode cX7_differenceFrom 14 = .ok (.ifCond .eq 25, 3) := edX7_differenceFrom_0.2.2.2.2.2.2.2.2.2.2.1
theorem dX7_differenceFrom_17 : decode cX7_differenceFrom 17 = .ok (.iload_n 2, 1) := edX7_differenceFrom_0.2.2.2.2.2.2.2.2.2.2.2.1
theorem dX7_differenceFrom_18 : decode cX7_differenceFrom 18 = .ok (.aload_n 0, 1) := edX7_differenceFrom_0.2.2.2.2.2.2.2.2.2.2.2.2.1
theorem dX7_differenceFrom_19 : decode cX7_differenceFrom 19 = .ok (.getfield 16, 3) := edX7_differenceFrom_0.2.2.2.2.2.2.2.2.2.2.2.2.2.1
theorem dX7_differenceFrom_22 : decode cX7_differenceFrom 22 = .ok (.getfield 127, 3) := edX7_differenceFrom_0.2.2.2.2.2.2.2.2.2.2.2.2.2.2.1
theorem dX7_differenceFrom_25 : decode cX7_differenceFrom 25 = .ok (.iload_n 3, 1) := edX7_differenceFrom_0.2.2.2.2.2.2.2.2.2.2.2.2.2.2.2.1
theorem dX7_differenceFrom_26 : decode cX7_differenceFrom 26 = .ok (.iaload, 1) := edX7_differenceFrom_0.2.2.2.2.2.2.2.2.2.2.2.2.2.2.2.2.1
theorem dX7_differenceFrom_27 : decode cX7_differenceFrom 27 = .ok (.aload_n 1, 1) := edX7_differenceFrom_0.2.2.2.2.2.2.2.2.2.2.2.2.2.2.2.2.2.1
theorem dX7_differenceFrom_28 : decode cX7_differenceFrom 28 = .ok (.getfield 218, 3) := edX7_differenceFrom_0.2.2.2.2.2.2.2.2.2.2.2.2.2.2.2.2.2.2.1
theorem dX7_differenceFrom_31 : decode cX7_differenceFrom 31 = .ok (.iload_n 3, 1) := edX7_differenceFrom_0.2.2.2.2.2.2.2.2.2.2.2.2.2.2.2.2.2.2.2.1
theorem dX7_differenceFrom_32 : decode cX7_differenceFrom 32 = .ok (.iaload, 1) := edX7_differenceFrom_0.2.2.2.2.2.2.2.2.2.2.2.2.2.2.2.2.2.2.2.2.1
theorem dX7_differenceFrom_33 : decode cX7_differenceFrom 33 = .ok (.isub, 1) := edX7_differenceFrom_0.2.2.2.2.2.2.2.2.2.2.2.2.2.2.2.2.2.2.2.2.2.1
theorem dX7_differenceFrom_34 : decode cX7_differenceFrom 34 = .ok (.invokestatic 221, 3) := edX7_differenceFrom_0.2.2.2.2.2.2.2.2.2.2.2.2.2.2.2.2.2.2.2.2.2.2.1
theorem dX7_differenceFrom_37 : decode cX7_differenceFrom 37 = .ok (.iadd, 1) := edX7_differenceFrom_0.2.2.2.2.2.2.2.2.2.2.2.2.2.2.2.2.2.2.2.2.2.2.2.1
theorem dX7_differenceFrom_38 : decode cX7_differenceFrom 38 = .ok (.istore_n 2, 1) := edX7_differenceFrom_0.2.2.2.2.2.2.2.2.2.2.2.2.2.2.2.2.2.2.2.2.2.2.2.2.1
theorem dX7_differenceFrom_39 : decode cX7_differenceFrom 39 = .ok (.iinc 3 1, 3) := edX7_differenceFrom_0.2.2.2.2.2.2.2.2.2.2.2.2.2.2.2.2.2.2.2.2.2.2.2.2.2.1
theorem dX7_differenceFrom_42 : decode cX7_differenceFrom 42 = .ok (.goto (-38), 3) := edX7_differenceFrom_0.2.2.2.2.2.2.2.2.2.2.2.2.2.2.2.2.2.2.2.2.2.2.2.2.2.2.1
theorem dX7_differenceFrom_45 : decode cX7_differenceFrom 45 = .ok (.iload_n 2, 1) := edX7_differenceFrom_0.2.2.2.2.2.2.2.2.2.2.2.2.2.2.2.2.2.2.2.2.2.2.2.2.2.2.2.1
theorem dX7_differenceFrom_46 : decode cX7_differenceFrom 46 = .ok (.ireturn, 1) := edX7_differenceFrom_0.2.2.2.2.2.2.2.2.2.2.2.2.2.2.2.2.2.2.2.2.2.2.2.2.2.2.2.2.1
theorem edX7_fee_0 : (decode cX7_fee 0 = .ok (.aload_n 0, 1)) ∧ (decode cX7_fee 1 = .ok (.getfield 10, 3)) ∧ (decode cX7_fee 4 = .ok (.iconst 1, 1)) ∧ (decode cX7_fee 5 = .ok (.invokevirtual 224, 3)) ∧ (decode cX7_fee 8 = .ok (.astore_n 1, 1)) ∧ (decode cX7_fee 9 = .ok (.aload_n 1, 1)) ∧ (decode cX7_fee 10 = .ok (.ifnonnull 13, 3)) ∧ (decode cX7_fee 13 = .ok (.aload_n 0, 1)) ∧ (decode cX7_fee 14 = .ok (.getfield 10, 3)) ∧ (decode cX7_fee 17 = .ok (.getfield 176, 3)) ∧ (decode cX7_fee 20 = .ok (.goto 22, 3)) ∧ (decode cX7_fee 23 = .ok (.aload_n 1, 1)) ∧ (decode cX7_fee 24 = .ok (.aload_n 0, 1)) ∧ (decode cX7_fee 25 = .ok (.getfield 10, 3)) ∧ (decode cX7_fee 28 = .ok (.getfield 176, 3)) ∧ (decode cX7_fee 31 = .ok (.aload_n 0, 1)) ∧ (decode cX7_fee 32 = .ok (.getfield 10, 3)) ∧ (decode cX7_fee 35 = .ok (.getfield 160, 3)) ∧ (decode cX7_fee 38 = .ok (.iconst 0, 1)) ∧ (decode cX7_fee 39 = .ok (.invokevirtual 228, 3)) ∧ (decode cX7_fee 42 = .ok (.ireturn, 1)) ∧ True := dc_cj [(0, .aload_n 0, 1), (1, .getfield 10, 3), (4, .iconst 1, 1), (5, .invokevirtual 224, 3), (8, .astore_n 1, 1), (9, .aload_n 1, 1), (10, .ifnonnull 13, 3), (13, .aload_n 0, 1), (14, .getfield 10, 3), (17, .getfield 176, 3), (20, .goto 22, 3), (23, .aload_n 1, 1), (24, .aload_n 0, 1), (25, .getfield 10, 3), (28, .getfield 176, 3), (31, .aload_n 0, 1), (32, .getfield 10, 3), (35, .getfield 160, 3), (38, .iconst 0, 1), (39, .invokevirtual 228, 3), (42, .ireturn, 1)] (by decide +kernel)
theorem dX7_fee_0 : decode cX7_fee 0 = .ok (.aload_n 0, 1) := edX7_fee_0.1
theorem dX7_fee_1 : decode cX7_fee 1 = .ok (.getfield 10, 3) := edX7_fee_0.2.1
theorem dX7_fee_4 : decode cX7_fee 4 = .ok (.iconst 1, 1) := edX7_fee_0.2.2.1
theorem dX7_fee_5 : decode cX7_fee 5 = .ok (.invokevirtual 224, 3) := edX7_fee_0.2.2.2.1
theorem dX7_fee_8 : decode cX7_fee 8 = .ok (.astore_n 1, 1) := edX7_fee_0.2.2.2.2.1
theorem dX7_fee_9 : decode cX7_fee 9 = .ok (.aload_n 1, 1) := edX7_fee_0.2.2.2.2.2.1
theorem dX7_fee_10 : decode cX7_fee 10 = .ok (.ifnonnull 13, 3) := edX7_fee_0.2.2.2.2.2.2.1
theorem dX7_fee_13 : decode cX7_fee 13 = .ok (.aload_n 0, 1) := edX7_fee_0.2.2.2.2.2.2.2.1
theorem dX7_fee_14 : decode cX7_fee 14 = .ok (.getfield 10, 3) := edX7_fee_0.2.2.2.2.2.2.2.2.1
theorem dX7_fee_17 : decode cX7_fee 17 = .ok (.getfield 176, 3) := edX7_fee_0.2.2.2.2.2.2.2.2.2.1
theorem dX7_fee_20 : decode cX7_fee 20 = .ok (.goto 22, 3) := edX7_fee_0.2.2.2.2.2.2.2.2.2.2.1
theorem dX7_fee_23 : decode cX7_fee 23 = .ok (.aload_n 1, 1) := edX7_fee_0.2.2.2.2.2.2.2.2.2.2.2.1
theorem dX7_fee_24 : decode cX7_fee 24 = .ok (.aload_n 0, 1) := edX7_fee_0.2.2.2.2.2.2.2.2.2.2.2.2.1
theorem dX7_fee_25 : decode cX7_fee 25 = .ok (.getfield 10, 3) := edX7_fee_0.2.2.2.2.2.2.2.2.2.2.2.2.2.1
theorem dX7_fee_28 : decode cX7_fee 28 = .ok (.getfield 176, 3) := edX7_fee_0.2.2.2.2.2.2.2.2.2.2.2.2.2.2.1
theorem dX7_fee_31 : decode cX7_fee 31 = .ok (.aload_n 0, 1) := edX7_fee_0.2.2.2.2.2.2.2.2.2.2.2.2.2.2.2.1
theorem dX7_fee_32 : decode cX7_fee 32 = .ok (.getfield 10, 3) := edX7_fee_0.2.2.2.2.2.2.2.2.2.2.2.2.2.2.2.2.1
theorem dX7_fee_35 : decode cX7_fee 35 = .ok (.getfield 160, 3) := edX7_fee_0.2.2.2.2.2.2.2.2.2.2.2.2.2.2.2.2.2.1
theorem dX7_fee_38 : decode cX7_fee 38 = .ok (.iconst 0, 1) := edX7_fee_0.2.2.2.2.2.2.2.2.2.2.2.2.2.2.2.2.2.2.1
theorem dX7_fee_39 : decode cX7_fee 39 = .ok (.invokevirtual 228, 3) := edX7_fee_0.2.2.2.2.2.2.2.2.2.2.2.2.2.2.2.2.2.2.2.1
theorem dX7_fee_42 : decode cX7_fee 42 = .ok (.ireturn, 1) := edX7_fee_0.2.2.2.2.2.2.2.2.2.2.2.2.2.2.2.2.2.2.2.2.1
theorem edX7_fine_0 : (decode cX7_fine 0 = .ok (.aload_n 0, 1)) ∧ (decode cX7_fine 1 = .ok (.getfield 10, 3)) ∧ (decode cX7_fine 4 = .ok (.iload_n 1, 1)) ∧ (decode cX7_fine 5 = .ok (.invokevirtual 87, 3)) ∧ (decode cX7_fine 8 = .ok (.ifCond .ne 6, 3)) ∧ (decode cX7_fine 11 = .ok (.ldc 78, 2)) ∧ (decode cX7_fine 13 = .ok (.ireturn, 1)) ∧ (decode cX7_fine 14 = .ok (.aload_n 0, 1)) ∧ (decode cX7_fine 15 = .ok (.getfield 10, 3)) ∧ (decode cX7_fine 18 = .ok (.iconst 2, 1)) ∧ (decode cX7_fine 19 = .ok (.invokevirtual 224, 3)) ∧ (decode cX7_fine 22 = .ok (.astore_n 2, 1)) ∧ (decode cX7_fine 23 = .ok (.aload_n 0, 1)) ∧ (decode cX7_fine 24 = .ok (.getfield 10, 3)) ∧ (decode cX7_fine 27 = .ok (.getfield 102, 3)) ∧ (decode cX7_fine 30 = .ok (.iload_n 1, 1)) ∧ (decode cX7_fine 31 = .ok (.iaload, 1)) ∧ (decode cX7_fine 32 = .ok (.istore_n 3, 1)) ∧ (decode cX7_fine 33 = .ok (.aload_n 2, 1)) ∧ (decode cX7_fine 34 = .ok (.ifnonnull 7, 3)) ∧ (decode cX7_fine 37 = .ok (.iload_n 3, 1)) ∧ (decode cX7_fine 38 = .ok (.goto 18, 3)) ∧ (decode cX7_fine 41 = .ok (.aload_n 2, 1)) ∧ (decode cX7_fine 42 = .ok (.iload_n 3, 1)) ∧ (decode cX7_fine 43 = .ok (.aload_n 0, 1)) ∧ (decode cX7_fine 44 = .ok (.getfield 10, 3)) ∧ (decode cX7_fine 47 = .ok (.getfield 99, 3)) ∧ (decode cX7_fine 50 = .ok (.iload_n 1, 1)) ∧ (decode cX7_fine 51 = .ok (.iaload, 1)) ∧ (decode cX7_fine 52 = .ok (.iconst 0, 1)) ∧ (decode cX7_fine 53 = .ok (.invokevirtual 228, 3)) ∧ (decode cX7_fine 56 = .ok (.ireturn, 1)) ∧ True := dc_cj [(0, .aload_n 0, 1), (1, .getfield 10, 3), (4, .iload_n 1, 1), (5, .invokevirtual 87, 3), (8, .ifCond .ne 6, 3), (11, .ldc 78, 2), (13, .ireturn, 1), (14, .aload_n 0, 1), (15, .getfield 10, 3), (18, .iconst 2, 1), (19, .invokevirtual 224, 3), (22, .astore_n 2, 1), (23, .aload_n 0, 1), (24, .getfield 10, 3), (27, .getfield 102, 3), (30, .iload_n 1, 1), (31, .iaload, 1), (32, .istore_n 3, 1), (33, .aload_n 2, 1), (34, .ifnonnull 7, 3), (37, .iload_n 3, 1), (38, .goto 18, 3), (41, .aload_n 2, 1), (42, .iload_n 3, 1), (43, .aload_n 0, 1), (44, .getfield 10, 3), (47, .getfield 99, 3), (50, .iload_n 1, 1), (51, .iaload, 1), (52, .iconst 0, 1), (53, .invokevirtual 228, 3), (56, .ireturn, 1)] (by decide +kernel)
theorem dX7_fine_0 : decode cX7_fine 0 = .ok (.aload_n 0, 1) := edX7_fine_0.1
theorem dX7_fine_1 : decode cX7_fine 1 = .ok (.getfield 10, 3) := edX7_fine_0.2.1
theorem dX7_fine_4 : decode cX7_fine 4 = .ok (.iload_n 1, 1) := edX7_fine_0.2.2.1
theorem dX7_fine_5 : decode cX7_fine 5 = .ok (.invokevirtual 87, 3) := edX7_fine_0.2.2.2.1
theorem dX7_fine_8 : decode cX7_fine 8 = .ok (.ifCond .ne 6, 3) := edX7_fine_0.2.2.2.2.1
theorem dX7_fine_11 : decode cX7_fine 11 = .ok (.ldc 78, 2) := edX7_fine_0.2.2.2.2.2.1
theorem dX7_fine_13 : decode cX7_fine 13 = .ok (.ireturn, 1) := edX7_fine_0.2.2.2.2.2.2.1
theorem dX7_fine_14 : decode cX7_fine 14 = .ok (.aload_n 0, 1) := edX7_fine_0.2.2.2.2.2.2.2.1
theorem dX7_fine_15 : decode cX7_fine 15 = .ok (.getfield 10, 3) := edX7_fine_0.2.2.2.2.2.2.2.2.1
theorem dX7_fine_18 : decode cX7_fine 18 = .ok (.iconst 2, 1) := edX7_fine_0.2.2.2.2.2.2.2.2.2.1
theorem dX7_fine_19 : decode cX7_fine 19 = .ok (.invokevirtual 224, 3) := edX7_fine_0.2.2.2.2.2.2.2.2.2.2.1
theorem dX7_fine_22 : decode cX7_fine 22 = .ok (.astore_n 2, 1) := edX7_fine_0.2.2.2.2.2.2.2.2.2.2.2.1
theorem dX7_fine_23 : decode cX7_fine 23 = .ok (.aload_n 0, 1) := edX7_fine_0.2.2.2.2.2.2.2.2.2.2.2.2.1
theorem dX7_fine_24 : decode cX7_fine 24 = .ok (.getfield 10, 3) := edX7_fine_0.2.2.2.2.2.2.2.2.2.2.2.2.2.1
theorem dX7_fine_27 : decode cX7_fine 27 = .ok (.getfield 102, 3) := edX7_fine_0.2.2.2.2.2.2.2.2.2.2.2.2.2.2.1
theorem dX7_fine_30 : decode cX7_fine 30 = .ok (.iload_n 1, 1) := edX7_fine_0.2.2.2.2.2.2.2.2.2.2.2.2.2.2.2.1
theorem dX7_fine_31 : decode cX7_fine 31 = .ok (.iaload, 1) := edX7_fine_0.2.2.2.2.2.2.2.2.2.2.2.2.2.2.2.2.1
theorem dX7_fine_32 : decode cX7_fine 32 = .ok (.istore_n 3, 1) := edX7_fine_0.2.2.2.2.2.2.2.2.2.2.2.2.2.2.2.2.2.1
theorem dX7_fine_33 : decode cX7_fine 33 = .ok (.aload_n 2, 1) := edX7_fine_0.2.2.2.2.2.2.2.2.2.2.2.2.2.2.2.2.2.2.1
theorem dX7_fine_34 : decode cX7_fine 34 = .ok (.ifnonnull 7, 3) := edX7_fine_0.2.2.2.2.2.2.2.2.2.2.2.2.2.2.2.2.2.2.2.1
theorem dX7_fine_37 : decode cX7_fine 37 = .ok (.iload_n 3, 1) := edX7_fine_0.2.2.2.2.2.2.2.2.2.2.2.2.2.2.2.2.2.2.2.2.1
theorem dX7_fine_38 : decode cX7_fine 38 = .ok (.goto 18, 3) := edX7_fine_0.2.2.2.2.2.2.2.2.2.2.2.2.2.2.2.2.2.2.2.2.2.1
theorem dX7_fine_41 : decode cX7_fine 41 = .ok (.aload_n 2, 1) := edX7_fine_0.2.2.2.2.2.2.2.2.2.2.2.2.2.2.2.2.2.2.2.2.2.2.1
theorem dX7_fine_42 : decode cX7_fine 42 = .ok (.iload_n 3, 1) := edX7_fine_0.2.2.2.2.2.2.2.2.2.2.2.2.2.2.2.2.2.2.2.2.2.2.2.1
theorem dX7_fine_43 : decode cX7_fine 43 = .ok (.aload_n 0, 1) := edX7_fine_0.2.2.2.2.2.2.2.2.2.2.2.2.2.2.2.2.2.2.2.2.2.2.2.2.1
theorem dX7_fine_44 : decode cX7_fine 44 = .ok (.getfield 10, 3) := edX7_fine_0.2.2.2.2.2.2.2.2.2.2.2.2.2.2.2.2.2.2.2.2.2.2.2.2.2.1
theorem dX7_fine_47 : decode cX7_fine 47 = .ok (.getfield 99, 3) := edX7_fine_0.2.2.2.2.2.2.2.2.2.2.2.2.2.2.2.2.2.2.2.2.2.2.2.2.2.2.1
theorem dX7_fine_50 : decode cX7_fine 50 = .ok (.iload_n 1, 1) := edX7_fine_0.2.2.2.2.2.2.2.2.2.2.2.2.2.2.2.2.2.2.2.2.2.2.2.2.2.2.2.1
theorem dX7_fine_51 : decode cX7_fine 51 = .ok (.iaload, 1) := edX7_fine_0.2.2.2.2.2.2.2.2.2.2.2.2.2.2.2.2.2.2.2.2.2.2.2.2.2.2.2.2.1
theorem dX7_fine_52 : decode cX7_fine 52 = .ok (.iconst 0, 1) := edX7_fine_0.2.2.2.2.2.2.2.2.2.2.2.2.2.2.2.2.2.2.2.2.2.2.2.2.2.2.2.2.2.1
theorem dX7_fine_53 : decode cX7_fine 53 = .ok (.invokevirtual 228, 3) := edX7_fine_0.2.2.2.2.2.2.2.2.2.2.2.2.2.2.2.2.2.2.2.2.2.2.2.2.2.2.2.2.2.2.1
theorem dX7_fine_56 : decode cX7_fine 56 = .ok (.ireturn, 1) := edX7_fine_0.2.2.2.2.2.2.2.2.2.2.2.2.2.2.2.2.2.2.2.2.2.2.2.2.2.2.2.2.2.2.2.1
theorem edX7_feed_0 : (decode cX7_feed 0 = .ok (.aload_n 0, 1)) ∧ (decode cX7_feed 1 = .ok (.getfield 44, 3)) ∧ (decode cX7_feed 4 = .ok (.getfield 234, 3)) ∧ (decode cX7_feed 7 = .ok (.bipush 12, 2)) ∧ (decode cX7_feed 9 = .ok (.iadd, 1)) ∧ (decode cX7_feed 10 = .ok (.bipush 96, 2)) ∧ (decode cX7_feed 12 = .ok (.if_icmp .le 6, 3)) ∧ (decode cX7_feed 15 = .ok (.ldc 82, 2)) ∧ (decode cX7_feed 17 = .ok (.ireturn, 1)) ∧ (decode cX7_feed 18 = .ok (.aload_n 0, 1)) ∧ (decode cX7_feed 19 = .ok (.getfield 44, 3)) ∧ (decode cX7_feed 22 = .ok (.iload_n 1, 1)) ∧ (decode cX7_feed 23 = .ok (.invokevirtual 239, 3)) ∧ (decode cX7_feed 26 = .ok (.aload_n 0, 1)) ∧ (decode cX7_feed 27 = .ok (.getfield 44, 3)) ∧ (decode cX7_feed 30 = .ok (.iload_n 2, 1)) ∧ (decode cX7_feed 31 = .ok (.invokevirtual 239, 3)) ∧ (decode cX7_feed 34 = .ok (.aload_n 0, 1)) ∧ (decode cX7_feed 35 = .ok (.getfield 44, 3)) ∧ (decode cX7_feed 38 = .ok (.iload_n 3, 1)) ∧ (decode cX7_feed 39 = .ok (.invokevirtual 239, 3)) ∧ (decode cX7_feed 42 = .ok (.aload_n 0, 1)) ∧ (decode cX7_feed 43 = .ok (.getfield 44, 3)) ∧ (decode cX7_feed 46 = .ok (.getfield 234, 3)) ∧ (decode cX7_feed 49 = .ok (.ireturn, 1)) ∧ True := dc_cj [(0, .aload_n 0, 1), (1, .getfield 44, 3), (4, .getfield 234, 3), (7, .bipush 12, 2), (9, .iadd, 1), (10, .bipush 96, 2), (12, .if_icmp .le 6, 3), (15, .ldc 82, 2), (17, .ireturn, 1), (18, .aload_n 0, 1), (19, .getfield 44, 3), (22, .iload_n 1, 1), (23, .invokevirtual 239, 3), (26, .aload_n 0, 1), (27, .getfield 44, 3), (30, .iload_n 2, 1), (31, .invokevirtual 239, 3), (34, .aload_n 0, 1), (35, .getfield 44, 3), (38, .iload_n 3, 1), (39, .invokevirtual 239, 3), (42, .aload_n 0, 1), (43, .getfield 44, 3), (46, .getfield 234, 3), (49, .ireturn, 1)] (by decide +kernel)
theorem dX7_feed_0 : decode cX7_feed 0 = .ok (.aload_n 0, 1) := edX7_feed_0.1
theorem dX7_feed_1 : decode cX7_feed 1 = .ok (.getfield 44, 3) := edX7_feed_0.2.1
theorem dX7_feed_4 : decode cX7_feed 4 = .ok (.getfield 234, 3) := edX7_feed_0.2.2.1
theorem dX7_feed_7 : decode cX7_feed 7 = .ok (.bipush 12, 2) := edX7_feed_0.2.2.2.1
theorem dX7_feed_9 : decode cX7_feed 9 = .ok (.iadd, 1) := edX7_feed_0.2.2.2.2.1
theorem dX7_feed_10 : decode cX7_feed 10 = .ok (.bipush 96, 2) := edX7_feed_0.2.2.2.2.2.1
theorem dX7_feed_12 : decode cX7_feed 12 = .ok (.if_icmp .le 6, 3) := edX7_feed_0.2.2.2.2.2.2.1
theorem dX7_feed_15 : decode cX7_feed 15 = .ok (.ldc 82, 2) := edX7_feed_0.2.2.2.2.2.2.2.1
theorem dX7_feed_17 : decode cX7_feed 17 = .ok (.ireturn, 1) := edX7_feed_0.2.2.2.2.2.2.2.2.1
theorem dX7_feed_18 : decode cX7_feed 18 = .ok (.aload_n 0, 1) := edX7_feed_0.2.2.2.2.2.2.2.2.2.1
theorem dX7_feed_19 : decode cX7_feed 19 = .ok (.getfield 44, 3) := edX7_feed_0.2.2.2.2.2.2.2.2.2.2.1
theorem dX7_feed_22 : decode cX7_feed 22 = .ok (.iload_n 1, 1) := edX7_feed_0.2.2.2.2.2.2.2.2.2.2.2.1
theorem dX7_feed_23 : decode cX7_feed 23 = .ok (.invokevirtual 239, 3) := edX7_feed_0.2.2.2.2.2.2.2.2.2.2.2.2.1
theorem dX7_feed_26 : decode cX7_feed 26 = .ok (.aload_n 0, 1) := edX7_feed_0.2.2.2.2.2.2.2.2.2.2.2.2.2.1
theorem dX7_feed_27 : decode cX7_feed 27 = .ok (.getfield 44, 3) := edX7_feed_0.2.2.2.2.2.2.2.2.2.2.2.2.2.2.1
theorem dX7_feed_30 : decode cX7_feed 30 = .ok (.iload_n 2, 1) := edX7_feed_0.2.2.2.2.2.2.2.2.2.2.2.2.2.2.2.1
theorem dX7_feed_31 : decode cX7_feed 31 = .ok (.invokevirtual 239, 3) := edX7_feed_0.2.2.2.2.2.2.2.2.2.2.2.2.2.2.2.2.1
theorem dX7_feed_34 : decode cX7_feed 34 = .ok (.aload_n 0, 1) := edX7_feed_0.2.2.2.2.2.2.2.2.2.2.2.2.2.2.2.2.2.1
theorem dX7_feed_35 : decode cX7_feed 35 = .ok (.getfield 44, 3) := edX7_feed_0.2.2.2.2.2.2.2.2.2.2.2.2.2.2.2.2.2.2.1
theorem dX7_feed_38 : decode cX7_feed 38 = .ok (.iload_n 3, 1) := edX7_feed_0.2.2.2.2.2.2.2.2.2.2.2.2.2.2.2.2.2.2.2.1
theorem dX7_feed_39 : decode cX7_feed 39 = .ok (.invokevirtual 239, 3) := edX7_feed_0.2.2.2.2.2.2.2.2.2.2.2.2.2.2.2.2.2.2.2.2.1
theorem dX7_feed_42 : decode cX7_feed 42 = .ok (.aload_n 0, 1) := edX7_feed_0.2.2.2.2.2.2.2.2.2.2.2.2.2.2.2.2.2.2.2.2.2.1
theorem dX7_feed_43 : decode cX7_feed 43 = .ok (.getfield 44, 3) := edX7_feed_0.2.2.2.2.2.2.2.2.2.2.2.2.2.2.2.2.2.2.2.2.2.2.1
theorem dX7_feed_46 : decode cX7_feed 46 = .ok (.getfield 234, 3) := edX7_feed_0.2.2.2.2.2.2.2.2.2.2.2.2.2.2.2.2.2.2.2.2.2.2.2.1
theorem dX7_feed_49 : decode cX7_feed 49 = .ok (.ireturn, 1) := edX7_feed_0.2.2.2.2.2.2.2.2.2.2.2.2.2.2.2.2.2.2.2.2.2.2.2.2.1
theorem edX7_trim_0 : (decode cX7_trim 0 = .ok (.iload_n 1, 1)) ∧ (decode cX7_trim 1 = .ok (.iconst 0, 1)) ∧ (decode cX7_trim 2 = .ok (.aload_n 0, 1)) ∧ (decode cX7_trim 3 = .ok (.getfield 44, 3)) ∧ (decode cX7_trim 6 = .ok (.getfield 234, 3)) ∧ (decode cX7_trim 9 = .ok (.invokestatic 74, 3)) ∧ (decode cX7_trim 12 = .ok (.ifCond .ne 6, 3)) ∧ (decode cX7_trim 15 = .ok (.ldc 78, 2)) ∧ (decode cX7_trim 17 = .ok (.ireturn, 1)) ∧ (decode cX7_trim 18 = .ok (.aload_n 0, 1)) ∧ (decode cX7_trim 19 = .ok (.getfield 44, 3)) ∧ (decode cX7_trim 22 = .ok (.iload_n 1, 1)) ∧ (decode cX7_trim 23 = .ok (.putfield 234, 3)) ∧ (decode cX7_trim 26 = .ok (.iload_n 1, 1)) ∧ (decode cX7_trim 27 = .ok (.ireturn, 1)) ∧ True := dc_cj [(0, .iload_n 1, 1), (1, .iconst 0, 1), (2, .aload_n 0, 1), (3, .getfield 44, 3), (6, .getfield 234, 3), (9, .invokestatic 74, 3), (12, .ifCond .ne 6, 3), (15, .ldc 78, 2), (17, .ireturn, 1), (18, .aload_n 0, 1), (19, .getfield 44, 3), (22, .iload_n 1, 1), (23, .putfield 234, 3), (26, .iload_n 1, 1), (27, .ireturn, 1)] (by decide +kernel)
theorem dX7_trim_0 : decode cX7_trim 0 = .ok (.iload_n 1, 1) := edX7_trim_0.1
theorem dX7_trim_1 : decode cX7_trim 1 = .ok (.iconst 0, 1) := edX7_trim_0.2.1
theorem dX7_trim_2 : decode cX7_trim 2 = .ok (.aload_n 0, 1) := edX7_trim_0.2.2.1
theorem dX7_trim_3 : decode cX7_trim 3 = .ok (.getfield 44, 3) := edX7_trim_0.2.2.2.1
theorem dX7_trim_6 : decode cX7_trim 6 = .ok (.getfield 234, 3) := edX7_trim_0.2.2.2.2.1
theorem dX7_trim_9 : decode cX7_trim 9 = .ok (.invokestatic 74, 3) := edX7_trim_0.2.2.2.2.2.1
theorem dX7_trim_12 : decode cX7_trim 12 = .ok (.ifCond .ne 6, 3) := edX7_trim_0.2.2.2.2.2.2.1
theorem dX7_trim_15 : decode cX7_trim 15 = .ok (.ldc 78, 2) := edX7_trim_0.2.2.2.2.2.2.2.1
theorem dX7_trim_17 : decode cX7_trim 17 = .ok (.ireturn, 1) := edX7_trim_0.2.2.2.2.2.2.2.2.1
theorem dX7_trim_18 : decode cX7_trim 18 = .ok (.aload_n 0, 1) := edX7_trim_0.2.2.2.2.2.2.2.2.2.1
theorem dX7_trim_19 : decode cX7_trim 19 = .ok (.getfield 44, 3) := edX7_trim_0.2.2.2.2.2.2.2.2.2.2.1
theorem dX7_trim_22 : decode cX7_trim 22 = .ok (.iload_n 1, 1) := edX7_trim_0.2.2.2.2.2.2.2.2.2.2.2.1
theorem dX7_trim_23 : decode cX7_trim 23 = .ok (.putfield 234, 3) := edX7_trim_0.2.2.2.2.2.2.2.2.2.2.2.2.1
theorem dX7_trim_26 : decode cX7_trim 26 = .ok (.iload_n 1, 1) := edX7_trim_0.2.2.2.2.2.2.2.2.2.2.2.2.2.1
theorem dX7_trim_27 : decode cX7_trim 27 = .ok (.ireturn, 1) := edX7_trim_0.2.2.2.2.2.2.2.2.2.2.2.2.2.2.1
theorem edX7_text_0 : (decode cX7_text 0 = .ok (.aload_n 0, 1)) ∧ (decode cX7_text 1 = .ok (.getfield 36, 3)) ∧ (decode cX7_text 4 = .ok (.invokevirtual 243, 3)) ∧ (decode cX7_text 7 = .ok (.istore_n 1, 1)) ∧ (decode cX7_text 8 = .ok (.aload_n 0, 1)) ∧ (decode cX7_text 9 = .ok (.getfield 44, 3)) ∧ (decode cX7_text 12 = .ok (.iconst 0, 1)) ∧ (decode cX7_text 13 = .ok (.putfield 234, 3)) ∧ (decode cX7_text 16 = .ok (.iload_n 1, 1)) ∧ (decode cX7_text 17 = .ok (.ifCond .lt 8, 3)) ∧ (decode cX7_text 20 = .ok (.bipush (-100), 2)) ∧ (decode cX7_text 22 = .ok (.iload_n 1, 1)) ∧ (decode cX7_text 23 = .ok (.isub, 1)) ∧ (decode cX7_text 24 = .ok (.ireturn, 1)) ∧ (decode cX7_text 25 = .ok (.aload_n 0, 1)) ∧ (decode cX7_text 26 = .ok (.getfield 10, 3)) ∧ (decode cX7_text 29 = .ok (.getfield 246, 3)) ∧ (decode cX7_text 32 = .ok (.bipush 14, 2)) ∧ (decode cX7_text 34 = .ok (.if_icmp .lt 6, 3)) ∧ (decode cX7_text 37 = .ok (.ldc 82, 2)) ∧ (decode cX7_text 39 = .ok (.ireturn, 1)) ∧ (decode cX7_text 40 = .ok (.aload_n 0, 1)) ∧ (decode cX7_text 41 = .ok (.getfield 10, 3)) ∧ (decode cX7_text 44 = .ok (.aload_n 0, 1)) ∧ (decode cX7_text 45 = .ok (.getfield 36, 3)) ∧ (decode cX7_text 48 = .ok (.invokevirtual 249, 3)) ∧ (decode cX7_text 51 = .ok (.invokevirtual 253, 3)) ∧ (decode cX7_text 54 = .ok (.aload_n 0, 1)) ∧ (decode cX7_text 55 = .ok (.getfield 10, 3)) ∧ (decode cX7_text 58 = .ok (.getfield 246, 3)) ∧ (decode cX7_text 61 = .ok (.iconst 1, 1)) ∧ (decode cX7_text 62 = .ok (.isub, 1)) ∧ True := dc_cj [(0, .aload_n 0, 1), (1, .getfield 36, 3), (4, .invokevirtual 243, 3), (7, .istore_n 1, 1), (8, .aload_n 0, 1), (9, .getfield 44, 3), (12, .iconst 0, 1), (13, .putfield 234, 3), (16, .iload_n 1, 1), (17, .ifCond .lt 8, 3), (20, .bipush (-100), 2), (22, .iload_n 1, 1), (23, .isub, 1), (24, .ireturn, 1), (25, .aload_n 0, 1), (26, .getfield 10, 3), (29, .getfield 246, 3), (32, .bipush 14, 2), (34, .if_icmp .lt 6, 3), (37, .ldc 82, 2), (39, .ireturn, 1), (40, .aload_n 0, 1), (41, .getfield 10, 3), (44, .aload_n 0, 1), (45, .getfield 36, 3), (48, .invokevirtual 249, 3), (51, .invokevirtual 253, 3), (54, .aload_n 0, 1), (55, .getfield 10, 3), (58, .getfield 246, 3), (61, .iconst 1, 1), (62, .isub, 1)] (by decide +kernel)
theorem dX7_text_0 : decode cX7_text 0 = .ok (.aload_n 0, 1) := edX7_text_0.1
theorem dX7_text_1 : decode cX7_text 1 = .ok (.getfield 36, 3) := edX7_text_0.2.1
theorem dX7_text_4 : decode cX7_text 4 = .ok (.invokevirtual 243, 3) := edX7_text_0.2.2.1
theorem dX7_text_7 : decode cX7_text 7 = .ok (.istore_n 1, 1) := edX7_text_0.2.2.2.1
theorem dX7_text_8 : decode cX7_text 8 = .ok (.aload_n 0, 1) := edX7_text_0.2.2.2.2.1
theorem dX7_text_9 : decode cX7_text 9 = .ok (.getfield 44, 3) := edX7_text_0.2.2.2.2.2.1
theorem dX7_text_12 : decode cX7_text 12 = .ok (.iconst 0, 1) := edX7_text_0.2.2.2.2.2.2.1
theorem dX7_text_13 : decode cX7_text 13 = .ok (.putfield 234, 3) := edX7_text_0.2.2.2.2.2.2.2.1
theorem dX7_text_16 : decode cX7_text 16 = .ok (.iload_n 1, 1) := edX7_text_0.2.2.2.2.2.2.2.2.1
theorem dX7_text_17 : decode cX7_text 17 = .ok (.ifCond .lt 8, 3) := edX7_text_0.2.2.2.2.2.2.2.2.2.1
theorem dX7_text_20 : decode cX7_text 20 = .ok (.bipush (-100), 2) := edX7_text_0.2.2.2.2.2.2.2.2.2.2.1
theorem dX7_text_22 : decode cX7_text 22 = .ok (.iload_n 1, 1) := edX7_text_0.2.2.2.2.2.2.2.2.2.2.2.1
theorem dX7_text_23 : decode cX7_text 23 = .ok (.isub, 1) := edX7_text_0.2.2.2.2.2.2.2.2.2.2.2.2.1
theorem dX7_text_24 : decode cX7_text 24 = .ok (.ireturn, 1) := edX7_text_0.2.2.2.2.2.2.2.2.2.2.2.2.2.1
theorem dX7_text_25 : decode cX7_text 25 = .ok (.aload_n 0, 1) := edX7_text_0.2.2.2.2.2.2.2.2.2.2.2.2.2.2.1
theorem dX7_text_26 : decode cX7_text 26 = .ok (.getfield 10, 3) := edX7_text_0.2.2.2.2.2.2.2.2.2.2.2.2.2.2.2.1
theorem dX7_text_29 : decode cX7_text 29 = .ok (.getfield 246, 3) := edX7_text_0.2.2.2.2.2.2.2.2.2.2.2.2.2.2.2.2.1
theorem dX7_text_32 : decode cX7_text 32 = .ok (.bipush 14, 2) := edX7_text_0.2.2.2.2.2.2.2.2.2.2.2.2.2.2.2.2.2.1
theorem dX7_text_34 : decode cX7_text 34 = .ok (.if_icmp .lt 6, 3) := edX7_text_0.2.2.2.2.2.2.2.2.2.2.2.2.2.2.2.2.2.2.1
theorem dX7_text_37 : decode cX7_text 37 = .ok (.ldc 82, 2) := edX7_text_0.2.2.2.2.2.2.2.2.2.2.2.2.2.2.2.2.2.2.2.1
theorem dX7_text_39 : decode cX7_text 39 = .ok (.ireturn, 1) := edX7_text_0.2.2.2.2.2.2.2.2.2.2.2.2.2.2.2.2.2.2.2.2.1
theorem dX7_text_40 : decode cX7_text 40 = .ok (.aload_n 0, 1) := edX7_text_0.2.2.2.2.2.2.2.2.2.2.2.2.2.2.2.2.2.2.2.2.2.1
theorem dX7_text_41 : decode cX7_text 41 = .ok (.getfield 10, 3) := edX7_text_0.2.2.2.2.2.2.2.2.2.2.2.2.2.2.2.2.2.2.2.2.2.2.1
theorem dX7_text_44 : decode cX7_text 44 = .ok (.aload_n 0, 1) := edX7_text_0.2.2.2.2.2.2.2.2.2.2.2.2.2.2.2.2.2.2.2.2.2.2.2.1
theorem dX7_text_45 : decode cX7_text 45 = .ok (.getfield 36, 3) := edX7_text_0.2.2.2.2.2.2.2.2.2.2.2.2.2.2.2.2.2.2.2.2.2.2.2.2.1
theorem dX7_text_48 : decode cX7_text 48 = .ok (.invokevirtual 249, 3) := edX7_text_0.2.2.2.2.2.2.2.2.2.2.2.2.2.2.2.2.2.2.2.2.2.2.2.2.2.1
theorem dX7_text_51 : decode cX7_text 51 = .ok (.invokevirtual 253, 3) := edX7_text_0.2.2.2.2.2.2.2.2.2.2.2.2.2.2.2.2.2.2.2.2.2.2.2.2.2.2.1
theorem dX7_text_54 : decode cX7_text 54 = .ok (.aload_n 0, 1) := edX7_text_0.2.2.2.2.2.2.2.2.2.2.2.2.2.2.2.2.2.2.2.2.2.2.2.2.2.2.2.1
theorem dX7_text_55 : decode cX7_text 55 = .ok (.getfield 10, 3) := edX7_text_0.2.2.2.2.2.2.2.2.2.2.2.2.2.2.2.2.2.2.2.2.2.2.2.2.2.2.2.2.1
theorem dX7_text_58 : decode cX7_text 58 = .ok (.getfield 246, 3) := edX7_text_0.2.2.2.2.2.2.2.2.2.2.2.2.2.2.2.2.2.2.2.2.2.2.2.2.2.2.2.2.2.1
theorem dX7_text_61 : decode cX7_text 61 = .ok (.iconst 1, 1) := edX7_text_0.2.2.2.2.2.2.2.2.2.2.2.2.2.2.2.2.2.2.2.2.2.2.2.2.2.2.2.2.2.2.1
theorem dX7_text_62 : decode cX7_text 62 = .ok (.isub, 1) := edX7_text_0.2.2.2.2.2.2.2.2.2.2.2.2.2.2.2.2.2.2.2.2.2.2.2.2.2.2.2.2.2.2.2.1
theorem edX7_text_63 : (decode cX7_text 63 = .ok (.ireturn, 1)) ∧ True := dc_cj [(63, .ireturn, 1)] (by decide +kernel)
theorem dX7_text_63 : decode cX7_text 63 = .ok (.ireturn, 1) := edX7_text_63.1
theorem edX7_textTold_0 : (decode cX7_textTold 0 = .ok (.iload_n 1, 1)) ∧ (decode cX7_textTold 1 = .ok (.iconst 0, 1)) ∧ (decode cX7_textTold 2 = .ok (.aload_n 0, 1)) ∧ (decode cX7_textTold 3 = .ok (.getfield 10, 3)) ∧ (decode cX7_textTold 6 = .ok (.getfield 246, 3)) ∧ (decode cX7_textTold 9 = .ok (.iconst 1, 1)) ∧ (decode cX7_textTold 10 = .ok (.isub, 1)) ∧ (decode cX7_textTold 11 = .ok (.invokestatic 74, 3)) ∧ (decode cX7_textTold 14 = .ok (.ifCond .eq 12, 3)) ∧ (decode cX7_textTold 17 = .ok (.iload_n 2, 1)) ∧ (decode cX7_textTold 18 = .ok (.iconst 0, 1)) ∧ (decode cX7_textTold 19 = .ok (.iconst 1, 1)) ∧ (decode cX7_textTold 20 = .ok (.invokestatic 74, 3)) ∧ (decode cX7_textTold 23 = .ok (.ifCond .ne 6, 3)) ∧ (decode cX7_textTold 26 = .ok (.ldc 78, 2)) ∧ (decode cX7_textTold 28 = .ok (.ireturn, 1)) ∧ (decode cX7_textTold 29 = .ok (.aload_n 0, 1)) ∧ (decode cX7_textTold 30 = .ok (.getfield 10, 3)) ∧ (decode cX7_textTold 33 = .ok (.getfield 257, 3)) ∧ (decode cX7_textTold 36 = .ok (.iload_n 1, 1)) ∧ (decode cX7_textTold 37 = .ok (.aaload, 1)) ∧ (decode cX7_textTold 38 = .ok (.astore_n 3, 1)) ∧ (decode cX7_textTold 39 = .ok (.aload_n 3, 1)) ∧ (decode cX7_textTold 40 = .ok (.ifnonnull 6, 3)) ∧ (decode cX7_textTold 46 = .ok (.iload_n 2, 1)) ∧ (decode cX7_textTold 47 = .ok (.ifCond .ne 10, 3)) ∧ (decode cX7_textTold 50 = .ok (.aload_n 3, 1)) ∧ (decode cX7_textTold 51 = .ok (.getfield 261, 3)) ∧ (decode cX7_textTold 54 = .ok (.goto 7, 3)) ∧ (decode cX7_textTold 57 = .ok (.aload_n 3, 1)) ∧ (decode cX7_textTold 58 = .ok (.getfield 264, 3)) ∧ (decode cX7_textTold 61 = .ok (.ireturn, 1)) ∧ True := dc_cj [(0, .iload_n 1, 1), (1, .iconst 0, 1), (2, .aload_n 0, 1), (3, .getfield 10, 3), (6, .getfield 246, 3), (9, .iconst 1, 1), (10, .isub, 1), (11, .invokestatic 74, 3), (14, .ifCond .eq 12, 3), (17, .iload_n 2, 1), (18, .iconst 0, 1), (19, .iconst 1, 1), (20, .invokestatic 74, 3), (23, .ifCond .ne 6, 3), (26, .ldc 78, 2), (28, .ireturn, 1), (29, .aload_n 0, 1), (30, .getfield 10, 3), (33, .getfield 257, 3), (36, .iload_n 1, 1), (37, .aaload, 1), (38, .astore_n 3, 1), (39, .aload_n 3, 1), (40, .ifnonnull 6, 3), (46, .iload_n 2, 1), (47, .ifCond .ne 10, 3), (50, .aload_n 3, 1), (51, .getfield 261, 3), (54, .goto 7, 3), (57, .aload_n 3, 1), (58, .getfield 264, 3), (61, .ireturn, 1)] (by decide +kernel)
theorem dX7_textTold_0 : decode cX7_textTold 0 = .ok (.iload_n 1, 1) := edX7_textTold_0.1
theorem dX7_textTold_1 : decode cX7_textTold 1 = .ok (.iconst 0, 1) := edX7_textTold_0.2.1
theorem dX7_textTold_2 : decode cX7_textTold 2 = .ok (.aload_n 0, 1) := edX7_textTold_0.2.2.1
theorem dX7_textTold_3 : decode cX7_textTold 3 = .ok (.getfield 10, 3) := edX7_textTold_0.2.2.2.1
theorem dX7_textTold_6 : decode cX7_textTold 6 = .ok (.getfield 246, 3) := edX7_textTold_0.2.2.2.2.1
theorem dX7_textTold_9 : decode cX7_textTold 9 = .ok (.iconst 1, 1) := edX7_textTold_0.2.2.2.2.2.1
theorem dX7_textTold_10 : decode cX7_textTold 10 = .ok (.isub, 1) := edX7_textTold_0.2.2.2.2.2.2.1
theorem dX7_textTold_11 : decode cX7_textTold 11 = .ok (.invokestatic 74, 3) := edX7_textTold_0.2.2.2.2.2.2.2.1
theorem dX7_textTold_14 : decode cX7_textTold 14 = .ok (.ifCond .eq 12, 3) := edX7_textTold_0.2.2.2.2.2.2.2.2.1
theorem dX7_textTold_17 : decode cX7_textTold 17 = .ok (.iload_n 2, 1) := edX7_textTold_0.2.2.2.2.2.2.2.2.2.1
theorem dX7_textTold_18 : decode cX7_textTold 18 = .ok (.iconst 0, 1) := edX7_textTold_0.2.2.2.2.2.2.2.2.2.2.1
theorem dX7_textTold_19 : decode cX7_textTold 19 = .ok (.iconst 1, 1) := edX7_textTold_0.2.2.2.2.2.2.2.2.2.2.2.1
theorem dX7_textTold_20 : decode cX7_textTold 20 = .ok (.invokestatic 74, 3) := edX7_textTold_0.2.2.2.2.2.2.2.2.2.2.2.2.1
theorem dX7_textTold_23 : decode cX7_textTold 23 = .ok (.ifCond .ne 6, 3) := edX7_textTold_0.2.2.2.2.2.2.2.2.2.2.2.2.2.1
theorem dX7_textTold_26 : decode cX7_textTold 26 = .ok (.ldc 78, 2) := edX7_textTold_0.2.2.2.2.2.2.2.2.2.2.2.2.2.2.1
theorem dX7_textTold_28 : decode cX7_textTold 28 = .ok (.ireturn, 1) := edX7_textTold_0.2.2.2.2.2.2.2.2.2.2.2.2.2.2.2.1
theorem dX7_textTold_29 : decode cX7_textTold 29 = .ok (.aload_n 0, 1) := edX7_textTold_0.2.2.2.2.2.2.2.2.2.2.2.2.2.2.2.2.1
theorem dX7_textTold_30 : decode cX7_textTold 30 = .ok (.getfield 10, 3) := edX7_textTold_0.2.2.2.2.2.2.2.2.2.2.2.2.2.2.2.2.2.1
theorem dX7_textTold_33 : decode cX7_textTold 33 = .ok (.getfield 257, 3) := edX7_textTold_0.2.2.2.2.2.2.2.2.2.2.2.2.2.2.2.2.2.2.1
theorem dX7_textTold_36 : decode cX7_textTold 36 = .ok (.iload_n 1, 1) := edX7_textTold_0.2.2.2.2.2.2.2.2.2.2.2.2.2.2.2.2.2.2.2.1
theorem dX7_textTold_37 : decode cX7_textTold 37 = .ok (.aaload, 1) := edX7_textTold_0.2.2.2.2.2.2.2.2.2.2.2.2.2.2.2.2.2.2.2.2.1
theorem dX7_textTold_38 : decode cX7_textTold 38 = .ok (.astore_n 3, 1) := edX7_textTold_0.2.2.2.2.2.2.2.2.2.2.2.2.2.2.2.2.2.2.2.2.2.1
theorem dX7_textTold_39 : decode cX7_textTold 39 = .ok (.aload_n 3, 1) := edX7_textTold_0.2.2.2.2.2.2.2.2.2.2.2.2.2.2.2.2.2.2.2.2.2.2.1
theorem dX7_textTold_40 : decode cX7_textTold 40 = .ok (.ifnonnull 6, 3) := edX7_textTold_0.2.2.2.2.2.2.2.2.2.2.2.2.2.2.2.2.2.2.2.2.2.2.2.1
theorem dX7_textTold_46 : decode cX7_textTold 46 = .ok (.iload_n 2, 1) := edX7_textTold_0.2.2.2.2.2.2.2.2.2.2.2.2.2.2.2.2.2.2.2.2.2.2.2.2.1
theorem dX7_textTold_47 : decode cX7_textTold 47 = .ok (.ifCond .ne 10, 3) := edX7_textTold_0.2.2.2.2.2.2.2.2.2.2.2.2.2.2.2.2.2.2.2.2.2.2.2.2.2.1
theorem dX7_textTold_50 : decode cX7_textTold 50 = .ok (.aload_n 3, 1) := edX7_textTold_0.2.2.2.2.2.2.2.2.2.2.2.2.2.2.2.2.2.2.2.2.2.2.2.2.2.2.1
theorem dX7_textTold_51 : decode cX7_textTold 51 = .ok (.getfield 261, 3) := edX7_textTold_0.2.2.2.2.2.2.2.2.2.2.2.2.2.2.2.2.2.2.2.2.2.2.2.2.2.2.2.1
theorem dX7_textTold_54 : decode cX7_textTold 54 = .ok (.goto 7, 3) := edX7_textTold_0.2.2.2.2.2.2.2.2.2.2.2.2.2.2.2.2.2.2.2.2.2.2.2.2.2.2.2.2.1
theorem dX7_textTold_57 : decode cX7_textTold 57 = .ok (.aload_n 3, 1) := edX7_textTold_0.2.2.2.2.2.2.2.2.2.2.2.2.2.2.2.2.2.2.2.2.2.2.2.2.2.2.2.2.2.1
theorem dX7_textTold_58 : decode cX7_textTold 58 = .ok (.getfield 264, 3) := edX7_textTold_0.2.2.2.2.2.2.2.2.2.2.2.2.2.2.2.2.2.2.2.2.2.2.2.2.2.2.2.2.2.2.1
theorem dX7_textTold_61 : decode cX7_textTold 61 = .ok (.ireturn, 1) := edX7_textTold_0.2.2.2.2.2.2.2.2.2.2.2.2.2.2.2.2.2.2.2.2.2.2.2.2.2.2.2.2.2.2.2.1
theorem edX7_why_0 : (decode cX7_why 0 = .ok (.iload_n 1, 1)) ∧ (decode cX7_why 1 = .ok (.iconst 0, 1)) ∧ (decode cX7_why 2 = .ok (.iconst 2, 1)) ∧ (decode cX7_why 3 = .ok (.invokestatic 74, 3)) ∧ (decode cX7_why 6 = .ok (.ifCond .ne 6, 3)) ∧ (decode cX7_why 9 = .ok (.ldc 78, 2)) ∧ (decode cX7_why 11 = .ok (.ireturn, 1)) ∧ (decode cX7_why 12 = .ok (.aload_n 0, 1)) ∧ (decode cX7_why 13 = .ok (.getfield 10, 3)) ∧ (decode cX7_why 16 = .ok (.getfield 267, 3)) ∧ (decode cX7_why 19 = .ok (.iload_n 1, 1)) ∧ (decode cX7_why 20 = .ok (.iaload, 1)) ∧ (decode cX7_why 21 = .ok (.invokestatic 112, 3)) ∧ (decode cX7_why 24 = .ok (.ireturn, 1)) ∧ True := dc_cj [(0, .iload_n 1, 1), (1, .iconst 0, 1), (2, .iconst 2, 1), (3, .invokestatic 74, 3), (6, .ifCond .ne 6, 3), (9, .ldc 78, 2), (11, .ireturn, 1), (12, .aload_n 0, 1), (13, .getfield 10, 3), (16, .getfield 267, 3), (19, .iload_n 1, 1), (20, .iaload, 1), (21, .invokestatic 112, 3), (24, .ireturn, 1)] (by decide +kernel)
theorem dX7_why_0 : decode cX7_why 0 = .ok (.iload_n 1, 1) := edX7_why_0.1
theorem dX7_why_1 : decode cX7_why 1 = .ok (.iconst 0, 1) := edX7_why_0.2.1
theorem dX7_why_2 : decode cX7_why 2 = .ok (.iconst 2, 1) := edX7_why_0.2.2.1
theorem dX7_why_3 : decode cX7_why 3 = .ok (.invokestatic 74, 3) := edX7_why_0.2.2.2.1
theorem dX7_why_6 : decode cX7_why 6 = .ok (.ifCond .ne 6, 3) := edX7_why_0.2.2.2.2.1
theorem dX7_why_9 : decode cX7_why 9 = .ok (.ldc 78, 2) := edX7_why_0.2.2.2.2.2.1
theorem dX7_why_11 : decode cX7_why 11 = .ok (.ireturn, 1) := edX7_why_0.2.2.2.2.2.2.1
theorem dX7_why_12 : decode cX7_why 12 = .ok (.aload_n 0, 1) := edX7_why_0.2.2.2.2.2.2.2.1
theorem dX7_why_13 : decode cX7_why 13 = .ok (.getfield 10, 3) := edX7_why_0.2.2.2.2.2.2.2.2.1
theorem dX7_why_16 : decode cX7_why 16 = .ok (.getfield 267, 3) := edX7_why_0.2.2.2.2.2.2.2.2.2.1
theorem dX7_why_19 : decode cX7_why 19 = .ok (.iload_n 1, 1) := edX7_why_0.2.2.2.2.2.2.2.2.2.2.1
theorem dX7_why_20 : decode cX7_why 20 = .ok (.iaload, 1) := edX7_why_0.2.2.2.2.2.2.2.2.2.2.2.1
theorem dX7_why_21 : decode cX7_why 21 = .ok (.invokestatic 112, 3) := edX7_why_0.2.2.2.2.2.2.2.2.2.2.2.2.1
theorem dX7_why_24 : decode cX7_why 24 = .ok (.ireturn, 1) := edX7_why_0.2.2.2.2.2.2.2.2.2.2.2.2.2.1
theorem edX7_sheet_0 : (decode cX7_sheet 0 = .ok (.iload_n 1, 1)) ∧ (decode cX7_sheet 1 = .ok (.invokestatic 204, 3)) ∧ (decode cX7_sheet 4 = .ok (.ifCond .eq 12, 3)) ∧ (decode cX7_sheet 7 = .ok (.iload_n 2, 1)) ∧ (decode cX7_sheet 8 = .ok (.iconst (-1), 1)) ∧ (decode cX7_sheet 9 = .ok (.iconst 1, 1)) ∧ (decode cX7_sheet 10 = .ok (.invokestatic 74, 3)) ∧ (decode cX7_sheet 13 = .ok (.ifCond .ne 6, 3)) ∧ (decode cX7_sheet 16 = .ok (.ldc 78, 2)) ∧ (decode cX7_sheet 18 = .ok (.ireturn, 1)) ∧ (decode cX7_sheet 19 = .ok (.iload_n 2, 1)) ∧ (decode cX7_sheet 20 = .ok (.iconst (-1), 1)) ∧ (decode cX7_sheet 21 = .ok (.if_icmp .ne 16, 3)) ∧ (decode cX7_sheet 24 = .ok (.aload_n 0, 1)) ∧ (decode cX7_sheet 25 = .ok (.getfield 47, 3)) ∧ (decode cX7_sheet 28 = .ok (.iload_n 1, 1)) ∧ (decode cX7_sheet 29 = .ok (.aaload, 1)) ∧ (decode cX7_sheet 30 = .ok (.iconst (-1), 1)) ∧ (decode cX7_sheet 31 = .ok (.iconst 0, 1)) ∧ (decode cX7_sheet 32 = .ok (.invokevirtual 270, 3)) ∧ (decode cX7_sheet 35 = .ok (.iconst 0, 1)) ∧ (decode cX7_sheet 36 = .ok (.ireturn, 1)) ∧ (decode cX7_sheet 37 = .ok (.iload_n 3, 1)) ∧ (decode cX7_sheet 38 = .ok (.bipush 24, 2)) ∧ (decode cX7_sheet 40 = .ok (.if_icmp .le 6, 3)) ∧ (decode cX7_sheet 43 = .ok (.ldc 78, 2)) ∧ (decode cX7_sheet 45 = .ok (.ireturn, 1)) ∧ (decode cX7_sheet 46 = .ok (.iload_n 3, 1)) ∧ (decode cX7_sheet 47 = .ok (.ifCond .ge 7, 3)) ∧ (decode cX7_sheet 50 = .ok (.ldc_w 274, 3)) ∧ (decode cX7_sheet 53 = .ok (.ireturn, 1)) ∧ (decode cX7_sheet 54 = .ok (.aload_n 0, 1)) ∧ True := dc_cj [(0, .iload_n 1, 1), (1, .invokestatic 204, 3), (4, .ifCond .eq 12, 3), (7, .iload_n 2, 1), (8, .iconst (-1), 1), (9, .iconst 1, 1), (10, .invokestatic 74, 3), (13, .ifCond .ne 6, 3), (16, .ldc 78, 2), (18, .ireturn, 1), (19, .iload_n 2, 1), (20, .iconst (-1), 1), (21, .if_icmp .ne 16, 3), (24, .aload_n 0, 1), (25, .getfield 47, 3), (28, .iload_n 1, 1), (29, .aaload, 1), (30, .iconst (-1), 1), (31, .iconst 0, 1), (32, .invokevirtual 270, 3), (35, .iconst 0, 1), (36, .ireturn, 1), (37, .iload_n 3, 1), (38, .bipush 24, 2), (40, .if_icmp .le 6, 3), (43, .ldc 78, 2), (45, .ireturn, 1), (46, .iload_n 3, 1), (47, .ifCond .ge 7, 3), (50, .ldc_w 274, 3), (53, .ireturn, 1), (54, .aload_n 0, 1)] (by decide +kernel)
theorem dX7_sheet_0 : decode cX7_sheet 0 = .ok (.iload_n 1, 1) := edX7_sheet_0.1
theorem dX7_sheet_1 : decode cX7_sheet 1 = .ok (.invokestatic 204, 3) := edX7_sheet_0.2.1
theorem dX7_sheet_4 : decode cX7_sheet 4 = .ok (.ifCond .eq 12, 3) := edX7_sheet_0.2.2.1
theorem dX7_sheet_7 : decode cX7_sheet 7 = .ok (.iload_n 2, 1) := edX7_sheet_0.2.2.2.1
theorem dX7_sheet_8 : decode cX7_sheet 8 = .ok (.iconst (-1), 1) := edX7_sheet_0.2.2.2.2.1
theorem dX7_sheet_9 : decode cX7_sheet 9 = .ok (.iconst 1, 1) := edX7_sheet_0.2.2.2.2.2.1
theorem dX7_sheet_10 : decode cX7_sheet 10 = .ok (.invokestatic 74, 3) := edX7_sheet_0.2.2.2.2.2.2.1
theorem dX7_sheet_13 : decode cX7_sheet 13 = .ok (.ifCond .ne 6, 3) := edX7_sheet_0.2.2.2.2.2.2.2.1
theorem dX7_sheet_16 : decode cX7_sheet 16 = .ok (.ldc 78, 2) := edX7_sheet_0.2.2.2.2.2.2.2.2.1
theorem dX7_sheet_18 : decode cX7_sheet 18 = .ok (.ireturn, 1) := edX7_sheet_0.2.2.2.2.2.2.2.2.2.1
theorem dX7_sheet_19 : decode cX7_sheet 19 = .ok (.iload_n 2, 1) := edX7_sheet_0.2.2.2.2.2.2.2.2.2.2.1
theorem dX7_sheet_20 : decode cX7_sheet 20 = .ok (.iconst (-1), 1) := edX7_sheet_0.2.2.2.2.2.2.2.2.2.2.2.1
theorem dX7_sheet_21 : decode cX7_sheet 21 = .ok (.if_icmp .ne 16, 3) := edX7_sheet_0.2.2.2.2.2.2.2.2.2.2.2.2.1
theorem dX7_sheet_24 : decode cX7_sheet 24 = .ok (.aload_n 0, 1) := edX7_sheet_0.2.2.2.2.2.2.2.2.2.2.2.2.2.1
theorem dX7_sheet_25 : decode cX7_sheet 25 = .ok (.getfield 47, 3) := edX7_sheet_0.2.2.2.2.2.2.2.2.2.2.2.2.2.2.1
theorem dX7_sheet_28 : decode cX7_sheet 28 = .ok (.iload_n 1, 1) := edX7_sheet_0.2.2.2.2.2.2.2.2.2.2.2.2.2.2.2.1
theorem dX7_sheet_29 : decode cX7_sheet 29 = .ok (.aaload, 1) := edX7_sheet_0.2.2.2.2.2.2.2.2.2.2.2.2.2.2.2.2.1
theorem dX7_sheet_30 : decode cX7_sheet 30 = .ok (.iconst (-1), 1) := edX7_sheet_0.2.2.2.2.2.2.2.2.2.2.2.2.2.2.2.2.2.1
theorem dX7_sheet_31 : decode cX7_sheet 31 = .ok (.iconst 0, 1) := edX7_sheet_0.2.2.2.2.2.2.2.2.2.2.2.2.2.2.2.2.2.2.1
theorem dX7_sheet_32 : decode cX7_sheet 32 = .ok (.invokevirtual 270, 3) := edX7_sheet_0.2.2.2.2.2.2.2.2.2.2.2.2.2.2.2.2.2.2.2.1
theorem dX7_sheet_35 : decode cX7_sheet 35 = .ok (.iconst 0, 1) := edX7_sheet_0.2.2.2.2.2.2.2.2.2.2.2.2.2.2.2.2.2.2.2.2.1
theorem dX7_sheet_36 : decode cX7_sheet 36 = .ok (.ireturn, 1) := edX7_sheet_0.2.2.2.2.2.2.2.2.2.2.2.2.2.2.2.2.2.2.2.2.2.1
theorem dX7_sheet_37 : decode cX7_sheet 37 = .ok (.iload_n 3, 1) := edX7_sheet_0.2.2.2.2.2.2.2.2.2.2.2.2.2.2.2.2.2.2.2.2.2.2.1
theorem dX7_sheet_38 : decode cX7_sheet 38 = .ok (.bipush 24, 2) := edX7_sheet_0.2.2.2.2.2.2.2.2.2.2.2.2.2.2.2.2.2.2.2.2.2.2.2.1
theorem dX7_sheet_40 : decode cX7_sheet 40 = .ok (.if_icmp .le 6, 3) := edX7_sheet_0.2.2.2.2.2.2.2.2.2.2.2.2.2.2.2.2.2.2.2.2.2.2.2.2.1
theorem dX7_sheet_43 : decode cX7_sheet 43 = .ok (.ldc 78, 2) := edX7_sheet_0.2.2.2.2.2.2.2.2.2.2.2.2.2.2.2.2.2.2.2.2.2.2.2.2.2.1
theorem dX7_sheet_45 : decode cX7_sheet 45 = .ok (.ireturn, 1) := edX7_sheet_0.2.2.2.2.2.2.2.2.2.2.2.2.2.2.2.2.2.2.2.2.2.2.2.2.2.2.1
theorem dX7_sheet_46 : decode cX7_sheet 46 = .ok (.iload_n 3, 1) := edX7_sheet_0.2.2.2.2.2.2.2.2.2.2.2.2.2.2.2.2.2.2.2.2.2.2.2.2.2.2.2.1
theorem dX7_sheet_47 : decode cX7_sheet 47 = .ok (.ifCond .ge 7, 3) := edX7_sheet_0.2.2.2.2.2.2.2.2.2.2.2.2.2.2.2.2.2.2.2.2.2.2.2.2.2.2.2.2.1
theorem dX7_sheet_50 : decode cX7_sheet 50 = .ok (.ldc_w 274, 3) := edX7_sheet_0.2.2.2.2.2.2.2.2.2.2.2.2.2.2.2.2.2.2.2.2.2.2.2.2.2.2.2.2.2.1
theorem dX7_sheet_53 : decode cX7_sheet 53 = .ok (.ireturn, 1) := edX7_sheet_0.2.2.2.2.2.2.2.2.2.2.2.2.2.2.2.2.2.2.2.2.2.2.2.2.2.2.2.2.2.2.1
theorem dX7_sheet_54 : decode cX7_sheet 54 = .ok (.aload_n 0, 1) := edX7_sheet_0.2.2.2.2.2.2.2.2.2.2.2.2.2.2.2.2.2.2.2.2.2.2.2.2.2.2.2.2.2.2.2.1
theorem edX7_sheet_55 : (decode cX7_sheet 55 = .ok (.getfield 47, 3)) ∧ (decode cX7_sheet 58 = .ok (.iload_n 1, 1)) ∧ (decode cX7_sheet 59 = .ok (.aaload, 1)) ∧ (decode cX7_sheet 60 = .ok (.iload_n 2, 1)) ∧ (decode cX7_sheet 61 = .ok (.iload_n 3, 1)) ∧ (decode cX7_sheet 62 = .ok (.invokevirtual 270, 3)) ∧ (decode cX7_sheet 65 = .ok (.iload_n 3, 1)) ∧ (decode cX7_sheet 66 = .ok (.ireturn, 1)) ∧ True := dc_cj [(55, .getfield 47, 3), (58, .iload_n 1, 1), (59, .aaload, 1), (60, .iload_n 2, 1), (61, .iload_n 3, 1), (62, .invokevirtual 270, 3), (65, .iload_n 3, 1), (66, .ireturn, 1)] (by decide +kernel)
theorem dX7_sheet_55 : decode cX7_sheet 55 = .ok (.getfield 47, 3) := edX7_sheet_55.1
theorem dX7_sheet_58 : decode cX7_sheet 58 = .ok (.iload_n 1, 1) := edX7_sheet_55.2.1
theorem dX7_sheet_59 : decode cX7_sheet 59 = .ok (.aaload, 1) := edX7_sheet_55.2.2.1
theorem dX7_sheet_60 : decode cX7_sheet 60 = .ok (.iload_n 2, 1) := edX7_sheet_55.2.2.2.1
theorem dX7_sheet_61 : decode cX7_sheet 61 = .ok (.iload_n 3, 1) := edX7_sheet_55.2.2.2.2.1
theorem dX7_sheet_62 : decode cX7_sheet 62 = .ok (.invokevirtual 270, 3) := edX7_sheet_55.2.2.2.2.2.1
theorem dX7_sheet_65 : decode cX7_sheet 65 = .ok (.iload_n 3, 1) := edX7_sheet_55.2.2.2.2.2.2.1
theorem dX7_sheet_66 : decode cX7_sheet 66 = .ok (.ireturn, 1) := edX7_sheet_55.2.2.2.2.2.2.2.1
theorem edX7_mark_0 : (decode cX7_mark 0 = .ok (.iload_n 1, 1)) ∧ (decode cX7_mark 1 = .ok (.invokestatic 204, 3)) ∧ (decode cX7_mark 4 = .ok (.ifCond .ne 6, 3)) ∧ (decode cX7_mark 7 = .ok (.ldc 78, 2)) ∧ (decode cX7_mark 9 = .ok (.ireturn, 1)) ∧ (decode cX7_mark 10 = .ok (.aload_n 0, 1)) ∧ (decode cX7_mark 11 = .ok (.getfield 47, 3)) ∧ (decode cX7_mark 14 = .ok (.iload_n 1, 1)) ∧ (decode cX7_mark 15 = .ok (.aaload, 1)) ∧ (decode cX7_mark 16 = .ok (.astore 4, 2)) ∧ (decode cX7_mark 18 = .ok (.aload 4, 2)) ∧ (decode cX7_mark 20 = .ok (.invokevirtual 207, 3)) ∧ (decode cX7_mark 23 = .ok (.ifCond .eq 6, 3)) ∧ (decode cX7_mark 26 = .ok (.ldc 210, 2)) ∧ (decode cX7_mark 28 = .ok (.ireturn, 1)) ∧ (decode cX7_mark 29 = .ok (.aload 4, 2)) ∧ (decode cX7_mark 31 = .ok (.iload_n 2, 1)) ∧ (decode cX7_mark 32 = .ok (.invokevirtual 275, 3)) ∧ (decode cX7_mark 35 = .ok (.ifCond .ne 7, 3)) ∧ (decode cX7_mark 38 = .ok (.ldc_w 278, 3)) ∧ (decode cX7_mark 41 = .ok (.ireturn, 1)) ∧ (decode cX7_mark 42 = .ok (.aload 4, 2)) ∧ (decode cX7_mark 44 = .ok (.getfield 279, 3)) ∧ (decode cX7_mark 47 = .ok (.ifCond .ne 23, 3)) ∧ (decode cX7_mark 50 = .ok (.iload_n 3, 1)) ∧ (decode cX7_mark 51 = .ok (.ldc 200, 2)) ∧ (decode cX7_mark 53 = .ok (.if_icmp .ne 6, 3)) ∧ (decode cX7_mark 56 = .ok (.ldc 123, 2)) ∧ (decode cX7_mark 58 = .ok (.ireturn, 1)) ∧ (decode cX7_mark 59 = .ok (.aload 4, 2)) ∧ (decode cX7_mark 61 = .ok (.getfield 218, 3)) ∧ (decode cX7_mark 64 = .ok (.iload_n 2, 1)) ∧ True := dc_cj [(0, .iload_n 1, 1), (1, .invokestatic 204, 3), (4, .ifCond .ne 6, 3), (7, .ldc 78, 2), (9, .ireturn, 1), (10, .aload_n 0, 1), (11, .getfield 47, 3), (14, .iload_n 1, 1), (15, .aaload, 1), (16, .astore 4, 2), (18, .aload 4, 2), (20, .invokevirtual 207, 3), (23, .ifCond .eq 6, 3), (26, .ldc 210, 2), (28, .ireturn, 1), (29, .aload 4, 2), (31, .iload_n 2, 1), (32, .invokevirtual 275, 3), (35, .ifCond .ne 7, 3), (38, .ldc_w 278, 3), (41, .ireturn, 1), (42, .aload 4, 2), (44, .getfield 279, 3), (47, .ifCond .ne 23, 3), (50, .iload_n 3, 1), (51, .ldc 200, 2), (53, .if_icmp .ne 6, 3), (56, .ldc 123, 2), (58, .ireturn, 1), (59, .aload 4, 2), (61, .getfield 218, 3), (64, .iload_n 2, 1)] (by decide +kernel)
theorem dX7_mark_0 : decode cX7_mark 0 = .ok (.iload_n 1, 1) := edX7_mark_0.1
theorem dX7_mark_1 : decode cX7_mark 1 = .ok (.invokestatic 204, 3) := edX7_mark_0.2.1
theorem dX7_mark_4 : decode cX7_mark 4 = .ok (.ifCond .ne 6, 3) := edX7_mark_0.2.2.1
theorem dX7_mark_7 : decode cX7_mark 7 = .ok (.ldc 78, 2) := edX7_mark_0.2.2.2.1
theorem dX7_mark_9 : decode cX7_mark 9 = .ok (.ireturn, 1) := edX7_mark_0.2.2.2.2.1
theorem dX7_mark_10 : decode cX7_mark 10 = .ok (.aload_n 0, 1) := edX7_mark_0.2.2.2.2.2.1
theorem dX7_mark_11 : decode cX7_mark 11 = .ok (.getfield 47, 3) := edX7_mark_0.2.2.2.2.2.2.1
theorem dX7_mark_14 : decode cX7_mark 14 = .ok (.iload_n 1, 1) := edX7_mark_0.2.2.2.2.2.2.2.1
theorem dX7_mark_15 : decode cX7_mark 15 = .ok (.aaload, 1) := edX7_mark_0.2.2.2.2.2.2.2.2.1
theorem dX7_mark_16 : decode cX7_mark 16 = .ok (.astore 4, 2) := edX7_mark_0.2.2.2.2.2.2.2.2.2.1
theorem dX7_mark_18 : decode cX7_mark 18 = .ok (.aload 4, 2) := edX7_mark_0.2.2.2.2.2.2.2.2.2.2.1
theorem dX7_mark_20 : decode cX7_mark 20 = .ok (.invokevirtual 207, 3) := edX7_mark_0.2.2.2.2.2.2.2.2.2.2.2.1
theorem dX7_mark_23 : decode cX7_mark 23 = .ok (.ifCond .eq 6, 3) := edX7_mark_0.2.2.2.2.2.2.2.2.2.2.2.2.1
theorem dX7_mark_26 : decode cX7_mark 26 = .ok (.ldc 210, 2) := edX7_mark_0.2.2.2.2.2.2.2.2.2.2.2.2.2.1
theorem dX7_mark_28 : decode cX7_mark 28 = .ok (.ireturn, 1) := edX7_mark_0.2.2.2.2.2.2.2.2.2.2.2.2.2.2.1
theorem dX7_mark_29 : decode cX7_mark 29 = .ok (.aload 4, 2) := edX7_mark_0.2.2.2.2.2.2.2.2.2.2.2.2.2.2.2.1
theorem dX7_mark_31 : decode cX7_mark 31 = .ok (.iload_n 2, 1) := edX7_mark_0.2.2.2.2.2.2.2.2.2.2.2.2.2.2.2.2.1
theorem dX7_mark_32 : decode cX7_mark 32 = .ok (.invokevirtual 275, 3) := edX7_mark_0.2.2.2.2.2.2.2.2.2.2.2.2.2.2.2.2.2.1
theorem dX7_mark_35 : decode cX7_mark 35 = .ok (.ifCond .ne 7, 3) := edX7_mark_0.2.2.2.2.2.2.2.2.2.2.2.2.2.2.2.2.2.2.1
theorem dX7_mark_38 : decode cX7_mark 38 = .ok (.ldc_w 278, 3) := edX7_mark_0.2.2.2.2.2.2.2.2.2.2.2.2.2.2.2.2.2.2.2.1
theorem dX7_mark_41 : decode cX7_mark 41 = .ok (.ireturn, 1) := edX7_mark_0.2.2.2.2.2.2.2.2.2.2.2.2.2.2.2.2.2.2.2.2.1
theorem dX7_mark_42 : decode cX7_mark 42 = .ok (.aload 4, 2) := edX7_mark_0.2.2.2.2.2.2.2.2.2.2.2.2.2.2.2.2.2.2.2.2.2.1
theorem dX7_mark_44 : decode cX7_mark 44 = .ok (.getfield 279, 3) := edX7_mark_0.2.2.2.2.2.2.2.2.2.2.2.2.2.2.2.2.2.2.2.2.2.2.1
theorem dX7_mark_47 : decode cX7_mark 47 = .ok (.ifCond .ne 23, 3) := edX7_mark_0.2.2.2.2.2.2.2.2.2.2.2.2.2.2.2.2.2.2.2.2.2.2.2.1
theorem dX7_mark_50 : decode cX7_mark 50 = .ok (.iload_n 3, 1) := edX7_mark_0.2.2.2.2.2.2.2.2.2.2.2.2.2.2.2.2.2.2.2.2.2.2.2.2.1
theorem dX7_mark_51 : decode cX7_mark 51 = .ok (.ldc 200, 2) := edX7_mark_0.2.2.2.2.2.2.2.2.2.2.2.2.2.2.2.2.2.2.2.2.2.2.2.2.2.1
theorem dX7_mark_53 : decode cX7_mark 53 = .ok (.if_icmp .ne 6, 3) := edX7_mark_0.2.2.2.2.2.2.2.2.2.2.2.2.2.2.2.2.2.2.2.2.2.2.2.2.2.2.1
theorem dX7_mark_56 : decode cX7_mark 56 = .ok (.ldc 123, 2) := edX7_mark_0.2.2.2.2.2.2.2.2.2.2.2.2.2.2.2.2.2.2.2.2.2.2.2.2.2.2.2.1
theorem dX7_mark_58 : decode cX7_mark 58 = .ok (.ireturn, 1) := edX7_mark_0.2.2.2.2.2.2.2.2.2.2.2.2.2.2.2.2.2.2.2.2.2.2.2.2.2.2.2.2.1
theorem dX7_mark_59 : decode cX7_mark 59 = .ok (.aload 4, 2) := edX7_mark_0.2.2.2.2.2.2.2.2.2.2.2.2.2.2.2.2.2.2.2.2.2.2.2.2.2.2.2.2.2.1
theorem dX7_mark_61 : decode cX7_mark 61 = .ok (.getfield 218, 3) := edX7_mark_0.2.2.2.2.2.2.2.2.2.2.2.2.2.2.2.2.2.2.2.2.2.2.2.2.2.2.2.2.2.2.1
theorem dX7_mark_64 : decode cX7_mark 64 = .ok (.iload_n 2, 1) := edX7_mark_0.2.2.2.2.2.2.2.2.2.2.2.2.2.2.2.2.2.2.2.2.2.2.2.2.2.2.2.2.2.2.2.1
theorem edX7_mark_65 : (decode cX7_mark 65 = .ok (.iload_n 3, 1)) ∧ (decode cX7_mark 66 = .ok (.i2s, 1)) ∧ (decode cX7_mark 67 = .ok (.iastore, 1)) ∧ (decode cX7_mark 68 = .ok (.iconst 1, 1)) ∧ (decode cX7_mark 69 = .ok (.ireturn, 1)) ∧ (decode cX7_mark 70 = .ok (.iload_n 3, 1)) ∧ (decode cX7_mark 71 = .ok (.ldc 200, 2)) ∧ (decode cX7_mark 73 = .ok (.if_icmp .eq 19, 3)) ∧ (decode cX7_mark 76 = .ok (.iload_n 3, 1)) ∧ (decode cX7_mark 77 = .ok (.ldc_w 282, 3)) ∧ (decode cX7_mark 80 = .ok (.ldc_w 283, 3)) ∧ (decode cX7_mark 83 = .ok (.invokestatic 74, 3)) ∧ (decode cX7_mark 86 = .ok (.ifCond .ne 6, 3)) ∧ (decode cX7_mark 89 = .ok (.ldc 78, 2)) ∧ (decode cX7_mark 91 = .ok (.ireturn, 1)) ∧ (decode cX7_mark 92 = .ok (.aload 4, 2)) ∧ (decode cX7_mark 94 = .ok (.getfield 218, 3)) ∧ (decode cX7_mark 97 = .ok (.iload_n 2, 1)) ∧ (decode cX7_mark 98 = .ok (.iload_n 3, 1)) ∧ (decode cX7_mark 99 = .ok (.iastore, 1)) ∧ (decode cX7_mark 100 = .ok (.iconst 1, 1)) ∧ (decode cX7_mark 101 = .ok (.ireturn, 1)) ∧ True := dc_cj [(65, .iload_n 3, 1), (66, .i2s, 1), (67, .iastore, 1), (68, .iconst 1, 1), (69, .ireturn, 1), (70, .iload_n 3, 1), (71, .ldc 200, 2), (73, .if_icmp .eq 19, 3), (76, .iload_n 3, 1), (77, .ldc_w 282, 3), (80, .ldc_w 283, 3), (83, .invokestatic 74, 3), (86, .ifCond .ne 6, 3), (89, .ldc 78, 2), (91, .ireturn, 1), (92, .aload 4, 2), (94, .getfield 218, 3), (97, .iload_n 2, 1), (98, .iload_n 3, 1), (99, .iastore, 1), (100, .iconst 1, 1), (101, .ireturn, 1)] (by decide +kernel)
theorem dX7_mark_65 : decode cX7_mark 65 = .ok (.iload_n 3, 1) := edX7_mark_65.1
theorem dX7_mark_66 : decode cX7_mark 66 = .ok (.i2s, 1) := edX7_mark_65.2.1
theorem dX7_mark_67 : decode cX7_mark 67 = .ok (.iastore, 1) := edX7_mark_65.2.2.1
theorem dX7_mark_68 : decode cX7_mark 68 = .ok (.iconst 1, 1) := edX7_mark_65.2.2.2.1
theorem dX7_mark_69 : decode cX7_mark 69 = .ok (.ireturn, 1) := edX7_mark_65.2.2.2.2.1
theorem dX7_mark_70 : decode cX7_mark 70 = .ok (.iload_n 3, 1) := edX7_mark_65.2.2.2.2.2.1
theorem dX7_mark_71 : decode cX7_mark 71 = .ok (.ldc 200, 2) := edX7_mark_65.2.2.2.2.2.2.1
theorem dX7_mark_73 : decode cX7_mark 73 = .ok (.if_icmp .eq 19, 3) := edX7_mark_65.2.2.2.2.2.2.2.1
theorem dX7_mark_76 : decode cX7_mark 76 = .ok (.iload_n 3, 1) := edX7_mark_65.2.2.2.2.2.2.2.2.1
theorem dX7_mark_77 : decode cX7_mark 77 = .ok (.ldc_w 282, 3) := edX7_mark_65.2.2.2.2.2.2.2.2.2.1
theorem dX7_mark_80 : decode cX7_mark 80 = .ok (.ldc_w 283, 3) := edX7_mark_65.2.2.2.2.2.2.2.2.2.2.1
theorem dX7_mark_83 : decode cX7_mark 83 = .ok (.invokestatic 74, 3) := edX7_mark_65.2.2.2.2.2.2.2.2.2.2.2.1
theorem dX7_mark_86 : decode cX7_mark 86 = .ok (.ifCond .ne 6, 3) := edX7_mark_65.2.2.2.2.2.2.2.2.2.2.2.2.1
theorem dX7_mark_89 : decode cX7_mark 89 = .ok (.ldc 78, 2) := edX7_mark_65.2.2.2.2.2.2.2.2.2.2.2.2.2.1
theorem dX7_mark_91 : decode cX7_mark 91 = .ok (.ireturn, 1) := edX7_mark_65.2.2.2.2.2.2.2.2.2.2.2.2.2.2.1
theorem dX7_mark_92 : decode cX7_mark 92 = .ok (.aload 4, 2) := edX7_mark_65.2.2.2.2.2.2.2.2.2.2.2.2.2.2.2.1
theorem dX7_mark_94 : decode cX7_mark 94 = .ok (.getfield 218, 3) := edX7_mark_65.2.2.2.2.2.2.2.2.2.2.2.2.2.2.2.2.1
theorem dX7_mark_97 : decode cX7_mark 97 = .ok (.iload_n 2, 1) := edX7_mark_65.2.2.2.2.2.2.2.2.2.2.2.2.2.2.2.2.2.1
theorem dX7_mark_98 : decode cX7_mark 98 = .ok (.iload_n 3, 1) := edX7_mark_65.2.2.2.2.2.2.2.2.2.2.2.2.2.2.2.2.2.2.1
theorem dX7_mark_99 : decode cX7_mark 99 = .ok (.iastore, 1) := edX7_mark_65.2.2.2.2.2.2.2.2.2.2.2.2.2.2.2.2.2.2.2.1
theorem dX7_mark_100 : decode cX7_mark 100 = .ok (.iconst 1, 1) := edX7_mark_65.2.2.2.2.2.2.2.2.2.2.2.2.2.2.2.2.2.2.2.2.1
theorem dX7_mark_101 : decode cX7_mark 101 = .ok (.ireturn, 1) := edX7_mark_65.2.2.2.2.2.2.2.2.2.2.2.2.2.2.2.2.2.2.2.2.2.1
theorem edX7_pour_0 : (decode cX7_pour 0 = .ok (.iload_n 1, 1)) ∧ (decode cX7_pour 1 = .ok (.invokestatic 204, 3)) ∧ (decode cX7_pour 4 = .ok (.ifCond .ne 6, 3)) ∧ (decode cX7_pour 7 = .ok (.ldc 78, 2)) ∧ (decode cX7_pour 9 = .ok (.ireturn, 1)) ∧ (decode cX7_pour 10 = .ok (.aload_n 0, 1)) ∧ (decode cX7_pour 11 = .ok (.getfield 47, 3)) ∧ (decode cX7_pour 14 = .ok (.iload_n 1, 1)) ∧ (decode cX7_pour 15 = .ok (.aaload, 1)) ∧ (decode cX7_pour 16 = .ok (.astore_n 2, 1)) ∧ (decode cX7_pour 17 = .ok (.aload_n 2, 1)) ∧ (decode cX7_pour 18 = .ok (.invokevirtual 207, 3)) ∧ (decode cX7_pour 21 = .ok (.ifCond .eq 6, 3)) ∧ (decode cX7_pour 24 = .ok (.ldc 210, 2)) ∧ (decode cX7_pour 26 = .ok (.ireturn, 1)) ∧ (decode cX7_pour 27 = .ok (.iconst 0, 1)) ∧ (decode cX7_pour 28 = .ok (.istore_n 3, 1)) ∧ (decode cX7_pour 29 = .ok (.iconst 0, 1)) ∧ (decode cX7_pour 30 = .ok (.istore 4, 2)) ∧ (decode cX7_pour 32 = .ok (.iload 4, 2)) ∧ (decode cX7_pour 34 = .ok (.iconst 4, 1)) ∧ (decode cX7_pour 35 = .ok (.if_icmp .ge 62, 3)) ∧ (decode cX7_pour 38 = .ok (.aload_n 2, 1)) ∧ (decode cX7_pour 39 = .ok (.iload 4, 2)) ∧ (decode cX7_pour 41 = .ok (.invokevirtual 215, 3)) ∧ (decode cX7_pour 44 = .ok (.ifCond .eq 47, 3)) ∧ (decode cX7_pour 47 = .ok (.aload_n 2, 1)) ∧ (decode cX7_pour 48 = .ok (.getfield 218, 3)) ∧ (decode cX7_pour 51 = .ok (.iload 4, 2)) ∧ (decode cX7_pour 53 = .ok (.iaload, 1)) ∧ (decode cX7_pour 54 = .ok (.bipush 9, 2)) ∧ (decode cX7_pour 56 = .ok (.invokestatic 284, 3)) ∧ True := dc_cj [(0, .iload_n 1, 1), (1, .invokestatic 204, 3), (4, .ifCond .ne 6, 3), (7, .ldc 78, 2), (9, .ireturn, 1), (10, .aload_n 0, 1), (11, .getfield 47, 3), (14, .iload_n 1, 1), (15, .aaload, 1), (16, .astore_n 2, 1), (17, .aload_n 2, 1), (18, .invokevirtual 207, 3), (21, .ifCond .eq 6, 3), (24, .ldc 210, 2), (26, .ireturn, 1), (27, .iconst 0, 1), (28, .istore_n 3, 1), (29, .iconst 0, 1), (30, .istore 4, 2), (32, .iload 4, 2), (34, .iconst 4, 1), (35, .if_icmp .ge 62, 3), (38, .aload_n 2, 1), (39, .iload 4, 2), (41, .invokevirtual 215, 3), (44, .ifCond .eq 47, 3), (47, .aload_n 2, 1), (48, .getfield 218, 3), (51, .iload 4, 2), (53, .iaload, 1), (54, .bipush 9, 2), (56, .invokestatic 284, 3)] (by decide +kernel)
theorem dX7_pour_0 : decode cX7_pour 0 = .ok (.iload_n 1, 1) := edX7_pour_0.1
theorem dX7_pour_1 : decode cX7_pour 1 = .ok (.invokestatic 204, 3) := edX7_pour_0.2.1
theorem dX7_pour_4 : decode cX7_pour 4 = .ok (.ifCond .ne 6, 3) := edX7_pour_0.2.2.1
theorem dX7_pour_7 : decode cX7_pour 7 = .ok (.ldc 78, 2) := edX7_pour_0.2.2.2.1
theorem dX7_pour_9 : decode cX7_pour 9 = .ok (.ireturn, 1) := edX7_pour_0.2.2.2.2.1
theorem dX7_pour_10 : decode cX7_pour 10 = .ok (.aload_n 0, 1) := edX7_pour_0.2.2.2.2.2.1
theorem dX7_pour_11 : decode cX7_pour 11 = .ok (.getfield 47, 3) := edX7_pour_0.2.2.2.2.2.2.1
theorem dX7_pour_14 : decode cX7_pour 14 = .ok (.iload_n 1, 1) := edX7_pour_0.2.2.2.2.2.2.2.1
theorem dX7_pour_15 : decode cX7_pour 15 = .ok (.aaload, 1) := edX7_pour_0.2.2.2.2.2.2.2.2.1
theorem dX7_pour_16 : decode cX7_pour 16 = .ok (.astore_n 2, 1) := edX7_pour_0.2.2.2.2.2.2.2.2.2.1
theorem dX7_pour_17 : decode cX7_pour 17 = .ok (.aload_n 2, 1) := edX7_pour_0.2.2.2.2.2.2.2.2.2.2.1
theorem dX7_pour_18 : decode cX7_pour 18 = .ok (.invokevirtual 207, 3) := edX7_pour_0.2.2.2.2.2.2.2.2.2.2.2.1
theorem dX7_pour_21 : decode cX7_pour 21 = .ok (.ifCond .eq 6, 3) := edX7_pour_0.2.2.2.2.2.2.2.2.2.2.2.2.1
theorem dX7_pour_24 : decode cX7_pour 24 = .ok (.ldc 210, 2) := edX7_pour_0.2.2.2.2.2.2.2.2.2.2.2.2.2.1
theorem dX7_pour_26 : decode cX7_pour 26 = .ok (.ireturn, 1) := edX7_pour_0.2.2.2.2.2.2.2.2.2.2.2.2.2.2.1
theorem dX7_pour_27 : decode cX7_pour 27 = .ok (.iconst 0, 1) := edX7_pour_0.2.2.2.2.2.2.2.2.2.2.2.2.2.2.2.1
theorem dX7_pour_28 : decode cX7_pour 28 = .ok (.istore_n 3, 1) := edX7_pour_0.2.2.2.2.2.2.2.2.2.2.2.2.2.2.2.2.1
theorem dX7_pour_29 : decode cX7_pour 29 = .ok (.iconst 0, 1) := edX7_pour_0.2.2.2.2.2.2.2.2.2.2.2.2.2.2.2.2.2.1
theorem dX7_pour_30 : decode cX7_pour 30 = .ok (.istore 4, 2) := edX7_pour_0.2.2.2.2.2.2.2.2.2.2.2.2.2.2.2.2.2.2.1
theorem dX7_pour_32 : decode cX7_pour 32 = .ok (.iload 4, 2) := edX7_pour_0.2.2.2.2.2.2.2.2.2.2.2.2.2.2.2.2.2.2.2.1
theorem dX7_pour_34 : decode cX7_pour 34 = .ok (.iconst 4, 1) := edX7_pour_0.2.2.2.2.2.2.2.2.2.2.2.2.2.2.2.2.2.2.2.2.1
theorem dX7_pour_35 : decode cX7_pour 35 = .ok (.if_icmp .ge 62, 3) := edX7_pour_0.2.2.2.2.2.2.2.2.2.2.2.2.2.2.2.2.2.2.2.2.2.1
theorem dX7_pour_38 : decode cX7_pour 38 = .ok (.aload_n 2, 1) := edX7_pour_0.2.2.2.2.2.2.2.2.2.2.2.2.2.2.2.2.2.2.2.2.2.2.1
theorem dX7_pour_39 : decode cX7_pour 39 = .ok (.iload 4, 2) := edX7_pour_0.2.2.2.2.2.2.2.2.2.2.2.2.2.2.2.2.2.2.2.2.2.2.2.1
theorem dX7_pour_41 : decode cX7_pour 41 = .ok (.invokevirtual 215, 3) := edX7_pour_0.2.2.2.2.2.2.2.2.2.2.2.2.2.2.2.2.2.2.2.2.2.2.2.2.1
theorem dX7_pour_44 : decode cX7_pour 44 = .ok (.ifCond .eq 47, 3) := edX7_pour_0.2.2.2.2.2.2.2.2.2.2.2.2.2.2.2.2.2.2.2.2.2.2.2.2.2.1
theorem dX7_pour_47 : decode cX7_pour 47 = .ok (.aload_n 2, 1) := edX7_pour_0.2.2.2.2.2.2.2.2.2.2.2.2.2.2.2.2.2.2.2.2.2.2.2.2.2.2.1
theorem dX7_pour_48 : decode cX7_pour 48 = .ok (.getfield 218, 3) := edX7_pour_0.2.2.2.2.2.2.2.2.2.2.2.2.2.2.2.2.2.2.2.2.2.2.2.2.2.2.2.1
theorem dX7_pour_51 : decode cX7_pour 51 = .ok (.iload 4, 2) := edX7_pour_0.2.2.2.2.2.2.2.2.2.2.2.2.2.2.2.2.2.2.2.2.2.2.2.2.2.2.2.2.1
theorem dX7_pour_53 : decode cX7_pour 53 = .ok (.iaload, 1) := edX7_pour_0.2.2.2.2.2.2.2.2.2.2.2.2.2.2.2.2.2.2.2.2.2.2.2.2.2.2.2.2.2.1
theorem dX7_pour_54 : decode cX7_pour 54 = .ok (.bipush 9, 2) := edX7_pour_0.2.2.2.2.2.2.2.2.2.2.2.2.2.2.2.2.2.2.2.2.2.2.2.2.2.2.2.2.2.2.1
theorem dX7_pour_56 : decode cX7_pour 56 = .ok (.invokestatic 284, 3) := edX7_pour_0.2.2.2.2.2.2.2.2.2.2.2.2.2.2.2.2.2.2.2.2.2.2.2.2.2.2.2.2.2.2.2.1
theorem edX7_pour_59 : (decode cX7_pour 59 = .ok (.istore 5, 2)) ∧ (decode cX7_pour 61 = .ok (.iload 5, 2)) ∧ (decode cX7_pour 63 = .ok (.aload_n 0, 1)) ∧ (decode cX7_pour 64 = .ok (.getfield 10, 3)) ∧ (decode cX7_pour 67 = .ok (.getfield 127, 3)) ∧ (decode cX7_pour 70 = .ok (.iload 4, 2)) ∧ (decode cX7_pour 72 = .ok (.iaload, 1)) ∧ (decode cX7_pour 73 = .ok (.if_icmp .eq 18, 3)) ∧ (decode cX7_pour 76 = .ok (.aload_n 0, 1)) ∧ (decode cX7_pour 77 = .ok (.getfield 10, 3)) ∧ (decode cX7_pour 80 = .ok (.getfield 127, 3)) ∧ (decode cX7_pour 83 = .ok (.iload 4, 2)) ∧ (decode cX7_pour 85 = .ok (.iload 5, 2)) ∧ (decode cX7_pour 87 = .ok (.iastore, 1)) ∧ (decode cX7_pour 88 = .ok (.iinc 3 1, 3)) ∧ (decode cX7_pour 91 = .ok (.iinc 4 1, 3)) ∧ (decode cX7_pour 94 = .ok (.goto (-62), 3)) ∧ (decode cX7_pour 97 = .ok (.iload_n 3, 1)) ∧ (decode cX7_pour 98 = .ok (.ireturn, 1)) ∧ True := dc_cj [(59, .istore 5, 2), (61, .iload 5, 2), (63, .aload_n 0, 1), (64, .getfield 10, 3), (67, .getfield 127, 3), (70, .iload 4, 2), (72, .iaload, 1), (73, .if_icmp .eq 18, 3), (76, .aload_n 0, 1), (77, .getfield 10, 3), (80, .getfield 127, 3), (83, .iload 4, 2), (85, .iload 5, 2), (87, .iastore, 1), (88, .iinc 3 1, 3), (91, .iinc 4 1, 3), (94, .goto (-62), 3), (97, .iload_n 3, 1), (98, .ireturn, 1)] (by decide +kernel)
theorem dX7_pour_59 : decode cX7_pour 59 = .ok (.istore 5, 2) := edX7_pour_59.1
theorem dX7_pour_61 : decode cX7_pour 61 = .ok (.iload 5, 2) := edX7_pour_59.2.1
theorem dX7_pour_63 : decode cX7_pour 63 = .ok (.aload_n 0, 1) := edX7_pour_59.2.2.1
theorem dX7_pour_64 : decode cX7_pour 64 = .ok (.getfield 10, 3) := edX7_pour_59.2.2.2.1
theorem dX7_pour_67 : decode cX7_pour 67 = .ok (.getfield 127, 3) := edX7_pour_59.2.2.2.2.1
theorem dX7_pour_70 : decode cX7_pour 70 = .ok (.iload 4, 2) := edX7_pour_59.2.2.2.2.2.1
theorem dX7_pour_72 : decode cX7_pour 72 = .ok (.iaload, 1) := edX7_pour_59.2.2.2.2.2.2.1
theorem dX7_pour_73 : decode cX7_pour 73 = .ok (.if_icmp .eq 18, 3) := edX7_pour_59.2.2.2.2.2.2.2.1
theorem dX7_pour_76 : decode cX7_pour 76 = .ok (.aload_n 0, 1) := edX7_pour_59.2.2.2.2.2.2.2.2.1
theorem dX7_pour_77 : decode cX7_pour 77 = .ok (.getfield 10, 3) := edX7_pour_59.2.2.2.2.2.2.2.2.2.1
theorem dX7_pour_80 : decode cX7_pour 80 = .ok (.getfield 127, 3) := edX7_pour_59.2.2.2.2.2.2.2.2.2.2.1
theorem dX7_pour_83 : decode cX7_pour 83 = .ok (.iload 4, 2) := edX7_pour_59.2.2.2.2.2.2.2.2.2.2.2.1
theorem dX7_pour_85 : decode cX7_pour 85 = .ok (.iload 5, 2) := edX7_pour_59.2.2.2.2.2.2.2.2.2.2.2.2.1
theorem dX7_pour_87 : decode cX7_pour 87 = .ok (.iastore, 1) := edX7_pour_59.2.2.2.2.2.2.2.2.2.2.2.2.2.1
theorem dX7_pour_88 : decode cX7_pour 88 = .ok (.iinc 3 1, 3) := edX7_pour_59.2.2.2.2.2.2.2.2.2.2.2.2.2.2.1
theorem dX7_pour_91 : decode cX7_pour 91 = .ok (.iinc 4 1, 3) := edX7_pour_59.2.2.2.2.2.2.2.2.2.2.2.2.2.2.2.1
theorem dX7_pour_94 : decode cX7_pour 94 = .ok (.goto (-62), 3) := edX7_pour_59.2.2.2.2.2.2.2.2.2.2.2.2.2.2.2.2.1
theorem dX7_pour_97 : decode cX7_pour 97 = .ok (.iload_n 3, 1) := edX7_pour_59.2.2.2.2.2.2.2.2.2.2.2.2.2.2.2.2.2.1
theorem dX7_pour_98 : decode cX7_pour 98 = .ok (.ireturn, 1) := edX7_pour_59.2.2.2.2.2.2.2.2.2.2.2.2.2.2.2.2.2.2.1
theorem edX7_reads_0 : (decode cX7_reads 0 = .ok (.iload_n 1, 1)) ∧ (decode cX7_reads 1 = .ok (.invokestatic 204, 3)) ∧ (decode cX7_reads 4 = .ok (.ifCond .ne 6, 3)) ∧ (decode cX7_reads 7 = .ok (.ldc 78, 2)) ∧ (decode cX7_reads 9 = .ok (.ireturn, 1)) ∧ (decode cX7_reads 10 = .ok (.aload_n 0, 1)) ∧ (decode cX7_reads 11 = .ok (.getfield 47, 3)) ∧ (decode cX7_reads 14 = .ok (.iload_n 1, 1)) ∧ (decode cX7_reads 15 = .ok (.aaload, 1)) ∧ (decode cX7_reads 16 = .ok (.astore_n 2, 1)) ∧ (decode cX7_reads 17 = .ok (.aload_n 2, 1)) ∧ (decode cX7_reads 18 = .ok (.invokevirtual 207, 3)) ∧ (decode cX7_reads 21 = .ok (.ifCond .eq 6, 3)) ∧ (decode cX7_reads 24 = .ok (.ldc 210, 2)) ∧ (decode cX7_reads 26 = .ok (.ireturn, 1)) ∧ (decode cX7_reads 27 = .ok (.aload_n 0, 1)) ∧ (decode cX7_reads 28 = .ok (.getfield 16, 3)) ∧ (decode cX7_reads 31 = .ok (.aload_n 0, 1)) ∧ (decode cX7_reads 32 = .ok (.getfield 10, 3)) ∧ (decode cX7_reads 35 = .ok (.invokevirtual 193, 3)) ∧ (decode cX7_reads 38 = .ok (.iconst 0, 1)) ∧ (decode cX7_reads 39 = .ok (.istore_n 3, 1)) ∧ (decode cX7_reads 40 = .ok (.iload_n 3, 1)) ∧ (decode cX7_reads 41 = .ok (.aload_n 2, 1)) ∧ (decode cX7_reads 42 = .ok (.getfield 287, 3)) ∧ (decode cX7_reads 45 = .ok (.if_icmp .ge 45, 3)) ∧ (decode cX7_reads 48 = .ok (.aload_n 2, 1)) ∧ (decode cX7_reads 49 = .ok (.iload_n 3, 1)) ∧ (decode cX7_reads 50 = .ok (.invokevirtual 215, 3)) ∧ (decode cX7_reads 53 = .ok (.ifCond .eq 21, 3)) ∧ (decode cX7_reads 56 = .ok (.aload_n 2, 1)) ∧ (decode cX7_reads 57 = .ok (.getfield 218, 3)) ∧ True := dc_cj [(0, .iload_n 1, 1), (1, .invokestatic 204, 3), (4, .ifCond .ne 6, 3), (7, .ldc 78, 2), (9, .ireturn, 1), (10, .aload_n 0, 1), (11, .getfield 47, 3), (14, .iload_n 1, 1), (15, .aaload, 1), (16, .astore_n 2, 1), (17, .aload_n 2, 1), (18, .invokevirtual 207, 3), (21, .ifCond .eq 6, 3), (24, .ldc 210, 2), (26, .ireturn, 1), (27, .aload_n 0, 1), (28, .getfield 16, 3), (31, .aload_n 0, 1), (32, .getfield 10, 3), (35, .invokevirtual 193, 3), (38, .iconst 0, 1), (39, .istore_n 3, 1), (40, .iload_n 3, 1), (41, .aload_n 2, 1), (42, .getfield 287, 3), (45, .if_icmp .ge 45, 3), (48, .aload_n 2, 1), (49, .iload_n 3, 1), (50, .invokevirtual 215, 3), (53, .ifCond .eq 21, 3), (56, .aload_n 2, 1), (57, .getfield 218, 3)] (by decide +kernel)
theorem dX7_reads_0 : decode cX7_reads 0 = .ok (.iload_n 1, 1) := edX7_reads_0.1
theorem dX7_reads_1 : decode cX7_reads 1 = .ok (.invokestatic 204, 3) := edX7_reads_0.2.1
theorem dX7_reads_4 : decode cX7_reads 4 = .ok (.ifCond .ne 6, 3) := edX7_reads_0.2.2.1
theorem dX7_reads_7 : decode cX7_reads 7 = .ok (.ldc 78, 2) := edX7_reads_0.2.2.2.1
theorem dX7_reads_9 : decode cX7_reads 9 = .ok (.ireturn, 1) := edX7_reads_0.2.2.2.2.1
theorem dX7_reads_10 : decode cX7_reads 10 = .ok (.aload_n 0, 1) := edX7_reads_0.2.2.2.2.2.1
theorem dX7_reads_11 : decode cX7_reads 11 = .ok (.getfield 47, 3) := edX7_reads_0.2.2.2.2.2.2.1
theorem dX7_reads_14 : decode cX7_reads 14 = .ok (.iload_n 1, 1) := edX7_reads_0.2.2.2.2.2.2.2.1
theorem dX7_reads_15 : decode cX7_reads 15 = .ok (.aaload, 1) := edX7_reads_0.2.2.2.2.2.2.2.2.1
theorem dX7_reads_16 : decode cX7_reads 16 = .ok (.astore_n 2, 1) := edX7_reads_0.2.2.2.2.2.2.2.2.2.1
theorem dX7_reads_17 : decode cX7_reads 17 = .ok (.aload_n 2, 1) := edX7_reads_0.2.2.2.2.2.2.2.2.2.2.1
theorem dX7_reads_18 : decode cX7_reads 18 = .ok (.invokevirtual 207, 3) := edX7_reads_0.2.2.2.2.2.2.2.2.2.2.2.1
theorem dX7_reads_21 : decode cX7_reads 21 = .ok (.ifCond .eq 6, 3) := edX7_reads_0.2.2.2.2.2.2.2.2.2.2.2.2.1
theorem dX7_reads_24 : decode cX7_reads 24 = .ok (.ldc 210, 2) := edX7_reads_0.2.2.2.2.2.2.2.2.2.2.2.2.2.1
theorem dX7_reads_26 : decode cX7_reads 26 = .ok (.ireturn, 1) := edX7_reads_0.2.2.2.2.2.2.2.2.2.2.2.2.2.2.1
theorem dX7_reads_27 : decode cX7_reads 27 = .ok (.aload_n 0, 1) := edX7_reads_0.2.2.2.2.2.2.2.2.2.2.2.2.2.2.2.1
theorem dX7_reads_28 : decode cX7_reads 28 = .ok (.getfield 16, 3) := edX7_reads_0.2.2.2.2.2.2.2.2.2.2.2.2.2.2.2.2.1
theorem dX7_reads_31 : decode cX7_reads 31 = .ok (.aload_n 0, 1) := edX7_reads_0.2.2.2.2.2.2.2.2.2.2.2.2.2.2.2.2.2.1
theorem dX7_reads_32 : decode cX7_reads 32 = .ok (.getfield 10, 3) := edX7_reads_0.2.2.2.2.2.2.2.2.2.2.2.2.2.2.2.2.2.2.1
theorem dX7_reads_35 : decode cX7_reads 35 = .ok (.invokevirtual 193, 3) := edX7_reads_0.2.2.2.2.2.2.2.2.2.2.2.2.2.2.2.2.2.2.2.1
theorem dX7_reads_38 : decode cX7_reads 38 = .ok (.iconst 0, 1) := edX7_reads_0.2.2.2.2.2.2.2.2.2.2.2.2.2.2.2.2.2.2.2.2.1
theorem dX7_reads_39 : decode cX7_reads 39 = .ok (.istore_n 3, 1) := edX7_reads_0.2.2.2.2.2.2.2.2.2.2.2.2.2.2.2.2.2.2.2.2.2.1
theorem dX7_reads_40 : decode cX7_reads 40 = .ok (.iload_n 3, 1) := edX7_reads_0.2.2.2.2.2.2.2.2.2.2.2.2.2.2.2.2.2.2.2.2.2.2.1
theorem dX7_reads_41 : decode cX7_reads 41 = .ok (.aload_n 2, 1) := edX7_reads_0.2.2.2.2.2.2.2.2.2.2.2.2.2.2.2.2.2.2.2.2.2.2.2.1
theorem dX7_reads_42 : decode cX7_reads 42 = .ok (.getfield 287, 3) := edX7_reads_0.2.2.2.2.2.2.2.2.2.2.2.2.2.2.2.2.2.2.2.2.2.2.2.2.1
theorem dX7_reads_45 : decode cX7_reads 45 = .ok (.if_icmp .ge 45, 3) := edX7_reads_0.2.2.2.2.2.2.2.2.2.2.2.2.2.2.2.2.2.2.2.2.2.2.2.2.2.1
theorem dX7_reads_48 : decode cX7_reads 48 = .ok (.aload_n 2, 1) := edX7_reads_0.2.2.2.2.2.2.2.2.2.2.2.2.2.2.2.2.2.2.2.2.2.2.2.2.2.2.1
theorem dX7_reads_49 : decode cX7_reads 49 = .ok (.iload_n 3, 1) := edX7_reads_0.2.2.2.2.2.2.2.2.2.2.2.2.2.2.2.2.2.2.2.2.2.2.2.2.2.2.2.1
theorem dX7_reads_50 : decode cX7_reads 50 = .ok (.invokevirtual 215, 3) := edX7_reads_0.2.2.2.2.2.2.2.2.2.2.2.2.2.2.2.2.2.2.2.2.2.2.2.2.2.2.2.2.1
theorem dX7_reads_53 : decode cX7_reads 53 = .ok (.ifCond .eq 21, 3) := edX7_reads_0.2.2.2.2.2.2.2.2.2.2.2.2.2.2.2.2.2.2.2.2.2.2.2.2.2.2.2.2.2.1
theorem dX7_reads_56 : decode cX7_reads 56 = .ok (.aload_n 2, 1) := edX7_reads_0.2.2.2.2.2.2.2.2.2.2.2.2.2.2.2.2.2.2.2.2.2.2.2.2.2.2.2.2.2.2.1
theorem dX7_reads_57 : decode cX7_reads 57 = .ok (.getfield 218, 3) := edX7_reads_0.2.2.2.2.2.2.2.2.2.2.2.2.2.2.2.2.2.2.2.2.2.2.2.2.2.2.2.2.2.2.2.1
theorem edX7_reads_60 : (decode cX7_reads 60 = .ok (.iload_n 3, 1)) ∧ (decode cX7_reads 61 = .ok (.iaload, 1)) ∧ (decode cX7_reads 62 = .ok (.aload_n 0, 1)) ∧ (decode cX7_reads 63 = .ok (.getfield 16, 3)) ∧ (decode cX7_reads 66 = .ok (.invokevirtual 173, 3)) ∧ (decode cX7_reads 69 = .ok (.if_icmp .eq 5, 3)) ∧ (decode cX7_reads 72 = .ok (.iload_n 3, 1)) ∧ (decode cX7_reads 73 = .ok (.ireturn, 1)) ∧ (decode cX7_reads 74 = .ok (.aload_n 0, 1)) ∧ (decode cX7_reads 75 = .ok (.getfield 16, 3)) ∧ (decode cX7_reads 78 = .ok (.iconst 1, 1)) ∧ (decode cX7_reads 79 = .ok (.iconst (-1), 1)) ∧ (decode cX7_reads 80 = .ok (.invokevirtual 163, 3)) ∧ (decode cX7_reads 83 = .ok (.pop, 1)) ∧ (decode cX7_reads 84 = .ok (.iinc 3 1, 3)) ∧ (decode cX7_reads 87 = .ok (.goto (-47), 3)) ∧ (decode cX7_reads 90 = .ok (.ldc 200, 2)) ∧ (decode cX7_reads 92 = .ok (.ireturn, 1)) ∧ True := dc_cj [(60, .iload_n 3, 1), (61, .iaload, 1), (62, .aload_n 0, 1), (63, .getfield 16, 3), (66, .invokevirtual 173, 3), (69, .if_icmp .eq 5, 3), (72, .iload_n 3, 1), (73, .ireturn, 1), (74, .aload_n 0, 1), (75, .getfield 16, 3), (78, .iconst 1, 1), (79, .iconst (-1), 1), (80, .invokevirtual 163, 3), (83, .pop, 1), (84, .iinc 3 1, 3), (87, .goto (-47), 3), (90, .ldc 200, 2), (92, .ireturn, 1)] (by decide +kernel)
theorem dX7_reads_60 : decode cX7_reads 60 = .ok (.iload_n 3, 1) := edX7_reads_60.1
theorem dX7_reads_61 : decode cX7_reads 61 = .ok (.iaload, 1) := edX7_reads_60.2.1
theorem dX7_reads_62 : decode cX7_reads 62 = .ok (.aload_n 0, 1) := edX7_reads_60.2.2.1
theorem dX7_reads_63 : decode cX7_reads 63 = .ok (.getfield 16, 3) := edX7_reads_60.2.2.2.1
theorem dX7_reads_66 : decode cX7_reads 66 = .ok (.invokevirtual 173, 3) := edX7_reads_60.2.2.2.2.1
theorem dX7_reads_69 : decode cX7_reads 69 = .ok (.if_icmp .eq 5, 3) := edX7_reads_60.2.2.2.2.2.1
theorem dX7_reads_72 : decode cX7_reads 72 = .ok (.iload_n 3, 1) := edX7_reads_60.2.2.2.2.2.2.1
theorem dX7_reads_73 : decode cX7_reads 73 = .ok (.ireturn, 1) := edX7_reads_60.2.2.2.2.2.2.2.1
theorem dX7_reads_74 : decode cX7_reads 74 = .ok (.aload_n 0, 1) := edX7_reads_60.2.2.2.2.2.2.2.2.1
theorem dX7_reads_75 : decode cX7_reads 75 = .ok (.getfield 16, 3) := edX7_reads_60.2.2.2.2.2.2.2.2.2.1
theorem dX7_reads_78 : decode cX7_reads 78 = .ok (.iconst 1, 1) := edX7_reads_60.2.2.2.2.2.2.2.2.2.2.1
theorem dX7_reads_79 : decode cX7_reads 79 = .ok (.iconst (-1), 1) := edX7_reads_60.2.2.2.2.2.2.2.2.2.2.2.1
theorem dX7_reads_80 : decode cX7_reads 80 = .ok (.invokevirtual 163, 3) := edX7_reads_60.2.2.2.2.2.2.2.2.2.2.2.2.1
theorem dX7_reads_83 : decode cX7_reads 83 = .ok (.pop, 1) := edX7_reads_60.2.2.2.2.2.2.2.2.2.2.2.2.2.1
theorem dX7_reads_84 : decode cX7_reads 84 = .ok (.iinc 3 1, 3) := edX7_reads_60.2.2.2.2.2.2.2.2.2.2.2.2.2.2.1
theorem dX7_reads_87 : decode cX7_reads 87 = .ok (.goto (-47), 3) := edX7_reads_60.2.2.2.2.2.2.2.2.2.2.2.2.2.2.2.1
theorem dX7_reads_90 : decode cX7_reads 90 = .ok (.ldc 200, 2) := edX7_reads_60.2.2.2.2.2.2.2.2.2.2.2.2.2.2.2.2.1
theorem dX7_reads_92 : decode cX7_reads 92 = .ok (.ireturn, 1) := edX7_reads_60.2.2.2.2.2.2.2.2.2.2.2.2.2.2.2.2.2.1
theorem edX7_copy_0 : (decode cX7_copy 0 = .ok (.iload_n 1, 1)) ∧ (decode cX7_copy 1 = .ok (.invokestatic 204, 3)) ∧ (decode cX7_copy 4 = .ok (.ifCond .eq 10, 3)) ∧ (decode cX7_copy 7 = .ok (.iload_n 3, 1)) ∧ (decode cX7_copy 8 = .ok (.invokestatic 204, 3)) ∧ (decode cX7_copy 11 = .ok (.ifCond .ne 6, 3)) ∧ (decode cX7_copy 14 = .ok (.ldc 78, 2)) ∧ (decode cX7_copy 16 = .ok (.ireturn, 1)) ∧ (decode cX7_copy 17 = .ok (.aload_n 0, 1)) ∧ (decode cX7_copy 18 = .ok (.getfield 47, 3)) ∧ (decode cX7_copy 21 = .ok (.iload_n 1, 1)) ∧ (decode cX7_copy 22 = .ok (.aaload, 1)) ∧ (decode cX7_copy 23 = .ok (.astore 6, 2)) ∧ (decode cX7_copy 25 = .ok (.aload_n 0, 1)) ∧ (decode cX7_copy 26 = .ok (.getfield 47, 3)) ∧ (decode cX7_copy 29 = .ok (.iload_n 3, 1)) ∧ (decode cX7_copy 30 = .ok (.aaload, 1)) ∧ (decode cX7_copy 31 = .ok (.astore 7, 2)) ∧ (decode cX7_copy 33 = .ok (.aload 6, 2)) ∧ (decode cX7_copy 35 = .ok (.invokevirtual 207, 3)) ∧ (decode cX7_copy 38 = .ok (.ifCond .ne 11, 3)) ∧ (decode cX7_copy 41 = .ok (.aload 7, 2)) ∧ (decode cX7_copy 43 = .ok (.invokevirtual 207, 3)) ∧ (decode cX7_copy 46 = .ok (.ifCond .eq 6, 3)) ∧ (decode cX7_copy 49 = .ok (.ldc 210, 2)) ∧ (decode cX7_copy 51 = .ok (.ireturn, 1)) ∧ (decode cX7_copy 52 = .ok (.aload 6, 2)) ∧ (decode cX7_copy 54 = .ok (.getfield 279, 3)) ∧ (decode cX7_copy 57 = .ok (.aload 7, 2)) ∧ (decode cX7_copy 59 = .ok (.getfield 279, 3)) ∧ (decode cX7_copy 62 = .ok (.if_icmp .eq 6, 3)) ∧ (decode cX7_copy 65 = .ok (.ldc 123, 2)) ∧ True := dc_cj [(0, .iload_n 1, 1), (1, .invokestatic 204, 3), (4, .ifCond .eq 10, 3), (7, .iload_n 3, 1), (8, .invokestatic 204, 3), (11, .ifCond .ne 6, 3), (14, .ldc 78, 2), (16, .ireturn, 1), (17, .aload_n 0, 1), (18, .getfield 47, 3), (21, .iload_n 1, 1), (22, .aaload, 1), (23, .astore 6, 2), (25, .aload_n 0, 1), (26, .getfield 47, 3), (29, .iload_n 3, 1), (30, .aaload, 1), (31, .astore 7, 2), (33, .aload 6, 2), (35, .invokevirtual 207, 3), (38, .ifCond .ne 11, 3), (41, .aload 7, 2), (43, .invokevirtual 207, 3), (46, .ifCond .eq 6, 3), (49, .ldc 210, 2), (51, .ireturn, 1), (52, .aload 6, 2), (54, .getfield 279, 3), (57, .aload 7, 2), (59, .getfield 279, 3), (62, .if_icmp .eq 6, 3), (65, .ldc 123, 2)] (by decide +kernel)
theorem dX7_copy_0 : decode cX7_copy 0 = .ok (.iload_n 1, 1) := edX7_copy_0.1
theorem dX7_copy_1 : decode cX7_copy 1 = .ok (.invokestatic 204, 3) := edX7_copy_0.2.1
theorem dX7_copy_4 : decode cX7_copy 4 = .ok (.ifCond .eq 10, 3) := edX7_copy_0.2.2.1
theorem dX7_copy_7 : decode cX7_copy 7 = .ok (.iload_n 3, 1) := edX7_copy_0.2.2.2.1
theorem dX7_copy_8 : decode cX7_copy 8 = .ok (.invokestatic 204, 3) := edX7_copy_0.2.2.2.2.1
theorem dX7_copy_11 : decode cX7_copy 11 = .ok (.ifCond .ne 6, 3) := edX7_copy_0.2.2.2.2.2.1
theorem dX7_copy_14 : decode cX7_copy 14 = .ok (.ldc 78, 2) := edX7_copy_0.2.2.2.2.2.2.1
theorem dX7_copy_16 : decode cX7_copy 16 = .ok (.ireturn, 1) := edX7_copy_0.2.2.2.2.2.2.2.1
theorem dX7_copy_17 : decode cX7_copy 17 = .ok (.aload_n 0, 1) := edX7_copy_0.2.2.2.2.2.2.2.2.1
theorem dX7_copy_18 : decode cX7_copy 18 = .ok (.getfield 47, 3) := edX7_copy_0.2.2.2.2.2.2.2.2.2.1
theorem dX7_copy_21 : decode cX7_copy 21 = .ok (.iload_n 1, 1) := edX7_copy_0.2.2.2.2.2.2.2.2.2.2.1
theorem dX7_copy_22 : decode cX7_copy 22 = .ok (.aaload, 1) := edX7_copy_0.2.2.2.2.2.2.2.2.2.2.2.1
theorem dX7_copy_23 : decode cX7_copy 23 = .ok (.astore 6, 2) := edX7_copy_0.2.2.2.2.2.2.2.2.2.2.2.2.1
theorem dX7_copy_25 : decode cX7_copy 25 = .ok (.aload_n 0, 1) := edX7_copy_0.2.2.2.2.2.2.2.2.2.2.2.2.2.1
theorem dX7_copy_26 : decode cX7_copy 26 = .ok (.getfield 47, 3) := edX7_copy_0.2.2.2.2.2.2.2.2.2.2.2.2.2.2.1
theorem dX7_copy_29 : decode cX7_copy 29 = .ok (.iload_n 3, 1) := edX7_copy_0.2.2.2.2.2.2.2.2.2.2.2.2.2.2.2.1
theorem dX7_copy_30 : decode cX7_copy 30 = .ok (.aaload, 1) := edX7_copy_0.2.2.2.2.2.2.2.2.2.2.2.2.2.2.2.2.1
theorem dX7_copy_31 : decode cX7_copy 31 = .ok (.astore 7, 2) := edX7_copy_0.2.2.2.2.2.2.2.2.2.2.2.2.2.2.2.2.2.1
theorem dX7_copy_33 : decode cX7_copy 33 = .ok (.aload 6, 2) := edX7_copy_0.2.2.2.2.2.2.2.2.2.2.2.2.2.2.2.2.2.2.1
theorem dX7_copy_35 : decode cX7_copy 35 = .ok (.invokevirtual 207, 3) := edX7_copy_0.2.2.2.2.2.2.2.2.2.2.2.2.2.2.2.2.2.2.2.1
theorem dX7_copy_38 : decode cX7_copy 38 = .ok (.ifCond .ne 11, 3) := edX7_copy_0.2.2.2.2.2.2.2.2.2.2.2.2.2.2.2.2.2.2.2.2.1
theorem dX7_copy_41 : decode cX7_copy 41 = .ok (.aload 7, 2) := edX7_copy_0.2.2.2.2.2.2.2.2.2.2.2.2.2.2.2.2.2.2.2.2.2.1
theorem dX7_copy_43 : decode cX7_copy 43 = .ok (.invokevirtual 207, 3) := edX7_copy_0.2.2.2.2.2.2.2.2.2.2.2.2.2.2.2.2.2.2.2.2.2.2.1
theorem dX7_copy_46 : decode cX7_copy 46 = .ok (.ifCond .eq 6, 3) := edX7_copy_0.2.2.2.2.2.2.2.2.2.2.2.2.2.2.2.2.2.2.2.2.2.2.2.1
theorem dX7_copy_49 : decode cX7_copy 49 = .ok (.ldc 210, 2) := edX7_copy_0.2.2.2.2.2.2.2.2.2.2.2.2.2.2.2.2.2.2.2.2.2.2.2.2.1
theorem dX7_copy_51 : decode cX7_copy 51 = .ok (.ireturn, 1) := edX7_copy_0.2.2.2.2.2.2.2.2.2.2.2.2.2.2.2.2.2.2.2.2.2.2.2.2.2.1
theorem dX7_copy_52 : decode cX7_copy 52 = .ok (.aload 6, 2) := edX7_copy_0.2.2.2.2.2.2.2.2.2.2.2.2.2.2.2.2.2.2.2.2.2.2.2.2.2.2.1
theorem dX7_copy_54 : decode cX7_copy 54 = .ok (.getfield 279, 3) := edX7_copy_0.2.2.2.2.2.2.2.2.2.2.2.2.2.2.2.2.2.2.2.2.2.2.2.2.2.2.2.1
theorem dX7_copy_57 : decode cX7_copy 57 = .ok (.aload 7, 2) := edX7_copy_0.2.2.2.2.2.2.2.2.2.2.2.2.2.2.2.2.2.2.2.2.2.2.2.2.2.2.2.2.1
theorem dX7_copy_59 : decode cX7_copy 59 = .ok (.getfield 279, 3) := edX7_copy_0.2.2.2.2.2.2.2.2.2.2.2.2.2.2.2.2.2.2.2.2.2.2.2.2.2.2.2.2.2.1
theorem dX7_copy_62 : decode cX7_copy 62 = .ok (.if_icmp .eq 6, 3) := edX7_copy_0.2.2.2.2.2.2.2.2.2.2.2.2.2.2.2.2.2.2.2.2.2.2.2.2.2.2.2.2.2.2.1
theorem dX7_copy_65 : decode cX7_copy 65 = .ok (.ldc 123, 2) := edX7_copy_0.2.2.2.2.2.2.2.2.2.2.2.2.2.2.2.2.2.2.2.2.2.2.2.2.2.2.2.2.2.2.2.1
theorem edX7_copy_67 : (decode cX7_copy 67 = .ok (.ireturn, 1)) ∧ (decode cX7_copy 68 = .ok (.aload 6, 2)) ∧ (decode cX7_copy 70 = .ok (.iload_n 2, 1)) ∧ (decode cX7_copy 71 = .ok (.iload 5, 2)) ∧ (decode cX7_copy 73 = .ok (.invokevirtual 290, 3)) ∧ (decode cX7_copy 76 = .ok (.ifCond .eq 15, 3)) ∧ (decode cX7_copy 79 = .ok (.aload 7, 2)) ∧ (decode cX7_copy 81 = .ok (.iload 4, 2)) ∧ (decode cX7_copy 83 = .ok (.iload 5, 2)) ∧ (decode cX7_copy 85 = .ok (.invokevirtual 290, 3)) ∧ (decode cX7_copy 88 = .ok (.ifCond .ne 7, 3)) ∧ (decode cX7_copy 91 = .ok (.ldc_w 278, 3)) ∧ (decode cX7_copy 94 = .ok (.ireturn, 1)) ∧ (decode cX7_copy 95 = .ok (.aload 6, 2)) ∧ (decode cX7_copy 97 = .ok (.getfield 218, 3)) ∧ (decode cX7_copy 100 = .ok (.iload_n 2, 1)) ∧ (decode cX7_copy 101 = .ok (.aload 7, 2)) ∧ (decode cX7_copy 103 = .ok (.getfield 218, 3)) ∧ (decode cX7_copy 106 = .ok (.iload 4, 2)) ∧ (decode cX7_copy 108 = .ok (.iload 5, 2)) ∧ (decode cX7_copy 110 = .ok (.invokestatic 293, 3)) ∧ (decode cX7_copy 113 = .ok (.iload 5, 2)) ∧ (decode cX7_copy 115 = .ok (.ireturn, 1)) ∧ True := dc_cj [(67, .ireturn, 1), (68, .aload 6, 2), (70, .iload_n 2, 1), (71, .iload 5, 2), (73, .invokevirtual 290, 3), (76, .ifCond .eq 15, 3), (79, .aload 7, 2), (81, .iload 4, 2), (83, .iload 5, 2), (85, .invokevirtual 290, 3), (88, .ifCond .ne 7, 3), (91, .ldc_w 278, 3), (94, .ireturn, 1), (95, .aload 6, 2), (97, .getfield 218, 3), (100, .iload_n 2, 1), (101, .aload 7, 2), (103, .getfield 218, 3), (106, .iload 4, 2), (108, .iload 5, 2), (110, .invokestatic 293, 3), (113, .iload 5, 2), (115, .ireturn, 1)] (by decide +kernel)
theorem dX7_copy_67 : decode cX7_copy 67 = .ok (.ireturn, 1) := edX7_copy_67.1
theorem dX7_copy_68 : decode cX7_copy 68 = .ok (.aload 6, 2) := edX7_copy_67.2.1
theorem dX7_copy_70 : decode cX7_copy 70 = .ok (.iload_n 2, 1) := edX7_copy_67.2.2.1
theorem dX7_copy_71 : decode cX7_copy 71 = .ok (.iload 5, 2) := edX7_copy_67.2.2.2.1
theorem dX7_copy_73 : decode cX7_copy 73 = .ok (.invokevirtual 290, 3) := edX7_copy_67.2.2.2.2.1
theorem dX7_copy_76 : decode cX7_copy 76 = .ok (.ifCond .eq 15, 3) := edX7_copy_67.2.2.2.2.2.1
theorem dX7_copy_79 : decode cX7_copy 79 = .ok (.aload 7, 2) := edX7_copy_67.2.2.2.2.2.2.1
theorem dX7_copy_81 : decode cX7_copy 81 = .ok (.iload 4, 2) := edX7_copy_67.2.2.2.2.2.2.2.1
theorem dX7_copy_83 : decode cX7_copy 83 = .ok (.iload 5, 2) := edX7_copy_67.2.2.2.2.2.2.2.2.1
theorem dX7_copy_85 : decode cX7_copy 85 = .ok (.invokevirtual 290, 3) := edX7_copy_67.2.2.2.2.2.2.2.2.2.1
theorem dX7_copy_88 : decode cX7_copy 88 = .ok (.ifCond .ne 7, 3) := edX7_copy_67.2.2.2.2.2.2.2.2.2.2.1
theorem dX7_copy_91 : decode cX7_copy 91 = .ok (.ldc_w 278, 3) := edX7_copy_67.2.2.2.2.2.2.2.2.2.2.2.1
theorem dX7_copy_94 : decode cX7_copy 94 = .ok (.ireturn, 1) := edX7_copy_67.2.2.2.2.2.2.2.2.2.2.2.2.1
theorem dX7_copy_95 : decode cX7_copy 95 = .ok (.aload 6, 2) := edX7_copy_67.2.2.2.2.2.2.2.2.2.2.2.2.2.1
theorem dX7_copy_97 : decode cX7_copy 97 = .ok (.getfield 218, 3) := edX7_copy_67.2.2.2.2.2.2.2.2.2.2.2.2.2.2.1
theorem dX7_copy_100 : decode cX7_copy 100 = .ok (.iload_n 2, 1) := edX7_copy_67.2.2.2.2.2.2.2.2.2.2.2.2.2.2.2.1
theorem dX7_copy_101 : decode cX7_copy 101 = .ok (.aload 7, 2) := edX7_copy_67.2.2.2.2.2.2.2.2.2.2.2.2.2.2.2.2.1
theorem dX7_copy_103 : decode cX7_copy 103 = .ok (.getfield 218, 3) := edX7_copy_67.2.2.2.2.2.2.2.2.2.2.2.2.2.2.2.2.2.1
theorem dX7_copy_106 : decode cX7_copy 106 = .ok (.iload 4, 2) := edX7_copy_67.2.2.2.2.2.2.2.2.2.2.2.2.2.2.2.2.2.2.1
theorem dX7_copy_108 : decode cX7_copy 108 = .ok (.iload 5, 2) := edX7_copy_67.2.2.2.2.2.2.2.2.2.2.2.2.2.2.2.2.2.2.2.1
theorem dX7_copy_110 : decode cX7_copy 110 = .ok (.invokestatic 293, 3) := edX7_copy_67.2.2.2.2.2.2.2.2.2.2.2.2.2.2.2.2.2.2.2.2.1
theorem dX7_copy_113 : decode cX7_copy 113 = .ok (.iload 5, 2) := edX7_copy_67.2.2.2.2.2.2.2.2.2.2.2.2.2.2.2.2.2.2.2.2.2.1
theorem dX7_copy_115 : decode cX7_copy 115 = .ok (.ireturn, 1) := edX7_copy_67.2.2.2.2.2.2.2.2.2.2.2.2.2.2.2.2.2.2.2.2.2.2.1
theorem edX7_lay_0 : (decode cX7_lay 0 = .ok (.iload_n 1, 1)) ∧ (decode cX7_lay 1 = .ok (.invokestatic 299, 3)) ∧ (decode cX7_lay 4 = .ok (.ifCond .eq 40, 3)) ∧ (decode cX7_lay 7 = .ok (.iload_n 2, 1)) ∧ (decode cX7_lay 8 = .ok (.iconst 0, 1)) ∧ (decode cX7_lay 9 = .ok (.iconst 3, 1)) ∧ (decode cX7_lay 10 = .ok (.invokestatic 74, 3)) ∧ (decode cX7_lay 13 = .ok (.ifCond .eq 31, 3)) ∧ (decode cX7_lay 16 = .ok (.iload_n 2, 1)) ∧ (decode cX7_lay 17 = .ok (.iconst 1, 1)) ∧ (decode cX7_lay 18 = .ok (.if_icmp .ne 14, 3)) ∧ (decode cX7_lay 21 = .ok (.aload_n 0, 1)) ∧ (decode cX7_lay 22 = .ok (.getfield 10, 3)) ∧ (decode cX7_lay 25 = .ok (.iload_n 3, 1)) ∧ (decode cX7_lay 26 = .ok (.invokevirtual 87, 3)) ∧ (decode cX7_lay 29 = .ok (.ifCond .eq 15, 3)) ∧ (decode cX7_lay 32 = .ok (.iload_n 2, 1)) ∧ (decode cX7_lay 33 = .ok (.iconst 2, 1)) ∧ (decode cX7_lay 34 = .ok (.if_icmp .ne 13, 3)) ∧ (decode cX7_lay 37 = .ok (.iload_n 3, 1)) ∧ (decode cX7_lay 38 = .ok (.invokestatic 204, 3)) ∧ (decode cX7_lay 41 = .ok (.ifCond .ne 6, 3)) ∧ (decode cX7_lay 44 = .ok (.ldc 78, 2)) ∧ (decode cX7_lay 46 = .ok (.ireturn, 1)) ∧ (decode cX7_lay 47 = .ok (.iload_n 2, 1)) ∧ (decode cX7_lay 48 = .ok (.iconst 2, 1)) ∧ (decode cX7_lay 49 = .ok (.if_icmp .ne 18, 3)) ∧ (decode cX7_lay 52 = .ok (.aload_n 0, 1)) ∧ (decode cX7_lay 53 = .ok (.getfield 47, 3)) ∧ (decode cX7_lay 56 = .ok (.iload_n 3, 1)) ∧ (decode cX7_lay 57 = .ok (.aaload, 1)) ∧ (decode cX7_lay 58 = .ok (.invokevirtual 207, 3)) ∧ True := dc_cj [(0, .iload_n 1, 1), (1, .invokestatic 299, 3), (4, .ifCond .eq 40, 3), (7, .iload_n 2, 1), (8, .iconst 0, 1), (9, .iconst 3, 1), (10, .invokestatic 74, 3), (13, .ifCond .eq 31, 3), (16, .iload_n 2, 1), (17, .iconst 1, 1), (18, .if_icmp .ne 14, 3), (21, .aload_n 0, 1), (22, .getfield 10, 3), (25, .iload_n 3, 1), (26, .invokevirtual 87, 3), (29, .ifCond .eq 15, 3), (32, .iload_n 2, 1), (33, .iconst 2, 1), (34, .if_icmp .ne 13, 3), (37, .iload_n 3, 1), (38, .invokestatic 204, 3), (41, .ifCond .ne 6, 3), (44, .ldc 78, 2), (46, .ireturn, 1), (47, .iload_n 2, 1), (48, .iconst 2, 1), (49, .if_icmp .ne 18, 3), (52, .aload_n 0, 1), (53, .getfield 47, 3), (56, .iload_n 3, 1), (57, .aaload, 1), (58, .invokevirtual 207, 3)] (by decide +kernel)
theorem dX7_lay_0 : decode cX7_lay 0 = .ok (.iload_n 1, 1) := edX7_lay_0.1
theorem dX7_lay_1 : decode cX7_lay 1 = .ok (.invokestatic 299, 3) := edX7_lay_0.2.1
theorem dX7_lay_4 : decode cX7_lay 4 = .ok (.ifCond .eq 40, 3) := edX7_lay_0.2.2.1
theorem dX7_lay_7 : decode cX7_lay 7 = .ok (.iload_n 2, 1) := edX7_lay_0.2.2.2.1
theorem dX7_lay_8 : decode cX7_lay 8 = .ok (.iconst 0, 1) := edX7_lay_0.2.2.2.2.1
theorem dX7_lay_9 : decode cX7_lay 9 = .ok (.iconst 3, 1) := edX7_lay_0.2.2.2.2.2.1
theorem dX7_lay_10 : decode cX7_lay 10 = .ok (.invokestatic 74, 3) := edX7_lay_0.2.2.2.2.2.2.1
theorem dX7_lay_13 : decode cX7_lay 13 = .ok (.ifCond .eq 31, 3) := edX7_lay_0.2.2.2.2.2.2.2.1
theorem dX7_lay_16 : decode cX7_lay 16 = .ok (.iload_n 2, 1) := edX7_lay_0.2.2.2.2.2.2.2.2.1
theorem dX7_lay_17 : decode cX7_lay 17 = .ok (.iconst 1, 1) := edX7_lay_0.2.2.2.2.2.2.2.2.2.1
theorem dX7_lay_18 : decode cX7_lay 18 = .ok (.if_icmp .ne 14, 3) := edX7_lay_0.2.2.2.2.2.2.2.2.2.2.1
theorem dX7_lay_21 : decode cX7_lay 21 = .ok (.aload_n 0, 1) := edX7_lay_0.2.2.2.2.2.2.2.2.2.2.2.1
theorem dX7_lay_22 : decode cX7_lay 22 = .ok (.getfield 10, 3) := edX7_lay_0.2.2.2.2.2.2.2.2.2.2.2.2.1
theorem dX7_lay_25 : decode cX7_lay 25 = .ok (.iload_n 3, 1) := edX7_lay_0.2.2.2.2.2.2.2.2.2.2.2.2.2.1
theorem dX7_lay_26 : decode cX7_lay 26 = .ok (.invokevirtual 87, 3) := edX7_lay_0.2.2.2.2.2.2.2.2.2.2.2.2.2.2.1
theorem dX7_lay_29 : decode cX7_lay 29 = .ok (.ifCond .eq 15, 3) := edX7_lay_0.2.2.2.2.2.2.2.2.2.2.2.2.2.2.2.1
theorem dX7_lay_32 : decode cX7_lay 32 = .ok (.iload_n 2, 1) := edX7_lay_0.2.2.2.2.2.2.2.2.2.2.2.2.2.2.2.2.1
theorem dX7_lay_33 : decode cX7_lay 33 = .ok (.iconst 2, 1) := edX7_lay_0.2.2.2.2.2.2.2.2.2.2.2.2.2.2.2.2.2.1
theorem dX7_lay_34 : decode cX7_lay 34 = .ok (.if_icmp .ne 13, 3) := edX7_lay_0.2.2.2.2.2.2.2.2.2.2.2.2.2.2.2.2.2.2.1
theorem dX7_lay_37 : decode cX7_lay 37 = .ok (.iload_n 3, 1) := edX7_lay_0.2.2.2.2.2.2.2.2.2.2.2.2.2.2.2.2.2.2.2.1
theorem dX7_lay_38 : decode cX7_lay 38 = .ok (.invokestatic 204, 3) := edX7_lay_0.2.2.2.2.2.2.2.2.2.2.2.2.2.2.2.2.2.2.2.2.1
theorem dX7_lay_41 : decode cX7_lay 41 = .ok (.ifCond .ne 6, 3) := edX7_lay_0.2.2.2.2.2.2.2.2.2.2.2.2.2.2.2.2.2.2.2.2.2.1
theorem dX7_lay_44 : decode cX7_lay 44 = .ok (.ldc 78, 2) := edX7_lay_0.2.2.2.2.2.2.2.2.2.2.2.2.2.2.2.2.2.2.2.2.2.2.1
theorem dX7_lay_46 : decode cX7_lay 46 = .ok (.ireturn, 1) := edX7_lay_0.2.2.2.2.2.2.2.2.2.2.2.2.2.2.2.2.2.2.2.2.2.2.2.1
theorem dX7_lay_47 : decode cX7_lay 47 = .ok (.iload_n 2, 1) := edX7_lay_0.2.2.2.2.2.2.2.2.2.2.2.2.2.2.2.2.2.2.2.2.2.2.2.2.1
theorem dX7_lay_48 : decode cX7_lay 48 = .ok (.iconst 2, 1) := edX7_lay_0.2.2.2.2.2.2.2.2.2.2.2.2.2.2.2.2.2.2.2.2.2.2.2.2.2.1
theorem dX7_lay_49 : decode cX7_lay 49 = .ok (.if_icmp .ne 18, 3) := edX7_lay_0.2.2.2.2.2.2.2.2.2.2.2.2.2.2.2.2.2.2.2.2.2.2.2.2.2.2.1
theorem dX7_lay_52 : decode cX7_lay 52 = .ok (.aload_n 0, 1) := edX7_lay_0.2.2.2.2.2.2.2.2.2.2.2.2.2.2.2.2.2.2.2.2.2.2.2.2.2.2.2.1
theorem dX7_lay_53 : decode cX7_lay 53 = .ok (.getfield 47, 3) := edX7_lay_0.2.2.2.2.2.2.2.2.2.2.2.2.2.2.2.2.2.2.2.2.2.2.2.2.2.2.2.2.1
theorem dX7_lay_56 : decode cX7_lay 56 = .ok (.iload_n 3, 1) := edX7_lay_0.2.2.2.2.2.2.2.2.2.2.2.2.2.2.2.2.2.2.2.2.2.2.2.2.2.2.2.2.2.1
theorem dX7_lay_57 : decode cX7_lay 57 = .ok (.aaload, 1) := edX7_lay_0.2.2.2.2.2.2.2.2.2.2.2.2.2.2.2.2.2.2.2.2.2.2.2.2.2.2.2.2.2.2.1
theorem dX7_lay_58 : decode cX7_lay 58 = .ok (.invokevirtual 207, 3) := edX7_lay_0.2.2.2.2.2.2.2.2.2.2.2.2.2.2.2.2.2.2.2.2.2.2.2.2.2.2.2.2.2.2.2.1
theorem edX7_lay_61 : (decode cX7_lay 61 = .ok (.ifCond .eq 6, 3)) ∧ (decode cX7_lay 64 = .ok (.ldc 210, 2)) ∧ (decode cX7_lay 66 = .ok (.ireturn, 1)) ∧ (decode cX7_lay 67 = .ok (.aload_n 0, 1)) ∧ (decode cX7_lay 68 = .ok (.getfield 53, 3)) ∧ (decode cX7_lay 71 = .ok (.iload_n 1, 1)) ∧ (decode cX7_lay 72 = .ok (.aaload, 1)) ∧ (decode cX7_lay 73 = .ok (.astore 4, 2)) ∧ (decode cX7_lay 75 = .ok (.aload 4, 2)) ∧ (decode cX7_lay 77 = .ok (.getfield 302, 3)) ∧ (decode cX7_lay 80 = .ok (.istore 5, 2)) ∧ (decode cX7_lay 82 = .ok (.aload 4, 2)) ∧ (decode cX7_lay 84 = .ok (.iload_n 2, 1)) ∧ (decode cX7_lay 85 = .ok (.putfield 302, 3)) ∧ (decode cX7_lay 88 = .ok (.iload_n 2, 1)) ∧ (decode cX7_lay 89 = .ok (.iconst 1, 1)) ∧ (decode cX7_lay 90 = .ok (.if_icmp .ne 34, 3)) ∧ (decode cX7_lay 93 = .ok (.aload 4, 2)) ∧ (decode cX7_lay 95 = .ok (.aload_n 0, 1)) ∧ (decode cX7_lay 96 = .ok (.getfield 10, 3)) ∧ (decode cX7_lay 99 = .ok (.getfield 90, 3)) ∧ (decode cX7_lay 102 = .ok (.iload_n 3, 1)) ∧ (decode cX7_lay 103 = .ok (.iaload, 1)) ∧ (decode cX7_lay 104 = .ok (.putfield 305, 3)) ∧ (decode cX7_lay 107 = .ok (.aload 4, 2)) ∧ (decode cX7_lay 109 = .ok (.aload_n 0, 1)) ∧ (decode cX7_lay 110 = .ok (.getfield 10, 3)) ∧ (decode cX7_lay 113 = .ok (.getfield 96, 3)) ∧ (decode cX7_lay 116 = .ok (.iload_n 3, 1)) ∧ (decode cX7_lay 117 = .ok (.iaload, 1)) ∧ (decode cX7_lay 118 = .ok (.putfield 308, 3)) ∧ (decode cX7_lay 121 = .ok (.goto 31, 3)) ∧ True := dc_cj [(61, .ifCond .eq 6, 3), (64, .ldc 210, 2), (66, .ireturn, 1), (67, .aload_n 0, 1), (68, .getfield 53, 3), (71, .iload_n 1, 1), (72, .aaload, 1), (73, .astore 4, 2), (75, .aload 4, 2), (77, .getfield 302, 3), (80, .istore 5, 2), (82, .aload 4, 2), (84, .iload_n 2, 1), (85, .putfield 302, 3), (88, .iload_n 2, 1), (89, .iconst 1, 1), (90, .if_icmp .ne 34, 3), (93, .aload 4, 2), (95, .aload_n 0, 1), (96, .getfield 10, 3), (99, .getfield 90, 3), (102, .iload_n 3, 1), (103, .iaload, 1), (104, .putfield 305, 3), (107, .aload 4, 2), (109, .aload_n 0, 1), (110, .getfield 10, 3), (113, .getfield 96, 3), (116, .iload_n 3, 1), (117, .iaload, 1), (118, .putfield 308, 3), (121, .goto 31, 3)] (by decide +kernel)
theorem dX7_lay_61 : decode cX7_lay 61 = .ok (.ifCond .eq 6, 3) := edX7_lay_61.1
theorem dX7_lay_64 : decode cX7_lay 64 = .ok (.ldc 210, 2) := edX7_lay_61.2.1
theorem dX7_lay_66 : decode cX7_lay 66 = .ok (.ireturn, 1) := edX7_lay_61.2.2.1
theorem dX7_lay_67 : decode cX7_lay 67 = .ok (.aload_n 0, 1) := edX7_lay_61.2.2.2.1
theorem dX7_lay_68 : decode cX7_lay 68 = .ok (.getfield 53, 3) := edX7_lay_61.2.2.2.2.1
theorem dX7_lay_71 : decode cX7_lay 71 = .ok (.iload_n 1, 1) := edX7_lay_61.2.2.2.2.2.1
theorem dX7_lay_72 : decode cX7_lay 72 = .ok (.aaload, 1) := edX7_lay_61.2.2.2.2.2.2.1
theorem dX7_lay_73 : decode cX7_lay 73 = .ok (.astore 4, 2) := edX7_lay_61.2.2.2.2.2.2.2.1
theorem dX7_lay_75 : decode cX7_lay 75 = .ok (.aload 4, 2) := edX7_lay_61.2.2.2.2.2.2.2.2.1
theorem dX7_lay_77 : decode cX7_lay 77 = .ok (.getfield 302, 3) := edX7_lay_61.2.2.2.2.2.2.2.2.2.1
theorem dX7_lay_80 : decode cX7_lay 80 = .ok (.istore 5, 2) := edX7_lay_61.2.2.2.2.2.2.2.2.2.2.1
theorem dX7_lay_82 : decode cX7_lay 82 = .ok (.aload 4, 2) := edX7_lay_61.2.2.2.2.2.2.2.2.2.2.2.1
theorem dX7_lay_84 : decode cX7_lay 84 = .ok (.iload_n 2, 1) := edX7_lay_61.2.2.2.2.2.2.2.2.2.2.2.2.1
theorem dX7_lay_85 : decode cX7_lay 85 = .ok (.putfield 302, 3) := edX7_lay_61.2.2.2.2.2.2.2.2.2.2.2.2.2.1
theorem dX7_lay_88 : decode cX7_lay 88 = .ok (.iload_n 2, 1) := edX7_lay_61.2.2.2.2.2.2.2.2.2.2.2.2.2.2.1
theorem dX7_lay_89 : decode cX7_lay 89 = .ok (.iconst 1, 1) := edX7_lay_61.2.2.2.2.2.2.2.2.2.2.2.2.2.2.2.1
theorem dX7_lay_90 : decode cX7_lay 90 = .ok (.if_icmp .ne 34, 3) := edX7_lay_61.2.2.2.2.2.2.2.2.2.2.2.2.2.2.2.2.1
theorem dX7_lay_93 : decode cX7_lay 93 = .ok (.aload 4, 2) := edX7_lay_61.2.2.2.2.2.2.2.2.2.2.2.2.2.2.2.2.2.1
theorem dX7_lay_95 : decode cX7_lay 95 = .ok (.aload_n 0, 1) := edX7_lay_61.2.2.2.2.2.2.2.2.2.2.2.2.2.2.2.2.2.2.1
theorem dX7_lay_96 : decode cX7_lay 96 = .ok (.getfield 10, 3) := edX7_lay_61.2.2.2.2.2.2.2.2.2.2.2.2.2.2.2.2.2.2.2.1
theorem dX7_lay_99 : decode cX7_lay 99 = .ok (.getfield 90, 3) := edX7_lay_61.2.2.2.2.2.2.2.2.2.2.2.2.2.2.2.2.2.2.2.2.1
theorem dX7_lay_102 : decode cX7_lay 102 = .ok (.iload_n 3, 1) := edX7_lay_61.2.2.2.2.2.2.2.2.2.2.2.2.2.2.2.2.2.2.2.2.2.1
theorem dX7_lay_103 : decode cX7_lay 103 = .ok (.iaload, 1) := edX7_lay_61.2.2.2.2.2.2.2.2.2.2.2.2.2.2.2.2.2.2.2.2.2.2.1
theorem dX7_lay_104 : decode cX7_lay 104 = .ok (.putfield 305, 3) := edX7_lay_61.2.2.2.2.2.2.2.2.2.2.2.2.2.2.2.2.2.2.2.2.2.2.2.1
theorem dX7_lay_107 : decode cX7_lay 107 = .ok (.aload 4, 2) := edX7_lay_61.2.2.2.2.2.2.2.2.2.2.2.2.2.2.2.2.2.2.2.2.2.2.2.2.1
theorem dX7_lay_109 : decode cX7_lay 109 = .ok (.aload_n 0, 1) := edX7_lay_61.2.2.2.2.2.2.2.2.2.2.2.2.2.2.2.2.2.2.2.2.2.2.2.2.2.1
theorem dX7_lay_110 : decode cX7_lay 110 = .ok (.getfield 10, 3) := edX7_lay_61.2.2.2.2.2.2.2.2.2.2.2.2.2.2.2.2.2.2.2.2.2.2.2.2.2.2.1
theorem dX7_lay_113 : decode cX7_lay 113 = .ok (.getfield 96, 3) := edX7_lay_61.2.2.2.2.2.2.2.2.2.2.2.2.2.2.2.2.2.2.2.2.2.2.2.2.2.2.2.1
theorem dX7_lay_116 : decode cX7_lay 116 = .ok (.iload_n 3, 1) := edX7_lay_61.2.2.2.2.2.2.2.2.2.2.2.2.2.2.2.2.2.2.2.2.2.2.2.2.2.2.2.2.1
theorem dX7_lay_117 : decode cX7_lay 117 = .ok (.iaload, 1) := edX7_lay_61.2.2.2.2.2.2.2.2.2.2.2.2.2.2.2.2.2.2.2.2.2.2.2.2.2.2.2.2.2.1
theorem dX7_lay_118 : decode cX7_lay 118 = .ok (.putfield 308, 3) := edX7_lay_61.2.2.2.2.2.2.2.2.2.2.2.2.2.2.2.2.2.2.2.2.2.2.2.2.2.2.2.2.2.2.1
theorem dX7_lay_121 : decode cX7_lay 121 = .ok (.goto 31, 3) := edX7_lay_61.2.2.2.2.2.2.2.2.2.2.2.2.2.2.2.2.2.2.2.2.2.2.2.2.2.2.2.2.2.2.2.1
theorem edX7_lay_124 : (decode cX7_lay 124 = .ok (.iload_n 2, 1)) ∧ (decode cX7_lay 125 = .ok (.iconst 2, 1)) ∧ (decode cX7_lay 126 = .ok (.if_icmp .ne 20, 3)) ∧ (decode cX7_lay 129 = .ok (.aload 4, 2)) ∧ (decode cX7_lay 131 = .ok (.getfield 311, 3)) ∧ (decode cX7_lay 134 = .ok (.aload_n 0, 1)) ∧ (decode cX7_lay 135 = .ok (.getfield 47, 3)) ∧ (decode cX7_lay 138 = .ok (.iload_n 3, 1)) ∧ (decode cX7_lay 139 = .ok (.aaload, 1)) ∧ (decode cX7_lay 140 = .ok (.invokevirtual 315, 3)) ∧ (decode cX7_lay 143 = .ok (.goto 9, 3)) ∧ (decode cX7_lay 146 = .ok (.aload 4, 2)) ∧ (decode cX7_lay 148 = .ok (.iload_n 3, 1)) ∧ (decode cX7_lay 149 = .ok (.putfield 318, 3)) ∧ (decode cX7_lay 152 = .ok (.iload 5, 2)) ∧ (decode cX7_lay 154 = .ok (.ireturn, 1)) ∧ True := dc_cj [(124, .iload_n 2, 1), (125, .iconst 2, 1), (126, .if_icmp .ne 20, 3), (129, .aload 4, 2), (131, .getfield 311, 3), (134, .aload_n 0, 1), (135, .getfield 47, 3), (138, .iload_n 3, 1), (139, .aaload, 1), (140, .invokevirtual 315, 3), (143, .goto 9, 3), (146, .aload 4, 2), (148, .iload_n 3, 1), (149, .putfield 318, 3), (152, .iload 5, 2), (154, .ireturn, 1)] (by decide +kernel)
theorem dX7_lay_124 : decode cX7_lay 124 = .ok (.iload_n 2, 1) := edX7_lay_124.1
theorem dX7_lay_125 : decode cX7_lay 125 = .ok (.iconst 2, 1) := edX7_lay_124.2.1
theorem dX7_lay_126 : decode cX7_lay 126 = .ok (.if_icmp .ne 20, 3) := edX7_lay_124.2.2.1
theorem dX7_lay_129 : decode cX7_lay 129 = .ok (.aload 4, 2) := edX7_lay_124.2.2.2.1
theorem dX7_lay_131 : decode cX7_lay 131 = .ok (.getfield 311, 3) := edX7_lay_124.2.2.2.2.1
theorem dX7_lay_134 : decode cX7_lay 134 = .ok (.aload_n 0, 1) := edX7_lay_124.2.2.2.2.2.1
theorem dX7_lay_135 : decode cX7_lay 135 = .ok (.getfield 47, 3) := edX7_lay_124.2.2.2.2.2.2.1
theorem dX7_lay_138 : decode cX7_lay 138 = .ok (.iload_n 3, 1) := edX7_lay_124.2.2.2.2.2.2.2.1
theorem dX7_lay_139 : decode cX7_lay 139 = .ok (.aaload, 1) := edX7_lay_124.2.2.2.2.2.2.2.2.1
theorem dX7_lay_140 : decode cX7_lay 140 = .ok (.invokevirtual 315, 3) := edX7_lay_124.2.2.2.2.2.2.2.2.2.1
theorem dX7_lay_143 : decode cX7_lay 143 = .ok (.goto 9, 3) := edX7_lay_124.2.2.2.2.2.2.2.2.2.2.1
theorem dX7_lay_146 : decode cX7_lay 146 = .ok (.aload 4, 2) := edX7_lay_124.2.2.2.2.2.2.2.2.2.2.2.1
theorem dX7_lay_148 : decode cX7_lay 148 = .ok (.iload_n 3, 1) := edX7_lay_124.2.2.2.2.2.2.2.2.2.2.2.2.1
theorem dX7_lay_149 : decode cX7_lay 149 = .ok (.putfield 318, 3) := edX7_lay_124.2.2.2.2.2.2.2.2.2.2.2.2.2.1
theorem dX7_lay_152 : decode cX7_lay 152 = .ok (.iload 5, 2) := edX7_lay_124.2.2.2.2.2.2.2.2.2.2.2.2.2.2.1
theorem dX7_lay_154 : decode cX7_lay 154 = .ok (.ireturn, 1) := edX7_lay_124.2.2.2.2.2.2.2.2.2.2.2.2.2.2.2.1
theorem edX7_ask_0 : (decode cX7_ask 0 = .ok (.iload_n 1, 1)) ∧ (decode cX7_ask 1 = .ok (.invokestatic 299, 3)) ∧ (decode cX7_ask 4 = .ok (.ifCond .eq 10, 3)) ∧ (decode cX7_ask 7 = .ok (.iload_n 2, 1)) ∧ (decode cX7_ask 8 = .ok (.invokestatic 67, 3)) ∧ (decode cX7_ask 11 = .ok (.ifCond .ne 6, 3)) ∧ (decode cX7_ask 14 = .ok (.ldc 78, 2)) ∧ (decode cX7_ask 16 = .ok (.ireturn, 1)) ∧ (decode cX7_ask 17 = .ok (.aload_n 0, 1)) ∧ (decode cX7_ask 18 = .ok (.getfield 53, 3)) ∧ (decode cX7_ask 21 = .ok (.iload_n 1, 1)) ∧ (decode cX7_ask 22 = .ok (.aaload, 1)) ∧ (decode cX7_ask 23 = .ok (.astore_n 3, 1)) ∧ (decode cX7_ask 24 = .ok (.aload_n 3, 1)) ∧ (decode cX7_ask 25 = .ok (.getfield 302, 3)) ∧ (decode cX7_ask 28 = .ok (.ifCond .ne 6, 3)) ∧ (decode cX7_ask 31 = .ok (.ldc 210, 2)) ∧ (decode cX7_ask 33 = .ok (.ireturn, 1)) ∧ (decode cX7_ask 34 = .ok (.aload_n 3, 1)) ∧ (decode cX7_ask 35 = .ok (.getfield 302, 3)) ∧ (decode cX7_ask 38 = .ok (.iconst 1, 1)) ∧ (decode cX7_ask 39 = .ok (.if_icmp .ne 14, 3)) ∧ (decode cX7_ask 42 = .ok (.aload_n 3, 1)) ∧ (decode cX7_ask 43 = .ok (.getfield 305, 3)) ∧ (decode cX7_ask 46 = .ok (.iload_n 2, 1)) ∧ (decode cX7_ask 47 = .ok (.invokestatic 119, 3)) ∧ (decode cX7_ask 50 = .ok (.ifCond .ne 6, 3)) ∧ (decode cX7_ask 53 = .ok (.ldc 123, 2)) ∧ (decode cX7_ask 55 = .ok (.ireturn, 1)) ∧ (decode cX7_ask 56 = .ok (.aload_n 3, 1)) ∧ (decode cX7_ask 57 = .ok (.getfield 305, 3)) ∧ (decode cX7_ask 60 = .ok (.aload_n 3, 1)) ∧ True := dc_cj [(0, .iload_n 1, 1), (1, .invokestatic 299, 3), (4, .ifCond .eq 10, 3), (7, .iload_n 2, 1), (8, .invokestatic 67, 3), (11, .ifCond .ne 6, 3), (14, .ldc 78, 2), (16, .ireturn, 1), (17, .aload_n 0, 1), (18, .getfield 53, 3), (21, .iload_n 1, 1), (22, .aaload, 1), (23, .astore_n 3, 1), (24, .aload_n 3, 1), (25, .getfield 302, 3), (28, .ifCond .ne 6, 3), (31, .ldc 210, 2), (33, .ireturn, 1), (34, .aload_n 3, 1), (35, .getfield 302, 3), (38, .iconst 1, 1), (39, .if_icmp .ne 14, 3), (42, .aload_n 3, 1), (43, .getfield 305, 3), (46, .iload_n 2, 1), (47, .invokestatic 119, 3), (50, .ifCond .ne 6, 3), (53, .ldc 123, 2), (55, .ireturn, 1), (56, .aload_n 3, 1), (57, .getfield 305, 3), (60, .aload_n 3, 1)] (by decide +kernel)
theorem dX7_ask_0 : decode cX7_ask 0 = .ok (.iload_n 1, 1) := edX7_ask_0.1
theorem dX7_ask_1 : decode cX7_ask 1 = .ok (.invokestatic 299, 3) := edX7_ask_0.2.1
theorem dX7_ask_4 : decode cX7_ask 4 = .ok (.ifCond .eq 10, 3) := edX7_ask_0.2.2.1
theorem dX7_ask_7 : decode cX7_ask 7 = .ok (.iload_n 2, 1) := edX7_ask_0.2.2.2.1
theorem dX7_ask_8 : decode cX7_ask 8 = .ok (.invokestatic 67, 3) := edX7_ask_0.2.2.2.2.1
theorem dX7_ask_11 : decode cX7_ask 11 = .ok (.ifCond .ne 6, 3) := edX7_ask_0.2.2.2.2.2.1
theorem dX7_ask_14 : decode cX7_ask 14 = .ok (.ldc 78, 2) := edX7_ask_0.2.2.2.2.2.2.1
theorem dX7_ask_16 : decode cX7_ask 16 = .ok (.ireturn, 1) := edX7_ask_0.2.2.2.2.2.2.2.1
theorem dX7_ask_17 : decode cX7_ask 17 = .ok (.aload_n 0, 1) := edX7_ask_0.2.2.2.2.2.2.2.2.1
theorem dX7_ask_18 : decode cX7_ask 18 = .ok (.getfield 53, 3) := edX7_ask_0.2.2.2.2.2.2.2.2.2.1
theorem dX7_ask_21 : decode cX7_ask 21 = .ok (.iload_n 1, 1) := edX7_ask_0.2.2.2.2.2.2.2.2.2.2.1
theorem dX7_ask_22 : decode cX7_ask 22 = .ok (.aaload, 1) := edX7_ask_0.2.2.2.2.2.2.2.2.2.2.2.1
theorem dX7_ask_23 : decode cX7_ask 23 = .ok (.astore_n 3, 1) := edX7_ask_0.2.2.2.2.2.2.2.2.2.2.2.2.1
theorem dX7_ask_24 : decode cX7_ask 24 = .ok (.aload_n 3, 1) := edX7_ask_0.2.2.2.2.2.2.2.2.2.2.2.2.2.1
theorem dX7_ask_25 : decode cX7_ask 25 = .ok (.getfield 302, 3) := edX7_ask_0.2.2.2.2.2.2.2.2.2.2.2.2.2.2.1
theorem dX7_ask_28 : decode cX7_ask 28 = .ok (.ifCond .ne 6, 3) := edX7_ask_0.2.2.2.2.2.2.2.2.2.2.2.2.2.2.2.1
theorem dX7_ask_31 : decode cX7_ask 31 = .ok (.ldc 210, 2) := edX7_ask_0.2.2.2.2.2.2.2.2.2.2.2.2.2.2.2.2.1
theorem dX7_ask_33 : decode cX7_ask 33 = .ok (.ireturn, 1) := edX7_ask_0.2.2.2.2.2.2.2.2.2.2.2.2.2.2.2.2.2.1
theorem dX7_ask_34 : decode cX7_ask 34 = .ok (.aload_n 3, 1) := edX7_ask_0.2.2.2.2.2.2.2.2.2.2.2.2.2.2.2.2.2.2.1
theorem dX7_ask_35 : decode cX7_ask 35 = .ok (.getfield 302, 3) := edX7_ask_0.2.2.2.2.2.2.2.2.2.2.2.2.2.2.2.2.2.2.2.1
theorem dX7_ask_38 : decode cX7_ask 38 = .ok (.iconst 1, 1) := edX7_ask_0.2.2.2.2.2.2.2.2.2.2.2.2.2.2.2.2.2.2.2.2.1
theorem dX7_ask_39 : decode cX7_ask 39 = .ok (.if_icmp .ne 14, 3) := edX7_ask_0.2.2.2.2.2.2.2.2.2.2.2.2.2.2.2.2.2.2.2.2.2.1
theorem dX7_ask_42 : decode cX7_ask 42 = .ok (.aload_n 3, 1) := edX7_ask_0.2.2.2.2.2.2.2.2.2.2.2.2.2.2.2.2.2.2.2.2.2.2.1
theorem dX7_ask_43 : decode cX7_ask 43 = .ok (.getfield 305, 3) := edX7_ask_0.2.2.2.2.2.2.2.2.2.2.2.2.2.2.2.2.2.2.2.2.2.2.2.1
theorem dX7_ask_46 : decode cX7_ask 46 = .ok (.iload_n 2, 1) := edX7_ask_0.2.2.2.2.2.2.2.2.2.2.2.2.2.2.2.2.2.2.2.2.2.2.2.2.1
theorem dX7_ask_47 : decode cX7_ask 47 = .ok (.invokestatic 119, 3) := edX7_ask_0.2.2.2.2.2.2.2.2.2.2.2.2.2.2.2.2.2.2.2.2.2.2.2.2.2.1
theorem dX7_ask_50 : decode cX7_ask 50 = .ok (.ifCond .ne 6, 3) := edX7_ask_0.2.2.2.2.2.2.2.2.2.2.2.2.2.2.2.2.2.2.2.2.2.2.2.2.2.2.1
theorem dX7_ask_53 : decode cX7_ask 53 = .ok (.ldc 123, 2) := edX7_ask_0.2.2.2.2.2.2.2.2.2.2.2.2.2.2.2.2.2.2.2.2.2.2.2.2.2.2.2.1
theorem dX7_ask_55 : decode cX7_ask 55 = .ok (.ireturn, 1) := edX7_ask_0.2.2.2.2.2.2.2.2.2.2.2.2.2.2.2.2.2.2.2.2.2.2.2.2.2.2.2.2.1
theorem dX7_ask_56 : decode cX7_ask 56 = .ok (.aload_n 3, 1) := edX7_ask_0.2.2.2.2.2.2.2.2.2.2.2.2.2.2.2.2.2.2.2.2.2.2.2.2.2.2.2.2.2.1
theorem dX7_ask_57 : decode cX7_ask 57 = .ok (.getfield 305, 3) := edX7_ask_0.2.2.2.2.2.2.2.2.2.2.2.2.2.2.2.2.2.2.2.2.2.2.2.2.2.2.2.2.2.2.1
theorem dX7_ask_60 : decode cX7_ask 60 = .ok (.aload_n 3, 1) := edX7_ask_0.2.2.2.2.2.2.2.2.2.2.2.2.2.2.2.2.2.2.2.2.2.2.2.2.2.2.2.2.2.2.2.1
theorem edX7_ask_61 : (decode cX7_ask 61 = .ok (.getfield 308, 3)) ∧ (decode cX7_ask 64 = .ok (.invokestatic 115, 3)) ∧ (decode cX7_ask 67 = .ok (.ireturn, 1)) ∧ True := dc_cj [(61, .getfield 308, 3), (64, .invokestatic 115, 3), (67, .ireturn, 1)] (by decide +kernel)
theorem dX7_ask_61 : decode cX7_ask 61 = .ok (.getfield 308, 3) := edX7_ask_61.1
theorem dX7_ask_64 : decode cX7_ask 64 = .ok (.invokestatic 115, 3) := edX7_ask_61.2.1
theorem dX7_ask_67 : decode cX7_ask 67 = .ok (.ireturn, 1) := edX7_ask_61.2.2.1
theorem edX7_item_0 : (decode cX7_item 0 = .ok (.iload_n 1, 1)) ∧ (decode cX7_item 1 = .ok (.invokestatic 299, 3)) ∧ (decode cX7_item 4 = .ok (.ifCond .ne 6, 3)) ∧ (decode cX7_item 7 = .ok (.ldc 78, 2)) ∧ (decode cX7_item 9 = .ok (.ireturn, 1)) ∧ (decode cX7_item 10 = .ok (.aload_n 0, 1)) ∧ (decode cX7_item 11 = .ok (.getfield 53, 3)) ∧ (decode cX7_item 14 = .ok (.iload_n 1, 1)) ∧ (decode cX7_item 15 = .ok (.aaload, 1)) ∧ (decode cX7_item 16 = .ok (.astore_n 3, 1)) ∧ (decode cX7_item 17 = .ok (.aload_n 3, 1)) ∧ (decode cX7_item 18 = .ok (.getfield 302, 3)) ∧ (decode cX7_item 21 = .ok (.ifCond .ne 6, 3)) ∧ (decode cX7_item 24 = .ok (.ldc 210, 2)) ∧ (decode cX7_item 26 = .ok (.ireturn, 1)) ∧ (decode cX7_item 27 = .ok (.aload_n 3, 1)) ∧ (decode cX7_item 28 = .ok (.getfield 302, 3)) ∧ (decode cX7_item 31 = .ok (.iconst 2, 1)) ∧ (decode cX7_item 32 = .ok (.if_icmp .eq 6, 3)) ∧ (decode cX7_item 35 = .ok (.ldc 123, 2)) ∧ (decode cX7_item 37 = .ok (.ireturn, 1)) ∧ (decode cX7_item 38 = .ok (.aload_n 3, 1)) ∧ (decode cX7_item 39 = .ok (.getfield 311, 3)) ∧ (decode cX7_item 42 = .ok (.iload_n 2, 1)) ∧ (decode cX7_item 43 = .ok (.invokevirtual 275, 3)) ∧ (decode cX7_item 46 = .ok (.ifCond .ne 7, 3)) ∧ (decode cX7_item 49 = .ok (.ldc_w 278, 3)) ∧ (decode cX7_item 52 = .ok (.ireturn, 1)) ∧ (decode cX7_item 53 = .ok (.aload_n 3, 1)) ∧ (decode cX7_item 54 = .ok (.getfield 311, 3)) ∧ (decode cX7_item 57 = .ok (.iload_n 2, 1)) ∧ (decode cX7_item 58 = .ok (.invokevirtual 215, 3)) ∧ True := dc_cj [(0, .iload_n 1, 1), (1, .invokestatic 299, 3), (4, .ifCond .ne 6, 3), (7, .ldc 78, 2), (9, .ireturn, 1), (10, .aload_n 0, 1), (11, .getfield 53, 3), (14, .iload_n 1, 1), (15, .aaload, 1), (16, .astore_n 3, 1), (17, .aload_n 3, 1), (18, .getfield 302, 3), (21, .ifCond .ne 6, 3), (24, .ldc 210, 2), (26, .ireturn, 1), (27, .aload_n 3, 1), (28, .getfield 302, 3), (31, .iconst 2, 1), (32, .if_icmp .eq 6, 3), (35, .ldc 123, 2), (37, .ireturn, 1), (38, .aload_n 3, 1), (39, .getfield 311, 3), (42, .iload_n 2, 1), (43, .invokevirtual 275, 3), (46, .ifCond .ne 7, 3), (49, .ldc_w 278, 3), (52, .ireturn, 1), (53, .aload_n 3, 1), (54, .getfield 311, 3), (57, .iload_n 2, 1), (58, .invokevirtual 215, 3)] (by decide +kernel)
theorem dX7_item_0 : decode cX7_item 0 = .ok (.iload_n 1, 1) := edX7_item_0.1
theorem dX7_item_1 : decode cX7_item 1 = .ok (.invokestatic 299, 3) := edX7_item_0.2.1
theorem dX7_item_4 : decode cX7_item 4 = .ok (.ifCond .ne 6, 3) := edX7_item_0.2.2.1
theorem dX7_item_7 : decode cX7_item 7 = .ok (.ldc 78, 2) := edX7_item_0.2.2.2.1
theorem dX7_item_9 : decode cX7_item 9 = .ok (.ireturn, 1) := edX7_item_0.2.2.2.2.1
theorem dX7_item_10 : decode cX7_item 10 = .ok (.aload_n 0, 1) := edX7_item_0.2.2.2.2.2.1
theorem dX7_item_11 : decode cX7_item 11 = .ok (.getfield 53, 3) := edX7_item_0.2.2.2.2.2.2.1
theorem dX7_item_14 : decode cX7_item 14 = .ok (.iload_n 1, 1) := edX7_item_0.2.2.2.2.2.2.2.1
theorem dX7_item_15 : decode cX7_item 15 = .ok (.aaload, 1) := edX7_item_0.2.2.2.2.2.2.2.2.1
theorem dX7_item_16 : decode cX7_item 16 = .ok (.astore_n 3, 1) := edX7_item_0.2.2.2.2.2.2.2.2.2.1
theorem dX7_item_17 : decode cX7_item 17 = .ok (.aload_n 3, 1) := edX7_item_0.2.2.2.2.2.2.2.2.2.2.1
theorem dX7_item_18 : decode cX7_item 18 = .ok (.getfield 302, 3) := edX7_item_0.2.2.2.2.2.2.2.2.2.2.2.1
theorem dX7_item_21 : decode cX7_item 21 = .ok (.ifCond .ne 6, 3) := edX7_item_0.2.2.2.2.2.2.2.2.2.2.2.2.1
theorem dX7_item_24 : decode cX7_item 24 = .ok (.ldc 210, 2) := edX7_item_0.2.2.2.2.2.2.2.2.2.2.2.2.2.1
theorem dX7_item_26 : decode cX7_item 26 = .ok (.ireturn, 1) := edX7_item_0.2.2.2.2.2.2.2.2.2.2.2.2.2.2.1
theorem dX7_item_27 : decode cX7_item 27 = .ok (.aload_n 3, 1) := edX7_item_0.2.2.2.2.2.2.2.2.2.2.2.2.2.2.2.1
theorem dX7_item_28 : decode cX7_item 28 = .ok (.getfield 302, 3) := edX7_item_0.2.2.2.2.2.2.2.2.2.2.2.2.2.2.2.2.1
theorem dX7_item_31 : decode cX7_item 31 = .ok (.iconst 2, 1) := edX7_item_0.2.2.2.2.2.2.2.2.2.2.2.2.2.2.2.2.2.1
theorem dX7_item_32 : decode cX7_item 32 = .ok (.if_icmp .eq 6, 3) := edX7_item_0.2.2.2.2.2.2.2.2.2.2.2.2.2.2.2.2.2.2.1
theorem dX7_item_35 : decode cX7_item 35 = .ok (.ldc 123, 2) := edX7_item_0.2.2.2.2.2.2.2.2.2.2.2.2.2.2.2.2.2.2.2.1
theorem dX7_item_37 : decode cX7_item 37 = .ok (.ireturn, 1) := edX7_item_0.2.2.2.2.2.2.2.2.2.2.2.2.2.2.2.2.2.2.2.2.1
theorem dX7_item_38 : decode cX7_item 38 = .ok (.aload_n 3, 1) := edX7_item_0.2.2.2.2.2.2.2.2.2.2.2.2.2.2.2.2.2.2.2.2.2.1
theorem dX7_item_39 : decode cX7_item 39 = .ok (.getfield 311, 3) := edX7_item_0.2.2.2.2.2.2.2.2.2.2.2.2.2.2.2.2.2.2.2.2.2.2.1
theorem dX7_item_42 : decode cX7_item 42 = .ok (.iload_n 2, 1) := edX7_item_0.2.2.2.2.2.2.2.2.2.2.2.2.2.2.2.2.2.2.2.2.2.2.2.1
theorem dX7_item_43 : decode cX7_item 43 = .ok (.invokevirtual 275, 3) := edX7_item_0.2.2.2.2.2.2.2.2.2.2.2.2.2.2.2.2.2.2.2.2.2.2.2.2.1
theorem dX7_item_46 : decode cX7_item 46 = .ok (.ifCond .ne 7, 3) := edX7_item_0.2.2.2.2.2.2.2.2.2.2.2.2.2.2.2.2.2.2.2.2.2.2.2.2.2.1
theorem dX7_item_49 : decode cX7_item 49 = .ok (.ldc_w 278, 3) := edX7_item_0.2.2.2.2.2.2.2.2.2.2.2.2.2.2.2.2.2.2.2.2.2.2.2.2.2.2.1
theorem dX7_item_52 : decode cX7_item 52 = .ok (.ireturn, 1) := edX7_item_0.2.2.2.2.2.2.2.2.2.2.2.2.2.2.2.2.2.2.2.2.2.2.2.2.2.2.2.1
theorem dX7_item_53 : decode cX7_item 53 = .ok (.aload_n 3, 1) := edX7_item_0.2.2.2.2.2.2.2.2.2.2.2.2.2.2.2.2.2.2.2.2.2.2.2.2.2.2.2.2.1
theorem dX7_item_54 : decode cX7_item 54 = .ok (.getfield 311, 3) := edX7_item_0.2.2.2.2.2.2.2.2.2.2.2.2.2.2.2.2.2.2.2.2.2.2.2.2.2.2.2.2.2.1
theorem dX7_item_57 : decode cX7_item 57 = .ok (.iload_n 2, 1) := edX7_item_0.2.2.2.2.2.2.2.2.2.2.2.2.2.2.2.2.2.2.2.2.2.2.2.2.2.2.2.2.2.2.1
theorem dX7_item_58 : decode cX7_item 58 = .ok (.invokevirtual 215, 3) := edX7_item_0.2.2.2.2.2.2.2.2.2.2.2.2.2.2.2.2.2.2.2.2.2.2.2.2.2.2.2.2.2.2.2.1
theorem edX7_item_61 : (decode cX7_item 61 = .ok (.ifCond .eq 15, 3)) ∧ (decode cX7_item 64 = .ok (.aload_n 3, 1)) ∧ (decode cX7_item 65 = .ok (.getfield 311, 3)) ∧ (decode cX7_item 68 = .ok (.getfield 218, 3)) ∧ (decode cX7_item 71 = .ok (.iload_n 2, 1)) ∧ (decode cX7_item 72 = .ok (.iaload, 1)) ∧ (decode cX7_item 73 = .ok (.goto 5, 3)) ∧ (decode cX7_item 76 = .ok (.ldc 123, 2)) ∧ (decode cX7_item 78 = .ok (.ireturn, 1)) ∧ True := dc_cj [(61, .ifCond .eq 15, 3), (64, .aload_n 3, 1), (65, .getfield 311, 3), (68, .getfield 218, 3), (71, .iload_n 2, 1), (72, .iaload, 1), (73, .goto 5, 3), (76, .ldc 123, 2), (78, .ireturn, 1)] (by decide +kernel)
theorem dX7_item_61 : decode cX7_item 61 = .ok (.ifCond .eq 15, 3) := edX7_item_61.1
theorem dX7_item_64 : decode cX7_item 64 = .ok (.aload_n 3, 1) := edX7_item_61.2.1
theorem dX7_item_65 : decode cX7_item 65 = .ok (.getfield 311, 3) := edX7_item_61.2.2.1
theorem dX7_item_68 : decode cX7_item 68 = .ok (.getfield 218, 3) := edX7_item_61.2.2.2.1
theorem dX7_item_71 : decode cX7_item 71 = .ok (.iload_n 2, 1) := edX7_item_61.2.2.2.2.1
theorem dX7_item_72 : decode cX7_item 72 = .ok (.iaload, 1) := edX7_item_61.2.2.2.2.2.1
theorem dX7_item_73 : decode cX7_item 73 = .ok (.goto 5, 3) := edX7_item_61.2.2.2.2.2.2.1
theorem dX7_item_76 : decode cX7_item 76 = .ok (.ldc 123, 2) := edX7_item_61.2.2.2.2.2.2.2.1
theorem dX7_item_78 : decode cX7_item 78 = .ok (.ireturn, 1) := edX7_item_61.2.2.2.2.2.2.2.2.1
theorem edX7_rest_0 : (decode cX7_rest 0 = .ok (.iload_n 1, 1)) ∧ (decode cX7_rest 1 = .ok (.invokestatic 299, 3)) ∧ (decode cX7_rest 4 = .ok (.ifCond .ne 6, 3)) ∧ (decode cX7_rest 7 = .ok (.ldc 78, 2)) ∧ (decode cX7_rest 9 = .ok (.ireturn, 1)) ∧ (decode cX7_rest 10 = .ok (.aload_n 0, 1)) ∧ (decode cX7_rest 11 = .ok (.getfield 53, 3)) ∧ (decode cX7_rest 14 = .ok (.iload_n 1, 1)) ∧ (decode cX7_rest 15 = .ok (.aaload, 1)) ∧ (decode cX7_rest 16 = .ok (.astore_n 3, 1)) ∧ (decode cX7_rest 17 = .ok (.aload_n 3, 1)) ∧ (decode cX7_rest 18 = .ok (.getfield 302, 3)) ∧ (decode cX7_rest 21 = .ok (.ifCond .ne 6, 3)) ∧ (decode cX7_rest 24 = .ok (.ldc 210, 2)) ∧ (decode cX7_rest 26 = .ok (.ireturn, 1)) ∧ (decode cX7_rest 27 = .ok (.aload_n 3, 1)) ∧ (decode cX7_rest 28 = .ok (.getfield 302, 3)) ∧ (decode cX7_rest 31 = .ok (.iconst 3, 1)) ∧ (decode cX7_rest 32 = .ok (.if_icmp .eq 6, 3)) ∧ (decode cX7_rest 35 = .ok (.ldc 123, 2)) ∧ (decode cX7_rest 37 = .ok (.ireturn, 1)) ∧ (decode cX7_rest 38 = .ok (.iload_n 2, 1)) ∧ (decode cX7_rest 39 = .ok (.ifCond .ne 9, 3)) ∧ (decode cX7_rest 42 = .ok (.ldc_w 321, 3)) ∧ (decode cX7_rest 45 = .ok (.goto 9, 3)) ∧ (decode cX7_rest 48 = .ok (.aload_n 3, 1)) ∧ (decode cX7_rest 49 = .ok (.getfield 318, 3)) ∧ (decode cX7_rest 52 = .ok (.iload_n 2, 1)) ∧ (decode cX7_rest 53 = .ok (.irem, 1)) ∧ (decode cX7_rest 54 = .ok (.ireturn, 1)) ∧ True := dc_cj [(0, .iload_n 1, 1), (1, .invokestatic 299, 3), (4, .ifCond .ne 6, 3), (7, .ldc 78, 2), (9, .ireturn, 1), (10, .aload_n 0, 1), (11, .getfield 53, 3), (14, .iload_n 1, 1), (15, .aaload, 1), (16, .astore_n 3, 1), (17, .aload_n 3, 1), (18, .getfield 302, 3), (21, .ifCond .ne 6, 3), (24, .ldc 210, 2), (26, .ireturn, 1), (27, .aload_n 3, 1), (28, .getfield 302, 3), (31, .iconst 3, 1), (32, .if_icmp .eq 6, 3), (35, .ldc 123, 2), (37, .ireturn, 1), (38, .iload_n 2, 1), (39, .ifCond .ne 9, 3), (42, .ldc_w 321, 3), (45, .goto 9, 3), (48, .aload_n 3, 1), (49, .getfield 318, 3), (52, .iload_n 2, 1), (53, .irem, 1), (54, .ireturn, 1)] (by decide +kernel)
theorem dX7_rest_0 : decode cX7_rest 0 = .ok (.iload_n 1, 1) := edX7_rest_0.1
theorem dX7_rest_1 : decode cX7_rest 1 = .ok (.invokestatic 299, 3) := edX7_rest_0.2.1
theorem dX7_rest_4 : decode cX7_rest 4 = .ok (.ifCond .ne 6, 3) := edX7_rest_0.2.2.1
theorem dX7_rest_7 : decode cX7_rest 7 = .ok (.ldc 78, 2) := edX7_rest_0.2.2.2.1
theorem dX7_rest_9 : decode cX7_rest 9 = .ok (.ireturn, 1) := edX7_rest_0.2.2.2.2.1
theorem dX7_rest_10 : decode cX7_rest 10 = .ok (.aload_n 0, 1) := edX7_rest_0.2.2.2.2.2.1
theorem dX7_rest_11 : decode cX7_rest 11 = .ok (.getfield 53, 3) := edX7_rest_0.2.2.2.2.2.2.1
theorem dX7_rest_14 : decode cX7_rest 14 = .ok (.iload_n 1, 1) := edX7_rest_0.2.2.2.2.2.2.2.1
theorem dX7_rest_15 : decode cX7_rest 15 = .ok (.aaload, 1) := edX7_rest_0.2.2.2.2.2.2.2.2.1
theorem dX7_rest_16 : decode cX7_rest 16 = .ok (.astore_n 3, 1) := edX7_rest_0.2.2.2.2.2.2.2.2.2.1
theorem dX7_rest_17 : decode cX7_rest 17 = .ok (.aload_n 3, 1) := edX7_rest_0.2.2.2.2.2.2.2.2.2.2.1
theorem dX7_rest_18 : decode cX7_rest 18 = .ok (.getfield 302, 3) := edX7_rest_0.2.2.2.2.2.2.2.2.2.2.2.1
theorem dX7_rest_21 : decode cX7_rest 21 = .ok (.ifCond .ne 6, 3) := edX7_rest_0.2.2.2.2.2.2.2.2.2.2.2.2.1
theorem dX7_rest_24 : decode cX7_rest 24 = .ok (.ldc 210, 2) := edX7_rest_0.2.2.2.2.2.2.2.2.2.2.2.2.2.1
theorem dX7_rest_26 : decode cX7_rest 26 = .ok (.ireturn, 1) := edX7_rest_0.2.2.2.2.2.2.2.2.2.2.2.2.2.2.1
theorem dX7_rest_27 : decode cX7_rest 27 = .ok (.aload_n 3, 1) := edX7_rest_0.2.2.2.2.2.2.2.2.2.2.2.2.2.2.2.1
theorem dX7_rest_28 : decode cX7_rest 28 = .ok (.getfield 302, 3) := edX7_rest_0.2.2.2.2.2.2.2.2.2.2.2.2.2.2.2.2.1
theorem dX7_rest_31 : decode cX7_rest 31 = .ok (.iconst 3, 1) := edX7_rest_0.2.2.2.2.2.2.2.2.2.2.2.2.2.2.2.2.2.1
theorem dX7_rest_32 : decode cX7_rest 32 = .ok (.if_icmp .eq 6, 3) := edX7_rest_0.2.2.2.2.2.2.2.2.2.2.2.2.2.2.2.2.2.2.1
theorem dX7_rest_35 : decode cX7_rest 35 = .ok (.ldc 123, 2) := edX7_rest_0.2.2.2.2.2.2.2.2.2.2.2.2.2.2.2.2.2.2.2.1
theorem dX7_rest_37 : decode cX7_rest 37 = .ok (.ireturn, 1) := edX7_rest_0.2.2.2.2.2.2.2.2.2.2.2.2.2.2.2.2.2.2.2.2.1
theorem dX7_rest_38 : decode cX7_rest 38 = .ok (.iload_n 2, 1) := edX7_rest_0.2.2.2.2.2.2.2.2.2.2.2.2.2.2.2.2.2.2.2.2.2.1
theorem dX7_rest_39 : decode cX7_rest 39 = .ok (.ifCond .ne 9, 3) := edX7_rest_0.2.2.2.2.2.2.2.2.2.2.2.2.2.2.2.2.2.2.2.2.2.2.1
theorem dX7_rest_42 : decode cX7_rest 42 = .ok (.ldc_w 321, 3) := edX7_rest_0.2.2.2.2.2.2.2.2.2.2.2.2.2.2.2.2.2.2.2.2.2.2.2.1
theorem dX7_rest_45 : decode cX7_rest 45 = .ok (.goto 9, 3) := edX7_rest_0.2.2.2.2.2.2.2.2.2.2.2.2.2.2.2.2.2.2.2.2.2.2.2.2.1
theorem dX7_rest_48 : decode cX7_rest 48 = .ok (.aload_n 3, 1) := edX7_rest_0.2.2.2.2.2.2.2.2.2.2.2.2.2.2.2.2.2.2.2.2.2.2.2.2.2.1
theorem dX7_rest_49 : decode cX7_rest 49 = .ok (.getfield 318, 3) := edX7_rest_0.2.2.2.2.2.2.2.2.2.2.2.2.2.2.2.2.2.2.2.2.2.2.2.2.2.2.1
theorem dX7_rest_52 : decode cX7_rest 52 = .ok (.iload_n 2, 1) := edX7_rest_0.2.2.2.2.2.2.2.2.2.2.2.2.2.2.2.2.2.2.2.2.2.2.2.2.2.2.2.1
theorem dX7_rest_53 : decode cX7_rest 53 = .ok (.irem, 1) := edX7_rest_0.2.2.2.2.2.2.2.2.2.2.2.2.2.2.2.2.2.2.2.2.2.2.2.2.2.2.2.2.1
theorem dX7_rest_54 : decode cX7_rest 54 = .ok (.ireturn, 1) := edX7_rest_0.2.2.2.2.2.2.2.2.2.2.2.2.2.2.2.2.2.2.2.2.2.2.2.2.2.2.2.2.2.1
theorem edX7_tell_0 : (decode cX7_tell 0 = .ok (.aload_n 0, 1)) ∧ (decode cX7_tell 1 = .ok (.getfield 61, 3)) ∧ (decode cX7_tell 4 = .ok (.bipush 60, 2)) ∧ (decode cX7_tell 6 = .ok (.if_icmp .lt 6, 3)) ∧ (decode cX7_tell 9 = .ok (.ldc 82, 2)) ∧ (decode cX7_tell 11 = .ok (.ireturn, 1)) ∧ (decode cX7_tell 12 = .ok (.aload_n 0, 1)) ∧ (decode cX7_tell 13 = .ok (.getfield 57, 3)) ∧ (decode cX7_tell 16 = .ok (.aload_n 0, 1)) ∧ (decode cX7_tell 17 = .ok (.getfield 61, 3)) ∧ (decode cX7_tell 20 = .ok (.iload_n 1, 1)) ∧ (decode cX7_tell 21 = .ok (.iastore, 1)) ∧ (decode cX7_tell 22 = .ok (.aload_n 0, 1)) ∧ (decode cX7_tell 23 = .ok (.dup, 1)) ∧ (decode cX7_tell 24 = .ok (.getfield 61, 3)) ∧ (decode cX7_tell 27 = .ok (.iconst 1, 1)) ∧ (decode cX7_tell 28 = .ok (.iadd, 1)) ∧ (decode cX7_tell 29 = .ok (.putfield 61, 3)) ∧ (decode cX7_tell 32 = .ok (.aload_n 0, 1)) ∧ (decode cX7_tell 33 = .ok (.getfield 61, 3)) ∧ (decode cX7_tell 36 = .ok (.ireturn, 1)) ∧ True := dc_cj [(0, .aload_n 0, 1), (1, .getfield 61, 3), (4, .bipush 60, 2), (6, .if_icmp .lt 6, 3), (9, .ldc 82, 2), (11, .ireturn, 1), (12, .aload_n 0, 1), (13, .getfield 57, 3), (16, .aload_n 0, 1), (17, .getfield 61, 3), (20, .iload_n 1, 1), (21, .iastore, 1), (22, .aload_n 0, 1), (23, .dup, 1), (24, .getfield 61, 3), (27, .iconst 1, 1), (28, .iadd, 1), (29, .putfield 61, 3), (32, .aload_n 0, 1), (33, .getfield 61, 3), (36, .ireturn, 1)] (by decide +kernel)
theorem dX7_tell_0 : decode cX7_tell 0 = .ok (.aload_n 0, 1) := edX7_tell_0.1
theorem dX7_tell_1 : decode cX7_tell 1 = .ok (.getfield 61, 3) := edX7_tell_0.2.1
theorem dX7_tell_4 : decode cX7_tell 4 = .ok (.bipush 60, 2) := edX7_tell_0.2.2.1
theorem dX7_tell_6 : decode cX7_tell 6 = .ok (.if_icmp .lt 6, 3) := edX7_tell_0.2.2.2.1
theorem dX7_tell_9 : decode cX7_tell 9 = .ok (.ldc 82, 2) := edX7_tell_0.2.2.2.2.1
theorem dX7_tell_11 : decode cX7_tell 11 = .ok (.ireturn, 1) := edX7_tell_0.2.2.2.2.2.1
theorem dX7_tell_12 : decode cX7_tell 12 = .ok (.aload_n 0, 1) := edX7_tell_0.2.2.2.2.2.2.1
theorem dX7_tell_13 : decode cX7_tell 13 = .ok (.getfield 57, 3) := edX7_tell_0.2.2.2.2.2.2.2.1
theorem dX7_tell_16 : decode cX7_tell 16 = .ok (.aload_n 0, 1) := edX7_tell_0.2.2.2.2.2.2.2.2.1
theorem dX7_tell_17 : decode cX7_tell 17 = .ok (.getfield 61, 3) := edX7_tell_0.2.2.2.2.2.2.2.2.2.1
theorem dX7_tell_20 : decode cX7_tell 20 = .ok (.iload_n 1, 1) := edX7_tell_0.2.2.2.2.2.2.2.2.2.2.1
theorem dX7_tell_21 : decode cX7_tell 21 = .ok (.iastore, 1) := edX7_tell_0.2.2.2.2.2.2.2.2.2.2.2.1
theorem dX7_tell_22 : decode cX7_tell 22 = .ok (.aload_n 0, 1) := edX7_tell_0.2.2.2.2.2.2.2.2.2.2.2.2.1
theorem dX7_tell_23 : decode cX7_tell 23 = .ok (.dup, 1) := edX7_tell_0.2.2.2.2.2.2.2.2.2.2.2.2.2.1
theorem dX7_tell_24 : decode cX7_tell 24 = .ok (.getfield 61, 3) := edX7_tell_0.2.2.2.2.2.2.2.2.2.2.2.2.2.2.1
theorem dX7_tell_27 : decode cX7_tell 27 = .ok (.iconst 1, 1) := edX7_tell_0.2.2.2.2.2.2.2.2.2.2.2.2.2.2.2.1
theorem dX7_tell_28 : decode cX7_tell 28 = .ok (.iadd, 1) := edX7_tell_0.2.2.2.2.2.2.2.2.2.2.2.2.2.2.2.2.1
theorem dX7_tell_29 : decode cX7_tell 29 = .ok (.putfield 61, 3) := edX7_tell_0.2.2.2.2.2.2.2.2.2.2.2.2.2.2.2.2.2.1
theorem dX7_tell_32 : decode cX7_tell 32 = .ok (.aload_n 0, 1) := edX7_tell_0.2.2.2.2.2.2.2.2.2.2.2.2.2.2.2.2.2.2.1
theorem dX7_tell_33 : decode cX7_tell 33 = .ok (.getfield 61, 3) := edX7_tell_0.2.2.2.2.2.2.2.2.2.2.2.2.2.2.2.2.2.2.2.1
theorem dX7_tell_36 : decode cX7_tell 36 = .ok (.ireturn, 1) := edX7_tell_0.2.2.2.2.2.2.2.2.2.2.2.2.2.2.2.2.2.2.2.2.1
theorem edX7_check_0 : (decode cX7_check 0 = .ok (.aload_n 0, 1)) ∧ (decode cX7_check 1 = .ok (.getfield 61, 3)) ∧ (decode cX7_check 4 = .ok (.istore_n 2, 1)) ∧ (decode cX7_check 5 = .ok (.aload_n 0, 1)) ∧ (decode cX7_check 6 = .ok (.iconst 0, 1)) ∧ (decode cX7_check 7 = .ok (.putfield 61, 3)) ∧ (decode cX7_check 10 = .ok (.iload_n 1, 1)) ∧ (decode cX7_check 11 = .ok (.iconst 1, 1)) ∧ (decode cX7_check 12 = .ok (.bipush 30, 2)) ∧ (decode cX7_check 14 = .ok (.invokestatic 74, 3)) ∧ (decode cX7_check 17 = .ok (.ifCond .ne 6, 3)) ∧ (decode cX7_check 20 = .ok (.ldc 78, 2)) ∧ (decode cX7_check 22 = .ok (.ireturn, 1)) ∧ (decode cX7_check 23 = .ok (.aload_n 0, 1)) ∧ (decode cX7_check 24 = .ok (.getfield 22, 3)) ∧ (decode cX7_check 27 = .ok (.ifCond .ne 7, 3)) ∧ (decode cX7_check 30 = .ok (.ldc_w 321, 3)) ∧ (decode cX7_check 33 = .ok (.ireturn, 1)) ∧ (decode cX7_check 34 = .ok (.aload_n 0, 1)) ∧ (decode cX7_check 35 = .ok (.getfield 16, 3)) ∧ (decode cX7_check 38 = .ok (.aload_n 0, 1)) ∧ (decode cX7_check 39 = .ok (.getfield 19, 3)) ∧ (decode cX7_check 42 = .ok (.invokevirtual 193, 3)) ∧ (decode cX7_check 45 = .ok (.iconst 2, 1)) ∧ (decode cX7_check 46 = .ok (.iload_n 1, 1)) ∧ (decode cX7_check 47 = .ok (.sipush 9999, 3)) ∧ (decode cX7_check 50 = .ok (.aload_n 0, 1)) ∧ (decode cX7_check 51 = .ok (.getfield 19, 3)) ∧ (decode cX7_check 54 = .ok (.getfield 160, 3)) ∧ (decode cX7_check 57 = .ok (.isub, 1)) ∧ (decode cX7_check 58 = .ok (.invokestatic 148, 3)) ∧ (decode cX7_check 61 = .ok (.imul, 1)) ∧ True := dc_cj [(0, .aload_n 0, 1), (1, .getfield 61, 3), (4, .istore_n 2, 1), (5, .aload_n 0, 1), (6, .iconst 0, 1), (7, .putfield 61, 3), (10, .iload_n 1, 1), (11, .iconst 1, 1), (12, .bipush 30, 2), (14, .invokestatic 74, 3), (17, .ifCond .ne 6, 3), (20, .ldc 78, 2), (22, .ireturn, 1), (23, .aload_n 0, 1), (24, .getfield 22, 3), (27, .ifCond .ne 7, 3), (30, .ldc_w 321, 3), (33, .ireturn, 1), (34, .aload_n 0, 1), (35, .getfield 16, 3), (38, .aload_n 0, 1), (39, .getfield 19, 3), (42, .invokevirtual 193, 3), (45, .iconst 2, 1), (46, .iload_n 1, 1), (47, .sipush 9999, 3), (50, .aload_n 0, 1), (51, .getfield 19, 3), (54, .getfield 160, 3), (57, .isub, 1), (58, .invokestatic 148, 3), (61, .imul, 1)] (by decide +kernel)
theorem dX7_check_0 : decode cX7_check 0 = .ok (.aload_n 0, 1) := edX7_check_0.1
theorem dX7_check_1 : decode cX7_check 1 = .ok (.getfield 61, 3) := edX7_check_0.2.1
theorem dX7_check_4 : decode cX7_check 4 = .ok (.istore_n 2, 1) := edX7_check_0.2.2.1
theorem dX7_check_5 : decode cX7_check 5 = .ok (.aload_n 0, 1) := edX7_check_0.2.2.2.1
theorem dX7_check_6 : decode cX7_check 6 = .ok (.iconst 0, 1) := edX7_check_0.2.2.2.2.1
theorem dX7_check_7 : decode cX7_check 7 = .ok (.putfield 61, 3) := edX7_check_0.2.2.2.2.2.1
theorem dX7_check_10 : decode cX7_check 10 = .ok (.iload_n 1, 1) := edX7_check_0.2.2.2.2.2.2.1
theorem dX7_check_11 : decode cX7_check 11 = .ok (.iconst 1, 1) := edX7_check_0.2.2.2.2.2.2.2.1
theorem dX7_check_12 : decode cX7_check 12 = .ok (.bipush 30, 2) := edX7_check_0.2.2.2.2.2.2.2.2.1
theorem dX7_check_14 : decode cX7_check 14 = .ok (.invokestatic 74, 3) := edX7_check_0.2.2.2.2.2.2.2.2.2.1
theorem dX7_check_17 : decode cX7_check 17 = .ok (.ifCond .ne 6, 3) := edX7_check_0.2.2.2.2.2.2.2.2.2.2.1
theorem dX7_check_20 : decode cX7_check 20 = .ok (.ldc 78, 2) := edX7_check_0.2.2.2.2.2.2.2.2.2.2.2.1
theorem dX7_check_22 : decode cX7_check 22 = .ok (.ireturn, 1) := edX7_check_0.2.2.2.2.2.2.2.2.2.2.2.2.1
theorem dX7_check_23 : decode cX7_check 23 = .ok (.aload_n 0, 1) := edX7_check_0.2.2.2.2.2.2.2.2.2.2.2.2.2.1
theorem dX7_check_24 : decode cX7_check 24 = .ok (.getfield 22, 3) := edX7_check_0.2.2.2.2.2.2.2.2.2.2.2.2.2.2.1
theorem dX7_check_27 : decode cX7_check 27 = .ok (.ifCond .ne 7, 3) := edX7_check_0.2.2.2.2.2.2.2.2.2.2.2.2.2.2.2.1
theorem dX7_check_30 : decode cX7_check 30 = .ok (.ldc_w 321, 3) := edX7_check_0.2.2.2.2.2.2.2.2.2.2.2.2.2.2.2.2.1
theorem dX7_check_33 : decode cX7_check 33 = .ok (.ireturn, 1) := edX7_check_0.2.2.2.2.2.2.2.2.2.2.2.2.2.2.2.2.2.1
theorem dX7_check_34 : decode cX7_check 34 = .ok (.aload_n 0, 1) := edX7_check_0.2.2.2.2.2.2.2.2.2.2.2.2.2.2.2.2.2.2.1
theorem dX7_check_35 : decode cX7_check 35 = .ok (.getfield 16, 3) := edX7_check_0.2.2.2.2.2.2.2.2.2.2.2.2.2.2.2.2.2.2.2.1
theorem dX7_check_38 : decode cX7_check 38 = .ok (.aload_n 0, 1) := edX7_check_0.2.2.2.2.2.2.2.2.2.2.2.2.2.2.2.2.2.2.2.2.1
theorem dX7_check_39 : decode cX7_check 39 = .ok (.getfield 19, 3) := edX7_check_0.2.2.2.2.2.2.2.2.2.2.2.2.2.2.2.2.2.2.2.2.2.1
theorem dX7_check_42 : decode cX7_check 42 = .ok (.invokevirtual 193, 3) := edX7_check_0.2.2.2.2.2.2.2.2.2.2.2.2.2.2.2.2.2.2.2.2.2.2.1
theorem dX7_check_45 : decode cX7_check 45 = .ok (.iconst 2, 1) := edX7_check_0.2.2.2.2.2.2.2.2.2.2.2.2.2.2.2.2.2.2.2.2.2.2.2.1
theorem dX7_check_46 : decode cX7_check 46 = .ok (.iload_n 1, 1) := edX7_check_0.2.2.2.2.2.2.2.2.2.2.2.2.2.2.2.2.2.2.2.2.2.2.2.2.1
theorem dX7_check_47 : decode cX7_check 47 = .ok (.sipush 9999, 3) := edX7_check_0.2.2.2.2.2.2.2.2.2.2.2.2.2.2.2.2.2.2.2.2.2.2.2.2.2.1
theorem dX7_check_50 : decode cX7_check 50 = .ok (.aload_n 0, 1) := edX7_check_0.2.2.2.2.2.2.2.2.2.2.2.2.2.2.2.2.2.2.2.2.2.2.2.2.2.2.1
theorem dX7_check_51 : decode cX7_check 51 = .ok (.getfield 19, 3) := edX7_check_0.2.2.2.2.2.2.2.2.2.2.2.2.2.2.2.2.2.2.2.2.2.2.2.2.2.2.2.1
theorem dX7_check_54 : decode cX7_check 54 = .ok (.getfield 160, 3) := edX7_check_0.2.2.2.2.2.2.2.2.2.2.2.2.2.2.2.2.2.2.2.2.2.2.2.2.2.2.2.2.1
theorem dX7_check_57 : decode cX7_check 57 = .ok (.isub, 1) := edX7_check_0.2.2.2.2.2.2.2.2.2.2.2.2.2.2.2.2.2.2.2.2.2.2.2.2.2.2.2.2.2.1
theorem dX7_check_58 : decode cX7_check 58 = .ok (.invokestatic 148, 3) := edX7_check_0.2.2.2.2.2.2.2.2.2.2.2.2.2.2.2.2.2.2.2.2.2.2.2.2.2.2.2.2.2.2.1
theorem dX7_check_61 : decode cX7_check 61 = .ok (.imul, 1) := edX7_check_0.2.2.2.2.2.2.2.2.2.2.2.2.2.2.2.2.2.2.2.2.2.2.2.2.2.2.2.2.2.2.2.1
theorem edX7_check_62 : (decode cX7_check 62 = .ok (.istore_n 3, 1)) ∧ (decode cX7_check 63 = .ok (.iconst 0, 1)) ∧ (decode cX7_check 64 = .ok (.istore 4, 2)) ∧ (decode cX7_check 66 = .ok (.iload 4, 2)) ∧ (decode cX7_check 68 = .ok (.iload_n 3, 1)) ∧ (decode cX7_check 69 = .ok (.if_icmp .ge 75, 3)) ∧ (decode cX7_check 72 = .ok (.iload 4, 2)) ∧ (decode cX7_check 74 = .ok (.iconst 2, 1)) ∧ (decode cX7_check 75 = .ok (.irem, 1)) ∧ (decode cX7_check 76 = .ok (.ifCond .ne 13, 3)) ∧ (decode cX7_check 79 = .ok (.aload_n 0, 1)) ∧ (decode cX7_check 80 = .ok (.getfield 16, 3)) ∧ (decode cX7_check 83 = .ok (.iconst 1, 1)) ∧ (decode cX7_check 84 = .ok (.iconst (-1), 1)) ∧ (decode cX7_check 85 = .ok (.invokevirtual 163, 3)) ∧ (decode cX7_check 88 = .ok (.pop, 1)) ∧ (decode cX7_check 89 = .ok (.iload 4, 2)) ∧ (decode cX7_check 91 = .ok (.iconst 2, 1)) ∧ (decode cX7_check 92 = .ok (.irem, 1)) ∧ (decode cX7_check 93 = .ok (.ifCond .ne 13, 3)) ∧ (decode cX7_check 96 = .ok (.aload_n 0, 1)) ∧ (decode cX7_check 97 = .ok (.getfield 16, 3)) ∧ (decode cX7_check 100 = .ok (.invokevirtual 173, 3)) ∧ (decode cX7_check 103 = .ok (.goto 10, 3)) ∧ (decode cX7_check 106 = .ok (.aload_n 0, 1)) ∧ (decode cX7_check 107 = .ok (.getfield 16, 3)) ∧ (decode cX7_check 110 = .ok (.getfield 139, 3)) ∧ (decode cX7_check 113 = .ok (.istore 5, 2)) ∧ (decode cX7_check 115 = .ok (.iload 4, 2)) ∧ (decode cX7_check 117 = .ok (.iload_n 2, 1)) ∧ (decode cX7_check 118 = .ok (.if_icmp .ge 15, 3)) ∧ (decode cX7_check 121 = .ok (.aload_n 0, 1)) ∧ True := dc_cj [(62, .istore_n 3, 1), (63, .iconst 0, 1), (64, .istore 4, 2), (66, .iload 4, 2), (68, .iload_n 3, 1), (69, .if_icmp .ge 75, 3), (72, .iload 4, 2), (74, .iconst 2, 1), (75, .irem, 1), (76, .ifCond .ne 13, 3), (79, .aload_n 0, 1), (80, .getfield 16, 3), (83, .iconst 1, 1), (84, .iconst (-1), 1), (85, .invokevirtual 163, 3), (88, .pop, 1), (89, .iload 4, 2), (91, .iconst 2, 1), (92, .irem, 1), (93, .ifCond .ne 13, 3), (96, .aload_n 0, 1), (97, .getfield 16, 3), (100, .invokevirtual 173, 3), (103, .goto 10, 3), (106, .aload_n 0, 1), (107, .getfield 16, 3), (110, .getfield 139, 3), (113, .istore 5, 2), (115, .iload 4, 2), (117, .iload_n 2, 1), (118, .if_icmp .ge 15, 3), (121, .aload_n 0, 1)] (by decide +kernel)
theorem dX7_check_62 : decode cX7_check 62 = .ok (.istore_n 3, 1) := edX7_check_62.1
theorem dX7_check_63 : decode cX7_check 63 = .ok (.iconst 0, 1) := edX7_check_62.2.1
theorem dX7_check_64 : decode cX7_check 64 = .ok (.istore 4, 2) := edX7_check_62.2.2.1
theorem dX7_check_66 : decode cX7_check 66 = .ok (.iload 4, 2) := edX7_check_62.2.2.2.1
theorem dX7_check_68 : decode cX7_check 68 = .ok (.iload_n 3, 1) := edX7_check_62.2.2.2.2.1
theorem dX7_check_69 : decode cX7_check 69 = .ok (.if_icmp .ge 75, 3) := edX7_check_62.2.2.2.2.2.1
theorem dX7_check_72 : decode cX7_check 72 = .ok (.iload 4, 2) := edX7_check_62.2.2.2.2.2.2.1
theorem dX7_check_74 : decode cX7_check 74 = .ok (.iconst 2, 1) := edX7_check_62.2.2.2.2.2.2.2.1
theorem dX7_check_75 : decode cX7_check 75 = .ok (.irem, 1) := edX7_check_62.2.2.2.2.2.2.2.2.1
theorem dX7_check_76 : decode cX7_check 76 = .ok (.ifCond .ne 13, 3) := edX7_check_62.2.2.2.2.2.2.2.2.2.1
theorem dX7_check_79 : decode cX7_check 79 = .ok (.aload_n 0, 1) := edX7_check_62.2.2.2.2.2.2.2.2.2.2.1
theorem dX7_check_80 : decode cX7_check 80 = .ok (.getfield 16, 3) := edX7_check_62.2.2.2.2.2.2.2.2.2.2.2.1
theorem dX7_check_83 : decode cX7_check 83 = .ok (.iconst 1, 1) := edX7_check_62.2.2.2.2.2.2.2.2.2.2.2.2.1
theorem dX7_check_84 : decode cX7_check 84 = .ok (.iconst (-1), 1) := edX7_check_62.2.2.2.2.2.2.2.2.2.2.2.2.2.1
theorem dX7_check_85 : decode cX7_check 85 = .ok (.invokevirtual 163, 3) := edX7_check_62.2.2.2.2.2.2.2.2.2.2.2.2.2.2.1
theorem dX7_check_88 : decode cX7_check 88 = .ok (.pop, 1) := edX7_check_62.2.2.2.2.2.2.2.2.2.2.2.2.2.2.2.1
theorem dX7_check_89 : decode cX7_check 89 = .ok (.iload 4, 2) := edX7_check_62.2.2.2.2.2.2.2.2.2.2.2.2.2.2.2.2.1
theorem dX7_check_91 : decode cX7_check 91 = .ok (.iconst 2, 1) := edX7_check_62.2.2.2.2.2.2.2.2.2.2.2.2.2.2.2.2.2.1
theorem dX7_check_92 : decode cX7_check 92 = .ok (.irem, 1) := edX7_check_62.2.2.2.2.2.2.2.2.2.2.2.2.2.2.2.2.2.2.1
theorem dX7_check_93 : decode cX7_check 93 = .ok (.ifCond .ne 13, 3) := edX7_check_62.2.2.2.2.2.2.2.2.2.2.2.2.2.2.2.2.2.2.2.1
theorem dX7_check_96 : decode cX7_check 96 = .ok (.aload_n 0, 1) := edX7_check_62.2.2.2.2.2.2.2.2.2.2.2.2.2.2.2.2.2.2.2.2.1
theorem dX7_check_97 : decode cX7_check 97 = .ok (.getfield 16, 3) := edX7_check_62.2.2.2.2.2.2.2.2.2.2.2.2.2.2.2.2.2.2.2.2.2.1
theorem dX7_check_100 : decode cX7_check 100 = .ok (.invokevirtual 173, 3) := edX7_check_62.2.2.2.2.2.2.2.2.2.2.2.2.2.2.2.2.2.2.2.2.2.2.1
theorem dX7_check_103 : decode cX7_check 103 = .ok (.goto 10, 3) := edX7_check_62.2.2.2.2.2.2.2.2.2.2.2.2.2.2.2.2.2.2.2.2.2.2.2.1
theorem dX7_check_106 : decode cX7_check 106 = .ok (.aload_n 0, 1) := edX7_check_62.2.2.2.2.2.2.2.2.2.2.2.2.2.2.2.2.2.2.2.2.2.2.2.2.1
theorem dX7_check_107 : decode cX7_check 107 = .ok (.getfield 16, 3) := edX7_check_62.2.2.2.2.2.2.2.2.2.2.2.2.2.2.2.2.2.2.2.2.2.2.2.2.2.1
theorem dX7_check_110 : decode cX7_check 110 = .ok (.getfield 139, 3) := edX7_check_62.2.2.2.2.2.2.2.2.2.2.2.2.2.2.2.2.2.2.2.2.2.2.2.2.2.2.1
theorem dX7_check_113 : decode cX7_check 113 = .ok (.istore 5, 2) := edX7_check_62.2.2.2.2.2.2.2.2.2.2.2.2.2.2.2.2.2.2.2.2.2.2.2.2.2.2.2.1
theorem dX7_check_115 : decode cX7_check 115 = .ok (.iload 4, 2) := edX7_check_62.2.2.2.2.2.2.2.2.2.2.2.2.2.2.2.2.2.2.2.2.2.2.2.2.2.2.2.2.1
theorem dX7_check_117 : decode cX7_check 117 = .ok (.iload_n 2, 1) := edX7_check_62.2.2.2.2.2.2.2.2.2.2.2.2.2.2.2.2.2.2.2.2.2.2.2.2.2.2.2.2.2.1
theorem dX7_check_118 : decode cX7_check 118 = .ok (.if_icmp .ge 15, 3) := edX7_check_62.2.2.2.2.2.2.2.2.2.2.2.2.2.2.2.2.2.2.2.2.2.2.2.2.2.2.2.2.2.2.1
theorem dX7_check_121 : decode cX7_check 121 = .ok (.aload_n 0, 1) := edX7_check_62.2.2.2.2.2.2.2.2.2.2.2.2.2.2.2.2.2.2.2.2.2.2.2.2.2.2.2.2.2.2.2.1
theorem edX7_check_122 : (decode cX7_check 122 = .ok (.getfield 57, 3)) ∧ (decode cX7_check 125 = .ok (.iload 4, 2)) ∧ (decode cX7_check 127 = .ok (.iaload, 1)) ∧ (decode cX7_check 128 = .ok (.iload 5, 2)) ∧ (decode cX7_check 130 = .ok (.if_icmp .eq 8, 3)) ∧ (decode cX7_check 133 = .ok (.iconst 1, 1)) ∧ (decode cX7_check 134 = .ok (.iload 4, 2)) ∧ (decode cX7_check 136 = .ok (.iadd, 1)) ∧ (decode cX7_check 137 = .ok (.ireturn, 1)) ∧ (decode cX7_check 138 = .ok (.iinc 4 1, 3)) ∧ (decode cX7_check 141 = .ok (.goto (-75), 3)) ∧ (decode cX7_check 144 = .ok (.iload_n 2, 1)) ∧ (decode cX7_check 145 = .ok (.iload_n 3, 1)) ∧ (decode cX7_check 146 = .ok (.if_icmp .ne 7, 3)) ∧ (decode cX7_check 149 = .ok (.iconst 0, 1)) ∧ (decode cX7_check 150 = .ok (.goto 6, 3)) ∧ (decode cX7_check 153 = .ok (.iconst 1, 1)) ∧ (decode cX7_check 154 = .ok (.iload_n 3, 1)) ∧ (decode cX7_check 155 = .ok (.iadd, 1)) ∧ (decode cX7_check 156 = .ok (.ireturn, 1)) ∧ True := dc_cj [(122, .getfield 57, 3), (125, .iload 4, 2), (127, .iaload, 1), (128, .iload 5, 2), (130, .if_icmp .eq 8, 3), (133, .iconst 1, 1), (134, .iload 4, 2), (136, .iadd, 1), (137, .ireturn, 1), (138, .iinc 4 1, 3), (141, .goto (-75), 3), (144, .iload_n 2, 1), (145, .iload_n 3, 1), (146, .if_icmp .ne 7, 3), (149, .iconst 0, 1), (150, .goto 6, 3), (153, .iconst 1, 1), (154, .iload_n 3, 1), (155, .iadd, 1), (156, .ireturn, 1)] (by decide +kernel)
theorem dX7_check_122 : decode cX7_check 122 = .ok (.getfield 57, 3) := edX7_check_122.1
theorem dX7_check_125 : decode cX7_check 125 = .ok (.iload 4, 2) := edX7_check_122.2.1
theorem dX7_check_127 : decode cX7_check 127 = .ok (.iaload, 1) := edX7_check_122.2.2.1
theorem dX7_check_128 : decode cX7_check 128 = .ok (.iload 5, 2) := edX7_check_122.2.2.2.1
theorem dX7_check_130 : decode cX7_check 130 = .ok (.if_icmp .eq 8, 3) := edX7_check_122.2.2.2.2.1
theorem dX7_check_133 : decode cX7_check 133 = .ok (.iconst 1, 1) := edX7_check_122.2.2.2.2.2.1
theorem dX7_check_134 : decode cX7_check 134 = .ok (.iload 4, 2) := edX7_check_122.2.2.2.2.2.2.1
theorem dX7_check_136 : decode cX7_check 136 = .ok (.iadd, 1) := edX7_check_122.2.2.2.2.2.2.2.1
theorem dX7_check_137 : decode cX7_check 137 = .ok (.ireturn, 1) := edX7_check_122.2.2.2.2.2.2.2.2.1
theorem dX7_check_138 : decode cX7_check 138 = .ok (.iinc 4 1, 3) := edX7_check_122.2.2.2.2.2.2.2.2.2.1
theorem dX7_check_141 : decode cX7_check 141 = .ok (.goto (-75), 3) := edX7_check_122.2.2.2.2.2.2.2.2.2.2.1
theorem dX7_check_144 : decode cX7_check 144 = .ok (.iload_n 2, 1) := edX7_check_122.2.2.2.2.2.2.2.2.2.2.2.1
theorem dX7_check_145 : decode cX7_check 145 = .ok (.iload_n 3, 1) := edX7_check_122.2.2.2.2.2.2.2.2.2.2.2.2.1
theorem dX7_check_146 : decode cX7_check 146 = .ok (.if_icmp .ne 7, 3) := edX7_check_122.2.2.2.2.2.2.2.2.2.2.2.2.2.1
theorem dX7_check_149 : decode cX7_check 149 = .ok (.iconst 0, 1) := edX7_check_122.2.2.2.2.2.2.2.2.2.2.2.2.2.2.1
theorem dX7_check_150 : decode cX7_check 150 = .ok (.goto 6, 3) := edX7_check_122.2.2.2.2.2.2.2.2.2.2.2.2.2.2.2.1
theorem dX7_check_153 : decode cX7_check 153 = .ok (.iconst 1, 1) := edX7_check_122.2.2.2.2.2.2.2.2.2.2.2.2.2.2.2.2.1
theorem dX7_check_154 : decode cX7_check 154 = .ok (.iload_n 3, 1) := edX7_check_122.2.2.2.2.2.2.2.2.2.2.2.2.2.2.2.2.2.1
theorem dX7_check_155 : decode cX7_check 155 = .ok (.iadd, 1) := edX7_check_122.2.2.2.2.2.2.2.2.2.2.2.2.2.2.2.2.2.2.1
theorem dX7_check_156 : decode cX7_check 156 = .ok (.ireturn, 1) := edX7_check_122.2.2.2.2.2.2.2.2.2.2.2.2.2.2.2.2.2.2.2.1
theorem edX7_keep_0 : (decode cX7_keep 0 = .ok (.aload_n 0, 1)) ∧ (decode cX7_keep 1 = .ok (.getfield 19, 3)) ∧ (decode cX7_keep 4 = .ok (.aload_n 0, 1)) ∧ (decode cX7_keep 5 = .ok (.getfield 10, 3)) ∧ (decode cX7_keep 8 = .ok (.invokevirtual 193, 3)) ∧ (decode cX7_keep 11 = .ok (.aload_n 0, 1)) ∧ (decode cX7_keep 12 = .ok (.iconst 1, 1)) ∧ (decode cX7_keep 13 = .ok (.putfield 22, 3)) ∧ (decode cX7_keep 16 = .ok (.aload_n 0, 1)) ∧ (decode cX7_keep 17 = .ok (.getfield 19, 3)) ∧ (decode cX7_keep 20 = .ok (.getfield 79, 3)) ∧ (decode cX7_keep 23 = .ok (.ireturn, 1)) ∧ True := dc_cj [(0, .aload_n 0, 1), (1, .getfield 19, 3), (4, .aload_n 0, 1), (5, .getfield 10, 3), (8, .invokevirtual 193, 3), (11, .aload_n 0, 1), (12, .iconst 1, 1), (13, .putfield 22, 3), (16, .aload_n 0, 1), (17, .getfield 19, 3), (20, .getfield 79, 3), (23, .ireturn, 1)] (by decide +kernel)
theorem dX7_keep_0 : decode cX7_keep 0 = .ok (.aload_n 0, 1) := edX7_keep_0.1
theorem dX7_keep_1 : decode cX7_keep 1 = .ok (.getfield 19, 3) := edX7_keep_0.2.1
theorem dX7_keep_4 : decode cX7_keep 4 = .ok (.aload_n 0, 1) := edX7_keep_0.2.2.1
theorem dX7_keep_5 : decode cX7_keep 5 = .ok (.getfield 10, 3) := edX7_keep_0.2.2.2.1
theorem dX7_keep_8 : decode cX7_keep 8 = .ok (.invokevirtual 193, 3) := edX7_keep_0.2.2.2.2.1
theorem dX7_keep_11 : decode cX7_keep 11 = .ok (.aload_n 0, 1) := edX7_keep_0.2.2.2.2.2.1
theorem dX7_keep_12 : decode cX7_keep 12 = .ok (.iconst 1, 1) := edX7_keep_0.2.2.2.2.2.2.1
theorem dX7_keep_13 : decode cX7_keep 13 = .ok (.putfield 22, 3) := edX7_keep_0.2.2.2.2.2.2.2.1
theorem dX7_keep_16 : decode cX7_keep 16 = .ok (.aload_n 0, 1) := edX7_keep_0.2.2.2.2.2.2.2.2.1
theorem dX7_keep_17 : decode cX7_keep 17 = .ok (.getfield 19, 3) := edX7_keep_0.2.2.2.2.2.2.2.2.2.1
theorem dX7_keep_20 : decode cX7_keep 20 = .ok (.getfield 79, 3) := edX7_keep_0.2.2.2.2.2.2.2.2.2.2.1
theorem dX7_keep_23 : decode cX7_keep 23 = .ok (.ireturn, 1) := edX7_keep_0.2.2.2.2.2.2.2.2.2.2.2.1
theorem edX7_back_0 : (decode cX7_back 0 = .ok (.aload_n 0, 1)) ∧ (decode cX7_back 1 = .ok (.getfield 22, 3)) ∧ (decode cX7_back 4 = .ok (.ifCond .ne 7, 3)) ∧ (decode cX7_back 7 = .ok (.ldc_w 321, 3)) ∧ (decode cX7_back 10 = .ok (.ireturn, 1)) ∧ (decode cX7_back 11 = .ok (.aload_n 0, 1)) ∧ (decode cX7_back 12 = .ok (.getfield 10, 3)) ∧ (decode cX7_back 15 = .ok (.aload_n 0, 1)) ∧ (decode cX7_back 16 = .ok (.getfield 19, 3)) ∧ (decode cX7_back 19 = .ok (.invokevirtual 193, 3)) ∧ (decode cX7_back 22 = .ok (.aload_n 0, 1)) ∧ (decode cX7_back 23 = .ok (.getfield 10, 3)) ∧ (decode cX7_back 26 = .ok (.getfield 79, 3)) ∧ (decode cX7_back 29 = .ok (.ireturn, 1)) ∧ True := dc_cj [(0, .aload_n 0, 1), (1, .getfield 22, 3), (4, .ifCond .ne 7, 3), (7, .ldc_w 321, 3), (10, .ireturn, 1), (11, .aload_n 0, 1), (12, .getfield 10, 3), (15, .aload_n 0, 1), (16, .getfield 19, 3), (19, .invokevirtual 193, 3), (22, .aload_n 0, 1), (23, .getfield 10, 3), (26, .getfield 79, 3), (29, .ireturn, 1)] (by decide +kernel)
theorem dX7_back_0 : decode cX7_back 0 = .ok (.aload_n 0, 1) := edX7_back_0.1
theorem dX7_back_1 : decode cX7_back 1 = .ok (.getfield 22, 3) := edX7_back_0.2.1
theorem dX7_back_4 : decode cX7_back 4 = .ok (.ifCond .ne 7, 3) := edX7_back_0.2.2.1
theorem dX7_back_7 : decode cX7_back 7 = .ok (.ldc_w 321, 3) := edX7_back_0.2.2.2.1
theorem dX7_back_10 : decode cX7_back 10 = .ok (.ireturn, 1) := edX7_back_0.2.2.2.2.1
theorem dX7_back_11 : decode cX7_back 11 = .ok (.aload_n 0, 1) := edX7_back_0.2.2.2.2.2.1
theorem dX7_back_12 : decode cX7_back 12 = .ok (.getfield 10, 3) := edX7_back_0.2.2.2.2.2.2.1
theorem dX7_back_15 : decode cX7_back 15 = .ok (.aload_n 0, 1) := edX7_back_0.2.2.2.2.2.2.2.1
theorem dX7_back_16 : decode cX7_back 16 = .ok (.getfield 19, 3) := edX7_back_0.2.2.2.2.2.2.2.2.1
theorem dX7_back_19 : decode cX7_back 19 = .ok (.invokevirtual 193, 3) := edX7_back_0.2.2.2.2.2.2.2.2.2.1
theorem dX7_back_22 : decode cX7_back 22 = .ok (.aload_n 0, 1) := edX7_back_0.2.2.2.2.2.2.2.2.2.2.1
theorem dX7_back_23 : decode cX7_back 23 = .ok (.getfield 10, 3) := edX7_back_0.2.2.2.2.2.2.2.2.2.2.2.1
theorem dX7_back_26 : decode cX7_back 26 = .ok (.getfield 79, 3) := edX7_back_0.2.2.2.2.2.2.2.2.2.2.2.2.1
theorem dX7_back_29 : decode cX7_back 29 = .ok (.ireturn, 1) := edX7_back_0.2.2.2.2.2.2.2.2.2.2.2.2.2.1
theorem edX7_count_0 : (decode cX7_count 0 = .ok (.iload_n 1, 1)) ∧ (decode cX7_count 1 = .ok (.tableswitch 120 0 8 #[51, 59, 67, 75, 83, 91, 99, 104, 112], 51)) ∧ (decode cX7_count 52 = .ok (.aload_n 0, 1)) ∧ (decode cX7_count 53 = .ok (.getfield 10, 3)) ∧ (decode cX7_count 56 = .ok (.getfield 79, 3)) ∧ (decode cX7_count 59 = .ok (.ireturn, 1)) ∧ (decode cX7_count 60 = .ok (.aload_n 0, 1)) ∧ (decode cX7_count 61 = .ok (.getfield 10, 3)) ∧ (decode cX7_count 64 = .ok (.getfield 160, 3)) ∧ (decode cX7_count 67 = .ok (.ireturn, 1)) ∧ (decode cX7_count 68 = .ok (.aload_n 0, 1)) ∧ (decode cX7_count 69 = .ok (.getfield 10, 3)) ∧ (decode cX7_count 72 = .ok (.getfield 139, 3)) ∧ (decode cX7_count 75 = .ok (.ireturn, 1)) ∧ (decode cX7_count 76 = .ok (.aload_n 0, 1)) ∧ (decode cX7_count 77 = .ok (.getfield 10, 3)) ∧ (decode cX7_count 80 = .ok (.getfield 142, 3)) ∧ (decode cX7_count 83 = .ok (.ireturn, 1)) ∧ (decode cX7_count 84 = .ok (.aload_n 0, 1)) ∧ (decode cX7_count 85 = .ok (.getfield 10, 3)) ∧ (decode cX7_count 88 = .ok (.getfield 145, 3)) ∧ (decode cX7_count 91 = .ok (.ireturn, 1)) ∧ (decode cX7_count 92 = .ok (.aload_n 0, 1)) ∧ (decode cX7_count 93 = .ok (.getfield 10, 3)) ∧ (decode cX7_count 96 = .ok (.getfield 246, 3)) ∧ (decode cX7_count 99 = .ok (.ireturn, 1)) ∧ (decode cX7_count 100 = .ok (.aload_n 0, 1)) ∧ (decode cX7_count 101 = .ok (.getfield 61, 3)) ∧ (decode cX7_count 104 = .ok (.ireturn, 1)) ∧ (decode cX7_count 105 = .ok (.aload_n 0, 1)) ∧ (decode cX7_count 106 = .ok (.getfield 44, 3)) ∧ (decode cX7_count 109 = .ok (.getfield 234, 3)) ∧ True := dc_cj [(0, .iload_n 1, 1), (1, .tableswitch 120 0 8 #[51, 59, 67, 75, 83, 91, 99, 104, 112], 51), (52, .aload_n 0, 1), (53, .getfield 10, 3), (56, .getfield 79, 3), (59, .ireturn, 1), (60, .aload_n 0, 1), (61, .getfield 10, 3), (64, .getfield 160, 3), (67, .ireturn, 1), (68, .aload_n 0, 1), (69, .getfield 10, 3), (72, .getfield 139, 3), (75, .ireturn, 1), (76, .aload_n 0, 1), (77, .getfield 10, 3), (80, .getfield 142, 3), (83, .ireturn, 1), (84, .aload_n 0, 1), (85, .getfield 10, 3), (88, .getfield 145, 3), (91, .ireturn, 1), (92, .aload_n 0, 1), (93, .getfield 10, 3), (96, .getfield 246, 3), (99, .ireturn, 1), (100, .aload_n 0, 1), (101, .getfield 61, 3), (104, .ireturn, 1), (105, .aload_n 0, 1), (106, .getfield 44, 3), (109, .getfield 234, 3)] (by decide +kernel)
theorem dX7_count_0 : decode cX7_count 0 = .ok (.iload_n 1, 1) := edX7_count_0.1
theorem dX7_count_1 : decode cX7_count 1 = .ok (.tableswitch 120 0 8 #[51, 59, 67, 75, 83, 91, 99, 104, 112], 51) := edX7_count_0.2.1
theorem dX7_count_52 : decode cX7_count 52 = .ok (.aload_n 0, 1) := edX7_count_0.2.2.1
theorem dX7_count_53 : decode cX7_count 53 = .ok (.getfield 10, 3) := edX7_count_0.2.2.2.1
theorem dX7_count_56 : decode cX7_count 56 = .ok (.getfield 79, 3) := edX7_count_0.2.2.2.2.1
theorem dX7_count_59 : decode cX7_count 59 = .ok (.ireturn, 1) := edX7_count_0.2.2.2.2.2.1
theorem dX7_count_60 : decode cX7_count 60 = .ok (.aload_n 0, 1) := edX7_count_0.2.2.2.2.2.2.1
theorem dX7_count_61 : decode cX7_count 61 = .ok (.getfield 10, 3) := edX7_count_0.2.2.2.2.2.2.2.1
theorem dX7_count_64 : decode cX7_count 64 = .ok (.getfield 160, 3) := edX7_count_0.2.2.2.2.2.2.2.2.1
theorem dX7_count_67 : decode cX7_count 67 = .ok (.ireturn, 1) := edX7_count_0.2.2.2.2.2.2.2.2.2.1
theorem dX7_count_68 : decode cX7_count 68 = .ok (.aload_n 0, 1) := edX7_count_0.2.2.2.2.2.2.2.2.2.2.1
theorem dX7_count_69 : decode cX7_count 69 = .ok (.getfield 10, 3) := edX7_count_0.2.2.2.2.2.2.2.2.2.2.2.1
theorem dX7_count_72 : decode cX7_count 72 = .ok (.getfield 139, 3) := edX7_count_0.2.2.2.2.2.2.2.2.2.2.2.2.1
theorem dX7_count_75 : decode cX7_count 75 = .ok (.ireturn, 1) := edX7_count_0.2.2.2.2.2.2.2.2.2.2.2.2.2.1
theorem dX7_count_76 : decode cX7_count 76 = .ok (.aload_n 0, 1) := edX7_count_0.2.2.2.2.2.2.2.2.2.2.2.2.2.2.1
theorem dX7_count_77 : decode cX7_count 77 = .ok (.getfield 10, 3) := edX7_count_0.2.2.2.2.2.2.2.2.2.2.2.2.2.2.2.1
theorem dX7_count_80 : decode cX7_count 80 = .ok (.getfield 142, 3) := edX7_count_0.2.2.2.2.2.2.2.2.2.2.2.2.2.2.2.2.1
theorem dX7_count_83 : decode cX7_count 83 = .ok (.ireturn, 1) := edX7_count_0.2.2.2.2.2.2.2.2.2.2.2.2.2.2.2.2.2.1
theorem dX7_count_84 : decode cX7_count 84 = .ok (.aload_n 0, 1) := edX7_count_0.2.2.2.2.2.2.2.2.2.2.2.2.2.2.2.2.2.2.1
theorem dX7_count_85 : decode cX7_count 85 = .ok (.getfield 10, 3) := edX7_count_0.2.2.2.2.2.2.2.2.2.2.2.2.2.2.2.2.2.2.2.1
theorem dX7_count_88 : decode cX7_count 88 = .ok (.getfield 145, 3) := edX7_count_0.2.2.2.2.2.2.2.2.2.2.2.2.2.2.2.2.2.2.2.2.1
theorem dX7_count_91 : decode cX7_count 91 = .ok (.ireturn, 1) := edX7_count_0.2.2.2.2.2.2.2.2.2.2.2.2.2.2.2.2.2.2.2.2.2.1
theorem dX7_count_92 : decode cX7_count 92 = .ok (.aload_n 0, 1) := edX7_count_0.2.2.2.2.2.2.2.2.2.2.2.2.2.2.2.2.2.2.2.2.2.2.1
theorem dX7_count_93 : decode cX7_count 93 = .ok (.getfield 10, 3) := edX7_count_0.2.2.2.2.2.2.2.2.2.2.2.2.2.2.2.2.2.2.2.2.2.2.2.1
theorem dX7_count_96 : decode cX7_count 96 = .ok (.getfield 246, 3) := edX7_count_0.2.2.2.2.2.2.2.2.2.2.2.2.2.2.2.2.2.2.2.2.2.2.2.2.1
theorem dX7_count_99 : decode cX7_count 99 = .ok (.ireturn, 1) := edX7_count_0.2.2.2.2.2.2.2.2.2.2.2.2.2.2.2.2.2.2.2.2.2.2.2.2.2.1
theorem dX7_count_100 : decode cX7_count 100 = .ok (.aload_n 0, 1) := edX7_count_0.2.2.2.2.2.2.2.2.2.2.2.2.2.2.2.2.2.2.2.2.2.2.2.2.2.2.1
theorem dX7_count_101 : decode cX7_count 101 = .ok (.getfield 61, 3) := edX7_count_0.2.2.2.2.2.2.2.2.2.2.2.2.2.2.2.2.2.2.2.2.2.2.2.2.2.2.2.1
theorem dX7_count_104 : decode cX7_count 104 = .ok (.ireturn, 1) := edX7_count_0.2.2.2.2.2.2.2.2.2.2.2.2.2.2.2.2.2.2.2.2.2.2.2.2.2.2.2.2.1
theorem dX7_count_105 : decode cX7_count 105 = .ok (.aload_n 0, 1) := edX7_count_0.2.2.2.2.2.2.2.2.2.2.2.2.2.2.2.2.2.2.2.2.2.2.2.2.2.2.2.2.2.1
theorem dX7_count_106 : decode cX7_count 106 = .ok (.getfield 44, 3) := edX7_count_0.2.2.2.2.2.2.2.2.2.2.2.2.2.2.2.2.2.2.2.2.2.2.2.2.2.2.2.2.2.2.1
theorem dX7_count_109 : decode cX7_count 109 = .ok (.getfield 234, 3) := edX7_count_0.2.2.2.2.2.2.2.2.2.2.2.2.2.2.2.2.2.2.2.2.2.2.2.2.2.2.2.2.2.2.2.1
theorem edX7_count_112 : (decode cX7_count 112 = .ok (.ireturn, 1)) ∧ (decode cX7_count 113 = .ok (.aload_n 0, 1)) ∧ (decode cX7_count 114 = .ok (.getfield 10, 3)) ∧ (decode cX7_count 117 = .ok (.getfield 157, 3)) ∧ (decode cX7_count 120 = .ok (.ireturn, 1)) ∧ (decode cX7_count 121 = .ok (.ldc 78, 2)) ∧ (decode cX7_count 123 = .ok (.ireturn, 1)) ∧ True := dc_cj [(112, .ireturn, 1), (113, .aload_n 0, 1), (114, .getfield 10, 3), (117, .getfield 157, 3), (120, .ireturn, 1), (121, .ldc 78, 2), (123, .ireturn, 1)] (by decide +kernel)
theorem dX7_count_112 : decode cX7_count 112 = .ok (.ireturn, 1) := edX7_count_112.1
theorem dX7_count_113 : decode cX7_count 113 = .ok (.aload_n 0, 1) := edX7_count_112.2.1
theorem dX7_count_114 : decode cX7_count 114 = .ok (.getfield 10, 3) := edX7_count_112.2.2.1
theorem dX7_count_117 : decode cX7_count 117 = .ok (.getfield 157, 3) := edX7_count_112.2.2.2.1
theorem dX7_count_120 : decode cX7_count 120 = .ok (.ireturn, 1) := edX7_count_112.2.2.2.2.1
theorem dX7_count_121 : decode cX7_count 121 = .ok (.ldc 78, 2) := edX7_count_112.2.2.2.2.2.1
theorem dX7_count_123 : decode cX7_count 123 = .ok (.ireturn, 1) := edX7_count_112.2.2.2.2.2.2.1
theorem edX7_within_0 : (decode cX7_within 0 = .ok (.iload_n 0, 1)) ∧ (decode cX7_within 1 = .ok (.iload_n 1, 1)) ∧ (decode cX7_within 2 = .ok (.if_icmp .lt 12, 3)) ∧ (decode cX7_within 5 = .ok (.iload_n 0, 1)) ∧ (decode cX7_within 6 = .ok (.iload_n 2, 1)) ∧ (decode cX7_within 7 = .ok (.if_icmp .gt 7, 3)) ∧ (decode cX7_within 10 = .ok (.iconst 1, 1)) ∧ (decode cX7_within 11 = .ok (.goto 4, 3)) ∧ (decode cX7_within 14 = .ok (.iconst 0, 1)) ∧ (decode cX7_within 15 = .ok (.ireturn, 1)) ∧ True := dc_cj [(0, .iload_n 0, 1), (1, .iload_n 1, 1), (2, .if_icmp .lt 12, 3), (5, .iload_n 0, 1), (6, .iload_n 2, 1), (7, .if_icmp .gt 7, 3), (10, .iconst 1, 1), (11, .goto 4, 3), (14, .iconst 0, 1), (15, .ireturn, 1)] (by decide +kernel)
theorem dX7_within_0 : decode cX7_within 0 = .ok (.iload_n 0, 1) := edX7_within_0.1
theorem dX7_within_1 : decode cX7_within 1 = .ok (.iload_n 1, 1) := edX7_within_0.2.1
theorem dX7_within_2 : decode cX7_within 2 = .ok (.if_icmp .lt 12, 3) := edX7_within_0.2.2.1
theorem dX7_within_5 : decode cX7_within 5 = .ok (.iload_n 0, 1) := edX7_within_0.2.2.2.1
theorem dX7_within_6 : decode cX7_within 6 = .ok (.iload_n 2, 1) := edX7_within_0.2.2.2.2.1
theorem dX7_within_7 : decode cX7_within 7 = .ok (.if_icmp .gt 7, 3) := edX7_within_0.2.2.2.2.2.1
theorem dX7_within_10 : decode cX7_within 10 = .ok (.iconst 1, 1) := edX7_within_0.2.2.2.2.2.2.1
theorem dX7_within_11 : decode cX7_within 11 = .ok (.goto 4, 3) := edX7_within_0.2.2.2.2.2.2.2.1
theorem dX7_within_14 : decode cX7_within 14 = .ok (.iconst 0, 1) := edX7_within_0.2.2.2.2.2.2.2.2.1
theorem dX7_within_15 : decode cX7_within 15 = .ok (.ireturn, 1) := edX7_within_0.2.2.2.2.2.2.2.2.2.1
theorem edX7_heldWithin_0 : (decode cX7_heldWithin 0 = .ok (.iload_n 0, 1)) ∧ (decode cX7_heldWithin 1 = .ok (.ifCond .ge 7, 3)) ∧ (decode cX7_heldWithin 4 = .ok (.iconst 0, 1)) ∧ (decode cX7_heldWithin 5 = .ok (.goto 8, 3)) ∧ (decode cX7_heldWithin 8 = .ok (.iload_n 0, 1)) ∧ (decode cX7_heldWithin 9 = .ok (.iload_n 1, 1)) ∧ (decode cX7_heldWithin 10 = .ok (.invokestatic 148, 3)) ∧ (decode cX7_heldWithin 13 = .ok (.ireturn, 1)) ∧ True := dc_cj [(0, .iload_n 0, 1), (1, .ifCond .ge 7, 3), (4, .iconst 0, 1), (5, .goto 8, 3), (8, .iload_n 0, 1), (9, .iload_n 1, 1), (10, .invokestatic 148, 3), (13, .ireturn, 1)] (by decide +kernel)
theorem dX7_heldWithin_0 : decode cX7_heldWithin 0 = .ok (.iload_n 0, 1) := edX7_heldWithin_0.1
theorem dX7_heldWithin_1 : decode cX7_heldWithin 1 = .ok (.ifCond .ge 7, 3) := edX7_heldWithin_0.2.1
theorem dX7_heldWithin_4 : decode cX7_heldWithin 4 = .ok (.iconst 0, 1) := edX7_heldWithin_0.2.2.1
theorem dX7_heldWithin_5 : decode cX7_heldWithin 5 = .ok (.goto 8, 3) := edX7_heldWithin_0.2.2.2.1
theorem dX7_heldWithin_8 : decode cX7_heldWithin 8 = .ok (.iload_n 0, 1) := edX7_heldWithin_0.2.2.2.2.1
theorem dX7_heldWithin_9 : decode cX7_heldWithin 9 = .ok (.iload_n 1, 1) := edX7_heldWithin_0.2.2.2.2.2.1
theorem dX7_heldWithin_10 : decode cX7_heldWithin 10 = .ok (.invokestatic 148, 3) := edX7_heldWithin_0.2.2.2.2.2.2.1
theorem dX7_heldWithin_13 : decode cX7_heldWithin 13 = .ok (.ireturn, 1) := edX7_heldWithin_0.2.2.2.2.2.2.2.1
theorem edX7_isSide_0 : (decode cX7_isSide 0 = .ok (.iload_n 0, 1)) ∧ (decode cX7_isSide 1 = .ok (.ifCond .eq 8, 3)) ∧ (decode cX7_isSide 4 = .ok (.iload_n 0, 1)) ∧ (decode cX7_isSide 5 = .ok (.iconst 1, 1)) ∧ (decode cX7_isSide 6 = .ok (.if_icmp .ne 7, 3)) ∧ (decode cX7_isSide 9 = .ok (.iconst 1, 1)) ∧ (decode cX7_isSide 10 = .ok (.goto 4, 3)) ∧ (decode cX7_isSide 13 = .ok (.iconst 0, 1)) ∧ (decode cX7_isSide 14 = .ok (.ireturn, 1)) ∧ True := dc_cj [(0, .iload_n 0, 1), (1, .ifCond .eq 8, 3), (4, .iload_n 0, 1), (5, .iconst 1, 1), (6, .if_icmp .ne 7, 3), (9, .iconst 1, 1), (10, .goto 4, 3), (13, .iconst 0, 1), (14, .ireturn, 1)] (by decide +kernel)
theorem dX7_isSide_0 : decode cX7_isSide 0 = .ok (.iload_n 0, 1) := edX7_isSide_0.1
theorem dX7_isSide_1 : decode cX7_isSide 1 = .ok (.ifCond .eq 8, 3) := edX7_isSide_0.2.1
theorem dX7_isSide_4 : decode cX7_isSide 4 = .ok (.iload_n 0, 1) := edX7_isSide_0.2.2.1
theorem dX7_isSide_5 : decode cX7_isSide 5 = .ok (.iconst 1, 1) := edX7_isSide_0.2.2.2.1
theorem dX7_isSide_6 : decode cX7_isSide 6 = .ok (.if_icmp .ne 7, 3) := edX7_isSide_0.2.2.2.2.1
theorem dX7_isSide_9 : decode cX7_isSide 9 = .ok (.iconst 1, 1) := edX7_isSide_0.2.2.2.2.2.1
theorem dX7_isSide_10 : decode cX7_isSide 10 = .ok (.goto 4, 3) := edX7_isSide_0.2.2.2.2.2.2.1
theorem dX7_isSide_13 : decode cX7_isSide 13 = .ok (.iconst 0, 1) := edX7_isSide_0.2.2.2.2.2.2.2.1
theorem dX7_isSide_14 : decode cX7_isSide 14 = .ok (.ireturn, 1) := edX7_isSide_0.2.2.2.2.2.2.2.2.1
theorem edX7_isTerm_0 : (decode cX7_isTerm 0 = .ok (.iload_n 0, 1)) ∧ (decode cX7_isTerm 1 = .ok (.iconst 0, 1)) ∧ (decode cX7_isTerm 2 = .ok (.iconst 3, 1)) ∧ (decode cX7_isTerm 3 = .ok (.invokestatic 74, 3)) ∧ (decode cX7_isTerm 6 = .ok (.ireturn, 1)) ∧ True := dc_cj [(0, .iload_n 0, 1), (1, .iconst 0, 1), (2, .iconst 3, 1), (3, .invokestatic 74, 3), (6, .ireturn, 1)] (by decide +kernel)
theorem dX7_isTerm_0 : decode cX7_isTerm 0 = .ok (.iload_n 0, 1) := edX7_isTerm_0.1
theorem dX7_isTerm_1 : decode cX7_isTerm 1 = .ok (.iconst 0, 1) := edX7_isTerm_0.2.1
theorem dX7_isTerm_2 : decode cX7_isTerm 2 = .ok (.iconst 3, 1) := edX7_isTerm_0.2.2.1
theorem dX7_isTerm_3 : decode cX7_isTerm 3 = .ok (.invokestatic 74, 3) := edX7_isTerm_0.2.2.2.1
theorem dX7_isTerm_6 : decode cX7_isTerm 6 = .ok (.ireturn, 1) := edX7_isTerm_0.2.2.2.2.1
theorem edX7_isKind_0 : (decode cX7_isKind 0 = .ok (.iload_n 0, 1)) ∧ (decode cX7_isKind 1 = .ok (.iconst 0, 1)) ∧ (decode cX7_isKind 2 = .ok (.iconst 5, 1)) ∧ (decode cX7_isKind 3 = .ok (.invokestatic 74, 3)) ∧ (decode cX7_isKind 6 = .ok (.ireturn, 1)) ∧ True := dc_cj [(0, .iload_n 0, 1), (1, .iconst 0, 1), (2, .iconst 5, 1), (3, .invokestatic 74, 3), (6, .ireturn, 1)] (by decide +kernel)
theorem dX7_isKind_0 : decode cX7_isKind 0 = .ok (.iload_n 0, 1) := edX7_isKind_0.1
theorem dX7_isKind_1 : decode cX7_isKind 1 = .ok (.iconst 0, 1) := edX7_isKind_0.2.1
theorem dX7_isKind_2 : decode cX7_isKind 2 = .ok (.iconst 5, 1) := edX7_isKind_0.2.2.1
theorem dX7_isKind_3 : decode cX7_isKind 3 = .ok (.invokestatic 74, 3) := edX7_isKind_0.2.2.2.1
theorem dX7_isKind_6 : decode cX7_isKind 6 = .ok (.ireturn, 1) := edX7_isKind_0.2.2.2.2.1
theorem edX7_isSheet_0 : (decode cX7_isSheet 0 = .ok (.iload_n 0, 1)) ∧ (decode cX7_isSheet 1 = .ok (.iconst 0, 1)) ∧ (decode cX7_isSheet 2 = .ok (.iconst 3, 1)) ∧ (decode cX7_isSheet 3 = .ok (.invokestatic 74, 3)) ∧ (decode cX7_isSheet 6 = .ok (.ireturn, 1)) ∧ True := dc_cj [(0, .iload_n 0, 1), (1, .iconst 0, 1), (2, .iconst 3, 1), (3, .invokestatic 74, 3), (6, .ireturn, 1)] (by decide +kernel)
theorem dX7_isSheet_0 : decode cX7_isSheet 0 = .ok (.iload_n 0, 1) := edX7_isSheet_0.1
theorem dX7_isSheet_1 : decode cX7_isSheet 1 = .ok (.iconst 0, 1) := edX7_isSheet_0.2.1
theorem dX7_isSheet_2 : decode cX7_isSheet 2 = .ok (.iconst 3, 1) := edX7_isSheet_0.2.2.1
theorem dX7_isSheet_3 : decode cX7_isSheet 3 = .ok (.invokestatic 74, 3) := edX7_isSheet_0.2.2.2.1
theorem dX7_isSheet_6 : decode cX7_isSheet 6 = .ok (.ireturn, 1) := edX7_isSheet_0.2.2.2.2.1
theorem edX7_isSlot_0 : (decode cX7_isSlot 0 = .ok (.iload_n 0, 1)) ∧ (decode cX7_isSlot 1 = .ok (.iconst 0, 1)) ∧ (decode cX7_isSlot 2 = .ok (.iconst 4, 1)) ∧ (decode cX7_isSlot 3 = .ok (.invokestatic 74, 3)) ∧ (decode cX7_isSlot 6 = .ok (.ireturn, 1)) ∧ True := dc_cj [(0, .iload_n 0, 1), (1, .iconst 0, 1), (2, .iconst 4, 1), (3, .invokestatic 74, 3), (6, .ireturn, 1)] (by decide +kernel)
theorem dX7_isSlot_0 : decode cX7_isSlot 0 = .ok (.iload_n 0, 1) := edX7_isSlot_0.1
theorem dX7_isSlot_1 : decode cX7_isSlot 1 = .ok (.iconst 0, 1) := edX7_isSlot_0.2.1
theorem dX7_isSlot_2 : decode cX7_isSlot 2 = .ok (.iconst 4, 1) := edX7_isSlot_0.2.2.1
theorem dX7_isSlot_3 : decode cX7_isSlot 3 = .ok (.invokestatic 74, 3) := edX7_isSlot_0.2.2.2.1
theorem dX7_isSlot_6 : decode cX7_isSlot 6 = .ok (.ireturn, 1) := edX7_isSlot_0.2.2.2.2.1
theorem edX7_carePlace_0 : (decode cX7_carePlace 0 = .ok (.iload_n 0, 1)) ∧ (decode cX7_carePlace 1 = .ok (.iconst 4, 1)) ∧ (decode cX7_carePlace 2 = .ok (.imul, 1)) ∧ (decode cX7_carePlace 3 = .ok (.iload_n 1, 1)) ∧ (decode cX7_carePlace 4 = .ok (.iadd, 1)) ∧ (decode cX7_carePlace 5 = .ok (.ireturn, 1)) ∧ True := dc_cj [(0, .iload_n 0, 1), (1, .iconst 4, 1), (2, .imul, 1), (3, .iload_n 1, 1), (4, .iadd, 1), (5, .ireturn, 1)] (by decide +kernel)
theorem dX7_carePlace_0 : decode cX7_carePlace 0 = .ok (.iload_n 0, 1) := edX7_carePlace_0.1
theorem dX7_carePlace_1 : decode cX7_carePlace 1 = .ok (.iconst 4, 1) := edX7_carePlace_0.2.1
theorem dX7_carePlace_2 : decode cX7_carePlace 2 = .ok (.imul, 1) := edX7_carePlace_0.2.2.1
theorem dX7_carePlace_3 : decode cX7_carePlace 3 = .ok (.iload_n 1, 1) := edX7_carePlace_0.2.2.2.1
theorem dX7_carePlace_4 : decode cX7_carePlace 4 = .ok (.iadd, 1) := edX7_carePlace_0.2.2.2.2.1
theorem dX7_carePlace_5 : decode cX7_carePlace 5 = .ok (.ireturn, 1) := edX7_carePlace_0.2.2.2.2.2.1
theorem edX7_orNone_0 : (decode cX7_orNone 0 = .ok (.iload_n 0, 1)) ∧ (decode cX7_orNone 1 = .ok (.ifCond .ge 8, 3)) ∧ (decode cX7_orNone 4 = .ok (.ldc 200, 2)) ∧ (decode cX7_orNone 6 = .ok (.goto 4, 3)) ∧ (decode cX7_orNone 9 = .ok (.iload_n 0, 1)) ∧ (decode cX7_orNone 10 = .ok (.ireturn, 1)) ∧ True := dc_cj [(0, .iload_n 0, 1), (1, .ifCond .ge 8, 3), (4, .ldc 200, 2), (6, .goto 4, 3), (9, .iload_n 0, 1), (10, .ireturn, 1)] (by decide +kernel)
theorem dX7_orNone_0 : decode cX7_orNone 0 = .ok (.iload_n 0, 1) := edX7_orNone_0.1
theorem dX7_orNone_1 : decode cX7_orNone 1 = .ok (.ifCond .ge 8, 3) := edX7_orNone_0.2.1
theorem dX7_orNone_4 : decode cX7_orNone 4 = .ok (.ldc 200, 2) := edX7_orNone_0.2.2.1
theorem dX7_orNone_6 : decode cX7_orNone 6 = .ok (.goto 4, 3) := edX7_orNone_0.2.2.2.1
theorem dX7_orNone_9 : decode cX7_orNone 9 = .ok (.iload_n 0, 1) := edX7_orNone_0.2.2.2.2.1
theorem dX7_orNone_10 : decode cX7_orNone 10 = .ok (.ireturn, 1) := edX7_orNone_0.2.2.2.2.2.1
theorem edX7_isUnder_0 : (decode cX7_isUnder 0 = .ok (.iload_n 0, 1)) ∧ (decode cX7_isUnder 1 = .ok (.istore_n 2, 1)) ∧ (decode cX7_isUnder 2 = .ok (.iconst 0, 1)) ∧ (decode cX7_isUnder 3 = .ok (.istore_n 3, 1)) ∧ (decode cX7_isUnder 4 = .ok (.iload_n 3, 1)) ∧ (decode cX7_isUnder 5 = .ok (.bipush 6, 2)) ∧ (decode cX7_isUnder 7 = .ok (.if_icmp .ge 29, 3)) ∧ (decode cX7_isUnder 10 = .ok (.iload_n 2, 1)) ∧ (decode cX7_isUnder 11 = .ok (.invokestatic 67, 3)) ∧ (decode cX7_isUnder 14 = .ok (.ifCond .eq 22, 3)) ∧ (decode cX7_isUnder 17 = .ok (.iload_n 2, 1)) ∧ (decode cX7_isUnder 18 = .ok (.iload_n 1, 1)) ∧ (decode cX7_isUnder 19 = .ok (.if_icmp .ne 5, 3)) ∧ (decode cX7_isUnder 22 = .ok (.iconst 1, 1)) ∧ (decode cX7_isUnder 23 = .ok (.ireturn, 1)) ∧ (decode cX7_isUnder 24 = .ok (.getstatic 322, 3)) ∧ (decode cX7_isUnder 27 = .ok (.iload_n 2, 1)) ∧ (decode cX7_isUnder 28 = .ok (.iaload, 1)) ∧ (decode cX7_isUnder 29 = .ok (.istore_n 2, 1)) ∧ (decode cX7_isUnder 30 = .ok (.iinc 3 1, 3)) ∧ (decode cX7_isUnder 33 = .ok (.goto (-29), 3)) ∧ (decode cX7_isUnder 36 = .ok (.iconst 0, 1)) ∧ (decode cX7_isUnder 37 = .ok (.ireturn, 1)) ∧ True := dc_cj [(0, .iload_n 0, 1), (1, .istore_n 2, 1), (2, .iconst 0, 1), (3, .istore_n 3, 1), (4, .iload_n 3, 1), (5, .bipush 6, 2), (7, .if_icmp .ge 29, 3), (10, .iload_n 2, 1), (11, .invokestatic 67, 3), (14, .ifCond .eq 22, 3), (17, .iload_n 2, 1), (18, .iload_n 1, 1), (19, .if_icmp .ne 5, 3), (22, .iconst 1, 1), (23, .ireturn, 1), (24, .getstatic 322, 3), (27, .iload_n 2, 1), (28, .iaload, 1), (29, .istore_n 2, 1), (30, .iinc 3 1, 3), (33, .goto (-29), 3), (36, .iconst 0, 1), (37, .ireturn, 1)] (by decide +kernel)
theorem dX7_isUnder_0 : decode cX7_isUnder 0 = .ok (.iload_n 0, 1) := edX7_isUnder_0.1
theorem dX7_isUnder_1 : decode cX7_isUnder 1 = .ok (.istore_n 2, 1) := edX7_isUnder_0.2.1
theorem dX7_isUnder_2 : decode cX7_isUnder 2 = .ok (.iconst 0, 1) := edX7_isUnder_0.2.2.1
theorem dX7_isUnder_3 : decode cX7_isUnder 3 = .ok (.istore_n 3, 1) := edX7_isUnder_0.2.2.2.1
theorem dX7_isUnder_4 : decode cX7_isUnder 4 = .ok (.iload_n 3, 1) := edX7_isUnder_0.2.2.2.2.1
theorem dX7_isUnder_5 : decode cX7_isUnder 5 = .ok (.bipush 6, 2) := edX7_isUnder_0.2.2.2.2.2.1
theorem dX7_isUnder_7 : decode cX7_isUnder 7 = .ok (.if_icmp .ge 29, 3) := edX7_isUnder_0.2.2.2.2.2.2.1
theorem dX7_isUnder_10 : decode cX7_isUnder 10 = .ok (.iload_n 2, 1) := edX7_isUnder_0.2.2.2.2.2.2.2.1
theorem dX7_isUnder_11 : decode cX7_isUnder 11 = .ok (.invokestatic 67, 3) := edX7_isUnder_0.2.2.2.2.2.2.2.2.1
theorem dX7_isUnder_14 : decode cX7_isUnder 14 = .ok (.ifCond .eq 22, 3) := edX7_isUnder_0.2.2.2.2.2.2.2.2.2.1
theorem dX7_isUnder_17 : decode cX7_isUnder 17 = .ok (.iload_n 2, 1) := edX7_isUnder_0.2.2.2.2.2.2.2.2.2.2.1
theorem dX7_isUnder_18 : decode cX7_isUnder 18 = .ok (.iload_n 1, 1) := edX7_isUnder_0.2.2.2.2.2.2.2.2.2.2.2.1
theorem dX7_isUnder_19 : decode cX7_isUnder 19 = .ok (.if_icmp .ne 5, 3) := edX7_isUnder_0.2.2.2.2.2.2.2.2.2.2.2.2.1
theorem dX7_isUnder_22 : decode cX7_isUnder 22 = .ok (.iconst 1, 1) := edX7_isUnder_0.2.2.2.2.2.2.2.2.2.2.2.2.2.1
theorem dX7_isUnder_23 : decode cX7_isUnder 23 = .ok (.ireturn, 1) := edX7_isUnder_0.2.2.2.2.2.2.2.2.2.2.2.2.2.2.1
theorem dX7_isUnder_24 : decode cX7_isUnder 24 = .ok (.getstatic 322, 3) := edX7_isUnder_0.2.2.2.2.2.2.2.2.2.2.2.2.2.2.2.1
theorem dX7_isUnder_27 : decode cX7_isUnder 27 = .ok (.iload_n 2, 1) := edX7_isUnder_0.2.2.2.2.2.2.2.2.2.2.2.2.2.2.2.2.1
theorem dX7_isUnder_28 : decode cX7_isUnder 28 = .ok (.iaload, 1) := edX7_isUnder_0.2.2.2.2.2.2.2.2.2.2.2.2.2.2.2.2.2.1
theorem dX7_isUnder_29 : decode cX7_isUnder 29 = .ok (.istore_n 2, 1) := edX7_isUnder_0.2.2.2.2.2.2.2.2.2.2.2.2.2.2.2.2.2.2.1
theorem dX7_isUnder_30 : decode cX7_isUnder 30 = .ok (.iinc 3 1, 3) := edX7_isUnder_0.2.2.2.2.2.2.2.2.2.2.2.2.2.2.2.2.2.2.2.1
theorem dX7_isUnder_33 : decode cX7_isUnder 33 = .ok (.goto (-29), 3) := edX7_isUnder_0.2.2.2.2.2.2.2.2.2.2.2.2.2.2.2.2.2.2.2.2.1
theorem dX7_isUnder_36 : decode cX7_isUnder 36 = .ok (.iconst 0, 1) := edX7_isUnder_0.2.2.2.2.2.2.2.2.2.2.2.2.2.2.2.2.2.2.2.2.2.1
theorem dX7_isUnder_37 : decode cX7_isUnder 37 = .ok (.ireturn, 1) := edX7_isUnder_0.2.2.2.2.2.2.2.2.2.2.2.2.2.2.2.2.2.2.2.2.2.2.1
theorem edX7_worthOf_0 : (decode cX7_worthOf 0 = .ok (.iload_n 0, 1)) ∧ (decode cX7_worthOf 1 = .ok (.tableswitch 61 1 5 #[35, 45, 39, 50, 58], 35)) ∧ (decode cX7_worthOf 36 = .ok (.iload_n 1, 1)) ∧ (decode cX7_worthOf 37 = .ok (.iconst 4, 1)) ∧ (decode cX7_worthOf 38 = .ok (.iadd, 1)) ∧ (decode cX7_worthOf 39 = .ok (.ireturn, 1)) ∧ (decode cX7_worthOf 40 = .ok (.iconst 2, 1)) ∧ (decode cX7_worthOf 41 = .ok (.iload_n 1, 1)) ∧ (decode cX7_worthOf 42 = .ok (.iconst 4, 1)) ∧ (decode cX7_worthOf 43 = .ok (.iadd, 1)) ∧ (decode cX7_worthOf 44 = .ok (.imul, 1)) ∧ (decode cX7_worthOf 45 = .ok (.ireturn, 1)) ∧ (decode cX7_worthOf 46 = .ok (.bipush 99, 2)) ∧ (decode cX7_worthOf 48 = .ok (.iload_n 1, 1)) ∧ (decode cX7_worthOf 49 = .ok (.isub, 1)) ∧ (decode cX7_worthOf 50 = .ok (.ireturn, 1)) ∧ (decode cX7_worthOf 51 = .ok (.bipush 99, 2)) ∧ (decode cX7_worthOf 53 = .ok (.iload_n 1, 1)) ∧ (decode cX7_worthOf 54 = .ok (.isub, 1)) ∧ (decode cX7_worthOf 55 = .ok (.bipush 9, 2)) ∧ (decode cX7_worthOf 57 = .ok (.isub, 1)) ∧ (decode cX7_worthOf 58 = .ok (.ireturn, 1)) ∧ (decode cX7_worthOf 59 = .ok (.bipush 7, 2)) ∧ (decode cX7_worthOf 61 = .ok (.ireturn, 1)) ∧ (decode cX7_worthOf 62 = .ok (.iload_n 1, 1)) ∧ (decode cX7_worthOf 63 = .ok (.ireturn, 1)) ∧ True := dc_cj [(0, .iload_n 0, 1), (1, .tableswitch 61 1 5 #[35, 45, 39, 50, 58], 35), (36, .iload_n 1, 1), (37, .iconst 4, 1), (38, .iadd, 1), (39, .ireturn, 1), (40, .iconst 2, 1), (41, .iload_n 1, 1), (42, .iconst 4, 1), (43, .iadd, 1), (44, .imul, 1), (45, .ireturn, 1), (46, .bipush 99, 2), (48, .iload_n 1, 1), (49, .isub, 1), (50, .ireturn, 1), (51, .bipush 99, 2), (53, .iload_n 1, 1), (54, .isub, 1), (55, .bipush 9, 2), (57, .isub, 1), (58, .ireturn, 1), (59, .bipush 7, 2), (61, .ireturn, 1), (62, .iload_n 1, 1), (63, .ireturn, 1)] (by decide +kernel)
theorem dX7_worthOf_0 : decode cX7_worthOf 0 = .ok (.iload_n 0, 1) := edX7_worthOf_0.1
theorem dX7_worthOf_1 : decode cX7_worthOf 1 = .ok (.tableswitch 61 1 5 #[35, 45, 39, 50, 58], 35) := edX7_worthOf_0.2.1
theorem dX7_worthOf_36 : decode cX7_worthOf 36 = .ok (.iload_n 1, 1) := edX7_worthOf_0.2.2.1
theorem dX7_worthOf_37 : decode cX7_worthOf 37 = .ok (.iconst 4, 1) := edX7_worthOf_0.2.2.2.1
theorem dX7_worthOf_38 : decode cX7_worthOf 38 = .ok (.iadd, 1) := edX7_worthOf_0.2.2.2.2.1
theorem dX7_worthOf_39 : decode cX7_worthOf 39 = .ok (.ireturn, 1) := edX7_worthOf_0.2.2.2.2.2.1
theorem dX7_worthOf_40 : decode cX7_worthOf 40 = .ok (.iconst 2, 1) := edX7_worthOf_0.2.2.2.2.2.2.1
theorem dX7_worthOf_41 : decode cX7_worthOf 41 = .ok (.iload_n 1, 1) := edX7_worthOf_0.2.2.2.2.2.2.2.1
theorem dX7_worthOf_42 : decode cX7_worthOf 42 = .ok (.iconst 4, 1) := edX7_worthOf_0.2.2.2.2.2.2.2.2.1
theorem dX7_worthOf_43 : decode cX7_worthOf 43 = .ok (.iadd, 1) := edX7_worthOf_0.2.2.2.2.2.2.2.2.2.1
theorem dX7_worthOf_44 : decode cX7_worthOf 44 = .ok (.imul, 1) := edX7_worthOf_0.2.2.2.2.2.2.2.2.2.2.1
theorem dX7_worthOf_45 : decode cX7_worthOf 45 = .ok (.ireturn, 1) := edX7_worthOf_0.2.2.2.2.2.2.2.2.2.2.2.1
theorem dX7_worthOf_46 : decode cX7_worthOf 46 = .ok (.bipush 99, 2) := edX7_worthOf_0.2.2.2.2.2.2.2.2.2.2.2.2.1
theorem dX7_worthOf_48 : decode cX7_worthOf 48 = .ok (.iload_n 1, 1) := edX7_worthOf_0.2.2.2.2.2.2.2.2.2.2.2.2.2.1
theorem dX7_worthOf_49 : decode cX7_worthOf 49 = .ok (.isub, 1) := edX7_worthOf_0.2.2.2.2.2.2.2.2.2.2.2.2.2.2.1
theorem dX7_worthOf_50 : decode cX7_worthOf 50 = .ok (.ireturn, 1) := edX7_worthOf_0.2.2.2.2.2.2.2.2.2.2.2.2.2.2.2.1
theorem dX7_worthOf_51 : decode cX7_worthOf 51 = .ok (.bipush 99, 2) := edX7_worthOf_0.2.2.2.2.2.2.2.2.2.2.2.2.2.2.2.2.1
theorem dX7_worthOf_53 : decode cX7_worthOf 53 = .ok (.iload_n 1, 1) := edX7_worthOf_0.2.2.2.2.2.2.2.2.2.2.2.2.2.2.2.2.2.1
theorem dX7_worthOf_54 : decode cX7_worthOf 54 = .ok (.isub, 1) := edX7_worthOf_0.2.2.2.2.2.2.2.2.2.2.2.2.2.2.2.2.2.2.1
theorem dX7_worthOf_55 : decode cX7_worthOf 55 = .ok (.bipush 9, 2) := edX7_worthOf_0.2.2.2.2.2.2.2.2.2.2.2.2.2.2.2.2.2.2.2.1
theorem dX7_worthOf_57 : decode cX7_worthOf 57 = .ok (.isub, 1) := edX7_worthOf_0.2.2.2.2.2.2.2.2.2.2.2.2.2.2.2.2.2.2.2.2.1
theorem dX7_worthOf_58 : decode cX7_worthOf 58 = .ok (.ireturn, 1) := edX7_worthOf_0.2.2.2.2.2.2.2.2.2.2.2.2.2.2.2.2.2.2.2.2.2.1
theorem dX7_worthOf_59 : decode cX7_worthOf 59 = .ok (.bipush 7, 2) := edX7_worthOf_0.2.2.2.2.2.2.2.2.2.2.2.2.2.2.2.2.2.2.2.2.2.2.1
theorem dX7_worthOf_61 : decode cX7_worthOf 61 = .ok (.ireturn, 1) := edX7_worthOf_0.2.2.2.2.2.2.2.2.2.2.2.2.2.2.2.2.2.2.2.2.2.2.2.1
theorem dX7_worthOf_62 : decode cX7_worthOf 62 = .ok (.iload_n 1, 1) := edX7_worthOf_0.2.2.2.2.2.2.2.2.2.2.2.2.2.2.2.2.2.2.2.2.2.2.2.2.1
theorem dX7_worthOf_63 : decode cX7_worthOf 63 = .ok (.ireturn, 1) := edX7_worthOf_0.2.2.2.2.2.2.2.2.2.2.2.2.2.2.2.2.2.2.2.2.2.2.2.2.2.1
theorem edX8_init_0 : (decode cX8_init 0 = .ok (.aload_n 0, 1)) ∧ (decode cX8_init 1 = .ok (.invokespecial 1, 3)) ∧ (decode cX8_init 4 = .ok (.aload_n 0, 1)) ∧ (decode cX8_init 5 = .ok (.sipush 1434, 3)) ∧ (decode cX8_init 8 = .ok (.newarray .int, 2)) ∧ (decode cX8_init 10 = .ok (.putfield 9, 3)) ∧ (decode cX8_init 13 = .ok (.aload_n 0, 1)) ∧ (decode cX8_init 14 = .ok (.sipush 1434, 3)) ∧ (decode cX8_init 17 = .ok (.newarray .int, 2)) ∧ (decode cX8_init 19 = .ok (.putfield 13, 3)) ∧ (decode cX8_init 22 = .ok (.aload_n 0, 1)) ∧ (decode cX8_init 23 = .ok (.sipush 1434, 3)) ∧ (decode cX8_init 26 = .ok (.newarray .int, 2)) ∧ (decode cX8_init 28 = .ok (.putfield 16, 3)) ∧ (decode cX8_init 31 = .ok (.aload_n 0, 1)) ∧ (decode cX8_init 32 = .ok (.iconst (-1), 1)) ∧ (decode cX8_init 33 = .ok (.putfield 19, 3)) ∧ (decode cX8_init 36 = .ok (.aload_n 0, 1)) ∧ (decode cX8_init 37 = .ok (.iconst 4, 1)) ∧ (decode cX8_init 38 = .ok (.newarray .int, 2)) ∧ (decode cX8_init 40 = .ok (.putfield 23, 3)) ∧ (decode cX8_init 43 = .ok (.aload_n 0, 1)) ∧ (decode cX8_init 44 = .ok (.bipush 62, 2)) ∧ (decode cX8_init 46 = .ok (.newarray .int, 2)) ∧ (decode cX8_init 48 = .ok (.putfield 26, 3)) ∧ (decode cX8_init 51 = .ok (.aload_n 0, 1)) ∧ (decode cX8_init 52 = .ok (.bipush 96, 2)) ∧ (decode cX8_init 54 = .ok (.newarray .int, 2)) ∧ (decode cX8_init 56 = .ok (.putfield 29, 3)) ∧ (decode cX8_init 59 = .ok (.aload_n 0, 1)) ∧ (decode cX8_init 60 = .ok (.bipush 11, 2)) ∧ (decode cX8_init 62 = .ok (.newarray .char, 2)) ∧ True := dc_cj [(0, .aload_n 0, 1), (1, .invokespecial 1, 3), (4, .aload_n 0, 1), (5, .sipush 1434, 3), (8, .newarray .int, 2), (10, .putfield 9, 3), (13, .aload_n 0, 1), (14, .sipush 1434, 3), (17, .newarray .int, 2), (19, .putfield 13, 3), (22, .aload_n 0, 1), (23, .sipush 1434, 3), (26, .newarray .int, 2), (28, .putfield 16, 3), (31, .aload_n 0, 1), (32, .iconst (-1), 1), (33, .putfield 19, 3), (36, .aload_n 0, 1), (37, .iconst 4, 1), (38, .newarray .int, 2), (40, .putfield 23, 3), (43, .aload_n 0, 1), (44, .bipush 62, 2), (46, .newarray .int, 2), (48, .putfield 26, 3), (51, .aload_n 0, 1), (52, .bipush 96, 2), (54, .newarray .int, 2), (56, .putfield 29, 3), (59, .aload_n 0, 1), (60, .bipush 11, 2), (62, .newarray .char, 2)] (by decide +kernel)
theorem dX8_init_0 : decode cX8_init 0 = .ok (.aload_n 0, 1) := edX8_init_0.1
theorem dX8_init_1 : decode cX8_init 1 = .ok (.invokespecial 1, 3) := edX8_init_0.2.1
theorem dX8_init_4 : decode cX8_init 4 = .ok (.aload_n 0, 1) := edX8_init_0.2.2.1
theorem dX8_init_5 : decode cX8_init 5 = .ok (.sipush 1434, 3) := edX8_init_0.2.2.2.1
theorem dX8_init_8 : decode cX8_init 8 = .ok (.newarray .int, 2) := edX8_init_0.2.2.2.2.1
theorem dX8_init_10 : decode cX8_init 10 = .ok (.putfield 9, 3) := edX8_init_0.2.2.2.2.2.1
theorem dX8_init_13 : decode cX8_init 13 = .ok (.aload_n 0, 1) := edX8_init_0.2.2.2.2.2.2.1
theorem dX8_init_14 : decode cX8_init 14 = .ok (.sipush 1434, 3) := edX8_init_0.2.2.2.2.2.2.2.1
theorem dX8_init_17 : decode cX8_init 17 = .ok (.newarray .int, 2) := edX8_init_0.2.2.2.2.2.2.2.2.1
theorem dX8_init_19 : decode cX8_init 19 = .ok (.putfield 13, 3) := edX8_init_0.2.2.2.2.2.2.2.2.2.1
theorem dX8_init_22 : decode cX8_init 22 = .ok (.aload_n 0, 1) := edX8_init_0.2.2.2.2.2.2.2.2.2.2.1
theorem dX8_init_23 : decode cX8_init 23 = .ok (.sipush 1434, 3) := edX8_init_0.2.2.2.2.2.2.2.2.2.2.2.1
theorem dX8_init_26 : decode cX8_init 26 = .ok (.newarray .int, 2) := edX8_init_0.2.2.2.2.2.2.2.2.2.2.2.2.1
theorem dX8_init_28 : decode cX8_init 28 = .ok (.putfield 16, 3) := edX8_init_0.2.2.2.2.2.2.2.2.2.2.2.2.2.1
theorem dX8_init_31 : decode cX8_init 31 = .ok (.aload_n 0, 1) := edX8_init_0.2.2.2.2.2.2.2.2.2.2.2.2.2.2.1
theorem dX8_init_32 : decode cX8_init 32 = .ok (.iconst (-1), 1) := edX8_init_0.2.2.2.2.2.2.2.2.2.2.2.2.2.2.2.1
theorem dX8_init_33 : decode cX8_init 33 = .ok (.putfield 19, 3) := edX8_init_0.2.2.2.2.2.2.2.2.2.2.2.2.2.2.2.2.1
theorem dX8_init_36 : decode cX8_init 36 = .ok (.aload_n 0, 1) := edX8_init_0.2.2.2.2.2.2.2.2.2.2.2.2.2.2.2.2.2.1
theorem dX8_init_37 : decode cX8_init 37 = .ok (.iconst 4, 1) := edX8_init_0.2.2.2.2.2.2.2.2.2.2.2.2.2.2.2.2.2.2.1
theorem dX8_init_38 : decode cX8_init 38 = .ok (.newarray .int, 2) := edX8_init_0.2.2.2.2.2.2.2.2.2.2.2.2.2.2.2.2.2.2.2.1
theorem dX8_init_40 : decode cX8_init 40 = .ok (.putfield 23, 3) := edX8_init_0.2.2.2.2.2.2.2.2.2.2.2.2.2.2.2.2.2.2.2.2.1
theorem dX8_init_43 : decode cX8_init 43 = .ok (.aload_n 0, 1) := edX8_init_0.2.2.2.2.2.2.2.2.2.2.2.2.2.2.2.2.2.2.2.2.2.1
theorem dX8_init_44 : decode cX8_init 44 = .ok (.bipush 62, 2) := edX8_init_0.2.2.2.2.2.2.2.2.2.2.2.2.2.2.2.2.2.2.2.2.2.2.1
theorem dX8_init_46 : decode cX8_init 46 = .ok (.newarray .int, 2) := edX8_init_0.2.2.2.2.2.2.2.2.2.2.2.2.2.2.2.2.2.2.2.2.2.2.2.1
theorem dX8_init_48 : decode cX8_init 48 = .ok (.putfield 26, 3) := edX8_init_0.2.2.2.2.2.2.2.2.2.2.2.2.2.2.2.2.2.2.2.2.2.2.2.2.1
theorem dX8_init_51 : decode cX8_init 51 = .ok (.aload_n 0, 1) := edX8_init_0.2.2.2.2.2.2.2.2.2.2.2.2.2.2.2.2.2.2.2.2.2.2.2.2.2.1
theorem dX8_init_52 : decode cX8_init 52 = .ok (.bipush 96, 2) := edX8_init_0.2.2.2.2.2.2.2.2.2.2.2.2.2.2.2.2.2.2.2.2.2.2.2.2.2.2.1
theorem dX8_init_54 : decode cX8_init 54 = .ok (.newarray .int, 2) := edX8_init_0.2.2.2.2.2.2.2.2.2.2.2.2.2.2.2.2.2.2.2.2.2.2.2.2.2.2.2.1
theorem dX8_init_56 : decode cX8_init 56 = .ok (.putfield 29, 3) := edX8_init_0.2.2.2.2.2.2.2.2.2.2.2.2.2.2.2.2.2.2.2.2.2.2.2.2.2.2.2.2.1
theorem dX8_init_59 : decode cX8_init 59 = .ok (.aload_n 0, 1) := edX8_init_0.2.2.2.2.2.2.2.2.2.2.2.2.2.2.2.2.2.2.2.2.2.2.2.2.2.2.2.2.2.1
theorem dX8_init_60 : decode cX8_init 60 = .ok (.bipush 11, 2) := edX8_init_0.2.2.2.2.2.2.2.2.2.2.2.2.2.2.2.2.2.2.2.2.2.2.2.2.2.2.2.2.2.2.1
theorem dX8_init_62 : decode cX8_init 62 = .ok (.newarray .char, 2) := edX8_init_0.2.2.2.2.2.2.2.2.2.2.2.2.2.2.2.2.2.2.2.2.2.2.2.2.2.2.2.2.2.2.2.1
theorem edX8_init_64 : (decode cX8_init 64 = .ok (.dup, 1)) ∧ (decode cX8_init 65 = .ok (.iconst 0, 1)) ∧ (decode cX8_init 66 = .ok (.bipush 116, 2)) ∧ (decode cX8_init 68 = .ok (.castore, 1)) ∧ (decode cX8_init 69 = .ok (.dup, 1)) ∧ (decode cX8_init 70 = .ok (.iconst 1, 1)) ∧ (decode cX8_init 71 = .ok (.bipush 111, 2)) ∧ (decode cX8_init 73 = .ok (.castore, 1)) ∧ (decode cX8_init 74 = .ok (.dup, 1)) ∧ (decode cX8_init 75 = .ok (.iconst 2, 1)) ∧ (decode cX8_init 76 = .ok (.bipush 110, 2)) ∧ (decode cX8_init 78 = .ok (.castore, 1)) ∧ (decode cX8_init 79 = .ok (.dup, 1)) ∧ (decode cX8_init 80 = .ok (.iconst 3, 1)) ∧ (decode cX8_init 81 = .ok (.bipush 101, 2)) ∧ (decode cX8_init 83 = .ok (.castore, 1)) ∧ (decode cX8_init 84 = .ok (.dup, 1)) ∧ (decode cX8_init 85 = .ok (.iconst 4, 1)) ∧ (decode cX8_init 86 = .ok (.bipush 102, 2)) ∧ (decode cX8_init 88 = .ok (.castore, 1)) ∧ (decode cX8_init 89 = .ok (.dup, 1)) ∧ (decode cX8_init 90 = .ok (.iconst 5, 1)) ∧ (decode cX8_init 91 = .ok (.bipush 101, 2)) ∧ (decode cX8_init 93 = .ok (.castore, 1)) ∧ (decode cX8_init 94 = .ok (.dup, 1)) ∧ (decode cX8_init 95 = .ok (.bipush 6, 2)) ∧ (decode cX8_init 97 = .ok (.bipush 101, 2)) ∧ (decode cX8_init 99 = .ok (.castore, 1)) ∧ (decode cX8_init 100 = .ok (.dup, 1)) ∧ (decode cX8_init 101 = .ok (.bipush 7, 2)) ∧ (decode cX8_init 103 = .ok (.bipush 102, 2)) ∧ (decode cX8_init 105 = .ok (.castore, 1)) ∧ True := dc_cj [(64, .dup, 1), (65, .iconst 0, 1), (66, .bipush 116, 2), (68, .castore, 1), (69, .dup, 1), (70, .iconst 1, 1), (71, .bipush 111, 2), (73, .castore, 1), (74, .dup, 1), (75, .iconst 2, 1), (76, .bipush 110, 2), (78, .castore, 1), (79, .dup, 1), (80, .iconst 3, 1), (81, .bipush 101, 2), (83, .castore, 1), (84, .dup, 1), (85, .iconst 4, 1), (86, .bipush 102, 2), (88, .castore, 1), (89, .dup, 1), (90, .iconst 5, 1), (91, .bipush 101, 2), (93, .castore, 1), (94, .dup, 1), (95, .bipush 6, 2), (97, .bipush 101, 2), (99, .castore, 1), (100, .dup, 1), (101, .bipush 7, 2), (103, .bipush 102, 2), (105, .castore, 1)] (by decide +kernel)
theorem dX8_init_64 : decode cX8_init 64 = .ok (.dup, 1) := edX8_init_64.1
theorem dX8_init_65 : decode cX8_init 65 = .ok (.iconst 0, 1) := edX8_init_64.2.1
theorem dX8_init_66 : decode cX8_init 66 = .ok (.bipush 116, 2) := edX8_init_64.2.2.1
theorem dX8_init_68 : decode cX8_init 68 = .ok (.castore, 1) := edX8_init_64.2.2.2.1
theorem dX8_init_69 : decode cX8_init 69 = .ok (.dup, 1) := edX8_init_64.2.2.2.2.1
theorem dX8_init_70 : decode cX8_init 70 = .ok (.iconst 1, 1) := edX8_init_64.2.2.2.2.2.1
theorem dX8_init_71 : decode cX8_init 71 = .ok (.bipush 111, 2) := edX8_init_64.2.2.2.2.2.2.1
theorem dX8_init_73 : decode cX8_init 73 = .ok (.castore, 1) := edX8_init_64.2.2.2.2.2.2.2.1
theorem dX8_init_74 : decode cX8_init 74 = .ok (.dup, 1) := edX8_init_64.2.2.2.2.2.2.2.2.1
theorem dX8_init_75 : decode cX8_init 75 = .ok (.iconst 2, 1) := edX8_init_64.2.2.2.2.2.2.2.2.2.1
theorem dX8_init_76 : decode cX8_init 76 = .ok (.bipush 110, 2) := edX8_init_64.2.2.2.2.2.2.2.2.2.2.1
theorem dX8_init_78 : decode cX8_init 78 = .ok (.castore, 1) := edX8_init_64.2.2.2.2.2.2.2.2.2.2.2.1
theorem dX8_init_79 : decode cX8_init 79 = .ok (.dup, 1) := edX8_init_64.2.2.2.2.2.2.2.2.2.2.2.2.1
theorem dX8_init_80 : decode cX8_init 80 = .ok (.iconst 3, 1) := edX8_init_64.2.2.2.2.2.2.2.2.2.2.2.2.2.1
theorem dX8_init_81 : decode cX8_init 81 = .ok (.bipush 101, 2) := edX8_init_64.2.2.2.2.2.2.2.2.2.2.2.2.2.2.1
theorem dX8_init_83 : decode cX8_init 83 = .ok (.castore, 1) := edX8_init_64.2.2.2.2.2.2.2.2.2.2.2.2.2.2.2.1
theorem dX8_init_84 : decode cX8_init 84 = .ok (.dup, 1) := edX8_init_64.2.2.2.2.2.2.2.2.2.2.2.2.2.2.2.2.1
theorem dX8_init_85 : decode cX8_init 85 = .ok (.iconst 4, 1) := edX8_init_64.2.2.2.2.2.2.2.2.2.2.2.2.2.2.2.2.2.1
theorem dX8_init_86 : decode cX8_init 86 = .ok (.bipush 102, 2) := edX8_init_64.2.2.2.2.2.2.2.2.2.2.2.2.2.2.2.2.2.2.1
theorem dX8_init_88 : decode cX8_init 88 = .ok (.castore, 1) := edX8_init_64.2.2.2.2.2.2.2.2.2.2.2.2.2.2.2.2.2.2.2.1
theorem dX8_init_89 : decode cX8_init 89 = .ok (.dup, 1) := edX8_init_64.2.2.2.2.2.2.2.2.2.2.2.2.2.2.2.2.2.2.2.2.1
theorem dX8_init_90 : decode cX8_init 90 = .ok (.iconst 5, 1) := edX8_init_64.2.2.2.2.2.2.2.2.2.2.2.2.2.2.2.2.2.2.2.2.2.1
theorem dX8_init_91 : decode cX8_init 91 = .ok (.bipush 101, 2) := edX8_init_64.2.2.2.2.2.2.2.2.2.2.2.2.2.2.2.2.2.2.2.2.2.2.1
theorem dX8_init_93 : decode cX8_init 93 = .ok (.castore, 1) := edX8_init_64.2.2.2.2.2.2.2.2.2.2.2.2.2.2.2.2.2.2.2.2.2.2.2.1
theorem dX8_init_94 : decode cX8_init 94 = .ok (.dup, 1) := edX8_init_64.2.2.2.2.2.2.2.2.2.2.2.2.2.2.2.2.2.2.2.2.2.2.2.2.1
theorem dX8_init_95 : decode cX8_init 95 = .ok (.bipush 6, 2) := edX8_init_64.2.2.2.2.2.2.2.2.2.2.2.2.2.2.2.2.2.2.2.2.2.2.2.2.2.1
theorem dX8_init_97 : decode cX8_init 97 = .ok (.bipush 101, 2) := edX8_init_64.2.2.2.2.2.2.2.2.2.2.2.2.2.2.2.2.2.2.2.2.2.2.2.2.2.2.1
theorem dX8_init_99 : decode cX8_init 99 = .ok (.castore, 1) := edX8_init_64.2.2.2.2.2.2.2.2.2.2.2.2.2.2.2.2.2.2.2.2.2.2.2.2.2.2.2.1
theorem dX8_init_100 : decode cX8_init 100 = .ok (.dup, 1) := edX8_init_64.2.2.2.2.2.2.2.2.2.2.2.2.2.2.2.2.2.2.2.2.2.2.2.2.2.2.2.2.1
theorem dX8_init_101 : decode cX8_init 101 = .ok (.bipush 7, 2) := edX8_init_64.2.2.2.2.2.2.2.2.2.2.2.2.2.2.2.2.2.2.2.2.2.2.2.2.2.2.2.2.2.1
theorem dX8_init_103 : decode cX8_init 103 = .ok (.bipush 102, 2) := edX8_init_64.2.2.2.2.2.2.2.2.2.2.2.2.2.2.2.2.2.2.2.2.2.2.2.2.2.2.2.2.2.2.1
theorem dX8_init_105 : decode cX8_init 105 = .ok (.castore, 1) := edX8_init_64.2.2.2.2.2.2.2.2.2.2.2.2.2.2.2.2.2.2.2.2.2.2.2.2.2.2.2.2.2.2.2.1
theorem edX8_init_106 : (decode cX8_init 106 = .ok (.dup, 1)) ∧ (decode cX8_init 107 = .ok (.bipush 8, 2)) ∧ (decode cX8_init 109 = .ok (.bipush 105, 2)) ∧ (decode cX8_init 111 = .ok (.castore, 1)) ∧ (decode cX8_init 112 = .ok (.dup, 1)) ∧ (decode cX8_init 113 = .ok (.bipush 9, 2)) ∧ (decode cX8_init 115 = .ok (.bipush 110, 2)) ∧ (decode cX8_init 117 = .ok (.castore, 1)) ∧ (decode cX8_init 118 = .ok (.dup, 1)) ∧ (decode cX8_init 119 = .ok (.bipush 10, 2)) ∧ (decode cX8_init 121 = .ok (.bipush 101, 2)) ∧ (decode cX8_init 123 = .ok (.castore, 1)) ∧ (decode cX8_init 124 = .ok (.putfield 32, 3)) ∧ (decode cX8_init 127 = .ok (.aload_n 0, 1)) ∧ (decode cX8_init 128 = .ok (.iconst 4, 1)) ∧ (decode cX8_init 129 = .ok (.newarray .int, 2)) ∧ (decode cX8_init 131 = .ok (.dup, 1)) ∧ (decode cX8_init 132 = .ok (.iconst 0, 1)) ∧ (decode cX8_init 133 = .ok (.iconst 0, 1)) ∧ (decode cX8_init 134 = .ok (.iastore, 1)) ∧ (decode cX8_init 135 = .ok (.dup, 1)) ∧ (decode cX8_init 136 = .ok (.iconst 1, 1)) ∧ (decode cX8_init 137 = .ok (.iconst 4, 1)) ∧ (decode cX8_init 138 = .ok (.iastore, 1)) ∧ (decode cX8_init 139 = .ok (.dup, 1)) ∧ (decode cX8_init 140 = .ok (.iconst 2, 1)) ∧ (decode cX8_init 141 = .ok (.bipush 7, 2)) ∧ (decode cX8_init 143 = .ok (.iastore, 1)) ∧ (decode cX8_init 144 = .ok (.dup, 1)) ∧ (decode cX8_init 145 = .ok (.iconst 3, 1)) ∧ (decode cX8_init 146 = .ok (.bipush 11, 2)) ∧ (decode cX8_init 148 = .ok (.iastore, 1)) ∧ True := dc_cj [(106, .dup, 1), (107, .bipush 8, 2), (109, .bipush 105, 2), (111, .castore, 1), (112, .dup, 1), (113, .bipush 9, 2), (115, .bipush 110, 2), (117, .castore, 1), (118, .dup, 1), (119, .bipush 10, 2), (121, .bipush 101, 2), (123, .castore, 1), (124, .putfield 32, 3), (127, .aload_n 0, 1), (128, .iconst 4, 1), (129, .newarray .int, 2), (131, .dup, 1), (132, .iconst 0, 1), (133, .iconst 0, 1), (134, .iastore, 1), (135, .dup, 1), (136, .iconst 1, 1), (137, .iconst 4, 1), (138, .iastore, 1), (139, .dup, 1), (140, .iconst 2, 1), (141, .bipush 7, 2), (143, .iastore, 1), (144, .dup, 1), (145, .iconst 3, 1), (146, .bipush 11, 2), (148, .iastore, 1)] (by decide +kernel)
theorem dX8_init_106 : decode cX8_init 106 = .ok (.dup, 1) := edX8_init_106.1
theorem dX8_init_107 : decode cX8_init 107 = .ok (.bipush 8, 2) := edX8_init_106.2.1
theorem dX8_init_109 : decode cX8_init 109 = .ok (.bipush 105, 2) := edX8_init_106.2.2.1
theorem dX8_init_111 : decode cX8_init 111 = .ok (.castore, 1) := edX8_init_106.2.2.2.1
theorem dX8_init_112 : decode cX8_init 112 = .ok (.dup, 1) := edX8_init_106.2.2.2.2.1
theorem dX8_init_113 : decode cX8_init 113 = .ok (.bipush 9, 2) := edX8_init_106.2.2.2.2.2.1
theorem dX8_init_115 : decode cX8_init 115 = .ok (.bipush 110, 2) := edX8_init_106.2.2.2.2.2.2.1
theorem dX8_init_117 : decode cX8_init 117 = .ok (.castore, 1) := edX8_init_106.2.2.2.2.2.2.2.1
theorem dX8_init_118 : decode cX8_init 118 = .ok (.dup, 1) := edX8_init_106.2.2.2.2.2.2.2.2.1
theorem dX8_init_119 : decode cX8_init 119 = .ok (.bipush 10, 2) := edX8_init_106.2.2.2.2.2.2.2.2.2.1
theorem dX8_init_121 : decode cX8_init 121 = .ok (.bipush 101, 2) := edX8_init_106.2.2.2.2.2.2.2.2.2.2.1
theorem dX8_init_123 : decode cX8_init 123 = .ok (.castore, 1) := edX8_init_106.2.2.2.2.2.2.2.2.2.2.2.1
theorem dX8_init_124 : decode cX8_init 124 = .ok (.putfield 32, 3) := edX8_init_106.2.2.2.2.2.2.2.2.2.2.2.2.1
theorem dX8_init_127 : decode cX8_init 127 = .ok (.aload_n 0, 1) := edX8_init_106.2.2.2.2.2.2.2.2.2.2.2.2.2.1
theorem dX8_init_128 : decode cX8_init 128 = .ok (.iconst 4, 1) := edX8_init_106.2.2.2.2.2.2.2.2.2.2.2.2.2.2.1
theorem dX8_init_129 : decode cX8_init 129 = .ok (.newarray .int, 2) := edX8_init_106.2.2.2.2.2.2.2.2.2.2.2.2.2.2.2.1
theorem dX8_init_131 : decode cX8_init 131 = .ok (.dup, 1) := edX8_init_106.2.2.2.2.2.2.2.2.2.2.2.2.2.2.2.2.1
theorem dX8_init_132 : decode cX8_init 132 = .ok (.iconst 0, 1) := edX8_init_106.2.2.2.2.2.2.2.2.2.2.2.2.2.2.2.2.2.1
theorem dX8_init_133 : decode cX8_init 133 = .ok (.iconst 0, 1) := edX8_init_106.2.2.2.2.2.2.2.2.2.2.2.2.2.2.2.2.2.2.1
theorem dX8_init_134 : decode cX8_init 134 = .ok (.iastore, 1) := edX8_init_106.2.2.2.2.2.2.2.2.2.2.2.2.2.2.2.2.2.2.2.1
theorem dX8_init_135 : decode cX8_init 135 = .ok (.dup, 1) := edX8_init_106.2.2.2.2.2.2.2.2.2.2.2.2.2.2.2.2.2.2.2.2.1
theorem dX8_init_136 : decode cX8_init 136 = .ok (.iconst 1, 1) := edX8_init_106.2.2.2.2.2.2.2.2.2.2.2.2.2.2.2.2.2.2.2.2.2.1
theorem dX8_init_137 : decode cX8_init 137 = .ok (.iconst 4, 1) := edX8_init_106.2.2.2.2.2.2.2.2.2.2.2.2.2.2.2.2.2.2.2.2.2.2.1
theorem dX8_init_138 : decode cX8_init 138 = .ok (.iastore, 1) := edX8_init_106.2.2.2.2.2.2.2.2.2.2.2.2.2.2.2.2.2.2.2.2.2.2.2.1
theorem dX8_init_139 : decode cX8_init 139 = .ok (.dup, 1) := edX8_init_106.2.2.2.2.2.2.2.2.2.2.2.2.2.2.2.2.2.2.2.2.2.2.2.2.1
theorem dX8_init_140 : decode cX8_init 140 = .ok (.iconst 2, 1) := edX8_init_106.2.2.2.2.2.2.2.2.2.2.2.2.2.2.2.2.2.2.2.2.2.2.2.2.2.1
theorem dX8_init_141 : decode cX8_init 141 = .ok (.bipush 7, 2) := edX8_init_106.2.2.2.2.2.2.2.2.2.2.2.2.2.2.2.2.2.2.2.2.2.2.2.2.2.2.1
theorem dX8_init_143 : decode cX8_init 143 = .ok (.iastore, 1) := edX8_init_106.2.2.2.2.2.2.2.2.2.2.2.2.2.2.2.2.2.2.2.2.2.2.2.2.2.2.2.1
theorem dX8_init_144 : decode cX8_init 144 = .ok (.dup, 1) := edX8_init_106.2.2.2.2.2.2.2.2.2.2.2.2.2.2.2.2.2.2.2.2.2.2.2.2.2.2.2.2.1
theorem dX8_init_145 : decode cX8_init 145 = .ok (.iconst 3, 1) := edX8_init_106.2.2.2.2.2.2.2.2.2.2.2.2.2.2.2.2.2.2.2.2.2.2.2.2.2.2.2.2.2.1
theorem dX8_init_146 : decode cX8_init 146 = .ok (.bipush 11, 2) := edX8_init_106.2.2.2.2.2.2.2.2.2.2.2.2.2.2.2.2.2.2.2.2.2.2.2.2.2.2.2.2.2.2.1
theorem dX8_init_148 : decode cX8_init 148 = .ok (.iastore, 1) := edX8_init_106.2.2.2.2.2.2.2.2.2.2.2.2.2.2.2.2.2.2.2.2.2.2.2.2.2.2.2.2.2.2.2.1
theorem edX8_init_149 : (decode cX8_init 149 = .ok (.putfield 36, 3)) ∧ (decode cX8_init 152 = .ok (.aload_n 0, 1)) ∧ (decode cX8_init 153 = .ok (.bipush 96, 2)) ∧ (decode cX8_init 155 = .ok (.newarray .int, 2)) ∧ (decode cX8_init 157 = .ok (.putfield 39, 3)) ∧ (decode cX8_init 160 = .ok (.aload_n 0, 1)) ∧ (decode cX8_init 161 = .ok (.bipush 96, 2)) ∧ (decode cX8_init 163 = .ok (.newarray .int, 2)) ∧ (decode cX8_init 165 = .ok (.putfield 42, 3)) ∧ (decode cX8_init 168 = .ok (.aload_n 0, 1)) ∧ (decode cX8_init 169 = .ok (.bipush 10, 2)) ∧ (decode cX8_init 171 = .ok (.newarray .boolean, 2)) ∧ (decode cX8_init 173 = .ok (.putfield 45, 3)) ∧ (decode cX8_init 176 = .ok (.aload_n 0, 1)) ∧ (decode cX8_init 177 = .ok (.bipush 96, 2)) ∧ (decode cX8_init 179 = .ok (.newarray .int, 2)) ∧ (decode cX8_init 181 = .ok (.putfield 49, 3)) ∧ (decode cX8_init 184 = .ok (.aload_n 0, 1)) ∧ (decode cX8_init 185 = .ok (.iconst 4, 1)) ∧ (decode cX8_init 186 = .ok (.newarray .int, 2)) ∧ (decode cX8_init 188 = .ok (.putfield 52, 3)) ∧ (decode cX8_init 191 = .ok (.aload_n 0, 1)) ∧ (decode cX8_init 192 = .ok (.iconst 4, 1)) ∧ (decode cX8_init 193 = .ok (.newarray .int, 2)) ∧ (decode cX8_init 195 = .ok (.dup, 1)) ∧ (decode cX8_init 196 = .ok (.iconst 0, 1)) ∧ (decode cX8_init 197 = .ok (.iconst (-1), 1)) ∧ (decode cX8_init 198 = .ok (.iastore, 1)) ∧ (decode cX8_init 199 = .ok (.dup, 1)) ∧ (decode cX8_init 200 = .ok (.iconst 1, 1)) ∧ (decode cX8_init 201 = .ok (.iconst (-1), 1)) ∧ (decode cX8_init 202 = .ok (.iastore, 1)) ∧ True := dc_cj [(149, .putfield 36, 3), (152, .aload_n 0, 1), (153, .bipush 96, 2), (155, .newarray .int, 2), (157, .putfield 39, 3), (160, .aload_n 0, 1), (161, .bipush 96, 2), (163, .newarray .int, 2), (165, .putfield 42, 3), (168, .aload_n 0, 1), (169, .bipush 10, 2), (171, .newarray .boolean, 2), (173, .putfield 45, 3), (176, .aload_n 0, 1), (177, .bipush 96, 2), (179, .newarray .int, 2), (181, .putfield 49, 3), (184, .aload_n 0, 1), (185, .iconst 4, 1), (186, .newarray .int, 2), (188, .putfield 52, 3), (191, .aload_n 0, 1), (192, .iconst 4, 1), (193, .newarray .int, 2), (195, .dup, 1), (196, .iconst 0, 1), (197, .iconst (-1), 1), (198, .iastore, 1), (199, .dup, 1), (200, .iconst 1, 1), (201, .iconst (-1), 1), (202, .iastore, 1)] (by decide +kernel)
theorem dX8_init_149 : decode cX8_init 149 = .ok (.putfield 36, 3) := edX8_init_149.1
theorem dX8_init_152 : decode cX8_init 152 = .ok (.aload_n 0, 1) := edX8_init_149.2.1
theorem dX8_init_153 : decode cX8_init 153 = .ok (.bipush 96, 2) := edX8_init_149.2.2.1
theorem dX8_init_155 : decode cX8_init 155 = .ok (.newarray .int, 2) := edX8_init_149.2.2.2.1
theorem dX8_init_157 : decode cX8_init 157 = .ok (.putfield 39, 3) := edX8_init_149.2.2.2.2.1
theorem dX8_init_160 : decode cX8_init 160 = .ok (.aload_n 0, 1) := edX8_init_149.2.2.2.2.2.1
theorem dX8_init_161 : decode cX8_init 161 = .ok (.bipush 96, 2) := edX8_init_149.2.2.2.2.2.2.1
theorem dX8_init_163 : decode cX8_init 163 = .ok (.newarray .int, 2) := edX8_init_149.2.2.2.2.2.2.2.1
theorem dX8_init_165 : decode cX8_init 165 = .ok (.putfield 42, 3) := edX8_init_149.2.2.2.2.2.2.2.2.1
theorem dX8_init_168 : decode cX8_init 168 = .ok (.aload_n 0, 1) := edX8_init_149.2.2.2.2.2.2.2.2.2.1
theorem dX8_init_169 : decode cX8_init 169 = .ok (.bipush 10, 2) := edX8_init_149.2.2.2.2.2.2.2.2.2.2.1
theorem dX8_init_171 : decode cX8_init 171 = .ok (.newarray .boolean, 2) := edX8_init_149.2.2.2.2.2.2.2.2.2.2.2.1
theorem dX8_init_173 : decode cX8_init 173 = .ok (.putfield 45, 3) := edX8_init_149.2.2.2.2.2.2.2.2.2.2.2.2.1
theorem dX8_init_176 : decode cX8_init 176 = .ok (.aload_n 0, 1) := edX8_init_149.2.2.2.2.2.2.2.2.2.2.2.2.2.1
theorem dX8_init_177 : decode cX8_init 177 = .ok (.bipush 96, 2) := edX8_init_149.2.2.2.2.2.2.2.2.2.2.2.2.2.2.1
theorem dX8_init_179 : decode cX8_init 179 = .ok (.newarray .int, 2) := edX8_init_149.2.2.2.2.2.2.2.2.2.2.2.2.2.2.2.1
theorem dX8_init_181 : decode cX8_init 181 = .ok (.putfield 49, 3) := edX8_init_149.2.2.2.2.2.2.2.2.2.2.2.2.2.2.2.2.1
theorem dX8_init_184 : decode cX8_init 184 = .ok (.aload_n 0, 1) := edX8_init_149.2.2.2.2.2.2.2.2.2.2.2.2.2.2.2.2.2.1
theorem dX8_init_185 : decode cX8_init 185 = .ok (.iconst 4, 1) := edX8_init_149.2.2.2.2.2.2.2.2.2.2.2.2.2.2.2.2.2.2.1
theorem dX8_init_186 : decode cX8_init 186 = .ok (.newarray .int, 2) := edX8_init_149.2.2.2.2.2.2.2.2.2.2.2.2.2.2.2.2.2.2.2.1
theorem dX8_init_188 : decode cX8_init 188 = .ok (.putfield 52, 3) := edX8_init_149.2.2.2.2.2.2.2.2.2.2.2.2.2.2.2.2.2.2.2.2.1
theorem dX8_init_191 : decode cX8_init 191 = .ok (.aload_n 0, 1) := edX8_init_149.2.2.2.2.2.2.2.2.2.2.2.2.2.2.2.2.2.2.2.2.2.1
theorem dX8_init_192 : decode cX8_init 192 = .ok (.iconst 4, 1) := edX8_init_149.2.2.2.2.2.2.2.2.2.2.2.2.2.2.2.2.2.2.2.2.2.2.1
theorem dX8_init_193 : decode cX8_init 193 = .ok (.newarray .int, 2) := edX8_init_149.2.2.2.2.2.2.2.2.2.2.2.2.2.2.2.2.2.2.2.2.2.2.2.1
theorem dX8_init_195 : decode cX8_init 195 = .ok (.dup, 1) := edX8_init_149.2.2.2.2.2.2.2.2.2.2.2.2.2.2.2.2.2.2.2.2.2.2.2.2.1
theorem dX8_init_196 : decode cX8_init 196 = .ok (.iconst 0, 1) := edX8_init_149.2.2.2.2.2.2.2.2.2.2.2.2.2.2.2.2.2.2.2.2.2.2.2.2.2.1
theorem dX8_init_197 : decode cX8_init 197 = .ok (.iconst (-1), 1) := edX8_init_149.2.2.2.2.2.2.2.2.2.2.2.2.2.2.2.2.2.2.2.2.2.2.2.2.2.2.1
theorem dX8_init_198 : decode cX8_init 198 = .ok (.iastore, 1) := edX8_init_149.2.2.2.2.2.2.2.2.2.2.2.2.2.2.2.2.2.2.2.2.2.2.2.2.2.2.2.1
theorem dX8_init_199 : decode cX8_init 199 = .ok (.dup, 1) := edX8_init_149.2.2.2.2.2.2.2.2.2.2.2.2.2.2.2.2.2.2.2.2.2.2.2.2.2.2.2.2.1
theorem dX8_init_200 : decode cX8_init 200 = .ok (.iconst 1, 1) := edX8_init_149.2.2.2.2.2.2.2.2.2.2.2.2.2.2.2.2.2.2.2.2.2.2.2.2.2.2.2.2.2.1
theorem dX8_init_201 : decode cX8_init 201 = .ok (.iconst (-1), 1) := edX8_init_149.2.2.2.2.2.2.2.2.2.2.2.2.2.2.2.2.2.2.2.2.2.2.2.2.2.2.2.2.2.2.1
theorem dX8_init_202 : decode cX8_init 202 = .ok (.iastore, 1) := edX8_init_149.2.2.2.2.2.2.2.2.2.2.2.2.2.2.2.2.2.2.2.2.2.2.2.2.2.2.2.2.2.2.2.1
theorem edX8_init_203 : (decode cX8_init 203 = .ok (.dup, 1)) ∧ (decode cX8_init 204 = .ok (.iconst 2, 1)) ∧ (decode cX8_init 205 = .ok (.iconst (-1), 1)) ∧ (decode cX8_init 206 = .ok (.iastore, 1)) ∧ (decode cX8_init 207 = .ok (.dup, 1)) ∧ (decode cX8_init 208 = .ok (.iconst 3, 1)) ∧ (decode cX8_init 209 = .ok (.iconst (-1), 1)) ∧ (decode cX8_init 210 = .ok (.iastore, 1)) ∧ (decode cX8_init 211 = .ok (.putfield 55, 3)) ∧ (decode cX8_init 214 = .ok (.aload_n 0, 1)) ∧ (decode cX8_init 215 = .ok (.iconst 4, 1)) ∧ (decode cX8_init 216 = .ok (.newarray .int, 2)) ∧ (decode cX8_init 218 = .ok (.putfield 58, 3)) ∧ (decode cX8_init 221 = .ok (.aload_n 0, 1)) ∧ (decode cX8_init 222 = .ok (.bipush 96, 2)) ∧ (decode cX8_init 224 = .ok (.newarray .int, 2)) ∧ (decode cX8_init 226 = .ok (.putfield 61, 3)) ∧ (decode cX8_init 229 = .ok (.aload_n 0, 1)) ∧ (decode cX8_init 230 = .ok (.iconst 5, 1)) ∧ (decode cX8_init 231 = .ok (.newarray .int, 2)) ∧ (decode cX8_init 233 = .ok (.putfield 64, 3)) ∧ (decode cX8_init 236 = .ok (.aload_n 0, 1)) ∧ (decode cX8_init 237 = .ok (.iconst 5, 1)) ∧ (decode cX8_init 238 = .ok (.newarray .int, 2)) ∧ (decode cX8_init 240 = .ok (.putfield 67, 3)) ∧ (decode cX8_init 243 = .ok (.aload_n 0, 1)) ∧ (decode cX8_init 244 = .ok (.iconst 5, 1)) ∧ (decode cX8_init 245 = .ok (.newarray .int, 2)) ∧ (decode cX8_init 247 = .ok (.putfield 70, 3)) ∧ (decode cX8_init 250 = .ok (.aload_n 0, 1)) ∧ (decode cX8_init 251 = .ok (.bipush 120, 2)) ∧ (decode cX8_init 253 = .ok (.newarray .int, 2)) ∧ True := dc_cj [(203, .dup, 1), (204, .iconst 2, 1), (205, .iconst (-1), 1), (206, .iastore, 1), (207, .dup, 1), (208, .iconst 3, 1), (209, .iconst (-1), 1), (210, .iastore, 1), (211, .putfield 55, 3), (214, .aload_n 0, 1), (215, .iconst 4, 1), (216, .newarray .int, 2), (218, .putfield 58, 3), (221, .aload_n 0, 1), (222, .bipush 96, 2), (224, .newarray .int, 2), (226, .putfield 61, 3), (229, .aload_n 0, 1), (230, .iconst 5, 1), (231, .newarray .int, 2), (233, .putfield 64, 3), (236, .aload_n 0, 1), (237, .iconst 5, 1), (238, .newarray .int, 2), (240, .putfield 67, 3), (243, .aload_n 0, 1), (244, .iconst 5, 1), (245, .newarray .int, 2), (247, .putfield 70, 3), (250, .aload_n 0, 1), (251, .bipush 120, 2), (253, .newarray .int, 2)] (by decide +kernel)
theorem dX8_init_203 : decode cX8_init 203 = .ok (.dup, 1) := edX8_init_203.1
theorem dX8_init_204 : decode cX8_init 204 = .ok (.iconst 2, 1) := edX8_init_203.2.1
theorem dX8_init_205 : decode cX8_init 205 = .ok (.iconst (-1), 1) := edX8_init_203.2.2.1
theorem dX8_init_206 : decode cX8_init 206 = .ok (.iastore, 1) := edX8_init_203.2.2.2.1
theorem dX8_init_207 : decode cX8_init 207 = .ok (.dup, 1) := edX8_init_203.2.2.2.2.1
theorem dX8_init_208 : decode cX8_init 208 = .ok (.iconst 3, 1) := edX8_init_203.2.2.2.2.2.1
theorem dX8_init_209 : decode cX8_init 209 = .ok (.iconst (-1), 1) := edX8_init_203.2.2.2.2.2.2.1
theorem dX8_init_210 : decode cX8_init 210 = .ok (.iastore, 1) := edX8_init_203.2.2.2.2.2.2.2.1
theorem dX8_init_211 : decode cX8_init 211 = .ok (.putfield 55, 3) := edX8_init_203.2.2.2.2.2.2.2.2.1
theorem dX8_init_214 : decode cX8_init 214 = .ok (.aload_n 0, 1) := edX8_init_203.2.2.2.2.2.2.2.2.2.1
theorem dX8_init_215 : decode cX8_init 215 = .ok (.iconst 4, 1) := edX8_init_203.2.2.2.2.2.2.2.2.2.2.1
theorem dX8_init_216 : decode cX8_init 216 = .ok (.newarray .int, 2) := edX8_init_203.2.2.2.2.2.2.2.2.2.2.2.1
theorem dX8_init_218 : decode cX8_init 218 = .ok (.putfield 58, 3) := edX8_init_203.2.2.2.2.2.2.2.2.2.2.2.2.1
theorem dX8_init_221 : decode cX8_init 221 = .ok (.aload_n 0, 1) := edX8_init_203.2.2.2.2.2.2.2.2.2.2.2.2.2.1
theorem dX8_init_222 : decode cX8_init 222 = .ok (.bipush 96, 2) := edX8_init_203.2.2.2.2.2.2.2.2.2.2.2.2.2.2.1
theorem dX8_init_224 : decode cX8_init 224 = .ok (.newarray .int, 2) := edX8_init_203.2.2.2.2.2.2.2.2.2.2.2.2.2.2.2.1
theorem dX8_init_226 : decode cX8_init 226 = .ok (.putfield 61, 3) := edX8_init_203.2.2.2.2.2.2.2.2.2.2.2.2.2.2.2.2.1
theorem dX8_init_229 : decode cX8_init 229 = .ok (.aload_n 0, 1) := edX8_init_203.2.2.2.2.2.2.2.2.2.2.2.2.2.2.2.2.2.1
theorem dX8_init_230 : decode cX8_init 230 = .ok (.iconst 5, 1) := edX8_init_203.2.2.2.2.2.2.2.2.2.2.2.2.2.2.2.2.2.2.1
theorem dX8_init_231 : decode cX8_init 231 = .ok (.newarray .int, 2) := edX8_init_203.2.2.2.2.2.2.2.2.2.2.2.2.2.2.2.2.2.2.2.1
theorem dX8_init_233 : decode cX8_init 233 = .ok (.putfield 64, 3) := edX8_init_203.2.2.2.2.2.2.2.2.2.2.2.2.2.2.2.2.2.2.2.2.1
theorem dX8_init_236 : decode cX8_init 236 = .ok (.aload_n 0, 1) := edX8_init_203.2.2.2.2.2.2.2.2.2.2.2.2.2.2.2.2.2.2.2.2.2.1
theorem dX8_init_237 : decode cX8_init 237 = .ok (.iconst 5, 1) := edX8_init_203.2.2.2.2.2.2.2.2.2.2.2.2.2.2.2.2.2.2.2.2.2.2.1
theorem dX8_init_238 : decode cX8_init 238 = .ok (.newarray .int, 2) := edX8_init_203.2.2.2.2.2.2.2.2.2.2.2.2.2.2.2.2.2.2.2.2.2.2.2.1
theorem dX8_init_240 : decode cX8_init 240 = .ok (.putfield 67, 3) := edX8_init_203.2.2.2.2.2.2.2.2.2.2.2.2.2.2.2.2.2.2.2.2.2.2.2.2.1
theorem dX8_init_243 : decode cX8_init 243 = .ok (.aload_n 0, 1) := edX8_init_203.2.2.2.2.2.2.2.2.2.2.2.2.2.2.2.2.2.2.2.2.2.2.2.2.2.1
theorem dX8_init_244 : decode cX8_init 244 = .ok (.iconst 5, 1) := edX8_init_203.2.2.2.2.2.2.2.2.2.2.2.2.2.2.2.2.2.2.2.2.2.2.2.2.2.2.1
theorem dX8_init_245 : decode cX8_init 245 = .ok (.newarray .int, 2) := edX8_init_203.2.2.2.2.2.2.2.2.2.2.2.2.2.2.2.2.2.2.2.2.2.2.2.2.2.2.2.1
theorem dX8_init_247 : decode cX8_init 247 = .ok (.putfield 70, 3) := edX8_init_203.2.2.2.2.2.2.2.2.2.2.2.2.2.2.2.2.2.2.2.2.2.2.2.2.2.2.2.2.1
theorem dX8_init_250 : decode cX8_init 250 = .ok (.aload_n 0, 1) := edX8_init_203.2.2.2.2.2.2.2.2.2.2.2.2.2.2.2.2.2.2.2.2.2.2.2.2.2.2.2.2.2.1
theorem dX8_init_251 : decode cX8_init 251 = .ok (.bipush 120, 2) := edX8_init_203.2.2.2.2.2.2.2.2.2.2.2.2.2.2.2.2.2.2.2.2.2.2.2.2.2.2.2.2.2.2.1
theorem dX8_init_253 : decode cX8_init 253 = .ok (.newarray .int, 2) := edX8_init_203.2.2.2.2.2.2.2.2.2.2.2.2.2.2.2.2.2.2.2.2.2.2.2.2.2.2.2.2.2.2.2.1
theorem edX8_init_255 : (decode cX8_init 255 = .ok (.putfield 73, 3)) ∧ (decode cX8_init 258 = .ok (.aload_n 0, 1)) ∧ (decode cX8_init 259 = .ok (.bipush 24, 2)) ∧ (decode cX8_init 261 = .ok (.newarray .int, 2)) ∧ (decode cX8_init 263 = .ok (.putfield 76, 3)) ∧ (decode cX8_init 266 = .ok (.aload_n 0, 1)) ∧ (decode cX8_init 267 = .ok (.bipush 60, 2)) ∧ (decode cX8_init 269 = .ok (.newarray .int, 2)) ∧ (decode cX8_init 271 = .ok (.putfield 79, 3)) ∧ (decode cX8_init 274 = .ok (.aload_n 0, 1)) ∧ (decode cX8_init 275 = .ok (.getfield 9, 3)) ∧ (decode cX8_init 278 = .ok (.iconst 0, 1)) ∧ (decode cX8_init 279 = .ok (.iconst 1, 1)) ∧ (decode cX8_init 280 = .ok (.iastore, 1)) ∧ (decode cX8_init 281 = .ok (.aload_n 0, 1)) ∧ (decode cX8_init 282 = .ok (.getfield 9, 3)) ∧ (decode cX8_init 285 = .ok (.iconst 4, 1)) ∧ (decode cX8_init 286 = .ok (.bipush 60, 2)) ∧ (decode cX8_init 288 = .ok (.iastore, 1)) ∧ (decode cX8_init 289 = .ok (.aload_n 0, 1)) ∧ (decode cX8_init 290 = .ok (.getfield 9, 3)) ∧ (decode cX8_init 293 = .ok (.iconst 5, 1)) ∧ (decode cX8_init 294 = .ok (.bipush 10, 2)) ∧ (decode cX8_init 296 = .ok (.iastore, 1)) ∧ (decode cX8_init 297 = .ok (.aload_n 0, 1)) ∧ (decode cX8_init 298 = .ok (.getfield 9, 3)) ∧ (decode cX8_init 301 = .ok (.bipush 20, 2)) ∧ (decode cX8_init 303 = .ok (.bipush 20, 2)) ∧ (decode cX8_init 305 = .ok (.iastore, 1)) ∧ (decode cX8_init 306 = .ok (.aload_n 0, 1)) ∧ (decode cX8_init 307 = .ok (.getfield 9, 3)) ∧ (decode cX8_init 310 = .ok (.bipush 21, 2)) ∧ True := dc_cj [(255, .putfield 73, 3), (258, .aload_n 0, 1), (259, .bipush 24, 2), (261, .newarray .int, 2), (263, .putfield 76, 3), (266, .aload_n 0, 1), (267, .bipush 60, 2), (269, .newarray .int, 2), (271, .putfield 79, 3), (274, .aload_n 0, 1), (275, .getfield 9, 3), (278, .iconst 0, 1), (279, .iconst 1, 1), (280, .iastore, 1), (281, .aload_n 0, 1), (282, .getfield 9, 3), (285, .iconst 4, 1), (286, .bipush 60, 2), (288, .iastore, 1), (289, .aload_n 0, 1), (290, .getfield 9, 3), (293, .iconst 5, 1), (294, .bipush 10, 2), (296, .iastore, 1), (297, .aload_n 0, 1), (298, .getfield 9, 3), (301, .bipush 20, 2), (303, .bipush 20, 2), (305, .iastore, 1), (306, .aload_n 0, 1), (307, .getfield 9, 3), (310, .bipush 21, 2)] (by decide +kernel)
theorem dX8_init_255 : decode cX8_init 255 = .ok (.putfield 73, 3) := edX8_init_255.1
theorem dX8_init_258 : decode cX8_init 258 = .ok (.aload_n 0, 1) := edX8_init_255.2.1
theorem dX8_init_259 : decode cX8_init 259 = .ok (.bipush 24, 2) := edX8_init_255.2.2.1
theorem dX8_init_261 : decode cX8_init 261 = .ok (.newarray .int, 2) := edX8_init_255.2.2.2.1
theorem dX8_init_263 : decode cX8_init 263 = .ok (.putfield 76, 3) := edX8_init_255.2.2.2.2.1
theorem dX8_init_266 : decode cX8_init 266 = .ok (.aload_n 0, 1) := edX8_init_255.2.2.2.2.2.1
theorem dX8_init_267 : decode cX8_init 267 = .ok (.bipush 60, 2) := edX8_init_255.2.2.2.2.2.2.1
theorem dX8_init_269 : decode cX8_init 269 = .ok (.newarray .int, 2) := edX8_init_255.2.2.2.2.2.2.2.1
theorem dX8_init_271 : decode cX8_init 271 = .ok (.putfield 79, 3) := edX8_init_255.2.2.2.2.2.2.2.2.1
theorem dX8_init_274 : decode cX8_init 274 = .ok (.aload_n 0, 1) := edX8_init_255.2.2.2.2.2.2.2.2.2.1
theorem dX8_init_275 : decode cX8_init 275 = .ok (.getfield 9, 3) := edX8_init_255.2.2.2.2.2.2.2.2.2.2.1
theorem dX8_init_278 : decode cX8_init 278 = .ok (.iconst 0, 1) := edX8_init_255.2.2.2.2.2.2.2.2.2.2.2.1
theorem dX8_init_279 : decode cX8_init 279 = .ok (.iconst 1, 1) := edX8_init_255.2.2.2.2.2.2.2.2.2.2.2.2.1
theorem dX8_init_280 : decode cX8_init 280 = .ok (.iastore, 1) := edX8_init_255.2.2.2.2.2.2.2.2.2.2.2.2.2.1
theorem dX8_init_281 : decode cX8_init 281 = .ok (.aload_n 0, 1) := edX8_init_255.2.2.2.2.2.2.2.2.2.2.2.2.2.2.1
theorem dX8_init_282 : decode cX8_init 282 = .ok (.getfield 9, 3) := edX8_init_255.2.2.2.2.2.2.2.2.2.2.2.2.2.2.2.1
theorem dX8_init_285 : decode cX8_init 285 = .ok (.iconst 4, 1) := edX8_init_255.2.2.2.2.2.2.2.2.2.2.2.2.2.2.2.2.1
theorem dX8_init_286 : decode cX8_init 286 = .ok (.bipush 60, 2) := edX8_init_255.2.2.2.2.2.2.2.2.2.2.2.2.2.2.2.2.2.1
theorem dX8_init_288 : decode cX8_init 288 = .ok (.iastore, 1) := edX8_init_255.2.2.2.2.2.2.2.2.2.2.2.2.2.2.2.2.2.2.1
theorem dX8_init_289 : decode cX8_init 289 = .ok (.aload_n 0, 1) := edX8_init_255.2.2.2.2.2.2.2.2.2.2.2.2.2.2.2.2.2.2.2.1
theorem dX8_init_290 : decode cX8_init 290 = .ok (.getfield 9, 3) := edX8_init_255.2.2.2.2.2.2.2.2.2.2.2.2.2.2.2.2.2.2.2.2.1
theorem dX8_init_293 : decode cX8_init 293 = .ok (.iconst 5, 1) := edX8_init_255.2.2.2.2.2.2.2.2.2.2.2.2.2.2.2.2.2.2.2.2.2.1
theorem dX8_init_294 : decode cX8_init 294 = .ok (.bipush 10, 2) := edX8_init_255.2.2.2.2.2.2.2.2.2.2.2.2.2.2.2.2.2.2.2.2.2.2.1
theorem dX8_init_296 : decode cX8_init 296 = .ok (.iastore, 1) := edX8_init_255.2.2.2.2.2.2.2.2.2.2.2.2.2.2.2.2.2.2.2.2.2.2.2.1
theorem dX8_init_297 : decode cX8_init 297 = .ok (.aload_n 0, 1) := edX8_init_255.2.2.2.2.2.2.2.2.2.2.2.2.2.2.2.2.2.2.2.2.2.2.2.2.1
theorem dX8_init_298 : decode cX8_init 298 = .ok (.getfield 9, 3) := edX8_init_255.2.2.2.2.2.2.2.2.2.2.2.2.2.2.2.2.2.2.2.2.2.2.2.2.2.1
theorem dX8_init_301 : decode cX8_init 301 = .ok (.bipush 20, 2) := edX8_init_255.2.2.2.2.2.2.2.2.2.2.2.2.2.2.2.2.2.2.2.2.2.2.2.2.2.2.1
theorem dX8_init_303 : decode cX8_init 303 = .ok (.bipush 20, 2) := edX8_init_255.2.2.2.2.2.2.2.2.2.2.2.2.2.2.2.2.2.2.2.2.2.2.2.2.2.2.2.1
theorem dX8_init_305 : decode cX8_init 305 = .ok (.iastore, 1) := edX8_init_255.2.2.2.2.2.2.2.2.2.2.2.2.2.2.2.2.2.2.2.2.2.2.2.2.2.2.2.2.1
theorem dX8_init_306 : decode cX8_init 306 = .ok (.aload_n 0, 1) := edX8_init_255.2.2.2.2.2.2.2.2.2.2.2.2.2.2.2.2.2.2.2.2.2.2.2.2.2.2.2.2.2.1
theorem dX8_init_307 : decode cX8_init 307 = .ok (.getfield 9, 3) := edX8_init_255.2.2.2.2.2.2.2.2.2.2.2.2.2.2.2.2.2.2.2.2.2.2.2.2.2.2.2.2.2.2.1
theorem dX8_init_310 : decode cX8_init 310 = .ok (.bipush 21, 2) := edX8_init_255.2.2.2.2.2.2.2.2.2.2.2.2.2.2.2.2.2.2.2.2.2.2.2.2.2.2.2.2.2.2.2.1
theorem edX8_init_312 : (decode cX8_init 312 = .ok (.bipush 20, 2)) ∧ (decode cX8_init 314 = .ok (.iastore, 1)) ∧ (decode cX8_init 315 = .ok (.iconst 0, 1)) ∧ (decode cX8_init 316 = .ok (.istore_n 1, 1)) ∧ (decode cX8_init 317 = .ok (.iload_n 1, 1)) ∧ (decode cX8_init 318 = .ok (.iconst 4, 1)) ∧ (decode cX8_init 319 = .ok (.if_icmp .ge 39, 3)) ∧ (decode cX8_init 322 = .ok (.aload_n 0, 1)) ∧ (decode cX8_init 323 = .ok (.getfield 9, 3)) ∧ (decode cX8_init 326 = .ok (.bipush 8, 2)) ∧ (decode cX8_init 328 = .ok (.iload_n 1, 1)) ∧ (decode cX8_init 329 = .ok (.iadd, 1)) ∧ (decode cX8_init 330 = .ok (.iconst 5, 1)) ∧ (decode cX8_init 331 = .ok (.iastore, 1)) ∧ (decode cX8_init 332 = .ok (.aload_n 0, 1)) ∧ (decode cX8_init 333 = .ok (.getfield 9, 3)) ∧ (decode cX8_init 336 = .ok (.bipush 12, 2)) ∧ (decode cX8_init 338 = .ok (.iload_n 1, 1)) ∧ (decode cX8_init 339 = .ok (.iadd, 1)) ∧ (decode cX8_init 340 = .ok (.iconst 1, 1)) ∧ (decode cX8_init 341 = .ok (.iastore, 1)) ∧ (decode cX8_init 342 = .ok (.aload_n 0, 1)) ∧ (decode cX8_init 343 = .ok (.getfield 9, 3)) ∧ (decode cX8_init 346 = .ok (.bipush 16, 2)) ∧ (decode cX8_init 348 = .ok (.iload_n 1, 1)) ∧ (decode cX8_init 349 = .ok (.iadd, 1)) ∧ (decode cX8_init 350 = .ok (.iconst 1, 1)) ∧ (decode cX8_init 351 = .ok (.iastore, 1)) ∧ (decode cX8_init 352 = .ok (.iinc 1 1, 3)) ∧ (decode cX8_init 355 = .ok (.goto (-38), 3)) ∧ (decode cX8_init 358 = .ok (.return_, 1)) ∧ True := dc_cj [(312, .bipush 20, 2), (314, .iastore, 1), (315, .iconst 0, 1), (316, .istore_n 1, 1), (317, .iload_n 1, 1), (318, .iconst 4, 1), (319, .if_icmp .ge 39, 3), (322, .aload_n 0, 1), (323, .getfield 9, 3), (326, .bipush 8, 2), (328, .iload_n 1, 1), (329, .iadd, 1), (330, .iconst 5, 1), (331, .iastore, 1), (332, .aload_n 0, 1), (333, .getfield 9, 3), (336, .bipush 12, 2), (338, .iload_n 1, 1), (339, .iadd, 1), (340, .iconst 1, 1), (341, .iastore, 1), (342, .aload_n 0, 1), (343, .getfield 9, 3), (346, .bipush 16, 2), (348, .iload_n 1, 1), (349, .iadd, 1), (350, .iconst 1, 1), (351, .iastore, 1), (352, .iinc 1 1, 3), (355, .goto (-38), 3), (358, .return_, 1)] (by decide +kernel)
theorem dX8_init_312 : decode cX8_init 312 = .ok (.bipush 20, 2) := edX8_init_312.1
theorem dX8_init_314 : decode cX8_init 314 = .ok (.iastore, 1) := edX8_init_312.2.1
theorem dX8_init_315 : decode cX8_init 315 = .ok (.iconst 0, 1) := edX8_init_312.2.2.1
theorem dX8_init_316 : decode cX8_init 316 = .ok (.istore_n 1, 1) := edX8_init_312.2.2.2.1
theorem dX8_init_317 : decode cX8_init 317 = .ok (.iload_n 1, 1) := edX8_init_312.2.2.2.2.1
theorem dX8_init_318 : decode cX8_init 318 = .ok (.iconst 4, 1) := edX8_init_312.2.2.2.2.2.1
theorem dX8_init_319 : decode cX8_init 319 = .ok (.if_icmp .ge 39, 3) := edX8_init_312.2.2.2.2.2.2.1
theorem dX8_init_322 : decode cX8_init 322 = .ok (.aload_n 0, 1) := edX8_init_312.2.2.2.2.2.2.2.1
theorem dX8_init_323 : decode cX8_init 323 = .ok (.getfield 9, 3) := edX8_init_312.2.2.2.2.2.2.2.2.1
theorem dX8_init_326 : decode cX8_init 326 = .ok (.bipush 8, 2) := edX8_init_312.2.2.2.2.2.2.2.2.2.1
theorem dX8_init_328 : decode cX8_init 328 = .ok (.iload_n 1, 1) := edX8_init_312.2.2.2.2.2.2.2.2.2.2.1
theorem dX8_init_329 : decode cX8_init 329 = .ok (.iadd, 1) := edX8_init_312.2.2.2.2.2.2.2.2.2.2.2.1
theorem dX8_init_330 : decode cX8_init 330 = .ok (.iconst 5, 1) := edX8_init_312.2.2.2.2.2.2.2.2.2.2.2.2.1
theorem dX8_init_331 : decode cX8_init 331 = .ok (.iastore, 1) := edX8_init_312.2.2.2.2.2.2.2.2.2.2.2.2.2.1
theorem dX8_init_332 : decode cX8_init 332 = .ok (.aload_n 0, 1) := edX8_init_312.2.2.2.2.2.2.2.2.2.2.2.2.2.2.1
theorem dX8_init_333 : decode cX8_init 333 = .ok (.getfield 9, 3) := edX8_init_312.2.2.2.2.2.2.2.2.2.2.2.2.2.2.2.1
theorem dX8_init_336 : decode cX8_init 336 = .ok (.bipush 12, 2) := edX8_init_312.2.2.2.2.2.2.2.2.2.2.2.2.2.2.2.2.1
theorem dX8_init_338 : decode cX8_init 338 = .ok (.iload_n 1, 1) := edX8_init_312.2.2.2.2.2.2.2.2.2.2.2.2.2.2.2.2.2.1
theorem dX8_init_339 : decode cX8_init 339 = .ok (.iadd, 1) := edX8_init_312.2.2.2.2.2.2.2.2.2.2.2.2.2.2.2.2.2.2.1
theorem dX8_init_340 : decode cX8_init 340 = .ok (.iconst 1, 1) := edX8_init_312.2.2.2.2.2.2.2.2.2.2.2.2.2.2.2.2.2.2.2.1
theorem dX8_init_341 : decode cX8_init 341 = .ok (.iastore, 1) := edX8_init_312.2.2.2.2.2.2.2.2.2.2.2.2.2.2.2.2.2.2.2.2.1
theorem dX8_init_342 : decode cX8_init 342 = .ok (.aload_n 0, 1) := edX8_init_312.2.2.2.2.2.2.2.2.2.2.2.2.2.2.2.2.2.2.2.2.2.1
theorem dX8_init_343 : decode cX8_init 343 = .ok (.getfield 9, 3) := edX8_init_312.2.2.2.2.2.2.2.2.2.2.2.2.2.2.2.2.2.2.2.2.2.2.1
theorem dX8_init_346 : decode cX8_init 346 = .ok (.bipush 16, 2) := edX8_init_312.2.2.2.2.2.2.2.2.2.2.2.2.2.2.2.2.2.2.2.2.2.2.2.1
theorem dX8_init_348 : decode cX8_init 348 = .ok (.iload_n 1, 1) := edX8_init_312.2.2.2.2.2.2.2.2.2.2.2.2.2.2.2.2.2.2.2.2.2.2.2.2.1
theorem dX8_init_349 : decode cX8_init 349 = .ok (.iadd, 1) := edX8_init_312.2.2.2.2.2.2.2.2.2.2.2.2.2.2.2.2.2.2.2.2.2.2.2.2.2.1
theorem dX8_init_350 : decode cX8_init 350 = .ok (.iconst 1, 1) := edX8_init_312.2.2.2.2.2.2.2.2.2.2.2.2.2.2.2.2.2.2.2.2.2.2.2.2.2.2.1
theorem dX8_init_351 : decode cX8_init 351 = .ok (.iastore, 1) := edX8_init_312.2.2.2.2.2.2.2.2.2.2.2.2.2.2.2.2.2.2.2.2.2.2.2.2.2.2.2.1
theorem dX8_init_352 : decode cX8_init 352 = .ok (.iinc 1 1, 3) := edX8_init_312.2.2.2.2.2.2.2.2.2.2.2.2.2.2.2.2.2.2.2.2.2.2.2.2.2.2.2.2.1
theorem dX8_init_355 : decode cX8_init 355 = .ok (.goto (-38), 3) := edX8_init_312.2.2.2.2.2.2.2.2.2.2.2.2.2.2.2.2.2.2.2.2.2.2.2.2.2.2.2.2.2.1
theorem dX8_init_358 : decode cX8_init 358 = .ok (.return_, 1) := edX8_init_312.2.2.2.2.2.2.2.2.2.2.2.2.2.2.2.2.2.2.2.2.2.2.2.2.2.2.2.2.2.2.1
theorem edX8_in_0 : (decode cX8_in 0 = .ok (.iload_n 0, 1)) ∧ (decode cX8_in 1 = .ok (.iload_n 1, 1)) ∧ (decode cX8_in 2 = .ok (.if_icmp .lt 12, 3)) ∧ (decode cX8_in 5 = .ok (.iload_n 0, 1)) ∧ (decode cX8_in 6 = .ok (.iload_n 2, 1)) ∧ (decode cX8_in 7 = .ok (.if_icmp .gt 7, 3)) ∧ (decode cX8_in 10 = .ok (.iconst 1, 1)) ∧ (decode cX8_in 11 = .ok (.goto 4, 3)) ∧ (decode cX8_in 14 = .ok (.iconst 0, 1)) ∧ (decode cX8_in 15 = .ok (.ireturn, 1)) ∧ True := dc_cj [(0, .iload_n 0, 1), (1, .iload_n 1, 1), (2, .if_icmp .lt 12, 3), (5, .iload_n 0, 1), (6, .iload_n 2, 1), (7, .if_icmp .gt 7, 3), (10, .iconst 1, 1), (11, .goto 4, 3), (14, .iconst 0, 1), (15, .ireturn, 1)] (by decide +kernel)
theorem dX8_in_0 : decode cX8_in 0 = .ok (.iload_n 0, 1) := edX8_in_0.1
theorem dX8_in_1 : decode cX8_in 1 = .ok (.iload_n 1, 1) := edX8_in_0.2.1
theorem dX8_in_2 : decode cX8_in 2 = .ok (.if_icmp .lt 12, 3) := edX8_in_0.2.2.1
theorem dX8_in_5 : decode cX8_in 5 = .ok (.iload_n 0, 1) := edX8_in_0.2.2.2.1
theorem dX8_in_6 : decode cX8_in 6 = .ok (.iload_n 2, 1) := edX8_in_0.2.2.2.2.1
theorem dX8_in_7 : decode cX8_in 7 = .ok (.if_icmp .gt 7, 3) := edX8_in_0.2.2.2.2.2.1
theorem dX8_in_10 : decode cX8_in 10 = .ok (.iconst 1, 1) := edX8_in_0.2.2.2.2.2.2.1
theorem dX8_in_11 : decode cX8_in 11 = .ok (.goto 4, 3) := edX8_in_0.2.2.2.2.2.2.2.1
theorem dX8_in_14 : decode cX8_in 14 = .ok (.iconst 0, 1) := edX8_in_0.2.2.2.2.2.2.2.2.1
theorem dX8_in_15 : decode cX8_in 15 = .ok (.ireturn, 1) := edX8_in_0.2.2.2.2.2.2.2.2.2.1
theorem edX8_within_0 : (decode cX8_within 0 = .ok (.iload_n 0, 1)) ∧ (decode cX8_within 1 = .ok (.iload_n 1, 1)) ∧ (decode cX8_within 2 = .ok (.if_icmp .ge 7, 3)) ∧ (decode cX8_within 5 = .ok (.iload_n 1, 1)) ∧ (decode cX8_within 6 = .ok (.goto 13, 3)) ∧ (decode cX8_within 9 = .ok (.iload_n 0, 1)) ∧ (decode cX8_within 10 = .ok (.iload_n 2, 1)) ∧ (decode cX8_within 11 = .ok (.if_icmp .le 7, 3)) ∧ (decode cX8_within 14 = .ok (.iload_n 2, 1)) ∧ (decode cX8_within 15 = .ok (.goto 4, 3)) ∧ (decode cX8_within 18 = .ok (.iload_n 0, 1)) ∧ (decode cX8_within 19 = .ok (.ireturn, 1)) ∧ True := dc_cj [(0, .iload_n 0, 1), (1, .iload_n 1, 1), (2, .if_icmp .ge 7, 3), (5, .iload_n 1, 1), (6, .goto 13, 3), (9, .iload_n 0, 1), (10, .iload_n 2, 1), (11, .if_icmp .le 7, 3), (14, .iload_n 2, 1), (15, .goto 4, 3), (18, .iload_n 0, 1), (19, .ireturn, 1)] (by decide +kernel)
theorem dX8_within_0 : decode cX8_within 0 = .ok (.iload_n 0, 1) := edX8_within_0.1
theorem dX8_within_1 : decode cX8_within 1 = .ok (.iload_n 1, 1) := edX8_within_0.2.1
theorem dX8_within_2 : decode cX8_within 2 = .ok (.if_icmp .ge 7, 3) := edX8_within_0.2.2.1
theorem dX8_within_5 : decode cX8_within 5 = .ok (.iload_n 1, 1) := edX8_within_0.2.2.2.1
theorem dX8_within_6 : decode cX8_within 6 = .ok (.goto 13, 3) := edX8_within_0.2.2.2.2.1
theorem dX8_within_9 : decode cX8_within 9 = .ok (.iload_n 0, 1) := edX8_within_0.2.2.2.2.2.1
theorem dX8_within_10 : decode cX8_within 10 = .ok (.iload_n 2, 1) := edX8_within_0.2.2.2.2.2.2.1
theorem dX8_within_11 : decode cX8_within 11 = .ok (.if_icmp .le 7, 3) := edX8_within_0.2.2.2.2.2.2.2.1
theorem dX8_within_14 : decode cX8_within 14 = .ok (.iload_n 2, 1) := edX8_within_0.2.2.2.2.2.2.2.2.1
theorem dX8_within_15 : decode cX8_within 15 = .ok (.goto 4, 3) := edX8_within_0.2.2.2.2.2.2.2.2.2.1
theorem dX8_within_18 : decode cX8_within 18 = .ok (.iload_n 0, 1) := edX8_within_0.2.2.2.2.2.2.2.2.2.2.1
theorem dX8_within_19 : decode cX8_within 19 = .ok (.ireturn, 1) := edX8_within_0.2.2.2.2.2.2.2.2.2.2.2.1
theorem edX8_copyAll_0 : (decode cX8_copyAll 0 = .ok (.iconst 0, 1)) ∧ (decode cX8_copyAll 1 = .ok (.istore_n 2, 1)) ∧ (decode cX8_copyAll 2 = .ok (.iload_n 2, 1)) ∧ (decode cX8_copyAll 3 = .ok (.sipush 1434, 3)) ∧ (decode cX8_copyAll 6 = .ok (.if_icmp .ge 15, 3)) ∧ (decode cX8_copyAll 9 = .ok (.aload_n 1, 1)) ∧ (decode cX8_copyAll 10 = .ok (.iload_n 2, 1)) ∧ (decode cX8_copyAll 11 = .ok (.aload_n 0, 1)) ∧ (decode cX8_copyAll 12 = .ok (.iload_n 2, 1)) ∧ (decode cX8_copyAll 13 = .ok (.iaload, 1)) ∧ (decode cX8_copyAll 14 = .ok (.iastore, 1)) ∧ (decode cX8_copyAll 15 = .ok (.iinc 2 1, 3)) ∧ (decode cX8_copyAll 18 = .ok (.goto (-16), 3)) ∧ (decode cX8_copyAll 21 = .ok (.return_, 1)) ∧ True := dc_cj [(0, .iconst 0, 1), (1, .istore_n 2, 1), (2, .iload_n 2, 1), (3, .sipush 1434, 3), (6, .if_icmp .ge 15, 3), (9, .aload_n 1, 1), (10, .iload_n 2, 1), (11, .aload_n 0, 1), (12, .iload_n 2, 1), (13, .iaload, 1), (14, .iastore, 1), (15, .iinc 2 1, 3), (18, .goto (-16), 3), (21, .return_, 1)] (by decide +kernel)
theorem dX8_copyAll_0 : decode cX8_copyAll 0 = .ok (.iconst 0, 1) := edX8_copyAll_0.1
theorem dX8_copyAll_1 : decode cX8_copyAll 1 = .ok (.istore_n 2, 1) := edX8_copyAll_0.2.1
theorem dX8_copyAll_2 : decode cX8_copyAll 2 = .ok (.iload_n 2, 1) := edX8_copyAll_0.2.2.1
theorem dX8_copyAll_3 : decode cX8_copyAll 3 = .ok (.sipush 1434, 3) := edX8_copyAll_0.2.2.2.1
theorem dX8_copyAll_6 : decode cX8_copyAll 6 = .ok (.if_icmp .ge 15, 3) := edX8_copyAll_0.2.2.2.2.1
theorem dX8_copyAll_9 : decode cX8_copyAll 9 = .ok (.aload_n 1, 1) := edX8_copyAll_0.2.2.2.2.2.1
theorem dX8_copyAll_10 : decode cX8_copyAll 10 = .ok (.iload_n 2, 1) := edX8_copyAll_0.2.2.2.2.2.2.1
theorem dX8_copyAll_11 : decode cX8_copyAll 11 = .ok (.aload_n 0, 1) := edX8_copyAll_0.2.2.2.2.2.2.2.1
theorem dX8_copyAll_12 : decode cX8_copyAll 12 = .ok (.iload_n 2, 1) := edX8_copyAll_0.2.2.2.2.2.2.2.2.1
theorem dX8_copyAll_13 : decode cX8_copyAll 13 = .ok (.iaload, 1) := edX8_copyAll_0.2.2.2.2.2.2.2.2.2.1
theorem dX8_copyAll_14 : decode cX8_copyAll 14 = .ok (.iastore, 1) := edX8_copyAll_0.2.2.2.2.2.2.2.2.2.2.1
theorem dX8_copyAll_15 : decode cX8_copyAll 15 = .ok (.iinc 2 1, 3) := edX8_copyAll_0.2.2.2.2.2.2.2.2.2.2.2.1
theorem dX8_copyAll_18 : decode cX8_copyAll 18 = .ok (.goto (-16), 3) := edX8_copyAll_0.2.2.2.2.2.2.2.2.2.2.2.2.1
theorem dX8_copyAll_21 : decode cX8_copyAll 21 = .ok (.return_, 1) := edX8_copyAll_0.2.2.2.2.2.2.2.2.2.2.2.2.2.1
theorem edX8_told0_0 : (decode cX8_told0 0 = .ok (.iload_n 0, 1)) ∧ (decode cX8_told0 1 = .ok (.ifCond .ge 8, 3)) ∧ (decode cX8_told0 4 = .ok (.ldc 82, 2)) ∧ (decode cX8_told0 6 = .ok (.goto 4, 3)) ∧ (decode cX8_told0 9 = .ok (.iload_n 0, 1)) ∧ (decode cX8_told0 10 = .ok (.ireturn, 1)) ∧ True := dc_cj [(0, .iload_n 0, 1), (1, .ifCond .ge 8, 3), (4, .ldc 82, 2), (6, .goto 4, 3), (9, .iload_n 0, 1), (10, .ireturn, 1)] (by decide +kernel)
theorem dX8_told0_0 : decode cX8_told0 0 = .ok (.iload_n 0, 1) := edX8_told0_0.1
theorem dX8_told0_1 : decode cX8_told0 1 = .ok (.ifCond .ge 8, 3) := edX8_told0_0.2.1
theorem dX8_told0_4 : decode cX8_told0 4 = .ok (.ldc 82, 2) := edX8_told0_0.2.2.1
theorem dX8_told0_6 : decode cX8_told0 6 = .ok (.goto 4, 3) := edX8_told0_0.2.2.2.1
theorem dX8_told0_9 : decode cX8_told0 9 = .ok (.iload_n 0, 1) := edX8_told0_0.2.2.2.2.1
theorem dX8_told0_10 : decode cX8_told0 10 = .ok (.ireturn, 1) := edX8_told0_0.2.2.2.2.2.1
theorem edX8_isFriend_0 : (decode cX8_isFriend 0 = .ok (.iload_n 1, 1)) ∧ (decode cX8_isFriend 1 = .ok (.iconst 0, 1)) ∧ (decode cX8_isFriend 2 = .ok (.aload_n 0, 1)) ∧ (decode cX8_isFriend 3 = .ok (.getfield 9, 3)) ∧ (decode cX8_isFriend 6 = .ok (.iconst 1, 1)) ∧ (decode cX8_isFriend 7 = .ok (.iaload, 1)) ∧ (decode cX8_isFriend 8 = .ok (.iconst 1, 1)) ∧ (decode cX8_isFriend 9 = .ok (.isub, 1)) ∧ (decode cX8_isFriend 10 = .ok (.invokestatic 83, 3)) ∧ (decode cX8_isFriend 13 = .ok (.ireturn, 1)) ∧ True := dc_cj [(0, .iload_n 1, 1), (1, .iconst 0, 1), (2, .aload_n 0, 1), (3, .getfield 9, 3), (6, .iconst 1, 1), (7, .iaload, 1), (8, .iconst 1, 1), (9, .isub, 1), (10, .invokestatic 83, 3), (13, .ireturn, 1)] (by decide +kernel)
theorem dX8_isFriend_0 : decode cX8_isFriend 0 = .ok (.iload_n 1, 1) := edX8_isFriend_0.1
theorem dX8_isFriend_1 : decode cX8_isFriend 1 = .ok (.iconst 0, 1) := edX8_isFriend_0.2.1
theorem dX8_isFriend_2 : decode cX8_isFriend 2 = .ok (.aload_n 0, 1) := edX8_isFriend_0.2.2.1
theorem dX8_isFriend_3 : decode cX8_isFriend 3 = .ok (.getfield 9, 3) := edX8_isFriend_0.2.2.2.1
theorem dX8_isFriend_6 : decode cX8_isFriend 6 = .ok (.iconst 1, 1) := edX8_isFriend_0.2.2.2.2.1
theorem dX8_isFriend_7 : decode cX8_isFriend 7 = .ok (.iaload, 1) := edX8_isFriend_0.2.2.2.2.2.1
theorem dX8_isFriend_8 : decode cX8_isFriend 8 = .ok (.iconst 1, 1) := edX8_isFriend_0.2.2.2.2.2.2.1
theorem dX8_isFriend_9 : decode cX8_isFriend 9 = .ok (.isub, 1) := edX8_isFriend_0.2.2.2.2.2.2.2.1
theorem dX8_isFriend_10 : decode cX8_isFriend 10 = .ok (.invokestatic 83, 3) := edX8_isFriend_0.2.2.2.2.2.2.2.2.1
theorem dX8_isFriend_13 : decode cX8_isFriend 13 = .ok (.ireturn, 1) := edX8_isFriend_0.2.2.2.2.2.2.2.2.2.1
theorem edX8_of_0 : (decode cX8_of 0 = .ok (.aload_n 0, 1)) ∧ (decode cX8_of 1 = .ok (.getfield 9, 3)) ∧ (decode cX8_of 4 = .ok (.bipush 22, 2)) ∧ (decode cX8_of 6 = .ok (.iconst 5, 1)) ∧ (decode cX8_of 7 = .ok (.iload_n 1, 1)) ∧ (decode cX8_of 8 = .ok (.imul, 1)) ∧ (decode cX8_of 9 = .ok (.iadd, 1)) ∧ (decode cX8_of 10 = .ok (.iload_n 2, 1)) ∧ (decode cX8_of 11 = .ok (.iadd, 1)) ∧ (decode cX8_of 12 = .ok (.iaload, 1)) ∧ (decode cX8_of 13 = .ok (.ireturn, 1)) ∧ True := dc_cj [(0, .aload_n 0, 1), (1, .getfield 9, 3), (4, .bipush 22, 2), (6, .iconst 5, 1), (7, .iload_n 1, 1), (8, .imul, 1), (9, .iadd, 1), (10, .iload_n 2, 1), (11, .iadd, 1), (12, .iaload, 1), (13, .ireturn, 1)] (by decide +kernel)
theorem dX8_of_0 : decode cX8_of 0 = .ok (.aload_n 0, 1) := edX8_of_0.1
theorem dX8_of_1 : decode cX8_of 1 = .ok (.getfield 9, 3) := edX8_of_0.2.1
theorem dX8_of_4 : decode cX8_of 4 = .ok (.bipush 22, 2) := edX8_of_0.2.2.1
theorem dX8_of_6 : decode cX8_of 6 = .ok (.iconst 5, 1) := edX8_of_0.2.2.2.1
theorem dX8_of_7 : decode cX8_of 7 = .ok (.iload_n 1, 1) := edX8_of_0.2.2.2.2.1
theorem dX8_of_8 : decode cX8_of 8 = .ok (.imul, 1) := edX8_of_0.2.2.2.2.2.1
theorem dX8_of_9 : decode cX8_of 9 = .ok (.iadd, 1) := edX8_of_0.2.2.2.2.2.2.1
theorem dX8_of_10 : decode cX8_of 10 = .ok (.iload_n 2, 1) := edX8_of_0.2.2.2.2.2.2.2.1
theorem dX8_of_11 : decode cX8_of 11 = .ok (.iadd, 1) := edX8_of_0.2.2.2.2.2.2.2.2.1
theorem dX8_of_12 : decode cX8_of 12 = .ok (.iaload, 1) := edX8_of_0.2.2.2.2.2.2.2.2.2.1
theorem dX8_of_13 : decode cX8_of 13 = .ok (.ireturn, 1) := edX8_of_0.2.2.2.2.2.2.2.2.2.2.1
theorem edX8_put_0 : (decode cX8_put 0 = .ok (.aload_n 0, 1)) ∧ (decode cX8_put 1 = .ok (.getfield 9, 3)) ∧ (decode cX8_put 4 = .ok (.bipush 22, 2)) ∧ (decode cX8_put 6 = .ok (.iconst 5, 1)) ∧ (decode cX8_put 7 = .ok (.iload_n 1, 1)) ∧ (decode cX8_put 8 = .ok (.imul, 1)) ∧ (decode cX8_put 9 = .ok (.iadd, 1)) ∧ (decode cX8_put 10 = .ok (.iload_n 2, 1)) ∧ (decode cX8_put 11 = .ok (.iadd, 1)) ∧ (decode cX8_put 12 = .ok (.iload_n 3, 1)) ∧ (decode cX8_put 13 = .ok (.iastore, 1)) ∧ (decode cX8_put 14 = .ok (.return_, 1)) ∧ True := dc_cj [(0, .aload_n 0, 1), (1, .getfield 9, 3), (4, .bipush 22, 2), (6, .iconst 5, 1), (7, .iload_n 1, 1), (8, .imul, 1), (9, .iadd, 1), (10, .iload_n 2, 1), (11, .iadd, 1), (12, .iload_n 3, 1), (13, .iastore, 1), (14, .return_, 1)] (by decide +kernel)
theorem dX8_put_0 : decode cX8_put 0 = .ok (.aload_n 0, 1) := edX8_put_0.1
theorem dX8_put_1 : decode cX8_put 1 = .ok (.getfield 9, 3) := edX8_put_0.2.1
theorem dX8_put_4 : decode cX8_put 4 = .ok (.bipush 22, 2) := edX8_put_0.2.2.1
theorem dX8_put_6 : decode cX8_put 6 = .ok (.iconst 5, 1) := edX8_put_0.2.2.2.1
theorem dX8_put_7 : decode cX8_put 7 = .ok (.iload_n 1, 1) := edX8_put_0.2.2.2.2.1
theorem dX8_put_8 : decode cX8_put 8 = .ok (.imul, 1) := edX8_put_0.2.2.2.2.2.1
theorem dX8_put_9 : decode cX8_put 9 = .ok (.iadd, 1) := edX8_put_0.2.2.2.2.2.2.1
theorem dX8_put_10 : decode cX8_put 10 = .ok (.iload_n 2, 1) := edX8_put_0.2.2.2.2.2.2.2.1
theorem dX8_put_11 : decode cX8_put 11 = .ok (.iadd, 1) := edX8_put_0.2.2.2.2.2.2.2.2.1
theorem dX8_put_12 : decode cX8_put 12 = .ok (.iload_n 3, 1) := edX8_put_0.2.2.2.2.2.2.2.2.2.1
theorem dX8_put_13 : decode cX8_put 13 = .ok (.iastore, 1) := edX8_put_0.2.2.2.2.2.2.2.2.2.2.1
theorem dX8_put_14 : decode cX8_put 14 = .ok (.return_, 1) := edX8_put_0.2.2.2.2.2.2.2.2.2.2.2.1
theorem edX8_becomes_0 : (decode cX8_becomes 0 = .ok (.aload_n 0, 1)) ∧ (decode cX8_becomes 1 = .ok (.getfield 9, 3)) ∧ (decode cX8_becomes 4 = .ok (.iload_n 1, 1)) ∧ (decode cX8_becomes 5 = .ok (.iaload, 1)) ∧ (decode cX8_becomes 6 = .ok (.istore_n 3, 1)) ∧ (decode cX8_becomes 7 = .ok (.aload_n 0, 1)) ∧ (decode cX8_becomes 8 = .ok (.getfield 9, 3)) ∧ (decode cX8_becomes 11 = .ok (.iload_n 1, 1)) ∧ (decode cX8_becomes 12 = .ok (.iload_n 2, 1)) ∧ (decode cX8_becomes 13 = .ok (.iastore, 1)) ∧ (decode cX8_becomes 14 = .ok (.iload_n 3, 1)) ∧ (decode cX8_becomes 15 = .ok (.ireturn, 1)) ∧ True := dc_cj [(0, .aload_n 0, 1), (1, .getfield 9, 3), (4, .iload_n 1, 1), (5, .iaload, 1), (6, .istore_n 3, 1), (7, .aload_n 0, 1), (8, .getfield 9, 3), (11, .iload_n 1, 1), (12, .iload_n 2, 1), (13, .iastore, 1), (14, .iload_n 3, 1), (15, .ireturn, 1)] (by decide +kernel)
theorem dX8_becomes_0 : decode cX8_becomes 0 = .ok (.aload_n 0, 1) := edX8_becomes_0.1
theorem dX8_becomes_1 : decode cX8_becomes 1 = .ok (.getfield 9, 3) := edX8_becomes_0.2.1
theorem dX8_becomes_4 : decode cX8_becomes 4 = .ok (.iload_n 1, 1) := edX8_becomes_0.2.2.1
theorem dX8_becomes_5 : decode cX8_becomes 5 = .ok (.iaload, 1) := edX8_becomes_0.2.2.2.1
theorem dX8_becomes_6 : decode cX8_becomes 6 = .ok (.istore_n 3, 1) := edX8_becomes_0.2.2.2.2.1
theorem dX8_becomes_7 : decode cX8_becomes 7 = .ok (.aload_n 0, 1) := edX8_becomes_0.2.2.2.2.2.1
theorem dX8_becomes_8 : decode cX8_becomes 8 = .ok (.getfield 9, 3) := edX8_becomes_0.2.2.2.2.2.2.1
theorem dX8_becomes_11 : decode cX8_becomes 11 = .ok (.iload_n 1, 1) := edX8_becomes_0.2.2.2.2.2.2.2.1
theorem dX8_becomes_12 : decode cX8_becomes 12 = .ok (.iload_n 2, 1) := edX8_becomes_0.2.2.2.2.2.2.2.2.1
theorem dX8_becomes_13 : decode cX8_becomes 13 = .ok (.iastore, 1) := edX8_becomes_0.2.2.2.2.2.2.2.2.2.1
theorem dX8_becomes_14 : decode cX8_becomes 14 = .ok (.iload_n 3, 1) := edX8_becomes_0.2.2.2.2.2.2.2.2.2.2.1
theorem dX8_becomes_15 : decode cX8_becomes 15 = .ok (.ireturn, 1) := edX8_becomes_0.2.2.2.2.2.2.2.2.2.2.2.1
theorem edX8_comes_0 : (decode cX8_comes 0 = .ok (.aload_n 0, 1)) ∧ (decode cX8_comes 1 = .ok (.getfield 9, 3)) ∧ (decode cX8_comes 4 = .ok (.iconst 1, 1)) ∧ (decode cX8_comes 5 = .ok (.iaload, 1)) ∧ (decode cX8_comes 6 = .ok (.istore 4, 2)) ∧ (decode cX8_comes 8 = .ok (.aload_n 0, 1)) ∧ (decode cX8_comes 9 = .ok (.iload 4, 2)) ∧ (decode cX8_comes 11 = .ok (.iconst 0, 1)) ∧ (decode cX8_comes 12 = .ok (.iload_n 1, 1)) ∧ (decode cX8_comes 13 = .ok (.invokevirtual 87, 3)) ∧ (decode cX8_comes 16 = .ok (.aload_n 0, 1)) ∧ (decode cX8_comes 17 = .ok (.iload 4, 2)) ∧ (decode cX8_comes 19 = .ok (.iconst 1, 1)) ∧ (decode cX8_comes 20 = .ok (.iload_n 2, 1)) ∧ (decode cX8_comes 21 = .ok (.invokevirtual 87, 3)) ∧ (decode cX8_comes 24 = .ok (.aload_n 0, 1)) ∧ (decode cX8_comes 25 = .ok (.iload 4, 2)) ∧ (decode cX8_comes 27 = .ok (.iconst 2, 1)) ∧ (decode cX8_comes 28 = .ok (.iload_n 3, 1)) ∧ (decode cX8_comes 29 = .ok (.invokevirtual 87, 3)) ∧ (decode cX8_comes 32 = .ok (.aload_n 0, 1)) ∧ (decode cX8_comes 33 = .ok (.iload 4, 2)) ∧ (decode cX8_comes 35 = .ok (.iconst 3, 1)) ∧ (decode cX8_comes 36 = .ok (.iconst 0, 1)) ∧ (decode cX8_comes 37 = .ok (.invokevirtual 87, 3)) ∧ (decode cX8_comes 40 = .ok (.aload_n 0, 1)) ∧ (decode cX8_comes 41 = .ok (.iload 4, 2)) ∧ (decode cX8_comes 43 = .ok (.iconst 4, 1)) ∧ (decode cX8_comes 44 = .ok (.iconst 0, 1)) ∧ (decode cX8_comes 45 = .ok (.invokevirtual 87, 3)) ∧ (decode cX8_comes 48 = .ok (.aload_n 0, 1)) ∧ (decode cX8_comes 49 = .ok (.getfield 9, 3)) ∧ True := dc_cj [(0, .aload_n 0, 1), (1, .getfield 9, 3), (4, .iconst 1, 1), (5, .iaload, 1), (6, .istore 4, 2), (8, .aload_n 0, 1), (9, .iload 4, 2), (11, .iconst 0, 1), (12, .iload_n 1, 1), (13, .invokevirtual 87, 3), (16, .aload_n 0, 1), (17, .iload 4, 2), (19, .iconst 1, 1), (20, .iload_n 2, 1), (21, .invokevirtual 87, 3), (24, .aload_n 0, 1), (25, .iload 4, 2), (27, .iconst 2, 1), (28, .iload_n 3, 1), (29, .invokevirtual 87, 3), (32, .aload_n 0, 1), (33, .iload 4, 2), (35, .iconst 3, 1), (36, .iconst 0, 1), (37, .invokevirtual 87, 3), (40, .aload_n 0, 1), (41, .iload 4, 2), (43, .iconst 4, 1), (44, .iconst 0, 1), (45, .invokevirtual 87, 3), (48, .aload_n 0, 1), (49, .getfield 9, 3)] (by decide +kernel)
theorem dX8_comes_0 : decode cX8_comes 0 = .ok (.aload_n 0, 1) := edX8_comes_0.1
theorem dX8_comes_1 : decode cX8_comes 1 = .ok (.getfield 9, 3) := edX8_comes_0.2.1
theorem dX8_comes_4 : decode cX8_comes 4 = .ok (.iconst 1, 1) := edX8_comes_0.2.2.1
theorem dX8_comes_5 : decode cX8_comes 5 = .ok (.iaload, 1) := edX8_comes_0.2.2.2.1
theorem dX8_comes_6 : decode cX8_comes 6 = .ok (.istore 4, 2) := edX8_comes_0.2.2.2.2.1
theorem dX8_comes_8 : decode cX8_comes 8 = .ok (.aload_n 0, 1) := edX8_comes_0.2.2.2.2.2.1
theorem dX8_comes_9 : decode cX8_comes 9 = .ok (.iload 4, 2) := edX8_comes_0.2.2.2.2.2.2.1
theorem dX8_comes_11 : decode cX8_comes 11 = .ok (.iconst 0, 1) := edX8_comes_0.2.2.2.2.2.2.2.1
theorem dX8_comes_12 : decode cX8_comes 12 = .ok (.iload_n 1, 1) := edX8_comes_0.2.2.2.2.2.2.2.2.1
theorem dX8_comes_13 : decode cX8_comes 13 = .ok (.invokevirtual 87, 3) := edX8_comes_0.2.2.2.2.2.2.2.2.2.1
theorem dX8_comes_16 : decode cX8_comes 16 = .ok (.aload_n 0, 1) := edX8_comes_0.2.2.2.2.2.2.2.2.2.2.1
theorem dX8_comes_17 : decode cX8_comes 17 = .ok (.iload 4, 2) := edX8_comes_0.2.2.2.2.2.2.2.2.2.2.2.1
theorem dX8_comes_19 : decode cX8_comes 19 = .ok (.iconst 1, 1) := edX8_comes_0.2.2.2.2.2.2.2.2.2.2.2.2.1
theorem dX8_comes_20 : decode cX8_comes 20 = .ok (.iload_n 2, 1) := edX8_comes_0.2.2.2.2.2.2.2.2.2.2.2.2.2.1
theorem dX8_comes_21 : decode cX8_comes 21 = .ok (.invokevirtual 87, 3) := edX8_comes_0.2.2.2.2.2.2.2.2.2.2.2.2.2.2.1
theorem dX8_comes_24 : decode cX8_comes 24 = .ok (.aload_n 0, 1) := edX8_comes_0.2.2.2.2.2.2.2.2.2.2.2.2.2.2.2.1
theorem dX8_comes_25 : decode cX8_comes 25 = .ok (.iload 4, 2) := edX8_comes_0.2.2.2.2.2.2.2.2.2.2.2.2.2.2.2.2.1
theorem dX8_comes_27 : decode cX8_comes 27 = .ok (.iconst 2, 1) := edX8_comes_0.2.2.2.2.2.2.2.2.2.2.2.2.2.2.2.2.2.1
theorem dX8_comes_28 : decode cX8_comes 28 = .ok (.iload_n 3, 1) := edX8_comes_0.2.2.2.2.2.2.2.2.2.2.2.2.2.2.2.2.2.2.1
theorem dX8_comes_29 : decode cX8_comes 29 = .ok (.invokevirtual 87, 3) := edX8_comes_0.2.2.2.2.2.2.2.2.2.2.2.2.2.2.2.2.2.2.2.1
theorem dX8_comes_32 : decode cX8_comes 32 = .ok (.aload_n 0, 1) := edX8_comes_0.2.2.2.2.2.2.2.2.2.2.2.2.2.2.2.2.2.2.2.2.1
theorem dX8_comes_33 : decode cX8_comes 33 = .ok (.iload 4, 2) := edX8_comes_0.2.2.2.2.2.2.2.2.2.2.2.2.2.2.2.2.2.2.2.2.2.1
theorem dX8_comes_35 : decode cX8_comes 35 = .ok (.iconst 3, 1) := edX8_comes_0.2.2.2.2.2.2.2.2.2.2.2.2.2.2.2.2.2.2.2.2.2.2.1
theorem dX8_comes_36 : decode cX8_comes 36 = .ok (.iconst 0, 1) := edX8_comes_0.2.2.2.2.2.2.2.2.2.2.2.2.2.2.2.2.2.2.2.2.2.2.2.1
theorem dX8_comes_37 : decode cX8_comes 37 = .ok (.invokevirtual 87, 3) := edX8_comes_0.2.2.2.2.2.2.2.2.2.2.2.2.2.2.2.2.2.2.2.2.2.2.2.2.1
theorem dX8_comes_40 : decode cX8_comes 40 = .ok (.aload_n 0, 1) := edX8_comes_0.2.2.2.2.2.2.2.2.2.2.2.2.2.2.2.2.2.2.2.2.2.2.2.2.2.1
theorem dX8_comes_41 : decode cX8_comes 41 = .ok (.iload 4, 2) := edX8_comes_0.2.2.2.2.2.2.2.2.2.2.2.2.2.2.2.2.2.2.2.2.2.2.2.2.2.2.1
theorem dX8_comes_43 : decode cX8_comes 43 = .ok (.iconst 4, 1) := edX8_comes_0.2.2.2.2.2.2.2.2.2.2.2.2.2.2.2.2.2.2.2.2.2.2.2.2.2.2.2.1
theorem dX8_comes_44 : decode cX8_comes 44 = .ok (.iconst 0, 1) := edX8_comes_0.2.2.2.2.2.2.2.2.2.2.2.2.2.2.2.2.2.2.2.2.2.2.2.2.2.2.2.2.1
theorem dX8_comes_45 : decode cX8_comes 45 = .ok (.invokevirtual 87, 3) := edX8_comes_0.2.2.2.2.2.2.2.2.2.2.2.2.2.2.2.2.2.2.2.2.2.2.2.2.2.2.2.2.2.1
theorem dX8_comes_48 : decode cX8_comes 48 = .ok (.aload_n 0, 1) := edX8_comes_0.2.2.2.2.2.2.2.2.2.2.2.2.2.2.2.2.2.2.2.2.2.2.2.2.2.2.2.2.2.2.1
theorem dX8_comes_49 : decode cX8_comes 49 = .ok (.getfield 9, 3) := edX8_comes_0.2.2.2.2.2.2.2.2.2.2.2.2.2.2.2.2.2.2.2.2.2.2.2.2.2.2.2.2.2.2.2.1
theorem edX8_comes_52 : (decode cX8_comes 52 = .ok (.iconst 1, 1)) ∧ (decode cX8_comes 53 = .ok (.dup2, 1)) ∧ (decode cX8_comes 54 = .ok (.iaload, 1)) ∧ (decode cX8_comes 55 = .ok (.iconst 1, 1)) ∧ (decode cX8_comes 56 = .ok (.iadd, 1)) ∧ (decode cX8_comes 57 = .ok (.iastore, 1)) ∧ (decode cX8_comes 58 = .ok (.iload 4, 2)) ∧ (decode cX8_comes 60 = .ok (.ireturn, 1)) ∧ True := dc_cj [(52, .iconst 1, 1), (53, .dup2, 1), (54, .iaload, 1), (55, .iconst 1, 1), (56, .iadd, 1), (57, .iastore, 1), (58, .iload 4, 2), (60, .ireturn, 1)] (by decide +kernel)
theorem dX8_comes_52 : decode cX8_comes 52 = .ok (.iconst 1, 1) := edX8_comes_52.1
theorem dX8_comes_53 : decode cX8_comes 53 = .ok (.dup2, 1) := edX8_comes_52.2.1
theorem dX8_comes_54 : decode cX8_comes 54 = .ok (.iaload, 1) := edX8_comes_52.2.2.1
theorem dX8_comes_55 : decode cX8_comes 55 = .ok (.iconst 1, 1) := edX8_comes_52.2.2.2.1
theorem dX8_comes_56 : decode cX8_comes 56 = .ok (.iadd, 1) := edX8_comes_52.2.2.2.2.1
theorem dX8_comes_57 : decode cX8_comes 57 = .ok (.iastore, 1) := edX8_comes_52.2.2.2.2.2.1
theorem dX8_comes_58 : decode cX8_comes 58 = .ok (.iload 4, 2) := edX8_comes_52.2.2.2.2.2.2.1
theorem dX8_comes_60 : decode cX8_comes 60 = .ok (.ireturn, 1) := edX8_comes_52.2.2.2.2.2.2.2.1
theorem edX8_friend_0 : (decode cX8_friend 0 = .ok (.iload_n 1, 1)) ∧ (decode cX8_friend 1 = .ok (.iconst 0, 1)) ∧ (decode cX8_friend 2 = .ok (.iconst 5, 1)) ∧ (decode cX8_friend 3 = .ok (.invokestatic 83, 3)) ∧ (decode cX8_friend 6 = .ok (.ifCond .eq 22, 3)) ∧ (decode cX8_friend 9 = .ok (.iload_n 2, 1)) ∧ (decode cX8_friend 10 = .ok (.iconst 0, 1)) ∧ (decode cX8_friend 11 = .ok (.iconst 1, 1)) ∧ (decode cX8_friend 12 = .ok (.invokestatic 83, 3)) ∧ (decode cX8_friend 15 = .ok (.ifCond .eq 13, 3)) ∧ (decode cX8_friend 18 = .ok (.iload_n 3, 1)) ∧ (decode cX8_friend 19 = .ok (.iconst 0, 1)) ∧ (decode cX8_friend 20 = .ok (.bipush 99, 2)) ∧ (decode cX8_friend 22 = .ok (.invokestatic 83, 3)) ∧ (decode cX8_friend 25 = .ok (.ifCond .ne 6, 3)) ∧ (decode cX8_friend 28 = .ok (.ldc 91, 2)) ∧ (decode cX8_friend 30 = .ok (.ireturn, 1)) ∧ (decode cX8_friend 31 = .ok (.aload_n 0, 1)) ∧ (decode cX8_friend 32 = .ok (.getfield 9, 3)) ∧ (decode cX8_friend 35 = .ok (.iconst 1, 1)) ∧ (decode cX8_friend 36 = .ok (.iaload, 1)) ∧ (decode cX8_friend 37 = .ok (.bipush 8, 2)) ∧ (decode cX8_friend 39 = .ok (.if_icmp .ne 8, 3)) ∧ (decode cX8_friend 42 = .ok (.ldc 92, 2)) ∧ (decode cX8_friend 44 = .ok (.goto 10, 3)) ∧ (decode cX8_friend 47 = .ok (.aload_n 0, 1)) ∧ (decode cX8_friend 48 = .ok (.iload_n 1, 1)) ∧ (decode cX8_friend 49 = .ok (.iload_n 2, 1)) ∧ (decode cX8_friend 50 = .ok (.iload_n 3, 1)) ∧ (decode cX8_friend 51 = .ok (.invokevirtual 93, 3)) ∧ (decode cX8_friend 54 = .ok (.ireturn, 1)) ∧ True := dc_cj [(0, .iload_n 1, 1), (1, .iconst 0, 1), (2, .iconst 5, 1), (3, .invokestatic 83, 3), (6, .ifCond .eq 22, 3), (9, .iload_n 2, 1), (10, .iconst 0, 1), (11, .iconst 1, 1), (12, .invokestatic 83, 3), (15, .ifCond .eq 13, 3), (18, .iload_n 3, 1), (19, .iconst 0, 1), (20, .bipush 99, 2), (22, .invokestatic 83, 3), (25, .ifCond .ne 6, 3), (28, .ldc 91, 2), (30, .ireturn, 1), (31, .aload_n 0, 1), (32, .getfield 9, 3), (35, .iconst 1, 1), (36, .iaload, 1), (37, .bipush 8, 2), (39, .if_icmp .ne 8, 3), (42, .ldc 92, 2), (44, .goto 10, 3), (47, .aload_n 0, 1), (48, .iload_n 1, 1), (49, .iload_n 2, 1), (50, .iload_n 3, 1), (51, .invokevirtual 93, 3), (54, .ireturn, 1)] (by decide +kernel)
theorem dX8_friend_0 : decode cX8_friend 0 = .ok (.iload_n 1, 1) := edX8_friend_0.1
theorem dX8_friend_1 : decode cX8_friend 1 = .ok (.iconst 0, 1) := edX8_friend_0.2.1
theorem dX8_friend_2 : decode cX8_friend 2 = .ok (.iconst 5, 1) := edX8_friend_0.2.2.1
theorem dX8_friend_3 : decode cX8_friend 3 = .ok (.invokestatic 83, 3) := edX8_friend_0.2.2.2.1
theorem dX8_friend_6 : decode cX8_friend 6 = .ok (.ifCond .eq 22, 3) := edX8_friend_0.2.2.2.2.1
theorem dX8_friend_9 : decode cX8_friend 9 = .ok (.iload_n 2, 1) := edX8_friend_0.2.2.2.2.2.1
theorem dX8_friend_10 : decode cX8_friend 10 = .ok (.iconst 0, 1) := edX8_friend_0.2.2.2.2.2.2.1
theorem dX8_friend_11 : decode cX8_friend 11 = .ok (.iconst 1, 1) := edX8_friend_0.2.2.2.2.2.2.2.1
theorem dX8_friend_12 : decode cX8_friend 12 = .ok (.invokestatic 83, 3) := edX8_friend_0.2.2.2.2.2.2.2.2.1
theorem dX8_friend_15 : decode cX8_friend 15 = .ok (.ifCond .eq 13, 3) := edX8_friend_0.2.2.2.2.2.2.2.2.2.1
theorem dX8_friend_18 : decode cX8_friend 18 = .ok (.iload_n 3, 1) := edX8_friend_0.2.2.2.2.2.2.2.2.2.2.1
theorem dX8_friend_19 : decode cX8_friend 19 = .ok (.iconst 0, 1) := edX8_friend_0.2.2.2.2.2.2.2.2.2.2.2.1
theorem dX8_friend_20 : decode cX8_friend 20 = .ok (.bipush 99, 2) := edX8_friend_0.2.2.2.2.2.2.2.2.2.2.2.2.1
theorem dX8_friend_22 : decode cX8_friend 22 = .ok (.invokestatic 83, 3) := edX8_friend_0.2.2.2.2.2.2.2.2.2.2.2.2.2.1
theorem dX8_friend_25 : decode cX8_friend 25 = .ok (.ifCond .ne 6, 3) := edX8_friend_0.2.2.2.2.2.2.2.2.2.2.2.2.2.2.1
theorem dX8_friend_28 : decode cX8_friend 28 = .ok (.ldc 91, 2) := edX8_friend_0.2.2.2.2.2.2.2.2.2.2.2.2.2.2.2.1
theorem dX8_friend_30 : decode cX8_friend 30 = .ok (.ireturn, 1) := edX8_friend_0.2.2.2.2.2.2.2.2.2.2.2.2.2.2.2.2.1
theorem dX8_friend_31 : decode cX8_friend 31 = .ok (.aload_n 0, 1) := edX8_friend_0.2.2.2.2.2.2.2.2.2.2.2.2.2.2.2.2.2.1
theorem dX8_friend_32 : decode cX8_friend 32 = .ok (.getfield 9, 3) := edX8_friend_0.2.2.2.2.2.2.2.2.2.2.2.2.2.2.2.2.2.2.1
theorem dX8_friend_35 : decode cX8_friend 35 = .ok (.iconst 1, 1) := edX8_friend_0.2.2.2.2.2.2.2.2.2.2.2.2.2.2.2.2.2.2.2.1
theorem dX8_friend_36 : decode cX8_friend 36 = .ok (.iaload, 1) := edX8_friend_0.2.2.2.2.2.2.2.2.2.2.2.2.2.2.2.2.2.2.2.2.1
theorem dX8_friend_37 : decode cX8_friend 37 = .ok (.bipush 8, 2) := edX8_friend_0.2.2.2.2.2.2.2.2.2.2.2.2.2.2.2.2.2.2.2.2.2.1
theorem dX8_friend_39 : decode cX8_friend 39 = .ok (.if_icmp .ne 8, 3) := edX8_friend_0.2.2.2.2.2.2.2.2.2.2.2.2.2.2.2.2.2.2.2.2.2.2.1
theorem dX8_friend_42 : decode cX8_friend 42 = .ok (.ldc 92, 2) := edX8_friend_0.2.2.2.2.2.2.2.2.2.2.2.2.2.2.2.2.2.2.2.2.2.2.2.1
theorem dX8_friend_44 : decode cX8_friend 44 = .ok (.goto 10, 3) := edX8_friend_0.2.2.2.2.2.2.2.2.2.2.2.2.2.2.2.2.2.2.2.2.2.2.2.2.1
theorem dX8_friend_47 : decode cX8_friend 47 = .ok (.aload_n 0, 1) := edX8_friend_0.2.2.2.2.2.2.2.2.2.2.2.2.2.2.2.2.2.2.2.2.2.2.2.2.2.1
theorem dX8_friend_48 : decode cX8_friend 48 = .ok (.iload_n 1, 1) := edX8_friend_0.2.2.2.2.2.2.2.2.2.2.2.2.2.2.2.2.2.2.2.2.2.2.2.2.2.2.1
theorem dX8_friend_49 : decode cX8_friend 49 = .ok (.iload_n 2, 1) := edX8_friend_0.2.2.2.2.2.2.2.2.2.2.2.2.2.2.2.2.2.2.2.2.2.2.2.2.2.2.2.1
theorem dX8_friend_50 : decode cX8_friend 50 = .ok (.iload_n 3, 1) := edX8_friend_0.2.2.2.2.2.2.2.2.2.2.2.2.2.2.2.2.2.2.2.2.2.2.2.2.2.2.2.2.1
theorem dX8_friend_51 : decode cX8_friend 51 = .ok (.invokevirtual 93, 3) := edX8_friend_0.2.2.2.2.2.2.2.2.2.2.2.2.2.2.2.2.2.2.2.2.2.2.2.2.2.2.2.2.2.1
theorem dX8_friend_54 : decode cX8_friend 54 = .ok (.ireturn, 1) := edX8_friend_0.2.2.2.2.2.2.2.2.2.2.2.2.2.2.2.2.2.2.2.2.2.2.2.2.2.2.2.2.2.2.1
theorem edX8_toneOf_0 : (decode cX8_toneOf 0 = .ok (.aload_n 0, 1)) ∧ (decode cX8_toneOf 1 = .ok (.iconst 0, 1)) ∧ (decode cX8_toneOf 2 = .ok (.invokevirtual 97, 3)) ∧ (decode cX8_toneOf 5 = .ok (.istore_n 2, 1)) ∧ (decode cX8_toneOf 6 = .ok (.aload_n 0, 1)) ∧ (decode cX8_toneOf 7 = .ok (.getfield 52, 3)) ∧ (decode cX8_toneOf 10 = .ok (.iconst 0, 1)) ∧ (decode cX8_toneOf 11 = .ok (.aload_n 0, 1)) ∧ (decode cX8_toneOf 12 = .ok (.iload_n 1, 1)) ∧ (decode cX8_toneOf 13 = .ok (.iconst 2, 1)) ∧ (decode cX8_toneOf 14 = .ok (.invokevirtual 101, 3)) ∧ (decode cX8_toneOf 17 = .ok (.iastore, 1)) ∧ (decode cX8_toneOf 18 = .ok (.aload_n 0, 1)) ∧ (decode cX8_toneOf 19 = .ok (.getfield 52, 3)) ∧ (decode cX8_toneOf 22 = .ok (.iconst 1, 1)) ∧ (decode cX8_toneOf 23 = .ok (.aload_n 0, 1)) ∧ (decode cX8_toneOf 24 = .ok (.getfield 9, 3)) ∧ (decode cX8_toneOf 27 = .ok (.iconst 3, 1)) ∧ (decode cX8_toneOf 28 = .ok (.iaload, 1)) ∧ (decode cX8_toneOf 29 = .ok (.iastore, 1)) ∧ (decode cX8_toneOf 30 = .ok (.aload_n 0, 1)) ∧ (decode cX8_toneOf 31 = .ok (.getfield 52, 3)) ∧ (decode cX8_toneOf 34 = .ok (.iconst 2, 1)) ∧ (decode cX8_toneOf 35 = .ok (.aload_n 0, 1)) ∧ (decode cX8_toneOf 36 = .ok (.iload_n 1, 1)) ∧ (decode cX8_toneOf 37 = .ok (.iconst 3, 1)) ∧ (decode cX8_toneOf 38 = .ok (.invokevirtual 101, 3)) ∧ (decode cX8_toneOf 41 = .ok (.iastore, 1)) ∧ (decode cX8_toneOf 42 = .ok (.iload_n 2, 1)) ∧ (decode cX8_toneOf 43 = .ok (.ifCond .ge 21, 3)) ∧ (decode cX8_toneOf 46 = .ok (.aload_n 0, 1)) ∧ (decode cX8_toneOf 47 = .ok (.iload_n 1, 1)) ∧ True := dc_cj [(0, .aload_n 0, 1), (1, .iconst 0, 1), (2, .invokevirtual 97, 3), (5, .istore_n 2, 1), (6, .aload_n 0, 1), (7, .getfield 52, 3), (10, .iconst 0, 1), (11, .aload_n 0, 1), (12, .iload_n 1, 1), (13, .iconst 2, 1), (14, .invokevirtual 101, 3), (17, .iastore, 1), (18, .aload_n 0, 1), (19, .getfield 52, 3), (22, .iconst 1, 1), (23, .aload_n 0, 1), (24, .getfield 9, 3), (27, .iconst 3, 1), (28, .iaload, 1), (29, .iastore, 1), (30, .aload_n 0, 1), (31, .getfield 52, 3), (34, .iconst 2, 1), (35, .aload_n 0, 1), (36, .iload_n 1, 1), (37, .iconst 3, 1), (38, .invokevirtual 101, 3), (41, .iastore, 1), (42, .iload_n 2, 1), (43, .ifCond .ge 21, 3), (46, .aload_n 0, 1), (47, .iload_n 1, 1)] (by decide +kernel)
theorem dX8_toneOf_0 : decode cX8_toneOf 0 = .ok (.aload_n 0, 1) := edX8_toneOf_0.1
theorem dX8_toneOf_1 : decode cX8_toneOf 1 = .ok (.iconst 0, 1) := edX8_toneOf_0.2.1
theorem dX8_toneOf_2 : decode cX8_toneOf 2 = .ok (.invokevirtual 97, 3) := edX8_toneOf_0.2.2.1
theorem dX8_toneOf_5 : decode cX8_toneOf 5 = .ok (.istore_n 2, 1) := edX8_toneOf_0.2.2.2.1
theorem dX8_toneOf_6 : decode cX8_toneOf 6 = .ok (.aload_n 0, 1) := edX8_toneOf_0.2.2.2.2.1
theorem dX8_toneOf_7 : decode cX8_toneOf 7 = .ok (.getfield 52, 3) := edX8_toneOf_0.2.2.2.2.2.1
theorem dX8_toneOf_10 : decode cX8_toneOf 10 = .ok (.iconst 0, 1) := edX8_toneOf_0.2.2.2.2.2.2.1
theorem dX8_toneOf_11 : decode cX8_toneOf 11 = .ok (.aload_n 0, 1) := edX8_toneOf_0.2.2.2.2.2.2.2.1
theorem dX8_toneOf_12 : decode cX8_toneOf 12 = .ok (.iload_n 1, 1) := edX8_toneOf_0.2.2.2.2.2.2.2.2.1
theorem dX8_toneOf_13 : decode cX8_toneOf 13 = .ok (.iconst 2, 1) := edX8_toneOf_0.2.2.2.2.2.2.2.2.2.1
theorem dX8_toneOf_14 : decode cX8_toneOf 14 = .ok (.invokevirtual 101, 3) := edX8_toneOf_0.2.2.2.2.2.2.2.2.2.2.1
theorem dX8_toneOf_17 : decode cX8_toneOf 17 = .ok (.iastore, 1) := edX8_toneOf_0.2.2.2.2.2.2.2.2.2.2.2.1
theorem dX8_toneOf_18 : decode cX8_toneOf 18 = .ok (.aload_n 0, 1) := edX8_toneOf_0.2.2.2.2.2.2.2.2.2.2.2.2.1
theorem dX8_toneOf_19 : decode cX8_toneOf 19 = .ok (.getfield 52, 3) := edX8_toneOf_0.2.2.2.2.2.2.2.2.2.2.2.2.2.1
theorem dX8_toneOf_22 : decode cX8_toneOf 22 = .ok (.iconst 1, 1) := edX8_toneOf_0.2.2.2.2.2.2.2.2.2.2.2.2.2.2.1
theorem dX8_toneOf_23 : decode cX8_toneOf 23 = .ok (.aload_n 0, 1) := edX8_toneOf_0.2.2.2.2.2.2.2.2.2.2.2.2.2.2.2.1
theorem dX8_toneOf_24 : decode cX8_toneOf 24 = .ok (.getfield 9, 3) := edX8_toneOf_0.2.2.2.2.2.2.2.2.2.2.2.2.2.2.2.2.1
theorem dX8_toneOf_27 : decode cX8_toneOf 27 = .ok (.iconst 3, 1) := edX8_toneOf_0.2.2.2.2.2.2.2.2.2.2.2.2.2.2.2.2.2.1
theorem dX8_toneOf_28 : decode cX8_toneOf 28 = .ok (.iaload, 1) := edX8_toneOf_0.2.2.2.2.2.2.2.2.2.2.2.2.2.2.2.2.2.2.1
theorem dX8_toneOf_29 : decode cX8_toneOf 29 = .ok (.iastore, 1) := edX8_toneOf_0.2.2.2.2.2.2.2.2.2.2.2.2.2.2.2.2.2.2.2.1
theorem dX8_toneOf_30 : decode cX8_toneOf 30 = .ok (.aload_n 0, 1) := edX8_toneOf_0.2.2.2.2.2.2.2.2.2.2.2.2.2.2.2.2.2.2.2.2.1
theorem dX8_toneOf_31 : decode cX8_toneOf 31 = .ok (.getfield 52, 3) := edX8_toneOf_0.2.2.2.2.2.2.2.2.2.2.2.2.2.2.2.2.2.2.2.2.2.1
theorem dX8_toneOf_34 : decode cX8_toneOf 34 = .ok (.iconst 2, 1) := edX8_toneOf_0.2.2.2.2.2.2.2.2.2.2.2.2.2.2.2.2.2.2.2.2.2.2.1
theorem dX8_toneOf_35 : decode cX8_toneOf 35 = .ok (.aload_n 0, 1) := edX8_toneOf_0.2.2.2.2.2.2.2.2.2.2.2.2.2.2.2.2.2.2.2.2.2.2.2.1
theorem dX8_toneOf_36 : decode cX8_toneOf 36 = .ok (.iload_n 1, 1) := edX8_toneOf_0.2.2.2.2.2.2.2.2.2.2.2.2.2.2.2.2.2.2.2.2.2.2.2.2.1
theorem dX8_toneOf_37 : decode cX8_toneOf 37 = .ok (.iconst 3, 1) := edX8_toneOf_0.2.2.2.2.2.2.2.2.2.2.2.2.2.2.2.2.2.2.2.2.2.2.2.2.2.1
theorem dX8_toneOf_38 : decode cX8_toneOf 38 = .ok (.invokevirtual 101, 3) := edX8_toneOf_0.2.2.2.2.2.2.2.2.2.2.2.2.2.2.2.2.2.2.2.2.2.2.2.2.2.2.1
theorem dX8_toneOf_41 : decode cX8_toneOf 41 = .ok (.iastore, 1) := edX8_toneOf_0.2.2.2.2.2.2.2.2.2.2.2.2.2.2.2.2.2.2.2.2.2.2.2.2.2.2.2.1
theorem dX8_toneOf_42 : decode cX8_toneOf 42 = .ok (.iload_n 2, 1) := edX8_toneOf_0.2.2.2.2.2.2.2.2.2.2.2.2.2.2.2.2.2.2.2.2.2.2.2.2.2.2.2.2.1
theorem dX8_toneOf_43 : decode cX8_toneOf 43 = .ok (.ifCond .ge 21, 3) := edX8_toneOf_0.2.2.2.2.2.2.2.2.2.2.2.2.2.2.2.2.2.2.2.2.2.2.2.2.2.2.2.2.2.1
theorem dX8_toneOf_46 : decode cX8_toneOf 46 = .ok (.aload_n 0, 1) := edX8_toneOf_0.2.2.2.2.2.2.2.2.2.2.2.2.2.2.2.2.2.2.2.2.2.2.2.2.2.2.2.2.2.2.1
theorem dX8_toneOf_47 : decode cX8_toneOf 47 = .ok (.iload_n 1, 1) := edX8_toneOf_0.2.2.2.2.2.2.2.2.2.2.2.2.2.2.2.2.2.2.2.2.2.2.2.2.2.2.2.2.2.2.2.1
theorem edX8_toneOf_48 : (decode cX8_toneOf 48 = .ok (.iconst 2, 1)) ∧ (decode cX8_toneOf 49 = .ok (.invokevirtual 101, 3)) ∧ (decode cX8_toneOf 52 = .ok (.aload_n 0, 1)) ∧ (decode cX8_toneOf 53 = .ok (.getfield 9, 3)) ∧ (decode cX8_toneOf 56 = .ok (.iconst 3, 1)) ∧ (decode cX8_toneOf 57 = .ok (.iaload, 1)) ∧ (decode cX8_toneOf 58 = .ok (.iadd, 1)) ∧ (decode cX8_toneOf 59 = .ok (.iconst 2, 1)) ∧ (decode cX8_toneOf 60 = .ok (.idiv, 1)) ∧ (decode cX8_toneOf 61 = .ok (.goto 14, 3)) ∧ (decode cX8_toneOf 64 = .ok (.aload_n 0, 1)) ∧ (decode cX8_toneOf 65 = .ok (.iload_n 2, 1)) ∧ (decode cX8_toneOf 66 = .ok (.invokevirtual 105, 3)) ∧ (decode cX8_toneOf 69 = .ok (.iconst 0, 1)) ∧ (decode cX8_toneOf 70 = .ok (.bipush 99, 2)) ∧ (decode cX8_toneOf 72 = .ok (.invokestatic 108, 3)) ∧ (decode cX8_toneOf 75 = .ok (.istore_n 3, 1)) ∧ (decode cX8_toneOf 76 = .ok (.aload_n 0, 1)) ∧ (decode cX8_toneOf 77 = .ok (.iload_n 1, 1)) ∧ (decode cX8_toneOf 78 = .ok (.iconst 0, 1)) ∧ (decode cX8_toneOf 79 = .ok (.invokevirtual 101, 3)) ∧ (decode cX8_toneOf 82 = .ok (.tableswitch 90 1 5 #[34, 45, 49, 75, 88], 34)) ∧ (decode cX8_toneOf 116 = .ok (.iload_n 3, 1)) ∧ (decode cX8_toneOf 117 = .ok (.bipush 20, 2)) ∧ (decode cX8_toneOf 119 = .ok (.iadd, 1)) ∧ (decode cX8_toneOf 120 = .ok (.iconst 0, 1)) ∧ (decode cX8_toneOf 121 = .ok (.bipush 99, 2)) ∧ (decode cX8_toneOf 123 = .ok (.invokestatic 108, 3)) ∧ (decode cX8_toneOf 126 = .ok (.ireturn, 1)) ∧ (decode cX8_toneOf 127 = .ok (.iload_n 3, 1)) ∧ (decode cX8_toneOf 128 = .ok (.iconst 2, 1)) ∧ (decode cX8_toneOf 129 = .ok (.idiv, 1)) ∧ True := dc_cj [(48, .iconst 2, 1), (49, .invokevirtual 101, 3), (52, .aload_n 0, 1), (53, .getfield 9, 3), (56, .iconst 3, 1), (57, .iaload, 1), (58, .iadd, 1), (59, .iconst 2, 1), (60, .idiv, 1), (61, .goto 14, 3), (64, .aload_n 0, 1), (65, .iload_n 2, 1), (66, .invokevirtual 105, 3), (69, .iconst 0, 1), (70, .bipush 99, 2), (72, .invokestatic 108, 3), (75, .istore_n 3, 1), (76, .aload_n 0, 1), (77, .iload_n 1, 1), (78, .iconst 0, 1), (79, .invokevirtual 101, 3), (82, .tableswitch 90 1 5 #[34, 45, 49, 75, 88], 34), (116, .iload_n 3, 1), (117, .bipush 20, 2), (119, .iadd, 1), (120, .iconst 0, 1), (121, .bipush 99, 2), (123, .invokestatic 108, 3), (126, .ireturn, 1), (127, .iload_n 3, 1), (128, .iconst 2, 1), (129, .idiv, 1)] (by decide +kernel)
theorem dX8_toneOf_48 : decode cX8_toneOf 48 = .ok (.iconst 2, 1) := edX8_toneOf_48.1
theorem dX8_toneOf_49 : decode cX8_toneOf 49 = .ok (.invokevirtual 101, 3) := edX8_toneOf_48.2.1
theorem dX8_toneOf_52 : decode cX8_toneOf 52 = .ok (.aload_n 0, 1) := edX8_toneOf_48.2.2.1
theorem dX8_toneOf_53 : decode cX8_toneOf 53 = .ok (.getfield 9, 3) := edX8_toneOf_48.2.2.2.1
theorem dX8_toneOf_56 : decode cX8_toneOf 56 = .ok (.iconst 3, 1) := edX8_toneOf_48.2.2.2.2.1
theorem dX8_toneOf_57 : decode cX8_toneOf 57 = .ok (.iaload, 1) := edX8_toneOf_48.2.2.2.2.2.1
theorem dX8_toneOf_58 : decode cX8_toneOf 58 = .ok (.iadd, 1) := edX8_toneOf_48.2.2.2.2.2.2.1
theorem dX8_toneOf_59 : decode cX8_toneOf 59 = .ok (.iconst 2, 1) := edX8_toneOf_48.2.2.2.2.2.2.2.1
theorem dX8_toneOf_60 : decode cX8_toneOf 60 = .ok (.idiv, 1) := edX8_toneOf_48.2.2.2.2.2.2.2.2.1
theorem dX8_toneOf_61 : decode cX8_toneOf 61 = .ok (.goto 14, 3) := edX8_toneOf_48.2.2.2.2.2.2.2.2.2.1
theorem dX8_toneOf_64 : decode cX8_toneOf 64 = .ok (.aload_n 0, 1) := edX8_toneOf_48.2.2.2.2.2.2.2.2.2.2.1
theorem dX8_toneOf_65 : decode cX8_toneOf 65 = .ok (.iload_n 2, 1) := edX8_toneOf_48.2.2.2.2.2.2.2.2.2.2.2.1
theorem dX8_toneOf_66 : decode cX8_toneOf 66 = .ok (.invokevirtual 105, 3) := edX8_toneOf_48.2.2.2.2.2.2.2.2.2.2.2.2.1
theorem dX8_toneOf_69 : decode cX8_toneOf 69 = .ok (.iconst 0, 1) := edX8_toneOf_48.2.2.2.2.2.2.2.2.2.2.2.2.2.1
theorem dX8_toneOf_70 : decode cX8_toneOf 70 = .ok (.bipush 99, 2) := edX8_toneOf_48.2.2.2.2.2.2.2.2.2.2.2.2.2.2.1
theorem dX8_toneOf_72 : decode cX8_toneOf 72 = .ok (.invokestatic 108, 3) := edX8_toneOf_48.2.2.2.2.2.2.2.2.2.2.2.2.2.2.2.1
theorem dX8_toneOf_75 : decode cX8_toneOf 75 = .ok (.istore_n 3, 1) := edX8_toneOf_48.2.2.2.2.2.2.2.2.2.2.2.2.2.2.2.2.1
theorem dX8_toneOf_76 : decode cX8_toneOf 76 = .ok (.aload_n 0, 1) := edX8_toneOf_48.2.2.2.2.2.2.2.2.2.2.2.2.2.2.2.2.2.1
theorem dX8_toneOf_77 : decode cX8_toneOf 77 = .ok (.iload_n 1, 1) := edX8_toneOf_48.2.2.2.2.2.2.2.2.2.2.2.2.2.2.2.2.2.2.1
theorem dX8_toneOf_78 : decode cX8_toneOf 78 = .ok (.iconst 0, 1) := edX8_toneOf_48.2.2.2.2.2.2.2.2.2.2.2.2.2.2.2.2.2.2.2.1
theorem dX8_toneOf_79 : decode cX8_toneOf 79 = .ok (.invokevirtual 101, 3) := edX8_toneOf_48.2.2.2.2.2.2.2.2.2.2.2.2.2.2.2.2.2.2.2.2.1
theorem dX8_toneOf_82 : decode cX8_toneOf 82 = .ok (.tableswitch 90 1 5 #[34, 45, 49, 75, 88], 34) := edX8_toneOf_48.2.2.2.2.2.2.2.2.2.2.2.2.2.2.2.2.2.2.2.2.2.1
theorem dX8_toneOf_116 : decode cX8_toneOf 116 = .ok (.iload_n 3, 1) := edX8_toneOf_48.2.2.2.2.2.2.2.2.2.2.2.2.2.2.2.2.2.2.2.2.2.2.1
theorem dX8_toneOf_117 : decode cX8_toneOf 117 = .ok (.bipush 20, 2) := edX8_toneOf_48.2.2.2.2.2.2.2.2.2.2.2.2.2.2.2.2.2.2.2.2.2.2.2.1
theorem dX8_toneOf_119 : decode cX8_toneOf 119 = .ok (.iadd, 1) := edX8_toneOf_48.2.2.2.2.2.2.2.2.2.2.2.2.2.2.2.2.2.2.2.2.2.2.2.2.1
theorem dX8_toneOf_120 : decode cX8_toneOf 120 = .ok (.iconst 0, 1) := edX8_toneOf_48.2.2.2.2.2.2.2.2.2.2.2.2.2.2.2.2.2.2.2.2.2.2.2.2.2.1
theorem dX8_toneOf_121 : decode cX8_toneOf 121 = .ok (.bipush 99, 2) := edX8_toneOf_48.2.2.2.2.2.2.2.2.2.2.2.2.2.2.2.2.2.2.2.2.2.2.2.2.2.2.1
theorem dX8_toneOf_123 : decode cX8_toneOf 123 = .ok (.invokestatic 108, 3) := edX8_toneOf_48.2.2.2.2.2.2.2.2.2.2.2.2.2.2.2.2.2.2.2.2.2.2.2.2.2.2.2.1
theorem dX8_toneOf_126 : decode cX8_toneOf 126 = .ok (.ireturn, 1) := edX8_toneOf_48.2.2.2.2.2.2.2.2.2.2.2.2.2.2.2.2.2.2.2.2.2.2.2.2.2.2.2.2.1
theorem dX8_toneOf_127 : decode cX8_toneOf 127 = .ok (.iload_n 3, 1) := edX8_toneOf_48.2.2.2.2.2.2.2.2.2.2.2.2.2.2.2.2.2.2.2.2.2.2.2.2.2.2.2.2.2.1
theorem dX8_toneOf_128 : decode cX8_toneOf 128 = .ok (.iconst 2, 1) := edX8_toneOf_48.2.2.2.2.2.2.2.2.2.2.2.2.2.2.2.2.2.2.2.2.2.2.2.2.2.2.2.2.2.2.1
theorem dX8_toneOf_129 : decode cX8_toneOf 129 = .ok (.idiv, 1) := edX8_toneOf_48.2.2.2.2.2.2.2.2.2.2.2.2.2.2.2.2.2.2.2.2.2.2.2.2.2.2.2.2.2.2.2.1
theorem edX8_toneOf_130 : (decode cX8_toneOf 130 = .ok (.ireturn, 1)) ∧ (decode cX8_toneOf 131 = .ok (.aload_n 0, 1)) ∧ (decode cX8_toneOf 132 = .ok (.getfield 9, 3)) ∧ (decode cX8_toneOf 135 = .ok (.iconst 3, 1)) ∧ (decode cX8_toneOf 136 = .ok (.iaload, 1)) ∧ (decode cX8_toneOf 137 = .ok (.bipush 40, 2)) ∧ (decode cX8_toneOf 139 = .ok (.if_icmp .lt 7, 3)) ∧ (decode cX8_toneOf 142 = .ok (.iconst 0, 1)) ∧ (decode cX8_toneOf 143 = .ok (.goto 13, 3)) ∧ (decode cX8_toneOf 146 = .ok (.iload_n 3, 1)) ∧ (decode cX8_toneOf 147 = .ok (.bipush 20, 2)) ∧ (decode cX8_toneOf 149 = .ok (.iadd, 1)) ∧ (decode cX8_toneOf 150 = .ok (.iconst 0, 1)) ∧ (decode cX8_toneOf 151 = .ok (.bipush 99, 2)) ∧ (decode cX8_toneOf 153 = .ok (.invokestatic 108, 3)) ∧ (decode cX8_toneOf 156 = .ok (.ireturn, 1)) ∧ (decode cX8_toneOf 157 = .ok (.iload_n 3, 1)) ∧ (decode cX8_toneOf 158 = .ok (.iconst 2, 1)) ∧ (decode cX8_toneOf 159 = .ok (.idiv, 1)) ∧ (decode cX8_toneOf 160 = .ok (.bipush 10, 2)) ∧ (decode cX8_toneOf 162 = .ok (.isub, 1)) ∧ (decode cX8_toneOf 163 = .ok (.iconst 0, 1)) ∧ (decode cX8_toneOf 164 = .ok (.bipush 99, 2)) ∧ (decode cX8_toneOf 166 = .ok (.invokestatic 108, 3)) ∧ (decode cX8_toneOf 169 = .ok (.ireturn, 1)) ∧ (decode cX8_toneOf 170 = .ok (.iconst 0, 1)) ∧ (decode cX8_toneOf 171 = .ok (.ireturn, 1)) ∧ (decode cX8_toneOf 172 = .ok (.iload_n 3, 1)) ∧ (decode cX8_toneOf 173 = .ok (.ireturn, 1)) ∧ True := dc_cj [(130, .ireturn, 1), (131, .aload_n 0, 1), (132, .getfield 9, 3), (135, .iconst 3, 1), (136, .iaload, 1), (137, .bipush 40, 2), (139, .if_icmp .lt 7, 3), (142, .iconst 0, 1), (143, .goto 13, 3), (146, .iload_n 3, 1), (147, .bipush 20, 2), (149, .iadd, 1), (150, .iconst 0, 1), (151, .bipush 99, 2), (153, .invokestatic 108, 3), (156, .ireturn, 1), (157, .iload_n 3, 1), (158, .iconst 2, 1), (159, .idiv, 1), (160, .bipush 10, 2), (162, .isub, 1), (163, .iconst 0, 1), (164, .bipush 99, 2), (166, .invokestatic 108, 3), (169, .ireturn, 1), (170, .iconst 0, 1), (171, .ireturn, 1), (172, .iload_n 3, 1), (173, .ireturn, 1)] (by decide +kernel)
theorem dX8_toneOf_130 : decode cX8_toneOf 130 = .ok (.ireturn, 1) := edX8_toneOf_130.1
theorem dX8_toneOf_131 : decode cX8_toneOf 131 = .ok (.aload_n 0, 1) := edX8_toneOf_130.2.1
theorem dX8_toneOf_132 : decode cX8_toneOf 132 = .ok (.getfield 9, 3) := edX8_toneOf_130.2.2.1
theorem dX8_toneOf_135 : decode cX8_toneOf 135 = .ok (.iconst 3, 1) := edX8_toneOf_130.2.2.2.1
theorem dX8_toneOf_136 : decode cX8_toneOf 136 = .ok (.iaload, 1) := edX8_toneOf_130.2.2.2.2.1
theorem dX8_toneOf_137 : decode cX8_toneOf 137 = .ok (.bipush 40, 2) := edX8_toneOf_130.2.2.2.2.2.1
theorem dX8_toneOf_139 : decode cX8_toneOf 139 = .ok (.if_icmp .lt 7, 3) := edX8_toneOf_130.2.2.2.2.2.2.1
theorem dX8_toneOf_142 : decode cX8_toneOf 142 = .ok (.iconst 0, 1) := edX8_toneOf_130.2.2.2.2.2.2.2.1
theorem dX8_toneOf_143 : decode cX8_toneOf 143 = .ok (.goto 13, 3) := edX8_toneOf_130.2.2.2.2.2.2.2.2.1
theorem dX8_toneOf_146 : decode cX8_toneOf 146 = .ok (.iload_n 3, 1) := edX8_toneOf_130.2.2.2.2.2.2.2.2.2.1
theorem dX8_toneOf_147 : decode cX8_toneOf 147 = .ok (.bipush 20, 2) := edX8_toneOf_130.2.2.2.2.2.2.2.2.2.2.1
theorem dX8_toneOf_149 : decode cX8_toneOf 149 = .ok (.iadd, 1) := edX8_toneOf_130.2.2.2.2.2.2.2.2.2.2.2.1
theorem dX8_toneOf_150 : decode cX8_toneOf 150 = .ok (.iconst 0, 1) := edX8_toneOf_130.2.2.2.2.2.2.2.2.2.2.2.2.1
theorem dX8_toneOf_151 : decode cX8_toneOf 151 = .ok (.bipush 99, 2) := edX8_toneOf_130.2.2.2.2.2.2.2.2.2.2.2.2.2.1
theorem dX8_toneOf_153 : decode cX8_toneOf 153 = .ok (.invokestatic 108, 3) := edX8_toneOf_130.2.2.2.2.2.2.2.2.2.2.2.2.2.2.1
theorem dX8_toneOf_156 : decode cX8_toneOf 156 = .ok (.ireturn, 1) := edX8_toneOf_130.2.2.2.2.2.2.2.2.2.2.2.2.2.2.2.1
theorem dX8_toneOf_157 : decode cX8_toneOf 157 = .ok (.iload_n 3, 1) := edX8_toneOf_130.2.2.2.2.2.2.2.2.2.2.2.2.2.2.2.2.1
theorem dX8_toneOf_158 : decode cX8_toneOf 158 = .ok (.iconst 2, 1) := edX8_toneOf_130.2.2.2.2.2.2.2.2.2.2.2.2.2.2.2.2.2.1
theorem dX8_toneOf_159 : decode cX8_toneOf 159 = .ok (.idiv, 1) := edX8_toneOf_130.2.2.2.2.2.2.2.2.2.2.2.2.2.2.2.2.2.2.1
theorem dX8_toneOf_160 : decode cX8_toneOf 160 = .ok (.bipush 10, 2) := edX8_toneOf_130.2.2.2.2.2.2.2.2.2.2.2.2.2.2.2.2.2.2.2.1
theorem dX8_toneOf_162 : decode cX8_toneOf 162 = .ok (.isub, 1) := edX8_toneOf_130.2.2.2.2.2.2.2.2.2.2.2.2.2.2.2.2.2.2.2.2.1
theorem dX8_toneOf_163 : decode cX8_toneOf 163 = .ok (.iconst 0, 1) := edX8_toneOf_130.2.2.2.2.2.2.2.2.2.2.2.2.2.2.2.2.2.2.2.2.2.1
theorem dX8_toneOf_164 : decode cX8_toneOf 164 = .ok (.bipush 99, 2) := edX8_toneOf_130.2.2.2.2.2.2.2.2.2.2.2.2.2.2.2.2.2.2.2.2.2.2.1
theorem dX8_toneOf_166 : decode cX8_toneOf 166 = .ok (.invokestatic 108, 3) := edX8_toneOf_130.2.2.2.2.2.2.2.2.2.2.2.2.2.2.2.2.2.2.2.2.2.2.2.1
theorem dX8_toneOf_169 : decode cX8_toneOf 169 = .ok (.ireturn, 1) := edX8_toneOf_130.2.2.2.2.2.2.2.2.2.2.2.2.2.2.2.2.2.2.2.2.2.2.2.2.1
theorem dX8_toneOf_170 : decode cX8_toneOf 170 = .ok (.iconst 0, 1) := edX8_toneOf_130.2.2.2.2.2.2.2.2.2.2.2.2.2.2.2.2.2.2.2.2.2.2.2.2.2.1
theorem dX8_toneOf_171 : decode cX8_toneOf 171 = .ok (.ireturn, 1) := edX8_toneOf_130.2.2.2.2.2.2.2.2.2.2.2.2.2.2.2.2.2.2.2.2.2.2.2.2.2.2.1
theorem dX8_toneOf_172 : decode cX8_toneOf 172 = .ok (.iload_n 3, 1) := edX8_toneOf_130.2.2.2.2.2.2.2.2.2.2.2.2.2.2.2.2.2.2.2.2.2.2.2.2.2.2.2.1
theorem dX8_toneOf_173 : decode cX8_toneOf 173 = .ok (.ireturn, 1) := edX8_toneOf_130.2.2.2.2.2.2.2.2.2.2.2.2.2.2.2.2.2.2.2.2.2.2.2.2.2.2.2.2.1
theorem edX8_pickOf_0 : (decode cX8_pickOf 0 = .ok (.aload_n 0, 1)) ∧ (decode cX8_pickOf 1 = .ok (.getfield 9, 3)) ∧ (decode cX8_pickOf 4 = .ok (.bipush 12, 2)) ∧ (decode cX8_pickOf 6 = .ok (.iconst 4, 1)) ∧ (decode cX8_pickOf 7 = .ok (.aload_n 0, 1)) ∧ (decode cX8_pickOf 8 = .ok (.iload_n 1, 1)) ∧ (decode cX8_pickOf 9 = .ok (.iconst 1, 1)) ∧ (decode cX8_pickOf 10 = .ok (.invokevirtual 101, 3)) ∧ (decode cX8_pickOf 13 = .ok (.imul, 1)) ∧ (decode cX8_pickOf 14 = .ok (.iadd, 1)) ∧ (decode cX8_pickOf 15 = .ok (.iload_n 2, 1)) ∧ (decode cX8_pickOf 16 = .ok (.iadd, 1)) ∧ (decode cX8_pickOf 17 = .ok (.iaload, 1)) ∧ (decode cX8_pickOf 18 = .ok (.istore_n 3, 1)) ∧ (decode cX8_pickOf 19 = .ok (.aload_n 0, 1)) ∧ (decode cX8_pickOf 20 = .ok (.getfield 9, 3)) ∧ (decode cX8_pickOf 23 = .ok (.bipush 16, 2)) ∧ (decode cX8_pickOf 25 = .ok (.iconst 4, 1)) ∧ (decode cX8_pickOf 26 = .ok (.aload_n 0, 1)) ∧ (decode cX8_pickOf 27 = .ok (.iload_n 1, 1)) ∧ (decode cX8_pickOf 28 = .ok (.iconst 1, 1)) ∧ (decode cX8_pickOf 29 = .ok (.invokevirtual 101, 3)) ∧ (decode cX8_pickOf 32 = .ok (.imul, 1)) ∧ (decode cX8_pickOf 33 = .ok (.isub, 1)) ∧ (decode cX8_pickOf 34 = .ok (.iload_n 2, 1)) ∧ (decode cX8_pickOf 35 = .ok (.iadd, 1)) ∧ (decode cX8_pickOf 36 = .ok (.iaload, 1)) ∧ (decode cX8_pickOf 37 = .ok (.istore 4, 2)) ∧ (decode cX8_pickOf 39 = .ok (.aload_n 0, 1)) ∧ (decode cX8_pickOf 40 = .ok (.iload_n 1, 1)) ∧ (decode cX8_pickOf 41 = .ok (.iconst 0, 1)) ∧ (decode cX8_pickOf 42 = .ok (.invokevirtual 101, 3)) ∧ True := dc_cj [(0, .aload_n 0, 1), (1, .getfield 9, 3), (4, .bipush 12, 2), (6, .iconst 4, 1), (7, .aload_n 0, 1), (8, .iload_n 1, 1), (9, .iconst 1, 1), (10, .invokevirtual 101, 3), (13, .imul, 1), (14, .iadd, 1), (15, .iload_n 2, 1), (16, .iadd, 1), (17, .iaload, 1), (18, .istore_n 3, 1), (19, .aload_n 0, 1), (20, .getfield 9, 3), (23, .bipush 16, 2), (25, .iconst 4, 1), (26, .aload_n 0, 1), (27, .iload_n 1, 1), (28, .iconst 1, 1), (29, .invokevirtual 101, 3), (32, .imul, 1), (33, .isub, 1), (34, .iload_n 2, 1), (35, .iadd, 1), (36, .iaload, 1), (37, .istore 4, 2), (39, .aload_n 0, 1), (40, .iload_n 1, 1), (41, .iconst 0, 1), (42, .invokevirtual 101, 3)] (by decide +kernel)
theorem dX8_pickOf_0 : decode cX8_pickOf 0 = .ok (.aload_n 0, 1) := edX8_pickOf_0.1
theorem dX8_pickOf_1 : decode cX8_pickOf 1 = .ok (.getfield 9, 3) := edX8_pickOf_0.2.1
theorem dX8_pickOf_4 : decode cX8_pickOf 4 = .ok (.bipush 12, 2) := edX8_pickOf_0.2.2.1
theorem dX8_pickOf_6 : decode cX8_pickOf 6 = .ok (.iconst 4, 1) := edX8_pickOf_0.2.2.2.1
theorem dX8_pickOf_7 : decode cX8_pickOf 7 = .ok (.aload_n 0, 1) := edX8_pickOf_0.2.2.2.2.1
theorem dX8_pickOf_8 : decode cX8_pickOf 8 = .ok (.iload_n 1, 1) := edX8_pickOf_0.2.2.2.2.2.1
theorem dX8_pickOf_9 : decode cX8_pickOf 9 = .ok (.iconst 1, 1) := edX8_pickOf_0.2.2.2.2.2.2.1
theorem dX8_pickOf_10 : decode cX8_pickOf 10 = .ok (.invokevirtual 101, 3) := edX8_pickOf_0.2.2.2.2.2.2.2.1
theorem dX8_pickOf_13 : decode cX8_pickOf 13 = .ok (.imul, 1) := edX8_pickOf_0.2.2.2.2.2.2.2.2.1
theorem dX8_pickOf_14 : decode cX8_pickOf 14 = .ok (.iadd, 1) := edX8_pickOf_0.2.2.2.2.2.2.2.2.2.1
theorem dX8_pickOf_15 : decode cX8_pickOf 15 = .ok (.iload_n 2, 1) := edX8_pickOf_0.2.2.2.2.2.2.2.2.2.2.1
theorem dX8_pickOf_16 : decode cX8_pickOf 16 = .ok (.iadd, 1) := edX8_pickOf_0.2.2.2.2.2.2.2.2.2.2.2.1
theorem dX8_pickOf_17 : decode cX8_pickOf 17 = .ok (.iaload, 1) := edX8_pickOf_0.2.2.2.2.2.2.2.2.2.2.2.2.1
theorem dX8_pickOf_18 : decode cX8_pickOf 18 = .ok (.istore_n 3, 1) := edX8_pickOf_0.2.2.2.2.2.2.2.2.2.2.2.2.2.1
theorem dX8_pickOf_19 : decode cX8_pickOf 19 = .ok (.aload_n 0, 1) := edX8_pickOf_0.2.2.2.2.2.2.2.2.2.2.2.2.2.2.1
theorem dX8_pickOf_20 : decode cX8_pickOf 20 = .ok (.getfield 9, 3) := edX8_pickOf_0.2.2.2.2.2.2.2.2.2.2.2.2.2.2.2.1
theorem dX8_pickOf_23 : decode cX8_pickOf 23 = .ok (.bipush 16, 2) := edX8_pickOf_0.2.2.2.2.2.2.2.2.2.2.2.2.2.2.2.2.1
theorem dX8_pickOf_25 : decode cX8_pickOf 25 = .ok (.iconst 4, 1) := edX8_pickOf_0.2.2.2.2.2.2.2.2.2.2.2.2.2.2.2.2.2.1
theorem dX8_pickOf_26 : decode cX8_pickOf 26 = .ok (.aload_n 0, 1) := edX8_pickOf_0.2.2.2.2.2.2.2.2.2.2.2.2.2.2.2.2.2.2.1
theorem dX8_pickOf_27 : decode cX8_pickOf 27 = .ok (.iload_n 1, 1) := edX8_pickOf_0.2.2.2.2.2.2.2.2.2.2.2.2.2.2.2.2.2.2.2.1
theorem dX8_pickOf_28 : decode cX8_pickOf 28 = .ok (.iconst 1, 1) := edX8_pickOf_0.2.2.2.2.2.2.2.2.2.2.2.2.2.2.2.2.2.2.2.2.1
theorem dX8_pickOf_29 : decode cX8_pickOf 29 = .ok (.invokevirtual 101, 3) := edX8_pickOf_0.2.2.2.2.2.2.2.2.2.2.2.2.2.2.2.2.2.2.2.2.2.1
theorem dX8_pickOf_32 : decode cX8_pickOf 32 = .ok (.imul, 1) := edX8_pickOf_0.2.2.2.2.2.2.2.2.2.2.2.2.2.2.2.2.2.2.2.2.2.2.1
theorem dX8_pickOf_33 : decode cX8_pickOf 33 = .ok (.isub, 1) := edX8_pickOf_0.2.2.2.2.2.2.2.2.2.2.2.2.2.2.2.2.2.2.2.2.2.2.2.1
theorem dX8_pickOf_34 : decode cX8_pickOf 34 = .ok (.iload_n 2, 1) := edX8_pickOf_0.2.2.2.2.2.2.2.2.2.2.2.2.2.2.2.2.2.2.2.2.2.2.2.2.1
theorem dX8_pickOf_35 : decode cX8_pickOf 35 = .ok (.iadd, 1) := edX8_pickOf_0.2.2.2.2.2.2.2.2.2.2.2.2.2.2.2.2.2.2.2.2.2.2.2.2.2.1
theorem dX8_pickOf_36 : decode cX8_pickOf 36 = .ok (.iaload, 1) := edX8_pickOf_0.2.2.2.2.2.2.2.2.2.2.2.2.2.2.2.2.2.2.2.2.2.2.2.2.2.2.1
theorem dX8_pickOf_37 : decode cX8_pickOf 37 = .ok (.istore 4, 2) := edX8_pickOf_0.2.2.2.2.2.2.2.2.2.2.2.2.2.2.2.2.2.2.2.2.2.2.2.2.2.2.2.1
theorem dX8_pickOf_39 : decode cX8_pickOf 39 = .ok (.aload_n 0, 1) := edX8_pickOf_0.2.2.2.2.2.2.2.2.2.2.2.2.2.2.2.2.2.2.2.2.2.2.2.2.2.2.2.2.1
theorem dX8_pickOf_40 : decode cX8_pickOf 40 = .ok (.iload_n 1, 1) := edX8_pickOf_0.2.2.2.2.2.2.2.2.2.2.2.2.2.2.2.2.2.2.2.2.2.2.2.2.2.2.2.2.2.1
theorem dX8_pickOf_41 : decode cX8_pickOf 41 = .ok (.iconst 0, 1) := edX8_pickOf_0.2.2.2.2.2.2.2.2.2.2.2.2.2.2.2.2.2.2.2.2.2.2.2.2.2.2.2.2.2.2.1
theorem dX8_pickOf_42 : decode cX8_pickOf 42 = .ok (.invokevirtual 101, 3) := edX8_pickOf_0.2.2.2.2.2.2.2.2.2.2.2.2.2.2.2.2.2.2.2.2.2.2.2.2.2.2.2.2.2.2.2.1
theorem edX8_pickOf_45 : (decode cX8_pickOf 45 = .ok (.tableswitch 45 1 5 #[35, 45, 35, 38, 42], 35)) ∧ (decode cX8_pickOf 80 = .ok (.iload 4, 2)) ∧ (decode cX8_pickOf 82 = .ok (.ireturn, 1)) ∧ (decode cX8_pickOf 83 = .ok (.iload 4, 2)) ∧ (decode cX8_pickOf 85 = .ok (.ineg, 1)) ∧ (decode cX8_pickOf 86 = .ok (.ireturn, 1)) ∧ (decode cX8_pickOf 87 = .ok (.iload_n 3, 1)) ∧ (decode cX8_pickOf 88 = .ok (.ineg, 1)) ∧ (decode cX8_pickOf 89 = .ok (.ireturn, 1)) ∧ (decode cX8_pickOf 90 = .ok (.iload_n 3, 1)) ∧ (decode cX8_pickOf 91 = .ok (.ireturn, 1)) ∧ True := dc_cj [(45, .tableswitch 45 1 5 #[35, 45, 35, 38, 42], 35), (80, .iload 4, 2), (82, .ireturn, 1), (83, .iload 4, 2), (85, .ineg, 1), (86, .ireturn, 1), (87, .iload_n 3, 1), (88, .ineg, 1), (89, .ireturn, 1), (90, .iload_n 3, 1), (91, .ireturn, 1)] (by decide +kernel)
theorem dX8_pickOf_45 : decode cX8_pickOf 45 = .ok (.tableswitch 45 1 5 #[35, 45, 35, 38, 42], 35) := edX8_pickOf_45.1
theorem dX8_pickOf_80 : decode cX8_pickOf 80 = .ok (.iload 4, 2) := edX8_pickOf_45.2.1
theorem dX8_pickOf_82 : decode cX8_pickOf 82 = .ok (.ireturn, 1) := edX8_pickOf_45.2.2.1
theorem dX8_pickOf_83 : decode cX8_pickOf 83 = .ok (.iload 4, 2) := edX8_pickOf_45.2.2.2.1
theorem dX8_pickOf_85 : decode cX8_pickOf 85 = .ok (.ineg, 1) := edX8_pickOf_45.2.2.2.2.1
theorem dX8_pickOf_86 : decode cX8_pickOf 86 = .ok (.ireturn, 1) := edX8_pickOf_45.2.2.2.2.2.1
theorem dX8_pickOf_87 : decode cX8_pickOf 87 = .ok (.iload_n 3, 1) := edX8_pickOf_45.2.2.2.2.2.2.1
theorem dX8_pickOf_88 : decode cX8_pickOf 88 = .ok (.ineg, 1) := edX8_pickOf_45.2.2.2.2.2.2.2.1
theorem dX8_pickOf_89 : decode cX8_pickOf 89 = .ok (.ireturn, 1) := edX8_pickOf_45.2.2.2.2.2.2.2.2.1
theorem dX8_pickOf_90 : decode cX8_pickOf 90 = .ok (.iload_n 3, 1) := edX8_pickOf_45.2.2.2.2.2.2.2.2.2.1
theorem dX8_pickOf_91 : decode cX8_pickOf 91 = .ok (.ireturn, 1) := edX8_pickOf_45.2.2.2.2.2.2.2.2.2.2.1
theorem edX8_termOf_0 : (decode cX8_termOf 0 = .ok (.aload_n 0, 1)) ∧ (decode cX8_termOf 1 = .ok (.iload_n 1, 1)) ∧ (decode cX8_termOf 2 = .ok (.iconst 1, 1)) ∧ (decode cX8_termOf 3 = .ok (.invokevirtual 101, 3)) ∧ (decode cX8_termOf 6 = .ok (.ifCond .ne 7, 3)) ∧ (decode cX8_termOf 9 = .ok (.iconst 0, 1)) ∧ (decode cX8_termOf 10 = .ok (.goto 5, 3)) ∧ (decode cX8_termOf 13 = .ok (.bipush 9, 2)) ∧ (decode cX8_termOf 15 = .ok (.istore_n 2, 1)) ∧ (decode cX8_termOf 16 = .ok (.iconst (-1), 1)) ∧ (decode cX8_termOf 17 = .ok (.istore_n 3, 1)) ∧ (decode cX8_termOf 18 = .ok (.iconst 0, 1)) ∧ (decode cX8_termOf 19 = .ok (.istore 4, 2)) ∧ (decode cX8_termOf 21 = .ok (.iload 4, 2)) ∧ (decode cX8_termOf 23 = .ok (.iconst 4, 1)) ∧ (decode cX8_termOf 24 = .ok (.if_icmp .ge 50, 3)) ∧ (decode cX8_termOf 27 = .ok (.aload_n 0, 1)) ∧ (decode cX8_termOf 28 = .ok (.getfield 9, 3)) ∧ (decode cX8_termOf 31 = .ok (.bipush 8, 2)) ∧ (decode cX8_termOf 33 = .ok (.iload 4, 2)) ∧ (decode cX8_termOf 35 = .ok (.iadd, 1)) ∧ (decode cX8_termOf 36 = .ok (.iaload, 1)) ∧ (decode cX8_termOf 37 = .ok (.iload_n 2, 1)) ∧ (decode cX8_termOf 38 = .ok (.if_icmp .eq 30, 3)) ∧ (decode cX8_termOf 41 = .ok (.iload_n 3, 1)) ∧ (decode cX8_termOf 42 = .ok (.ifCond .lt 19, 3)) ∧ (decode cX8_termOf 45 = .ok (.aload_n 0, 1)) ∧ (decode cX8_termOf 46 = .ok (.iload_n 1, 1)) ∧ (decode cX8_termOf 47 = .ok (.iload 4, 2)) ∧ (decode cX8_termOf 49 = .ok (.invokevirtual 111, 3)) ∧ (decode cX8_termOf 52 = .ok (.aload_n 0, 1)) ∧ (decode cX8_termOf 53 = .ok (.iload_n 1, 1)) ∧ True := dc_cj [(0, .aload_n 0, 1), (1, .iload_n 1, 1), (2, .iconst 1, 1), (3, .invokevirtual 101, 3), (6, .ifCond .ne 7, 3), (9, .iconst 0, 1), (10, .goto 5, 3), (13, .bipush 9, 2), (15, .istore_n 2, 1), (16, .iconst (-1), 1), (17, .istore_n 3, 1), (18, .iconst 0, 1), (19, .istore 4, 2), (21, .iload 4, 2), (23, .iconst 4, 1), (24, .if_icmp .ge 50, 3), (27, .aload_n 0, 1), (28, .getfield 9, 3), (31, .bipush 8, 2), (33, .iload 4, 2), (35, .iadd, 1), (36, .iaload, 1), (37, .iload_n 2, 1), (38, .if_icmp .eq 30, 3), (41, .iload_n 3, 1), (42, .ifCond .lt 19, 3), (45, .aload_n 0, 1), (46, .iload_n 1, 1), (47, .iload 4, 2), (49, .invokevirtual 111, 3), (52, .aload_n 0, 1), (53, .iload_n 1, 1)] (by decide +kernel)
theorem dX8_termOf_0 : decode cX8_termOf 0 = .ok (.aload_n 0, 1) := edX8_termOf_0.1
theorem dX8_termOf_1 : decode cX8_termOf 1 = .ok (.iload_n 1, 1) := edX8_termOf_0.2.1
theorem dX8_termOf_2 : decode cX8_termOf 2 = .ok (.iconst 1, 1) := edX8_termOf_0.2.2.1
theorem dX8_termOf_3 : decode cX8_termOf 3 = .ok (.invokevirtual 101, 3) := edX8_termOf_0.2.2.2.1
theorem dX8_termOf_6 : decode cX8_termOf 6 = .ok (.ifCond .ne 7, 3) := edX8_termOf_0.2.2.2.2.1
theorem dX8_termOf_9 : decode cX8_termOf 9 = .ok (.iconst 0, 1) := edX8_termOf_0.2.2.2.2.2.1
theorem dX8_termOf_10 : decode cX8_termOf 10 = .ok (.goto 5, 3) := edX8_termOf_0.2.2.2.2.2.2.1
theorem dX8_termOf_13 : decode cX8_termOf 13 = .ok (.bipush 9, 2) := edX8_termOf_0.2.2.2.2.2.2.2.1
theorem dX8_termOf_15 : decode cX8_termOf 15 = .ok (.istore_n 2, 1) := edX8_termOf_0.2.2.2.2.2.2.2.2.1
theorem dX8_termOf_16 : decode cX8_termOf 16 = .ok (.iconst (-1), 1) := edX8_termOf_0.2.2.2.2.2.2.2.2.2.1
theorem dX8_termOf_17 : decode cX8_termOf 17 = .ok (.istore_n 3, 1) := edX8_termOf_0.2.2.2.2.2.2.2.2.2.2.1
theorem dX8_termOf_18 : decode cX8_termOf 18 = .ok (.iconst 0, 1) := edX8_termOf_0.2.2.2.2.2.2.2.2.2.2.2.1
theorem dX8_termOf_19 : decode cX8_termOf 19 = .ok (.istore 4, 2) := edX8_termOf_0.2.2.2.2.2.2.2.2.2.2.2.2.1
theorem dX8_termOf_21 : decode cX8_termOf 21 = .ok (.iload 4, 2) := edX8_termOf_0.2.2.2.2.2.2.2.2.2.2.2.2.2.1
theorem dX8_termOf_23 : decode cX8_termOf 23 = .ok (.iconst 4, 1) := edX8_termOf_0.2.2.2.2.2.2.2.2.2.2.2.2.2.2.1
theorem dX8_termOf_24 : decode cX8_termOf 24 = .ok (.if_icmp .ge 50, 3) := edX8_termOf_0.2.2.2.2.2.2.2.2.2.2.2.2.2.2.2.1
theorem dX8_termOf_27 : decode cX8_termOf 27 = .ok (.aload_n 0, 1) := edX8_termOf_0.2.2.2.2.2.2.2.2.2.2.2.2.2.2.2.2.1
theorem dX8_termOf_28 : decode cX8_termOf 28 = .ok (.getfield 9, 3) := edX8_termOf_0.2.2.2.2.2.2.2.2.2.2.2.2.2.2.2.2.2.1
theorem dX8_termOf_31 : decode cX8_termOf 31 = .ok (.bipush 8, 2) := edX8_termOf_0.2.2.2.2.2.2.2.2.2.2.2.2.2.2.2.2.2.2.1
theorem dX8_termOf_33 : decode cX8_termOf 33 = .ok (.iload 4, 2) := edX8_termOf_0.2.2.2.2.2.2.2.2.2.2.2.2.2.2.2.2.2.2.2.1
theorem dX8_termOf_35 : decode cX8_termOf 35 = .ok (.iadd, 1) := edX8_termOf_0.2.2.2.2.2.2.2.2.2.2.2.2.2.2.2.2.2.2.2.2.1
theorem dX8_termOf_36 : decode cX8_termOf 36 = .ok (.iaload, 1) := edX8_termOf_0.2.2.2.2.2.2.2.2.2.2.2.2.2.2.2.2.2.2.2.2.2.1
theorem dX8_termOf_37 : decode cX8_termOf 37 = .ok (.iload_n 2, 1) := edX8_termOf_0.2.2.2.2.2.2.2.2.2.2.2.2.2.2.2.2.2.2.2.2.2.2.1
theorem dX8_termOf_38 : decode cX8_termOf 38 = .ok (.if_icmp .eq 30, 3) := edX8_termOf_0.2.2.2.2.2.2.2.2.2.2.2.2.2.2.2.2.2.2.2.2.2.2.2.1
theorem dX8_termOf_41 : decode cX8_termOf 41 = .ok (.iload_n 3, 1) := edX8_termOf_0.2.2.2.2.2.2.2.2.2.2.2.2.2.2.2.2.2.2.2.2.2.2.2.2.1
theorem dX8_termOf_42 : decode cX8_termOf 42 = .ok (.ifCond .lt 19, 3) := edX8_termOf_0.2.2.2.2.2.2.2.2.2.2.2.2.2.2.2.2.2.2.2.2.2.2.2.2.2.1
theorem dX8_termOf_45 : decode cX8_termOf 45 = .ok (.aload_n 0, 1) := edX8_termOf_0.2.2.2.2.2.2.2.2.2.2.2.2.2.2.2.2.2.2.2.2.2.2.2.2.2.2.1
theorem dX8_termOf_46 : decode cX8_termOf 46 = .ok (.iload_n 1, 1) := edX8_termOf_0.2.2.2.2.2.2.2.2.2.2.2.2.2.2.2.2.2.2.2.2.2.2.2.2.2.2.2.1
theorem dX8_termOf_47 : decode cX8_termOf 47 = .ok (.iload 4, 2) := edX8_termOf_0.2.2.2.2.2.2.2.2.2.2.2.2.2.2.2.2.2.2.2.2.2.2.2.2.2.2.2.2.1
theorem dX8_termOf_49 : decode cX8_termOf 49 = .ok (.invokevirtual 111, 3) := edX8_termOf_0.2.2.2.2.2.2.2.2.2.2.2.2.2.2.2.2.2.2.2.2.2.2.2.2.2.2.2.2.2.1
theorem dX8_termOf_52 : decode cX8_termOf 52 = .ok (.aload_n 0, 1) := edX8_termOf_0.2.2.2.2.2.2.2.2.2.2.2.2.2.2.2.2.2.2.2.2.2.2.2.2.2.2.2.2.2.2.1
theorem dX8_termOf_53 : decode cX8_termOf 53 = .ok (.iload_n 1, 1) := edX8_termOf_0.2.2.2.2.2.2.2.2.2.2.2.2.2.2.2.2.2.2.2.2.2.2.2.2.2.2.2.2.2.2.2.1
