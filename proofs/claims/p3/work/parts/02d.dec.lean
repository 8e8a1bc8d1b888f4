theorem edX8_worksOut_111 : (decode cX8_worksOut 111 = .ok (.goto 4, 3)) ∧ (decode cX8_worksOut 114 = .ok (.iconst 0, 1)) ∧ (decode cX8_worksOut 115 = .ok (.iastore, 1)) ∧ (decode cX8_worksOut 116 = .ok (.goto 33, 3)) ∧ (decode cX8_worksOut 119 = .ok (.iinc 2 (-1), 3)) ∧ (decode cX8_worksOut 122 = .ok (.aload_n 0, 1)) ∧ (decode cX8_worksOut 123 = .ok (.getfield 49, 3)) ∧ (decode cX8_worksOut 126 = .ok (.iload_n 2, 1)) ∧ (decode cX8_worksOut 127 = .ok (.iconst 1, 1)) ∧ (decode cX8_worksOut 128 = .ok (.isub, 1)) ∧ (decode cX8_worksOut 129 = .ok (.iload 5, 2)) ∧ (decode cX8_worksOut 131 = .ok (.aload_n 0, 1)) ∧ (decode cX8_worksOut 132 = .ok (.getfield 49, 3)) ∧ (decode cX8_worksOut 135 = .ok (.iload_n 2, 1)) ∧ (decode cX8_worksOut 136 = .ok (.iconst 1, 1)) ∧ (decode cX8_worksOut 137 = .ok (.isub, 1)) ∧ (decode cX8_worksOut 138 = .ok (.iaload, 1)) ∧ (decode cX8_worksOut 139 = .ok (.aload_n 0, 1)) ∧ (decode cX8_worksOut 140 = .ok (.getfield 49, 3)) ∧ (decode cX8_worksOut 143 = .ok (.iload_n 2, 1)) ∧ (decode cX8_worksOut 144 = .ok (.iaload, 1)) ∧ (decode cX8_worksOut 145 = .ok (.invokestatic 255, 3)) ∧ (decode cX8_worksOut 148 = .ok (.iastore, 1)) ∧ (decode cX8_worksOut 149 = .ok (.iinc 4 1, 3)) ∧ (decode cX8_worksOut 152 = .ok (.goto (-131), 3)) ∧ (decode cX8_worksOut 155 = .ok (.aload_n 0, 1)) ∧ (decode cX8_worksOut 156 = .ok (.getfield 49, 3)) ∧ (decode cX8_worksOut 159 = .ok (.iconst 0, 1)) ∧ (decode cX8_worksOut 160 = .ok (.iaload, 1)) ∧ (decode cX8_worksOut 161 = .ok (.ireturn, 1)) ∧ True := dc_cj [(111, .goto 4, 3), (114, .iconst 0, 1), (115, .iastore, 1), (116, .goto 33, 3), (119, .iinc 2 (-1), 3), (122, .aload_n 0, 1), (123, .getfield 49, 3), (126, .iload_n 2, 1), (127, .iconst 1, 1), (128, .isub, 1), (129, .iload 5, 2), (131, .aload_n 0, 1), (132, .getfield 49, 3), (135, .iload_n 2, 1), (136, .iconst 1, 1), (137, .isub, 1), (138, .iaload, 1), (139, .aload_n 0, 1), (140, .getfield 49, 3), (143, .iload_n 2, 1), (144, .iaload, 1), (145, .invokestatic 255, 3), (148, .iastore, 1), (149, .iinc 4 1, 3), (152, .goto (-131), 3), (155, .aload_n 0, 1), (156, .getfield 49, 3), (159, .iconst 0, 1), (160, .iaload, 1), (161, .ireturn, 1)] (by decide +kernel)
theorem dX8_worksOut_111 : decode cX8_worksOut 111 = .ok (.goto 4, 3) := edX8_worksOut_111.1
theorem dX8_worksOut_114 : decode cX8_worksOut 114 = .ok (.iconst 0, 1) := edX8_worksOut_111.2.1
theorem dX8_worksOut_115 : decode cX8_worksOut 115 = .ok (.iastore, 1) := edX8_worksOut_111.2.2.1
theorem dX8_worksOut_116 : decode cX8_worksOut 116 = .ok (.goto 33, 3) := edX8_worksOut_111.2.2.2.1
theorem dX8_worksOut_119 : decode cX8_worksOut 119 = .ok (.iinc 2 (-1), 3) := edX8_worksOut_111.2.2.2.2.1
theorem dX8_worksOut_122 : decode cX8_worksOut 122 = .ok (.aload_n 0, 1) := edX8_worksOut_111.2.2.2.2.2.1
theorem dX8_worksOut_123 : decode cX8_worksOut 123 = .ok (.getfield 49, 3) := edX8_worksOut_111.2.2.2.2.2.2.1
theorem dX8_worksOut_126 : decode cX8_worksOut 126 = .ok (.iload_n 2, 1) := edX8_worksOut_111.2.2.2.2.2.2.2.1
theorem dX8_worksOut_127 : decode cX8_worksOut 127 = .ok (.iconst 1, 1) := edX8_worksOut_111.2.2.2.2.2.2.2.2.1
theorem dX8_worksOut_128 : decode cX8_worksOut 128 = .ok (.isub, 1) := edX8_worksOut_111.2.2.2.2.2.2.2.2.2.1
theorem dX8_worksOut_129 : decode cX8_worksOut 129 = .ok (.iload 5, 2) := edX8_worksOut_111.2.2.2.2.2.2.2.2.2.2.1
theorem dX8_worksOut_131 : decode cX8_worksOut 131 = .ok (.aload_n 0, 1) := edX8_worksOut_111.2.2.2.2.2.2.2.2.2.2.2.1
theorem dX8_worksOut_132 : decode cX8_worksOut 132 = .ok (.getfield 49, 3) := edX8_worksOut_111.2.2.2.2.2.2.2.2.2.2.2.2.1
theorem dX8_worksOut_135 : decode cX8_worksOut 135 = .ok (.iload_n 2, 1) := edX8_worksOut_111.2.2.2.2.2.2.2.2.2.2.2.2.2.1
theorem dX8_worksOut_136 : decode cX8_worksOut 136 = .ok (.iconst 1, 1) := edX8_worksOut_111.2.2.2.2.2.2.2.2.2.2.2.2.2.2.1
theorem dX8_worksOut_137 : decode cX8_worksOut 137 = .ok (.isub, 1) := edX8_worksOut_111.2.2.2.2.2.2.2.2.2.2.2.2.2.2.2.1
theorem dX8_worksOut_138 : decode cX8_worksOut 138 = .ok (.iaload, 1) := edX8_worksOut_111.2.2.2.2.2.2.2.2.2.2.2.2.2.2.2.2.1
theorem dX8_worksOut_139 : decode cX8_worksOut 139 = .ok (.aload_n 0, 1) := edX8_worksOut_111.2.2.2.2.2.2.2.2.2.2.2.2.2.2.2.2.2.1
theorem dX8_worksOut_140 : decode cX8_worksOut 140 = .ok (.getfield 49, 3) := edX8_worksOut_111.2.2.2.2.2.2.2.2.2.2.2.2.2.2.2.2.2.2.1
theorem dX8_worksOut_143 : decode cX8_worksOut 143 = .ok (.iload_n 2, 1) := edX8_worksOut_111.2.2.2.2.2.2.2.2.2.2.2.2.2.2.2.2.2.2.2.1
theorem dX8_worksOut_144 : decode cX8_worksOut 144 = .ok (.iaload, 1) := edX8_worksOut_111.2.2.2.2.2.2.2.2.2.2.2.2.2.2.2.2.2.2.2.2.1
theorem dX8_worksOut_145 : decode cX8_worksOut 145 = .ok (.invokestatic 255, 3) := edX8_worksOut_111.2.2.2.2.2.2.2.2.2.2.2.2.2.2.2.2.2.2.2.2.2.1
theorem dX8_worksOut_148 : decode cX8_worksOut 148 = .ok (.iastore, 1) := edX8_worksOut_111.2.2.2.2.2.2.2.2.2.2.2.2.2.2.2.2.2.2.2.2.2.2.1
theorem dX8_worksOut_149 : decode cX8_worksOut 149 = .ok (.iinc 4 1, 3) := edX8_worksOut_111.2.2.2.2.2.2.2.2.2.2.2.2.2.2.2.2.2.2.2.2.2.2.2.1
theorem dX8_worksOut_152 : decode cX8_worksOut 152 = .ok (.goto (-131), 3) := edX8_worksOut_111.2.2.2.2.2.2.2.2.2.2.2.2.2.2.2.2.2.2.2.2.2.2.2.2.1
theorem dX8_worksOut_155 : decode cX8_worksOut 155 = .ok (.aload_n 0, 1) := edX8_worksOut_111.2.2.2.2.2.2.2.2.2.2.2.2.2.2.2.2.2.2.2.2.2.2.2.2.2.1
theorem dX8_worksOut_156 : decode cX8_worksOut 156 = .ok (.getfield 49, 3) := edX8_worksOut_111.2.2.2.2.2.2.2.2.2.2.2.2.2.2.2.2.2.2.2.2.2.2.2.2.2.2.1
theorem dX8_worksOut_159 : decode cX8_worksOut 159 = .ok (.iconst 0, 1) := edX8_worksOut_111.2.2.2.2.2.2.2.2.2.2.2.2.2.2.2.2.2.2.2.2.2.2.2.2.2.2.2.1
theorem dX8_worksOut_160 : decode cX8_worksOut 160 = .ok (.iaload, 1) := edX8_worksOut_111.2.2.2.2.2.2.2.2.2.2.2.2.2.2.2.2.2.2.2.2.2.2.2.2.2.2.2.2.1
theorem dX8_worksOut_161 : decode cX8_worksOut 161 = .ok (.ireturn, 1) := edX8_worksOut_111.2.2.2.2.2.2.2.2.2.2.2.2.2.2.2.2.2.2.2.2.2.2.2.2.2.2.2.2.2.1
theorem edX8_isSheet_0 : (decode cX8_isSheet 0 = .ok (.iload_n 0, 1)) ∧ (decode cX8_isSheet 1 = .ok (.iconst 0, 1)) ∧ (decode cX8_isSheet 2 = .ok (.iconst 3, 1)) ∧ (decode cX8_isSheet 3 = .ok (.invokestatic 83, 3)) ∧ (decode cX8_isSheet 6 = .ok (.ireturn, 1)) ∧ True := dc_cj [(0, .iload_n 0, 1), (1, .iconst 0, 1), (2, .iconst 3, 1), (3, .invokestatic 83, 3), (6, .ireturn, 1)] (by decide +kernel)
theorem dX8_isSheet_0 : decode cX8_isSheet 0 = .ok (.iload_n 0, 1) := edX8_isSheet_0.1
theorem dX8_isSheet_1 : decode cX8_isSheet 1 = .ok (.iconst 0, 1) := edX8_isSheet_0.2.1
theorem dX8_isSheet_2 : decode cX8_isSheet 2 = .ok (.iconst 3, 1) := edX8_isSheet_0.2.2.1
theorem dX8_isSheet_3 : decode cX8_isSheet 3 = .ok (.invokestatic 83, 3) := edX8_isSheet_0.2.2.2.1
theorem dX8_isSheet_6 : decode cX8_isSheet 6 = .ok (.ireturn, 1) := edX8_isSheet_0.2.2.2.2.1
theorem edX8_isSlot_0 : (decode cX8_isSlot 0 = .ok (.iload_n 0, 1)) ∧ (decode cX8_isSlot 1 = .ok (.iconst 0, 1)) ∧ (decode cX8_isSlot 2 = .ok (.iconst 4, 1)) ∧ (decode cX8_isSlot 3 = .ok (.invokestatic 83, 3)) ∧ (decode cX8_isSlot 6 = .ok (.ireturn, 1)) ∧ True := dc_cj [(0, .iload_n 0, 1), (1, .iconst 0, 1), (2, .iconst 4, 1), (3, .invokestatic 83, 3), (6, .ireturn, 1)] (by decide +kernel)
theorem dX8_isSlot_0 : decode cX8_isSlot 0 = .ok (.iload_n 0, 1) := edX8_isSlot_0.1
theorem dX8_isSlot_1 : decode cX8_isSlot 1 = .ok (.iconst 0, 1) := edX8_isSlot_0.2.1
theorem dX8_isSlot_2 : decode cX8_isSlot 2 = .ok (.iconst 4, 1) := edX8_isSlot_0.2.2.1
theorem dX8_isSlot_3 : decode cX8_isSlot 3 = .ok (.invokestatic 83, 3) := edX8_isSlot_0.2.2.2.1
theorem dX8_isSlot_6 : decode cX8_isSlot 6 = .ok (.ireturn, 1) := edX8_isSlot_0.2.2.2.2.1
theorem edX8_sheet_0 : (decode cX8_sheet 0 = .ok (.iload_n 1, 1)) ∧ (decode cX8_sheet 1 = .ok (.invokestatic 184, 3)) ∧ (decode cX8_sheet 4 = .ok (.ifCond .eq 22, 3)) ∧ (decode cX8_sheet 7 = .ok (.iload_n 2, 1)) ∧ (decode cX8_sheet 8 = .ok (.iconst (-1), 1)) ∧ (decode cX8_sheet 9 = .ok (.iconst 1, 1)) ∧ (decode cX8_sheet 10 = .ok (.invokestatic 83, 3)) ∧ (decode cX8_sheet 13 = .ok (.ifCond .eq 13, 3)) ∧ (decode cX8_sheet 16 = .ok (.iload_n 2, 1)) ∧ (decode cX8_sheet 17 = .ok (.ifCond .lt 12, 3)) ∧ (decode cX8_sheet 20 = .ok (.iload_n 3, 1)) ∧ (decode cX8_sheet 21 = .ok (.bipush 24, 2)) ∧ (decode cX8_sheet 23 = .ok (.if_icmp .le 6, 3)) ∧ (decode cX8_sheet 26 = .ok (.ldc 91, 2)) ∧ (decode cX8_sheet 28 = .ok (.ireturn, 1)) ∧ (decode cX8_sheet 29 = .ok (.iload_n 2, 1)) ∧ (decode cX8_sheet 30 = .ok (.ifCond .lt 11, 3)) ∧ (decode cX8_sheet 33 = .ok (.iload_n 3, 1)) ∧ (decode cX8_sheet 34 = .ok (.ifCond .ge 7, 3)) ∧ (decode cX8_sheet 37 = .ok (.ldc_w 258, 3)) ∧ (decode cX8_sheet 40 = .ok (.ireturn, 1)) ∧ (decode cX8_sheet 41 = .ok (.aload_n 0, 1)) ∧ (decode cX8_sheet 42 = .ok (.getfield 55, 3)) ∧ (decode cX8_sheet 45 = .ok (.iload_n 1, 1)) ∧ (decode cX8_sheet 46 = .ok (.iload_n 2, 1)) ∧ (decode cX8_sheet 47 = .ok (.iastore, 1)) ∧ (decode cX8_sheet 48 = .ok (.aload_n 0, 1)) ∧ (decode cX8_sheet 49 = .ok (.getfield 58, 3)) ∧ (decode cX8_sheet 52 = .ok (.iload_n 1, 1)) ∧ (decode cX8_sheet 53 = .ok (.iload_n 2, 1)) ∧ (decode cX8_sheet 54 = .ok (.ifCond .ge 7, 3)) ∧ (decode cX8_sheet 57 = .ok (.iconst 0, 1)) ∧ True := dc_cj [(0, .iload_n 1, 1), (1, .invokestatic 184, 3), (4, .ifCond .eq 22, 3), (7, .iload_n 2, 1), (8, .iconst (-1), 1), (9, .iconst 1, 1), (10, .invokestatic 83, 3), (13, .ifCond .eq 13, 3), (16, .iload_n 2, 1), (17, .ifCond .lt 12, 3), (20, .iload_n 3, 1), (21, .bipush 24, 2), (23, .if_icmp .le 6, 3), (26, .ldc 91, 2), (28, .ireturn, 1), (29, .iload_n 2, 1), (30, .ifCond .lt 11, 3), (33, .iload_n 3, 1), (34, .ifCond .ge 7, 3), (37, .ldc_w 258, 3), (40, .ireturn, 1), (41, .aload_n 0, 1), (42, .getfield 55, 3), (45, .iload_n 1, 1), (46, .iload_n 2, 1), (47, .iastore, 1), (48, .aload_n 0, 1), (49, .getfield 58, 3), (52, .iload_n 1, 1), (53, .iload_n 2, 1), (54, .ifCond .ge 7, 3), (57, .iconst 0, 1)] (by decide +kernel)
theorem dX8_sheet_0 : decode cX8_sheet 0 = .ok (.iload_n 1, 1) := edX8_sheet_0.1
theorem dX8_sheet_1 : decode cX8_sheet 1 = .ok (.invokestatic 184, 3) := edX8_sheet_0.2.1
theorem dX8_sheet_4 : decode cX8_sheet 4 = .ok (.ifCond .eq 22, 3) := edX8_sheet_0.2.2.1
theorem dX8_sheet_7 : decode cX8_sheet 7 = .ok (.iload_n 2, 1) := edX8_sheet_0.2.2.2.1
theorem dX8_sheet_8 : decode cX8_sheet 8 = .ok (.iconst (-1), 1) := edX8_sheet_0.2.2.2.2.1
theorem dX8_sheet_9 : decode cX8_sheet 9 = .ok (.iconst 1, 1) := edX8_sheet_0.2.2.2.2.2.1
theorem dX8_sheet_10 : decode cX8_sheet 10 = .ok (.invokestatic 83, 3) := edX8_sheet_0.2.2.2.2.2.2.1
theorem dX8_sheet_13 : decode cX8_sheet 13 = .ok (.ifCond .eq 13, 3) := edX8_sheet_0.2.2.2.2.2.2.2.1
theorem dX8_sheet_16 : decode cX8_sheet 16 = .ok (.iload_n 2, 1) := edX8_sheet_0.2.2.2.2.2.2.2.2.1
theorem dX8_sheet_17 : decode cX8_sheet 17 = .ok (.ifCond .lt 12, 3) := edX8_sheet_0.2.2.2.2.2.2.2.2.2.1
theorem dX8_sheet_20 : decode cX8_sheet 20 = .ok (.iload_n 3, 1) := edX8_sheet_0.2.2.2.2.2.2.2.2.2.2.1
theorem dX8_sheet_21 : decode cX8_sheet 21 = .ok (.bipush 24, 2) := edX8_sheet_0.2.2.2.2.2.2.2.2.2.2.2.1
theorem dX8_sheet_23 : decode cX8_sheet 23 = .ok (.if_icmp .le 6, 3) := edX8_sheet_0.2.2.2.2.2.2.2.2.2.2.2.2.1
theorem dX8_sheet_26 : decode cX8_sheet 26 = .ok (.ldc 91, 2) := edX8_sheet_0.2.2.2.2.2.2.2.2.2.2.2.2.2.1
theorem dX8_sheet_28 : decode cX8_sheet 28 = .ok (.ireturn, 1) := edX8_sheet_0.2.2.2.2.2.2.2.2.2.2.2.2.2.2.1
theorem dX8_sheet_29 : decode cX8_sheet 29 = .ok (.iload_n 2, 1) := edX8_sheet_0.2.2.2.2.2.2.2.2.2.2.2.2.2.2.2.1
theorem dX8_sheet_30 : decode cX8_sheet 30 = .ok (.ifCond .lt 11, 3) := edX8_sheet_0.2.2.2.2.2.2.2.2.2.2.2.2.2.2.2.2.1
theorem dX8_sheet_33 : decode cX8_sheet 33 = .ok (.iload_n 3, 1) := edX8_sheet_0.2.2.2.2.2.2.2.2.2.2.2.2.2.2.2.2.2.1
theorem dX8_sheet_34 : decode cX8_sheet 34 = .ok (.ifCond .ge 7, 3) := edX8_sheet_0.2.2.2.2.2.2.2.2.2.2.2.2.2.2.2.2.2.2.1
theorem dX8_sheet_37 : decode cX8_sheet 37 = .ok (.ldc_w 258, 3) := edX8_sheet_0.2.2.2.2.2.2.2.2.2.2.2.2.2.2.2.2.2.2.2.1
theorem dX8_sheet_40 : decode cX8_sheet 40 = .ok (.ireturn, 1) := edX8_sheet_0.2.2.2.2.2.2.2.2.2.2.2.2.2.2.2.2.2.2.2.2.1
theorem dX8_sheet_41 : decode cX8_sheet 41 = .ok (.aload_n 0, 1) := edX8_sheet_0.2.2.2.2.2.2.2.2.2.2.2.2.2.2.2.2.2.2.2.2.2.1
theorem dX8_sheet_42 : decode cX8_sheet 42 = .ok (.getfield 55, 3) := edX8_sheet_0.2.2.2.2.2.2.2.2.2.2.2.2.2.2.2.2.2.2.2.2.2.2.1
theorem dX8_sheet_45 : decode cX8_sheet 45 = .ok (.iload_n 1, 1) := edX8_sheet_0.2.2.2.2.2.2.2.2.2.2.2.2.2.2.2.2.2.2.2.2.2.2.2.1
theorem dX8_sheet_46 : decode cX8_sheet 46 = .ok (.iload_n 2, 1) := edX8_sheet_0.2.2.2.2.2.2.2.2.2.2.2.2.2.2.2.2.2.2.2.2.2.2.2.2.1
theorem dX8_sheet_47 : decode cX8_sheet 47 = .ok (.iastore, 1) := edX8_sheet_0.2.2.2.2.2.2.2.2.2.2.2.2.2.2.2.2.2.2.2.2.2.2.2.2.2.1
theorem dX8_sheet_48 : decode cX8_sheet 48 = .ok (.aload_n 0, 1) := edX8_sheet_0.2.2.2.2.2.2.2.2.2.2.2.2.2.2.2.2.2.2.2.2.2.2.2.2.2.2.1
theorem dX8_sheet_49 : decode cX8_sheet 49 = .ok (.getfield 58, 3) := edX8_sheet_0.2.2.2.2.2.2.2.2.2.2.2.2.2.2.2.2.2.2.2.2.2.2.2.2.2.2.2.1
theorem dX8_sheet_52 : decode cX8_sheet 52 = .ok (.iload_n 1, 1) := edX8_sheet_0.2.2.2.2.2.2.2.2.2.2.2.2.2.2.2.2.2.2.2.2.2.2.2.2.2.2.2.2.1
theorem dX8_sheet_53 : decode cX8_sheet 53 = .ok (.iload_n 2, 1) := edX8_sheet_0.2.2.2.2.2.2.2.2.2.2.2.2.2.2.2.2.2.2.2.2.2.2.2.2.2.2.2.2.2.1
theorem dX8_sheet_54 : decode cX8_sheet 54 = .ok (.ifCond .ge 7, 3) := edX8_sheet_0.2.2.2.2.2.2.2.2.2.2.2.2.2.2.2.2.2.2.2.2.2.2.2.2.2.2.2.2.2.2.1
theorem dX8_sheet_57 : decode cX8_sheet 57 = .ok (.iconst 0, 1) := edX8_sheet_0.2.2.2.2.2.2.2.2.2.2.2.2.2.2.2.2.2.2.2.2.2.2.2.2.2.2.2.2.2.2.2.1
theorem edX8_sheet_58 : (decode cX8_sheet 58 = .ok (.goto 4, 3)) ∧ (decode cX8_sheet 61 = .ok (.iload_n 3, 1)) ∧ (decode cX8_sheet 62 = .ok (.iastore, 1)) ∧ (decode cX8_sheet 63 = .ok (.iconst 0, 1)) ∧ (decode cX8_sheet 64 = .ok (.istore 4, 2)) ∧ (decode cX8_sheet 66 = .ok (.iload 4, 2)) ∧ (decode cX8_sheet 68 = .ok (.bipush 24, 2)) ∧ (decode cX8_sheet 70 = .ok (.if_icmp .ge 22, 3)) ∧ (decode cX8_sheet 73 = .ok (.aload_n 0, 1)) ∧ (decode cX8_sheet 74 = .ok (.getfield 61, 3)) ∧ (decode cX8_sheet 77 = .ok (.bipush 24, 2)) ∧ (decode cX8_sheet 79 = .ok (.iload_n 1, 1)) ∧ (decode cX8_sheet 80 = .ok (.imul, 1)) ∧ (decode cX8_sheet 81 = .ok (.iload 4, 2)) ∧ (decode cX8_sheet 83 = .ok (.iadd, 1)) ∧ (decode cX8_sheet 84 = .ok (.iconst 0, 1)) ∧ (decode cX8_sheet 85 = .ok (.iastore, 1)) ∧ (decode cX8_sheet 86 = .ok (.iinc 4 1, 3)) ∧ (decode cX8_sheet 89 = .ok (.goto (-23), 3)) ∧ (decode cX8_sheet 92 = .ok (.aload_n 0, 1)) ∧ (decode cX8_sheet 93 = .ok (.getfield 58, 3)) ∧ (decode cX8_sheet 96 = .ok (.iload_n 1, 1)) ∧ (decode cX8_sheet 97 = .ok (.iaload, 1)) ∧ (decode cX8_sheet 98 = .ok (.ireturn, 1)) ∧ True := dc_cj [(58, .goto 4, 3), (61, .iload_n 3, 1), (62, .iastore, 1), (63, .iconst 0, 1), (64, .istore 4, 2), (66, .iload 4, 2), (68, .bipush 24, 2), (70, .if_icmp .ge 22, 3), (73, .aload_n 0, 1), (74, .getfield 61, 3), (77, .bipush 24, 2), (79, .iload_n 1, 1), (80, .imul, 1), (81, .iload 4, 2), (83, .iadd, 1), (84, .iconst 0, 1), (85, .iastore, 1), (86, .iinc 4 1, 3), (89, .goto (-23), 3), (92, .aload_n 0, 1), (93, .getfield 58, 3), (96, .iload_n 1, 1), (97, .iaload, 1), (98, .ireturn, 1)] (by decide +kernel)
theorem dX8_sheet_58 : decode cX8_sheet 58 = .ok (.goto 4, 3) := edX8_sheet_58.1
theorem dX8_sheet_61 : decode cX8_sheet 61 = .ok (.iload_n 3, 1) := edX8_sheet_58.2.1
theorem dX8_sheet_62 : decode cX8_sheet 62 = .ok (.iastore, 1) := edX8_sheet_58.2.2.1
theorem dX8_sheet_63 : decode cX8_sheet 63 = .ok (.iconst 0, 1) := edX8_sheet_58.2.2.2.1
theorem dX8_sheet_64 : decode cX8_sheet 64 = .ok (.istore 4, 2) := edX8_sheet_58.2.2.2.2.1
theorem dX8_sheet_66 : decode cX8_sheet 66 = .ok (.iload 4, 2) := edX8_sheet_58.2.2.2.2.2.1
theorem dX8_sheet_68 : decode cX8_sheet 68 = .ok (.bipush 24, 2) := edX8_sheet_58.2.2.2.2.2.2.1
theorem dX8_sheet_70 : decode cX8_sheet 70 = .ok (.if_icmp .ge 22, 3) := edX8_sheet_58.2.2.2.2.2.2.2.1
theorem dX8_sheet_73 : decode cX8_sheet 73 = .ok (.aload_n 0, 1) := edX8_sheet_58.2.2.2.2.2.2.2.2.1
theorem dX8_sheet_74 : decode cX8_sheet 74 = .ok (.getfield 61, 3) := edX8_sheet_58.2.2.2.2.2.2.2.2.2.1
theorem dX8_sheet_77 : decode cX8_sheet 77 = .ok (.bipush 24, 2) := edX8_sheet_58.2.2.2.2.2.2.2.2.2.2.1
theorem dX8_sheet_79 : decode cX8_sheet 79 = .ok (.iload_n 1, 1) := edX8_sheet_58.2.2.2.2.2.2.2.2.2.2.2.1
theorem dX8_sheet_80 : decode cX8_sheet 80 = .ok (.imul, 1) := edX8_sheet_58.2.2.2.2.2.2.2.2.2.2.2.2.1
theorem dX8_sheet_81 : decode cX8_sheet 81 = .ok (.iload 4, 2) := edX8_sheet_58.2.2.2.2.2.2.2.2.2.2.2.2.2.1
theorem dX8_sheet_83 : decode cX8_sheet 83 = .ok (.iadd, 1) := edX8_sheet_58.2.2.2.2.2.2.2.2.2.2.2.2.2.2.1
theorem dX8_sheet_84 : decode cX8_sheet 84 = .ok (.iconst 0, 1) := edX8_sheet_58.2.2.2.2.2.2.2.2.2.2.2.2.2.2.2.1
theorem dX8_sheet_85 : decode cX8_sheet 85 = .ok (.iastore, 1) := edX8_sheet_58.2.2.2.2.2.2.2.2.2.2.2.2.2.2.2.2.1
theorem dX8_sheet_86 : decode cX8_sheet 86 = .ok (.iinc 4 1, 3) := edX8_sheet_58.2.2.2.2.2.2.2.2.2.2.2.2.2.2.2.2.2.1
theorem dX8_sheet_89 : decode cX8_sheet 89 = .ok (.goto (-23), 3) := edX8_sheet_58.2.2.2.2.2.2.2.2.2.2.2.2.2.2.2.2.2.2.1
theorem dX8_sheet_92 : decode cX8_sheet 92 = .ok (.aload_n 0, 1) := edX8_sheet_58.2.2.2.2.2.2.2.2.2.2.2.2.2.2.2.2.2.2.2.1
theorem dX8_sheet_93 : decode cX8_sheet 93 = .ok (.getfield 58, 3) := edX8_sheet_58.2.2.2.2.2.2.2.2.2.2.2.2.2.2.2.2.2.2.2.2.1
theorem dX8_sheet_96 : decode cX8_sheet 96 = .ok (.iload_n 1, 1) := edX8_sheet_58.2.2.2.2.2.2.2.2.2.2.2.2.2.2.2.2.2.2.2.2.2.1
theorem dX8_sheet_97 : decode cX8_sheet 97 = .ok (.iaload, 1) := edX8_sheet_58.2.2.2.2.2.2.2.2.2.2.2.2.2.2.2.2.2.2.2.2.2.2.1
theorem dX8_sheet_98 : decode cX8_sheet 98 = .ok (.ireturn, 1) := edX8_sheet_58.2.2.2.2.2.2.2.2.2.2.2.2.2.2.2.2.2.2.2.2.2.2.2.1
theorem edX8_mark_0 : (decode cX8_mark 0 = .ok (.iload_n 1, 1)) ∧ (decode cX8_mark 1 = .ok (.invokestatic 184, 3)) ∧ (decode cX8_mark 4 = .ok (.ifCond .ne 6, 3)) ∧ (decode cX8_mark 7 = .ok (.ldc 91, 2)) ∧ (decode cX8_mark 9 = .ok (.ireturn, 1)) ∧ (decode cX8_mark 10 = .ok (.aload_n 0, 1)) ∧ (decode cX8_mark 11 = .ok (.getfield 55, 3)) ∧ (decode cX8_mark 14 = .ok (.iload_n 1, 1)) ∧ (decode cX8_mark 15 = .ok (.iaload, 1)) ∧ (decode cX8_mark 16 = .ok (.ifCond .ge 6, 3)) ∧ (decode cX8_mark 19 = .ok (.ldc 187, 2)) ∧ (decode cX8_mark 21 = .ok (.ireturn, 1)) ∧ (decode cX8_mark 22 = .ok (.iload_n 2, 1)) ∧ (decode cX8_mark 23 = .ok (.iconst 0, 1)) ∧ (decode cX8_mark 24 = .ok (.aload_n 0, 1)) ∧ (decode cX8_mark 25 = .ok (.getfield 58, 3)) ∧ (decode cX8_mark 28 = .ok (.iload_n 1, 1)) ∧ (decode cX8_mark 29 = .ok (.iaload, 1)) ∧ (decode cX8_mark 30 = .ok (.iconst 1, 1)) ∧ (decode cX8_mark 31 = .ok (.isub, 1)) ∧ (decode cX8_mark 32 = .ok (.invokestatic 83, 3)) ∧ (decode cX8_mark 35 = .ok (.ifCond .ne 7, 3)) ∧ (decode cX8_mark 38 = .ok (.ldc_w 259, 3)) ∧ (decode cX8_mark 41 = .ok (.ireturn, 1)) ∧ (decode cX8_mark 42 = .ok (.aload_n 0, 1)) ∧ (decode cX8_mark 43 = .ok (.getfield 55, 3)) ∧ (decode cX8_mark 46 = .ok (.iload_n 1, 1)) ∧ (decode cX8_mark 47 = .ok (.iaload, 1)) ∧ (decode cX8_mark 48 = .ok (.ifCond .ne 12, 3)) ∧ (decode cX8_mark 51 = .ok (.iload_n 3, 1)) ∧ (decode cX8_mark 52 = .ok (.ldc 82, 2)) ∧ (decode cX8_mark 54 = .ok (.if_icmp .ne 6, 3)) ∧ True := dc_cj [(0, .iload_n 1, 1), (1, .invokestatic 184, 3), (4, .ifCond .ne 6, 3), (7, .ldc 91, 2), (9, .ireturn, 1), (10, .aload_n 0, 1), (11, .getfield 55, 3), (14, .iload_n 1, 1), (15, .iaload, 1), (16, .ifCond .ge 6, 3), (19, .ldc 187, 2), (21, .ireturn, 1), (22, .iload_n 2, 1), (23, .iconst 0, 1), (24, .aload_n 0, 1), (25, .getfield 58, 3), (28, .iload_n 1, 1), (29, .iaload, 1), (30, .iconst 1, 1), (31, .isub, 1), (32, .invokestatic 83, 3), (35, .ifCond .ne 7, 3), (38, .ldc_w 259, 3), (41, .ireturn, 1), (42, .aload_n 0, 1), (43, .getfield 55, 3), (46, .iload_n 1, 1), (47, .iaload, 1), (48, .ifCond .ne 12, 3), (51, .iload_n 3, 1), (52, .ldc 82, 2), (54, .if_icmp .ne 6, 3)] (by decide +kernel)
theorem dX8_mark_0 : decode cX8_mark 0 = .ok (.iload_n 1, 1) := edX8_mark_0.1
theorem dX8_mark_1 : decode cX8_mark 1 = .ok (.invokestatic 184, 3) := edX8_mark_0.2.1
theorem dX8_mark_4 : decode cX8_mark 4 = .ok (.ifCond .ne 6, 3) := edX8_mark_0.2.2.1
theorem dX8_mark_7 : decode cX8_mark 7 = .ok (.ldc 91, 2) := edX8_mark_0.2.2.2.1
theorem dX8_mark_9 : decode cX8_mark 9 = .ok (.ireturn, 1) := edX8_mark_0.2.2.2.2.1
theorem dX8_mark_10 : decode cX8_mark 10 = .ok (.aload_n 0, 1) := edX8_mark_0.2.2.2.2.2.1
theorem dX8_mark_11 : decode cX8_mark 11 = .ok (.getfield 55, 3) := edX8_mark_0.2.2.2.2.2.2.1
theorem dX8_mark_14 : decode cX8_mark 14 = .ok (.iload_n 1, 1) := edX8_mark_0.2.2.2.2.2.2.2.1
theorem dX8_mark_15 : decode cX8_mark 15 = .ok (.iaload, 1) := edX8_mark_0.2.2.2.2.2.2.2.2.1
theorem dX8_mark_16 : decode cX8_mark 16 = .ok (.ifCond .ge 6, 3) := edX8_mark_0.2.2.2.2.2.2.2.2.2.1
theorem dX8_mark_19 : decode cX8_mark 19 = .ok (.ldc 187, 2) := edX8_mark_0.2.2.2.2.2.2.2.2.2.2.1
theorem dX8_mark_21 : decode cX8_mark 21 = .ok (.ireturn, 1) := edX8_mark_0.2.2.2.2.2.2.2.2.2.2.2.1
theorem dX8_mark_22 : decode cX8_mark 22 = .ok (.iload_n 2, 1) := edX8_mark_0.2.2.2.2.2.2.2.2.2.2.2.2.1
theorem dX8_mark_23 : decode cX8_mark 23 = .ok (.iconst 0, 1) := edX8_mark_0.2.2.2.2.2.2.2.2.2.2.2.2.2.1
theorem dX8_mark_24 : decode cX8_mark 24 = .ok (.aload_n 0, 1) := edX8_mark_0.2.2.2.2.2.2.2.2.2.2.2.2.2.2.1
theorem dX8_mark_25 : decode cX8_mark 25 = .ok (.getfield 58, 3) := edX8_mark_0.2.2.2.2.2.2.2.2.2.2.2.2.2.2.2.1
theorem dX8_mark_28 : decode cX8_mark 28 = .ok (.iload_n 1, 1) := edX8_mark_0.2.2.2.2.2.2.2.2.2.2.2.2.2.2.2.2.1
theorem dX8_mark_29 : decode cX8_mark 29 = .ok (.iaload, 1) := edX8_mark_0.2.2.2.2.2.2.2.2.2.2.2.2.2.2.2.2.2.1
theorem dX8_mark_30 : decode cX8_mark 30 = .ok (.iconst 1, 1) := edX8_mark_0.2.2.2.2.2.2.2.2.2.2.2.2.2.2.2.2.2.2.1
theorem dX8_mark_31 : decode cX8_mark 31 = .ok (.isub, 1) := edX8_mark_0.2.2.2.2.2.2.2.2.2.2.2.2.2.2.2.2.2.2.2.1
theorem dX8_mark_32 : decode cX8_mark 32 = .ok (.invokestatic 83, 3) := edX8_mark_0.2.2.2.2.2.2.2.2.2.2.2.2.2.2.2.2.2.2.2.2.1
theorem dX8_mark_35 : decode cX8_mark 35 = .ok (.ifCond .ne 7, 3) := edX8_mark_0.2.2.2.2.2.2.2.2.2.2.2.2.2.2.2.2.2.2.2.2.2.1
theorem dX8_mark_38 : decode cX8_mark 38 = .ok (.ldc_w 259, 3) := edX8_mark_0.2.2.2.2.2.2.2.2.2.2.2.2.2.2.2.2.2.2.2.2.2.2.1
theorem dX8_mark_41 : decode cX8_mark 41 = .ok (.ireturn, 1) := edX8_mark_0.2.2.2.2.2.2.2.2.2.2.2.2.2.2.2.2.2.2.2.2.2.2.2.1
theorem dX8_mark_42 : decode cX8_mark 42 = .ok (.aload_n 0, 1) := edX8_mark_0.2.2.2.2.2.2.2.2.2.2.2.2.2.2.2.2.2.2.2.2.2.2.2.2.1
theorem dX8_mark_43 : decode cX8_mark 43 = .ok (.getfield 55, 3) := edX8_mark_0.2.2.2.2.2.2.2.2.2.2.2.2.2.2.2.2.2.2.2.2.2.2.2.2.2.1
theorem dX8_mark_46 : decode cX8_mark 46 = .ok (.iload_n 1, 1) := edX8_mark_0.2.2.2.2.2.2.2.2.2.2.2.2.2.2.2.2.2.2.2.2.2.2.2.2.2.2.1
theorem dX8_mark_47 : decode cX8_mark 47 = .ok (.iaload, 1) := edX8_mark_0.2.2.2.2.2.2.2.2.2.2.2.2.2.2.2.2.2.2.2.2.2.2.2.2.2.2.2.1
theorem dX8_mark_48 : decode cX8_mark 48 = .ok (.ifCond .ne 12, 3) := edX8_mark_0.2.2.2.2.2.2.2.2.2.2.2.2.2.2.2.2.2.2.2.2.2.2.2.2.2.2.2.2.1
theorem dX8_mark_51 : decode cX8_mark 51 = .ok (.iload_n 3, 1) := edX8_mark_0.2.2.2.2.2.2.2.2.2.2.2.2.2.2.2.2.2.2.2.2.2.2.2.2.2.2.2.2.2.1
theorem dX8_mark_52 : decode cX8_mark 52 = .ok (.ldc 82, 2) := edX8_mark_0.2.2.2.2.2.2.2.2.2.2.2.2.2.2.2.2.2.2.2.2.2.2.2.2.2.2.2.2.2.2.1
theorem dX8_mark_54 : decode cX8_mark 54 = .ok (.if_icmp .ne 6, 3) := edX8_mark_0.2.2.2.2.2.2.2.2.2.2.2.2.2.2.2.2.2.2.2.2.2.2.2.2.2.2.2.2.2.2.2.1
theorem edX8_mark_57 : (decode cX8_mark 57 = .ok (.ldc 134, 2)) ∧ (decode cX8_mark 59 = .ok (.ireturn, 1)) ∧ (decode cX8_mark 60 = .ok (.aload_n 0, 1)) ∧ (decode cX8_mark 61 = .ok (.getfield 55, 3)) ∧ (decode cX8_mark 64 = .ok (.iload_n 1, 1)) ∧ (decode cX8_mark 65 = .ok (.iaload, 1)) ∧ (decode cX8_mark 66 = .ok (.iconst 1, 1)) ∧ (decode cX8_mark 67 = .ok (.if_icmp .ne 25, 3)) ∧ (decode cX8_mark 70 = .ok (.iload_n 3, 1)) ∧ (decode cX8_mark 71 = .ok (.ldc 82, 2)) ∧ (decode cX8_mark 73 = .ok (.if_icmp .eq 19, 3)) ∧ (decode cX8_mark 76 = .ok (.iload_n 3, 1)) ∧ (decode cX8_mark 77 = .ok (.ldc_w 260, 3)) ∧ (decode cX8_mark 80 = .ok (.ldc_w 261, 3)) ∧ (decode cX8_mark 83 = .ok (.invokestatic 83, 3)) ∧ (decode cX8_mark 86 = .ok (.ifCond .ne 6, 3)) ∧ (decode cX8_mark 89 = .ok (.ldc 91, 2)) ∧ (decode cX8_mark 91 = .ok (.ireturn, 1)) ∧ (decode cX8_mark 92 = .ok (.aload_n 0, 1)) ∧ (decode cX8_mark 93 = .ok (.getfield 61, 3)) ∧ (decode cX8_mark 96 = .ok (.bipush 24, 2)) ∧ (decode cX8_mark 98 = .ok (.iload_n 1, 1)) ∧ (decode cX8_mark 99 = .ok (.imul, 1)) ∧ (decode cX8_mark 100 = .ok (.iload_n 2, 1)) ∧ (decode cX8_mark 101 = .ok (.iadd, 1)) ∧ (decode cX8_mark 102 = .ok (.aload_n 0, 1)) ∧ (decode cX8_mark 103 = .ok (.getfield 55, 3)) ∧ (decode cX8_mark 106 = .ok (.iload_n 1, 1)) ∧ (decode cX8_mark 107 = .ok (.iaload, 1)) ∧ (decode cX8_mark 108 = .ok (.ifCond .ne 8, 3)) ∧ (decode cX8_mark 111 = .ok (.iload_n 3, 1)) ∧ (decode cX8_mark 112 = .ok (.i2s, 1)) ∧ True := dc_cj [(57, .ldc 134, 2), (59, .ireturn, 1), (60, .aload_n 0, 1), (61, .getfield 55, 3), (64, .iload_n 1, 1), (65, .iaload, 1), (66, .iconst 1, 1), (67, .if_icmp .ne 25, 3), (70, .iload_n 3, 1), (71, .ldc 82, 2), (73, .if_icmp .eq 19, 3), (76, .iload_n 3, 1), (77, .ldc_w 260, 3), (80, .ldc_w 261, 3), (83, .invokestatic 83, 3), (86, .ifCond .ne 6, 3), (89, .ldc 91, 2), (91, .ireturn, 1), (92, .aload_n 0, 1), (93, .getfield 61, 3), (96, .bipush 24, 2), (98, .iload_n 1, 1), (99, .imul, 1), (100, .iload_n 2, 1), (101, .iadd, 1), (102, .aload_n 0, 1), (103, .getfield 55, 3), (106, .iload_n 1, 1), (107, .iaload, 1), (108, .ifCond .ne 8, 3), (111, .iload_n 3, 1), (112, .i2s, 1)] (by decide +kernel)
theorem dX8_mark_57 : decode cX8_mark 57 = .ok (.ldc 134, 2) := edX8_mark_57.1
theorem dX8_mark_59 : decode cX8_mark 59 = .ok (.ireturn, 1) := edX8_mark_57.2.1
theorem dX8_mark_60 : decode cX8_mark 60 = .ok (.aload_n 0, 1) := edX8_mark_57.2.2.1
theorem dX8_mark_61 : decode cX8_mark 61 = .ok (.getfield 55, 3) := edX8_mark_57.2.2.2.1
theorem dX8_mark_64 : decode cX8_mark 64 = .ok (.iload_n 1, 1) := edX8_mark_57.2.2.2.2.1
theorem dX8_mark_65 : decode cX8_mark 65 = .ok (.iaload, 1) := edX8_mark_57.2.2.2.2.2.1
theorem dX8_mark_66 : decode cX8_mark 66 = .ok (.iconst 1, 1) := edX8_mark_57.2.2.2.2.2.2.1
theorem dX8_mark_67 : decode cX8_mark 67 = .ok (.if_icmp .ne 25, 3) := edX8_mark_57.2.2.2.2.2.2.2.1
theorem dX8_mark_70 : decode cX8_mark 70 = .ok (.iload_n 3, 1) := edX8_mark_57.2.2.2.2.2.2.2.2.1
theorem dX8_mark_71 : decode cX8_mark 71 = .ok (.ldc 82, 2) := edX8_mark_57.2.2.2.2.2.2.2.2.2.1
theorem dX8_mark_73 : decode cX8_mark 73 = .ok (.if_icmp .eq 19, 3) := edX8_mark_57.2.2.2.2.2.2.2.2.2.2.1
theorem dX8_mark_76 : decode cX8_mark 76 = .ok (.iload_n 3, 1) := edX8_mark_57.2.2.2.2.2.2.2.2.2.2.2.1
theorem dX8_mark_77 : decode cX8_mark 77 = .ok (.ldc_w 260, 3) := edX8_mark_57.2.2.2.2.2.2.2.2.2.2.2.2.1
theorem dX8_mark_80 : decode cX8_mark 80 = .ok (.ldc_w 261, 3) := edX8_mark_57.2.2.2.2.2.2.2.2.2.2.2.2.2.1
theorem dX8_mark_83 : decode cX8_mark 83 = .ok (.invokestatic 83, 3) := edX8_mark_57.2.2.2.2.2.2.2.2.2.2.2.2.2.2.1
theorem dX8_mark_86 : decode cX8_mark 86 = .ok (.ifCond .ne 6, 3) := edX8_mark_57.2.2.2.2.2.2.2.2.2.2.2.2.2.2.2.1
theorem dX8_mark_89 : decode cX8_mark 89 = .ok (.ldc 91, 2) := edX8_mark_57.2.2.2.2.2.2.2.2.2.2.2.2.2.2.2.2.1
theorem dX8_mark_91 : decode cX8_mark 91 = .ok (.ireturn, 1) := edX8_mark_57.2.2.2.2.2.2.2.2.2.2.2.2.2.2.2.2.2.1
theorem dX8_mark_92 : decode cX8_mark 92 = .ok (.aload_n 0, 1) := edX8_mark_57.2.2.2.2.2.2.2.2.2.2.2.2.2.2.2.2.2.2.1
theorem dX8_mark_93 : decode cX8_mark 93 = .ok (.getfield 61, 3) := edX8_mark_57.2.2.2.2.2.2.2.2.2.2.2.2.2.2.2.2.2.2.2.1
theorem dX8_mark_96 : decode cX8_mark 96 = .ok (.bipush 24, 2) := edX8_mark_57.2.2.2.2.2.2.2.2.2.2.2.2.2.2.2.2.2.2.2.2.1
theorem dX8_mark_98 : decode cX8_mark 98 = .ok (.iload_n 1, 1) := edX8_mark_57.2.2.2.2.2.2.2.2.2.2.2.2.2.2.2.2.2.2.2.2.2.1
theorem dX8_mark_99 : decode cX8_mark 99 = .ok (.imul, 1) := edX8_mark_57.2.2.2.2.2.2.2.2.2.2.2.2.2.2.2.2.2.2.2.2.2.2.1
theorem dX8_mark_100 : decode cX8_mark 100 = .ok (.iload_n 2, 1) := edX8_mark_57.2.2.2.2.2.2.2.2.2.2.2.2.2.2.2.2.2.2.2.2.2.2.2.1
theorem dX8_mark_101 : decode cX8_mark 101 = .ok (.iadd, 1) := edX8_mark_57.2.2.2.2.2.2.2.2.2.2.2.2.2.2.2.2.2.2.2.2.2.2.2.2.1
theorem dX8_mark_102 : decode cX8_mark 102 = .ok (.aload_n 0, 1) := edX8_mark_57.2.2.2.2.2.2.2.2.2.2.2.2.2.2.2.2.2.2.2.2.2.2.2.2.2.1
theorem dX8_mark_103 : decode cX8_mark 103 = .ok (.getfield 55, 3) := edX8_mark_57.2.2.2.2.2.2.2.2.2.2.2.2.2.2.2.2.2.2.2.2.2.2.2.2.2.2.1
theorem dX8_mark_106 : decode cX8_mark 106 = .ok (.iload_n 1, 1) := edX8_mark_57.2.2.2.2.2.2.2.2.2.2.2.2.2.2.2.2.2.2.2.2.2.2.2.2.2.2.2.1
theorem dX8_mark_107 : decode cX8_mark 107 = .ok (.iaload, 1) := edX8_mark_57.2.2.2.2.2.2.2.2.2.2.2.2.2.2.2.2.2.2.2.2.2.2.2.2.2.2.2.2.1
theorem dX8_mark_108 : decode cX8_mark 108 = .ok (.ifCond .ne 8, 3) := edX8_mark_57.2.2.2.2.2.2.2.2.2.2.2.2.2.2.2.2.2.2.2.2.2.2.2.2.2.2.2.2.2.1
theorem dX8_mark_111 : decode cX8_mark 111 = .ok (.iload_n 3, 1) := edX8_mark_57.2.2.2.2.2.2.2.2.2.2.2.2.2.2.2.2.2.2.2.2.2.2.2.2.2.2.2.2.2.2.1
theorem dX8_mark_112 : decode cX8_mark 112 = .ok (.i2s, 1) := edX8_mark_57.2.2.2.2.2.2.2.2.2.2.2.2.2.2.2.2.2.2.2.2.2.2.2.2.2.2.2.2.2.2.2.1
theorem edX8_mark_113 : (decode cX8_mark 113 = .ok (.goto 4, 3)) ∧ (decode cX8_mark 116 = .ok (.iload_n 3, 1)) ∧ (decode cX8_mark 117 = .ok (.iastore, 1)) ∧ (decode cX8_mark 118 = .ok (.iconst 1, 1)) ∧ (decode cX8_mark 119 = .ok (.ireturn, 1)) ∧ True := dc_cj [(113, .goto 4, 3), (116, .iload_n 3, 1), (117, .iastore, 1), (118, .iconst 1, 1), (119, .ireturn, 1)] (by decide +kernel)
theorem dX8_mark_113 : decode cX8_mark 113 = .ok (.goto 4, 3) := edX8_mark_113.1
theorem dX8_mark_116 : decode cX8_mark 116 = .ok (.iload_n 3, 1) := edX8_mark_113.2.1
theorem dX8_mark_117 : decode cX8_mark 117 = .ok (.iastore, 1) := edX8_mark_113.2.2.1
theorem dX8_mark_118 : decode cX8_mark 118 = .ok (.iconst 1, 1) := edX8_mark_113.2.2.2.1
theorem dX8_mark_119 : decode cX8_mark 119 = .ok (.ireturn, 1) := edX8_mark_113.2.2.2.2.1
theorem edX8_pour_0 : (decode cX8_pour 0 = .ok (.iload_n 1, 1)) ∧ (decode cX8_pour 1 = .ok (.invokestatic 184, 3)) ∧ (decode cX8_pour 4 = .ok (.ifCond .ne 6, 3)) ∧ (decode cX8_pour 7 = .ok (.ldc 91, 2)) ∧ (decode cX8_pour 9 = .ok (.ireturn, 1)) ∧ (decode cX8_pour 10 = .ok (.aload_n 0, 1)) ∧ (decode cX8_pour 11 = .ok (.getfield 55, 3)) ∧ (decode cX8_pour 14 = .ok (.iload_n 1, 1)) ∧ (decode cX8_pour 15 = .ok (.iaload, 1)) ∧ (decode cX8_pour 16 = .ok (.ifCond .ge 6, 3)) ∧ (decode cX8_pour 19 = .ok (.ldc 187, 2)) ∧ (decode cX8_pour 21 = .ok (.ireturn, 1)) ∧ (decode cX8_pour 22 = .ok (.iconst 0, 1)) ∧ (decode cX8_pour 23 = .ok (.istore_n 2, 1)) ∧ (decode cX8_pour 24 = .ok (.iconst 0, 1)) ∧ (decode cX8_pour 25 = .ok (.istore_n 3, 1)) ∧ (decode cX8_pour 26 = .ok (.iload_n 3, 1)) ∧ (decode cX8_pour 27 = .ok (.aload_n 0, 1)) ∧ (decode cX8_pour 28 = .ok (.getfield 58, 3)) ∧ (decode cX8_pour 31 = .ok (.iload_n 1, 1)) ∧ (decode cX8_pour 32 = .ok (.iaload, 1)) ∧ (decode cX8_pour 33 = .ok (.if_icmp .ge 79, 3)) ∧ (decode cX8_pour 36 = .ok (.iload_n 3, 1)) ∧ (decode cX8_pour 37 = .ok (.iconst 4, 1)) ∧ (decode cX8_pour 38 = .ok (.if_icmp .ge 74, 3)) ∧ (decode cX8_pour 41 = .ok (.aload_n 0, 1)) ∧ (decode cX8_pour 42 = .ok (.getfield 61, 3)) ∧ (decode cX8_pour 45 = .ok (.bipush 24, 2)) ∧ (decode cX8_pour 47 = .ok (.iload_n 1, 1)) ∧ (decode cX8_pour 48 = .ok (.imul, 1)) ∧ (decode cX8_pour 49 = .ok (.iload_n 3, 1)) ∧ (decode cX8_pour 50 = .ok (.iadd, 1)) ∧ True := dc_cj [(0, .iload_n 1, 1), (1, .invokestatic 184, 3), (4, .ifCond .ne 6, 3), (7, .ldc 91, 2), (9, .ireturn, 1), (10, .aload_n 0, 1), (11, .getfield 55, 3), (14, .iload_n 1, 1), (15, .iaload, 1), (16, .ifCond .ge 6, 3), (19, .ldc 187, 2), (21, .ireturn, 1), (22, .iconst 0, 1), (23, .istore_n 2, 1), (24, .iconst 0, 1), (25, .istore_n 3, 1), (26, .iload_n 3, 1), (27, .aload_n 0, 1), (28, .getfield 58, 3), (31, .iload_n 1, 1), (32, .iaload, 1), (33, .if_icmp .ge 79, 3), (36, .iload_n 3, 1), (37, .iconst 4, 1), (38, .if_icmp .ge 74, 3), (41, .aload_n 0, 1), (42, .getfield 61, 3), (45, .bipush 24, 2), (47, .iload_n 1, 1), (48, .imul, 1), (49, .iload_n 3, 1), (50, .iadd, 1)] (by decide +kernel)
theorem dX8_pour_0 : decode cX8_pour 0 = .ok (.iload_n 1, 1) := edX8_pour_0.1
theorem dX8_pour_1 : decode cX8_pour 1 = .ok (.invokestatic 184, 3) := edX8_pour_0.2.1
theorem dX8_pour_4 : decode cX8_pour 4 = .ok (.ifCond .ne 6, 3) := edX8_pour_0.2.2.1
theorem dX8_pour_7 : decode cX8_pour 7 = .ok (.ldc 91, 2) := edX8_pour_0.2.2.2.1
theorem dX8_pour_9 : decode cX8_pour 9 = .ok (.ireturn, 1) := edX8_pour_0.2.2.2.2.1
theorem dX8_pour_10 : decode cX8_pour 10 = .ok (.aload_n 0, 1) := edX8_pour_0.2.2.2.2.2.1
theorem dX8_pour_11 : decode cX8_pour 11 = .ok (.getfield 55, 3) := edX8_pour_0.2.2.2.2.2.2.1
theorem dX8_pour_14 : decode cX8_pour 14 = .ok (.iload_n 1, 1) := edX8_pour_0.2.2.2.2.2.2.2.1
theorem dX8_pour_15 : decode cX8_pour 15 = .ok (.iaload, 1) := edX8_pour_0.2.2.2.2.2.2.2.2.1
theorem dX8_pour_16 : decode cX8_pour 16 = .ok (.ifCond .ge 6, 3) := edX8_pour_0.2.2.2.2.2.2.2.2.2.1
theorem dX8_pour_19 : decode cX8_pour 19 = .ok (.ldc 187, 2) := edX8_pour_0.2.2.2.2.2.2.2.2.2.2.1
theorem dX8_pour_21 : decode cX8_pour 21 = .ok (.ireturn, 1) := edX8_pour_0.2.2.2.2.2.2.2.2.2.2.2.1
theorem dX8_pour_22 : decode cX8_pour 22 = .ok (.iconst 0, 1) := edX8_pour_0.2.2.2.2.2.2.2.2.2.2.2.2.1
theorem dX8_pour_23 : decode cX8_pour 23 = .ok (.istore_n 2, 1) := edX8_pour_0.2.2.2.2.2.2.2.2.2.2.2.2.2.1
theorem dX8_pour_24 : decode cX8_pour 24 = .ok (.iconst 0, 1) := edX8_pour_0.2.2.2.2.2.2.2.2.2.2.2.2.2.2.1
theorem dX8_pour_25 : decode cX8_pour 25 = .ok (.istore_n 3, 1) := edX8_pour_0.2.2.2.2.2.2.2.2.2.2.2.2.2.2.2.1
theorem dX8_pour_26 : decode cX8_pour 26 = .ok (.iload_n 3, 1) := edX8_pour_0.2.2.2.2.2.2.2.2.2.2.2.2.2.2.2.2.1
theorem dX8_pour_27 : decode cX8_pour 27 = .ok (.aload_n 0, 1) := edX8_pour_0.2.2.2.2.2.2.2.2.2.2.2.2.2.2.2.2.2.1
theorem dX8_pour_28 : decode cX8_pour 28 = .ok (.getfield 58, 3) := edX8_pour_0.2.2.2.2.2.2.2.2.2.2.2.2.2.2.2.2.2.2.1
theorem dX8_pour_31 : decode cX8_pour 31 = .ok (.iload_n 1, 1) := edX8_pour_0.2.2.2.2.2.2.2.2.2.2.2.2.2.2.2.2.2.2.2.1
theorem dX8_pour_32 : decode cX8_pour 32 = .ok (.iaload, 1) := edX8_pour_0.2.2.2.2.2.2.2.2.2.2.2.2.2.2.2.2.2.2.2.2.1
theorem dX8_pour_33 : decode cX8_pour 33 = .ok (.if_icmp .ge 79, 3) := edX8_pour_0.2.2.2.2.2.2.2.2.2.2.2.2.2.2.2.2.2.2.2.2.2.1
theorem dX8_pour_36 : decode cX8_pour 36 = .ok (.iload_n 3, 1) := edX8_pour_0.2.2.2.2.2.2.2.2.2.2.2.2.2.2.2.2.2.2.2.2.2.2.1
theorem dX8_pour_37 : decode cX8_pour 37 = .ok (.iconst 4, 1) := edX8_pour_0.2.2.2.2.2.2.2.2.2.2.2.2.2.2.2.2.2.2.2.2.2.2.2.1
theorem dX8_pour_38 : decode cX8_pour 38 = .ok (.if_icmp .ge 74, 3) := edX8_pour_0.2.2.2.2.2.2.2.2.2.2.2.2.2.2.2.2.2.2.2.2.2.2.2.2.1
theorem dX8_pour_41 : decode cX8_pour 41 = .ok (.aload_n 0, 1) := edX8_pour_0.2.2.2.2.2.2.2.2.2.2.2.2.2.2.2.2.2.2.2.2.2.2.2.2.2.1
theorem dX8_pour_42 : decode cX8_pour 42 = .ok (.getfield 61, 3) := edX8_pour_0.2.2.2.2.2.2.2.2.2.2.2.2.2.2.2.2.2.2.2.2.2.2.2.2.2.2.1
theorem dX8_pour_45 : decode cX8_pour 45 = .ok (.bipush 24, 2) := edX8_pour_0.2.2.2.2.2.2.2.2.2.2.2.2.2.2.2.2.2.2.2.2.2.2.2.2.2.2.2.1
theorem dX8_pour_47 : decode cX8_pour 47 = .ok (.iload_n 1, 1) := edX8_pour_0.2.2.2.2.2.2.2.2.2.2.2.2.2.2.2.2.2.2.2.2.2.2.2.2.2.2.2.2.1
theorem dX8_pour_48 : decode cX8_pour 48 = .ok (.imul, 1) := edX8_pour_0.2.2.2.2.2.2.2.2.2.2.2.2.2.2.2.2.2.2.2.2.2.2.2.2.2.2.2.2.2.1
theorem dX8_pour_49 : decode cX8_pour 49 = .ok (.iload_n 3, 1) := edX8_pour_0.2.2.2.2.2.2.2.2.2.2.2.2.2.2.2.2.2.2.2.2.2.2.2.2.2.2.2.2.2.2.1
theorem dX8_pour_50 : decode cX8_pour 50 = .ok (.iadd, 1) := edX8_pour_0.2.2.2.2.2.2.2.2.2.2.2.2.2.2.2.2.2.2.2.2.2.2.2.2.2.2.2.2.2.2.2.1
theorem edX8_pour_51 : (decode cX8_pour 51 = .ok (.iaload, 1)) ∧ (decode cX8_pour 52 = .ok (.istore 4, 2)) ∧ (decode cX8_pour 54 = .ok (.iload 4, 2)) ∧ (decode cX8_pour 56 = .ok (.ldc 82, 2)) ∧ (decode cX8_pour 58 = .ok (.if_icmp .ne 15, 3)) ∧ (decode cX8_pour 61 = .ok (.aload_n 0, 1)) ∧ (decode cX8_pour 62 = .ok (.getfield 9, 3)) ∧ (decode cX8_pour 65 = .ok (.bipush 8, 2)) ∧ (decode cX8_pour 67 = .ok (.iload_n 3, 1)) ∧ (decode cX8_pour 68 = .ok (.iadd, 1)) ∧ (decode cX8_pour 69 = .ok (.iaload, 1)) ∧ (decode cX8_pour 70 = .ok (.goto 11, 3)) ∧ (decode cX8_pour 73 = .ok (.iload 4, 2)) ∧ (decode cX8_pour 75 = .ok (.iconst 0, 1)) ∧ (decode cX8_pour 76 = .ok (.bipush 9, 2)) ∧ (decode cX8_pour 78 = .ok (.invokestatic 108, 3)) ∧ (decode cX8_pour 81 = .ok (.istore 5, 2)) ∧ (decode cX8_pour 83 = .ok (.iload_n 2, 1)) ∧ (decode cX8_pour 84 = .ok (.aload_n 0, 1)) ∧ (decode cX8_pour 85 = .ok (.bipush 8, 2)) ∧ (decode cX8_pour 87 = .ok (.iload_n 3, 1)) ∧ (decode cX8_pour 88 = .ok (.iadd, 1)) ∧ (decode cX8_pour 89 = .ok (.iload 5, 2)) ∧ (decode cX8_pour 91 = .ok (.invokevirtual 135, 3)) ∧ (decode cX8_pour 94 = .ok (.iload 5, 2)) ∧ (decode cX8_pour 96 = .ok (.if_icmp .ne 7, 3)) ∧ (decode cX8_pour 99 = .ok (.iconst 0, 1)) ∧ (decode cX8_pour 100 = .ok (.goto 4, 3)) ∧ (decode cX8_pour 103 = .ok (.iconst 1, 1)) ∧ (decode cX8_pour 104 = .ok (.iadd, 1)) ∧ (decode cX8_pour 105 = .ok (.istore_n 2, 1)) ∧ (decode cX8_pour 106 = .ok (.iinc 3 1, 3)) ∧ True := dc_cj [(51, .iaload, 1), (52, .istore 4, 2), (54, .iload 4, 2), (56, .ldc 82, 2), (58, .if_icmp .ne 15, 3), (61, .aload_n 0, 1), (62, .getfield 9, 3), (65, .bipush 8, 2), (67, .iload_n 3, 1), (68, .iadd, 1), (69, .iaload, 1), (70, .goto 11, 3), (73, .iload 4, 2), (75, .iconst 0, 1), (76, .bipush 9, 2), (78, .invokestatic 108, 3), (81, .istore 5, 2), (83, .iload_n 2, 1), (84, .aload_n 0, 1), (85, .bipush 8, 2), (87, .iload_n 3, 1), (88, .iadd, 1), (89, .iload 5, 2), (91, .invokevirtual 135, 3), (94, .iload 5, 2), (96, .if_icmp .ne 7, 3), (99, .iconst 0, 1), (100, .goto 4, 3), (103, .iconst 1, 1), (104, .iadd, 1), (105, .istore_n 2, 1), (106, .iinc 3 1, 3)] (by decide +kernel)
theorem dX8_pour_51 : decode cX8_pour 51 = .ok (.iaload, 1) := edX8_pour_51.1
theorem dX8_pour_52 : decode cX8_pour 52 = .ok (.istore 4, 2) := edX8_pour_51.2.1
theorem dX8_pour_54 : decode cX8_pour 54 = .ok (.iload 4, 2) := edX8_pour_51.2.2.1
theorem dX8_pour_56 : decode cX8_pour 56 = .ok (.ldc 82, 2) := edX8_pour_51.2.2.2.1
theorem dX8_pour_58 : decode cX8_pour 58 = .ok (.if_icmp .ne 15, 3) := edX8_pour_51.2.2.2.2.1
theorem dX8_pour_61 : decode cX8_pour 61 = .ok (.aload_n 0, 1) := edX8_pour_51.2.2.2.2.2.1
theorem dX8_pour_62 : decode cX8_pour 62 = .ok (.getfield 9, 3) := edX8_pour_51.2.2.2.2.2.2.1
theorem dX8_pour_65 : decode cX8_pour 65 = .ok (.bipush 8, 2) := edX8_pour_51.2.2.2.2.2.2.2.1
theorem dX8_pour_67 : decode cX8_pour 67 = .ok (.iload_n 3, 1) := edX8_pour_51.2.2.2.2.2.2.2.2.1
theorem dX8_pour_68 : decode cX8_pour 68 = .ok (.iadd, 1) := edX8_pour_51.2.2.2.2.2.2.2.2.2.1
theorem dX8_pour_69 : decode cX8_pour 69 = .ok (.iaload, 1) := edX8_pour_51.2.2.2.2.2.2.2.2.2.2.1
theorem dX8_pour_70 : decode cX8_pour 70 = .ok (.goto 11, 3) := edX8_pour_51.2.2.2.2.2.2.2.2.2.2.2.1
theorem dX8_pour_73 : decode cX8_pour 73 = .ok (.iload 4, 2) := edX8_pour_51.2.2.2.2.2.2.2.2.2.2.2.2.1
theorem dX8_pour_75 : decode cX8_pour 75 = .ok (.iconst 0, 1) := edX8_pour_51.2.2.2.2.2.2.2.2.2.2.2.2.2.1
theorem dX8_pour_76 : decode cX8_pour 76 = .ok (.bipush 9, 2) := edX8_pour_51.2.2.2.2.2.2.2.2.2.2.2.2.2.2.1
theorem dX8_pour_78 : decode cX8_pour 78 = .ok (.invokestatic 108, 3) := edX8_pour_51.2.2.2.2.2.2.2.2.2.2.2.2.2.2.2.1
theorem dX8_pour_81 : decode cX8_pour 81 = .ok (.istore 5, 2) := edX8_pour_51.2.2.2.2.2.2.2.2.2.2.2.2.2.2.2.2.1
theorem dX8_pour_83 : decode cX8_pour 83 = .ok (.iload_n 2, 1) := edX8_pour_51.2.2.2.2.2.2.2.2.2.2.2.2.2.2.2.2.2.1
theorem dX8_pour_84 : decode cX8_pour 84 = .ok (.aload_n 0, 1) := edX8_pour_51.2.2.2.2.2.2.2.2.2.2.2.2.2.2.2.2.2.2.1
theorem dX8_pour_85 : decode cX8_pour 85 = .ok (.bipush 8, 2) := edX8_pour_51.2.2.2.2.2.2.2.2.2.2.2.2.2.2.2.2.2.2.2.1
theorem dX8_pour_87 : decode cX8_pour 87 = .ok (.iload_n 3, 1) := edX8_pour_51.2.2.2.2.2.2.2.2.2.2.2.2.2.2.2.2.2.2.2.2.1
theorem dX8_pour_88 : decode cX8_pour 88 = .ok (.iadd, 1) := edX8_pour_51.2.2.2.2.2.2.2.2.2.2.2.2.2.2.2.2.2.2.2.2.2.1
theorem dX8_pour_89 : decode cX8_pour 89 = .ok (.iload 5, 2) := edX8_pour_51.2.2.2.2.2.2.2.2.2.2.2.2.2.2.2.2.2.2.2.2.2.2.1
theorem dX8_pour_91 : decode cX8_pour 91 = .ok (.invokevirtual 135, 3) := edX8_pour_51.2.2.2.2.2.2.2.2.2.2.2.2.2.2.2.2.2.2.2.2.2.2.2.1
theorem dX8_pour_94 : decode cX8_pour 94 = .ok (.iload 5, 2) := edX8_pour_51.2.2.2.2.2.2.2.2.2.2.2.2.2.2.2.2.2.2.2.2.2.2.2.2.1
theorem dX8_pour_96 : decode cX8_pour 96 = .ok (.if_icmp .ne 7, 3) := edX8_pour_51.2.2.2.2.2.2.2.2.2.2.2.2.2.2.2.2.2.2.2.2.2.2.2.2.2.1
theorem dX8_pour_99 : decode cX8_pour 99 = .ok (.iconst 0, 1) := edX8_pour_51.2.2.2.2.2.2.2.2.2.2.2.2.2.2.2.2.2.2.2.2.2.2.2.2.2.2.1
theorem dX8_pour_100 : decode cX8_pour 100 = .ok (.goto 4, 3) := edX8_pour_51.2.2.2.2.2.2.2.2.2.2.2.2.2.2.2.2.2.2.2.2.2.2.2.2.2.2.2.1
theorem dX8_pour_103 : decode cX8_pour 103 = .ok (.iconst 1, 1) := edX8_pour_51.2.2.2.2.2.2.2.2.2.2.2.2.2.2.2.2.2.2.2.2.2.2.2.2.2.2.2.2.1
theorem dX8_pour_104 : decode cX8_pour 104 = .ok (.iadd, 1) := edX8_pour_51.2.2.2.2.2.2.2.2.2.2.2.2.2.2.2.2.2.2.2.2.2.2.2.2.2.2.2.2.2.1
theorem dX8_pour_105 : decode cX8_pour 105 = .ok (.istore_n 2, 1) := edX8_pour_51.2.2.2.2.2.2.2.2.2.2.2.2.2.2.2.2.2.2.2.2.2.2.2.2.2.2.2.2.2.2.1
theorem dX8_pour_106 : decode cX8_pour 106 = .ok (.iinc 3 1, 3) := edX8_pour_51.2.2.2.2.2.2.2.2.2.2.2.2.2.2.2.2.2.2.2.2.2.2.2.2.2.2.2.2.2.2.2.1
theorem edX8_pour_109 : (decode cX8_pour 109 = .ok (.goto (-83), 3)) ∧ (decode cX8_pour 112 = .ok (.iload_n 2, 1)) ∧ (decode cX8_pour 113 = .ok (.ireturn, 1)) ∧ True := dc_cj [(109, .goto (-83), 3), (112, .iload_n 2, 1), (113, .ireturn, 1)] (by decide +kernel)
theorem dX8_pour_109 : decode cX8_pour 109 = .ok (.goto (-83), 3) := edX8_pour_109.1
theorem dX8_pour_112 : decode cX8_pour 112 = .ok (.iload_n 2, 1) := edX8_pour_109.2.1
theorem dX8_pour_113 : decode cX8_pour 113 = .ok (.ireturn, 1) := edX8_pour_109.2.2.1
theorem edX8_reads_0 : (decode cX8_reads 0 = .ok (.iload_n 1, 1)) ∧ (decode cX8_reads 1 = .ok (.invokestatic 184, 3)) ∧ (decode cX8_reads 4 = .ok (.ifCond .ne 6, 3)) ∧ (decode cX8_reads 7 = .ok (.ldc 91, 2)) ∧ (decode cX8_reads 9 = .ok (.ireturn, 1)) ∧ (decode cX8_reads 10 = .ok (.aload_n 0, 1)) ∧ (decode cX8_reads 11 = .ok (.getfield 55, 3)) ∧ (decode cX8_reads 14 = .ok (.iload_n 1, 1)) ∧ (decode cX8_reads 15 = .ok (.iaload, 1)) ∧ (decode cX8_reads 16 = .ok (.ifCond .ge 6, 3)) ∧ (decode cX8_reads 19 = .ok (.ldc 187, 2)) ∧ (decode cX8_reads 21 = .ok (.ireturn, 1)) ∧ (decode cX8_reads 22 = .ok (.aload_n 0, 1)) ∧ (decode cX8_reads 23 = .ok (.invokevirtual 169, 3)) ∧ (decode cX8_reads 26 = .ok (.iconst 0, 1)) ∧ (decode cX8_reads 27 = .ok (.istore_n 2, 1)) ∧ (decode cX8_reads 28 = .ok (.iload_n 2, 1)) ∧ (decode cX8_reads 29 = .ok (.aload_n 0, 1)) ∧ (decode cX8_reads 30 = .ok (.getfield 58, 3)) ∧ (decode cX8_reads 33 = .ok (.iload_n 1, 1)) ∧ (decode cX8_reads 34 = .ok (.iaload, 1)) ∧ (decode cX8_reads 35 = .ok (.if_icmp .ge 47, 3)) ∧ (decode cX8_reads 38 = .ok (.aload_n 0, 1)) ∧ (decode cX8_reads 39 = .ok (.getfield 61, 3)) ∧ (decode cX8_reads 42 = .ok (.bipush 24, 2)) ∧ (decode cX8_reads 44 = .ok (.iload_n 1, 1)) ∧ (decode cX8_reads 45 = .ok (.imul, 1)) ∧ (decode cX8_reads 46 = .ok (.iload_n 2, 1)) ∧ (decode cX8_reads 47 = .ok (.iadd, 1)) ∧ (decode cX8_reads 48 = .ok (.iaload, 1)) ∧ (decode cX8_reads 49 = .ok (.ldc 82, 2)) ∧ (decode cX8_reads 51 = .ok (.if_icmp .eq 21, 3)) ∧ True := dc_cj [(0, .iload_n 1, 1), (1, .invokestatic 184, 3), (4, .ifCond .ne 6, 3), (7, .ldc 91, 2), (9, .ireturn, 1), (10, .aload_n 0, 1), (11, .getfield 55, 3), (14, .iload_n 1, 1), (15, .iaload, 1), (16, .ifCond .ge 6, 3), (19, .ldc 187, 2), (21, .ireturn, 1), (22, .aload_n 0, 1), (23, .invokevirtual 169, 3), (26, .iconst 0, 1), (27, .istore_n 2, 1), (28, .iload_n 2, 1), (29, .aload_n 0, 1), (30, .getfield 58, 3), (33, .iload_n 1, 1), (34, .iaload, 1), (35, .if_icmp .ge 47, 3), (38, .aload_n 0, 1), (39, .getfield 61, 3), (42, .bipush 24, 2), (44, .iload_n 1, 1), (45, .imul, 1), (46, .iload_n 2, 1), (47, .iadd, 1), (48, .iaload, 1), (49, .ldc 82, 2), (51, .if_icmp .eq 21, 3)] (by decide +kernel)
theorem dX8_reads_0 : decode cX8_reads 0 = .ok (.iload_n 1, 1) := edX8_reads_0.1
theorem dX8_reads_1 : decode cX8_reads 1 = .ok (.invokestatic 184, 3) := edX8_reads_0.2.1
theorem dX8_reads_4 : decode cX8_reads 4 = .ok (.ifCond .ne 6, 3) := edX8_reads_0.2.2.1
theorem dX8_reads_7 : decode cX8_reads 7 = .ok (.ldc 91, 2) := edX8_reads_0.2.2.2.1
theorem dX8_reads_9 : decode cX8_reads 9 = .ok (.ireturn, 1) := edX8_reads_0.2.2.2.2.1
theorem dX8_reads_10 : decode cX8_reads 10 = .ok (.aload_n 0, 1) := edX8_reads_0.2.2.2.2.2.1
theorem dX8_reads_11 : decode cX8_reads 11 = .ok (.getfield 55, 3) := edX8_reads_0.2.2.2.2.2.2.1
theorem dX8_reads_14 : decode cX8_reads 14 = .ok (.iload_n 1, 1) := edX8_reads_0.2.2.2.2.2.2.2.1
theorem dX8_reads_15 : decode cX8_reads 15 = .ok (.iaload, 1) := edX8_reads_0.2.2.2.2.2.2.2.2.1
theorem dX8_reads_16 : decode cX8_reads 16 = .ok (.ifCond .ge 6, 3) := edX8_reads_0.2.2.2.2.2.2.2.2.2.1
theorem dX8_reads_19 : decode cX8_reads 19 = .ok (.ldc 187, 2) := edX8_reads_0.2.2.2.2.2.2.2.2.2.2.1
theorem dX8_reads_21 : decode cX8_reads 21 = .ok (.ireturn, 1) := edX8_reads_0.2.2.2.2.2.2.2.2.2.2.2.1
theorem dX8_reads_22 : decode cX8_reads 22 = .ok (.aload_n 0, 1) := edX8_reads_0.2.2.2.2.2.2.2.2.2.2.2.2.1
theorem dX8_reads_23 : decode cX8_reads 23 = .ok (.invokevirtual 169, 3) := edX8_reads_0.2.2.2.2.2.2.2.2.2.2.2.2.2.1
theorem dX8_reads_26 : decode cX8_reads 26 = .ok (.iconst 0, 1) := edX8_reads_0.2.2.2.2.2.2.2.2.2.2.2.2.2.2.1
theorem dX8_reads_27 : decode cX8_reads 27 = .ok (.istore_n 2, 1) := edX8_reads_0.2.2.2.2.2.2.2.2.2.2.2.2.2.2.2.1
theorem dX8_reads_28 : decode cX8_reads 28 = .ok (.iload_n 2, 1) := edX8_reads_0.2.2.2.2.2.2.2.2.2.2.2.2.2.2.2.2.1
theorem dX8_reads_29 : decode cX8_reads 29 = .ok (.aload_n 0, 1) := edX8_reads_0.2.2.2.2.2.2.2.2.2.2.2.2.2.2.2.2.2.1
theorem dX8_reads_30 : decode cX8_reads 30 = .ok (.getfield 58, 3) := edX8_reads_0.2.2.2.2.2.2.2.2.2.2.2.2.2.2.2.2.2.2.1
theorem dX8_reads_33 : decode cX8_reads 33 = .ok (.iload_n 1, 1) := edX8_reads_0.2.2.2.2.2.2.2.2.2.2.2.2.2.2.2.2.2.2.2.1
theorem dX8_reads_34 : decode cX8_reads 34 = .ok (.iaload, 1) := edX8_reads_0.2.2.2.2.2.2.2.2.2.2.2.2.2.2.2.2.2.2.2.2.1
theorem dX8_reads_35 : decode cX8_reads 35 = .ok (.if_icmp .ge 47, 3) := edX8_reads_0.2.2.2.2.2.2.2.2.2.2.2.2.2.2.2.2.2.2.2.2.2.1
theorem dX8_reads_38 : decode cX8_reads 38 = .ok (.aload_n 0, 1) := edX8_reads_0.2.2.2.2.2.2.2.2.2.2.2.2.2.2.2.2.2.2.2.2.2.2.1
theorem dX8_reads_39 : decode cX8_reads 39 = .ok (.getfield 61, 3) := edX8_reads_0.2.2.2.2.2.2.2.2.2.2.2.2.2.2.2.2.2.2.2.2.2.2.2.1
theorem dX8_reads_42 : decode cX8_reads 42 = .ok (.bipush 24, 2) := edX8_reads_0.2.2.2.2.2.2.2.2.2.2.2.2.2.2.2.2.2.2.2.2.2.2.2.2.1
theorem dX8_reads_44 : decode cX8_reads 44 = .ok (.iload_n 1, 1) := edX8_reads_0.2.2.2.2.2.2.2.2.2.2.2.2.2.2.2.2.2.2.2.2.2.2.2.2.2.1
theorem dX8_reads_45 : decode cX8_reads 45 = .ok (.imul, 1) := edX8_reads_0.2.2.2.2.2.2.2.2.2.2.2.2.2.2.2.2.2.2.2.2.2.2.2.2.2.2.1
theorem dX8_reads_46 : decode cX8_reads 46 = .ok (.iload_n 2, 1) := edX8_reads_0.2.2.2.2.2.2.2.2.2.2.2.2.2.2.2.2.2.2.2.2.2.2.2.2.2.2.2.1
theorem dX8_reads_47 : decode cX8_reads 47 = .ok (.iadd, 1) := edX8_reads_0.2.2.2.2.2.2.2.2.2.2.2.2.2.2.2.2.2.2.2.2.2.2.2.2.2.2.2.2.1
theorem dX8_reads_48 : decode cX8_reads 48 = .ok (.iaload, 1) := edX8_reads_0.2.2.2.2.2.2.2.2.2.2.2.2.2.2.2.2.2.2.2.2.2.2.2.2.2.2.2.2.2.1
theorem dX8_reads_49 : decode cX8_reads 49 = .ok (.ldc 82, 2) := edX8_reads_0.2.2.2.2.2.2.2.2.2.2.2.2.2.2.2.2.2.2.2.2.2.2.2.2.2.2.2.2.2.2.1
theorem dX8_reads_51 : decode cX8_reads 51 = .ok (.if_icmp .eq 21, 3) := edX8_reads_0.2.2.2.2.2.2.2.2.2.2.2.2.2.2.2.2.2.2.2.2.2.2.2.2.2.2.2.2.2.2.2.1
theorem edX8_reads_54 : (decode cX8_reads 54 = .ok (.aload_n 0, 1)) ∧ (decode cX8_reads 55 = .ok (.getfield 61, 3)) ∧ (decode cX8_reads 58 = .ok (.bipush 24, 2)) ∧ (decode cX8_reads 60 = .ok (.iload_n 1, 1)) ∧ (decode cX8_reads 61 = .ok (.imul, 1)) ∧ (decode cX8_reads 62 = .ok (.iload_n 2, 1)) ∧ (decode cX8_reads 63 = .ok (.iadd, 1)) ∧ (decode cX8_reads 64 = .ok (.iaload, 1)) ∧ (decode cX8_reads 65 = .ok (.aload_n 0, 1)) ∧ (decode cX8_reads 66 = .ok (.invokevirtual 166, 3)) ∧ (decode cX8_reads 69 = .ok (.if_icmp .ne 13, 3)) ∧ (decode cX8_reads 72 = .ok (.aload_n 0, 1)) ∧ (decode cX8_reads 73 = .ok (.invokevirtual 157, 3)) ∧ (decode cX8_reads 76 = .ok (.iinc 2 1, 3)) ∧ (decode cX8_reads 79 = .ok (.goto (-51), 3)) ∧ (decode cX8_reads 82 = .ok (.aload_n 0, 1)) ∧ (decode cX8_reads 83 = .ok (.invokevirtual 175, 3)) ∧ (decode cX8_reads 86 = .ok (.iload_n 2, 1)) ∧ (decode cX8_reads 87 = .ok (.aload_n 0, 1)) ∧ (decode cX8_reads 88 = .ok (.getfield 58, 3)) ∧ (decode cX8_reads 91 = .ok (.iload_n 1, 1)) ∧ (decode cX8_reads 92 = .ok (.iaload, 1)) ∧ (decode cX8_reads 93 = .ok (.if_icmp .ge 7, 3)) ∧ (decode cX8_reads 96 = .ok (.iload_n 2, 1)) ∧ (decode cX8_reads 97 = .ok (.goto 5, 3)) ∧ (decode cX8_reads 100 = .ok (.ldc 82, 2)) ∧ (decode cX8_reads 102 = .ok (.ireturn, 1)) ∧ True := dc_cj [(54, .aload_n 0, 1), (55, .getfield 61, 3), (58, .bipush 24, 2), (60, .iload_n 1, 1), (61, .imul, 1), (62, .iload_n 2, 1), (63, .iadd, 1), (64, .iaload, 1), (65, .aload_n 0, 1), (66, .invokevirtual 166, 3), (69, .if_icmp .ne 13, 3), (72, .aload_n 0, 1), (73, .invokevirtual 157, 3), (76, .iinc 2 1, 3), (79, .goto (-51), 3), (82, .aload_n 0, 1), (83, .invokevirtual 175, 3), (86, .iload_n 2, 1), (87, .aload_n 0, 1), (88, .getfield 58, 3), (91, .iload_n 1, 1), (92, .iaload, 1), (93, .if_icmp .ge 7, 3), (96, .iload_n 2, 1), (97, .goto 5, 3), (100, .ldc 82, 2), (102, .ireturn, 1)] (by decide +kernel)
theorem dX8_reads_54 : decode cX8_reads 54 = .ok (.aload_n 0, 1) := edX8_reads_54.1
theorem dX8_reads_55 : decode cX8_reads 55 = .ok (.getfield 61, 3) := edX8_reads_54.2.1
theorem dX8_reads_58 : decode cX8_reads 58 = .ok (.bipush 24, 2) := edX8_reads_54.2.2.1
theorem dX8_reads_60 : decode cX8_reads 60 = .ok (.iload_n 1, 1) := edX8_reads_54.2.2.2.1
theorem dX8_reads_61 : decode cX8_reads 61 = .ok (.imul, 1) := edX8_reads_54.2.2.2.2.1
theorem dX8_reads_62 : decode cX8_reads 62 = .ok (.iload_n 2, 1) := edX8_reads_54.2.2.2.2.2.1
theorem dX8_reads_63 : decode cX8_reads 63 = .ok (.iadd, 1) := edX8_reads_54.2.2.2.2.2.2.1
theorem dX8_reads_64 : decode cX8_reads 64 = .ok (.iaload, 1) := edX8_reads_54.2.2.2.2.2.2.2.1
theorem dX8_reads_65 : decode cX8_reads 65 = .ok (.aload_n 0, 1) := edX8_reads_54.2.2.2.2.2.2.2.2.1
theorem dX8_reads_66 : decode cX8_reads 66 = .ok (.invokevirtual 166, 3) := edX8_reads_54.2.2.2.2.2.2.2.2.2.1
theorem dX8_reads_69 : decode cX8_reads 69 = .ok (.if_icmp .ne 13, 3) := edX8_reads_54.2.2.2.2.2.2.2.2.2.2.1
theorem dX8_reads_72 : decode cX8_reads 72 = .ok (.aload_n 0, 1) := edX8_reads_54.2.2.2.2.2.2.2.2.2.2.2.1
theorem dX8_reads_73 : decode cX8_reads 73 = .ok (.invokevirtual 157, 3) := edX8_reads_54.2.2.2.2.2.2.2.2.2.2.2.2.1
theorem dX8_reads_76 : decode cX8_reads 76 = .ok (.iinc 2 1, 3) := edX8_reads_54.2.2.2.2.2.2.2.2.2.2.2.2.2.1
theorem dX8_reads_79 : decode cX8_reads 79 = .ok (.goto (-51), 3) := edX8_reads_54.2.2.2.2.2.2.2.2.2.2.2.2.2.2.1
theorem dX8_reads_82 : decode cX8_reads 82 = .ok (.aload_n 0, 1) := edX8_reads_54.2.2.2.2.2.2.2.2.2.2.2.2.2.2.2.1
theorem dX8_reads_83 : decode cX8_reads 83 = .ok (.invokevirtual 175, 3) := edX8_reads_54.2.2.2.2.2.2.2.2.2.2.2.2.2.2.2.2.1
theorem dX8_reads_86 : decode cX8_reads 86 = .ok (.iload_n 2, 1) := edX8_reads_54.2.2.2.2.2.2.2.2.2.2.2.2.2.2.2.2.2.1
theorem dX8_reads_87 : decode cX8_reads 87 = .ok (.aload_n 0, 1) := edX8_reads_54.2.2.2.2.2.2.2.2.2.2.2.2.2.2.2.2.2.2.1
theorem dX8_reads_88 : decode cX8_reads 88 = .ok (.getfield 58, 3) := edX8_reads_54.2.2.2.2.2.2.2.2.2.2.2.2.2.2.2.2.2.2.2.1
theorem dX8_reads_91 : decode cX8_reads 91 = .ok (.iload_n 1, 1) := edX8_reads_54.2.2.2.2.2.2.2.2.2.2.2.2.2.2.2.2.2.2.2.2.1
theorem dX8_reads_92 : decode cX8_reads 92 = .ok (.iaload, 1) := edX8_reads_54.2.2.2.2.2.2.2.2.2.2.2.2.2.2.2.2.2.2.2.2.2.1
theorem dX8_reads_93 : decode cX8_reads 93 = .ok (.if_icmp .ge 7, 3) := edX8_reads_54.2.2.2.2.2.2.2.2.2.2.2.2.2.2.2.2.2.2.2.2.2.2.1
theorem dX8_reads_96 : decode cX8_reads 96 = .ok (.iload_n 2, 1) := edX8_reads_54.2.2.2.2.2.2.2.2.2.2.2.2.2.2.2.2.2.2.2.2.2.2.2.1
theorem dX8_reads_97 : decode cX8_reads 97 = .ok (.goto 5, 3) := edX8_reads_54.2.2.2.2.2.2.2.2.2.2.2.2.2.2.2.2.2.2.2.2.2.2.2.2.1
theorem dX8_reads_100 : decode cX8_reads 100 = .ok (.ldc 82, 2) := edX8_reads_54.2.2.2.2.2.2.2.2.2.2.2.2.2.2.2.2.2.2.2.2.2.2.2.2.2.1
theorem dX8_reads_102 : decode cX8_reads 102 = .ok (.ireturn, 1) := edX8_reads_54.2.2.2.2.2.2.2.2.2.2.2.2.2.2.2.2.2.2.2.2.2.2.2.2.2.2.1
theorem edX8_copy_0 : (decode cX8_copy 0 = .ok (.iload_n 1, 1)) ∧ (decode cX8_copy 1 = .ok (.invokestatic 184, 3)) ∧ (decode cX8_copy 4 = .ok (.ifCond .eq 10, 3)) ∧ (decode cX8_copy 7 = .ok (.iload_n 3, 1)) ∧ (decode cX8_copy 8 = .ok (.invokestatic 184, 3)) ∧ (decode cX8_copy 11 = .ok (.ifCond .ne 6, 3)) ∧ (decode cX8_copy 14 = .ok (.ldc 91, 2)) ∧ (decode cX8_copy 16 = .ok (.ireturn, 1)) ∧ (decode cX8_copy 17 = .ok (.aload_n 0, 1)) ∧ (decode cX8_copy 18 = .ok (.getfield 55, 3)) ∧ (decode cX8_copy 21 = .ok (.iload_n 1, 1)) ∧ (decode cX8_copy 22 = .ok (.iaload, 1)) ∧ (decode cX8_copy 23 = .ok (.ifCond .lt 12, 3)) ∧ (decode cX8_copy 26 = .ok (.aload_n 0, 1)) ∧ (decode cX8_copy 27 = .ok (.getfield 55, 3)) ∧ (decode cX8_copy 30 = .ok (.iload_n 3, 1)) ∧ (decode cX8_copy 31 = .ok (.iaload, 1)) ∧ (decode cX8_copy 32 = .ok (.ifCond .ge 6, 3)) ∧ (decode cX8_copy 35 = .ok (.ldc 187, 2)) ∧ (decode cX8_copy 37 = .ok (.ireturn, 1)) ∧ (decode cX8_copy 38 = .ok (.aload_n 0, 1)) ∧ (decode cX8_copy 39 = .ok (.getfield 55, 3)) ∧ (decode cX8_copy 42 = .ok (.iload_n 1, 1)) ∧ (decode cX8_copy 43 = .ok (.iaload, 1)) ∧ (decode cX8_copy 44 = .ok (.aload_n 0, 1)) ∧ (decode cX8_copy 45 = .ok (.getfield 55, 3)) ∧ (decode cX8_copy 48 = .ok (.iload_n 3, 1)) ∧ (decode cX8_copy 49 = .ok (.iaload, 1)) ∧ (decode cX8_copy 50 = .ok (.if_icmp .eq 6, 3)) ∧ (decode cX8_copy 53 = .ok (.ldc 134, 2)) ∧ (decode cX8_copy 55 = .ok (.ireturn, 1)) ∧ (decode cX8_copy 56 = .ok (.iload_n 2, 1)) ∧ True := dc_cj [(0, .iload_n 1, 1), (1, .invokestatic 184, 3), (4, .ifCond .eq 10, 3), (7, .iload_n 3, 1), (8, .invokestatic 184, 3), (11, .ifCond .ne 6, 3), (14, .ldc 91, 2), (16, .ireturn, 1), (17, .aload_n 0, 1), (18, .getfield 55, 3), (21, .iload_n 1, 1), (22, .iaload, 1), (23, .ifCond .lt 12, 3), (26, .aload_n 0, 1), (27, .getfield 55, 3), (30, .iload_n 3, 1), (31, .iaload, 1), (32, .ifCond .ge 6, 3), (35, .ldc 187, 2), (37, .ireturn, 1), (38, .aload_n 0, 1), (39, .getfield 55, 3), (42, .iload_n 1, 1), (43, .iaload, 1), (44, .aload_n 0, 1), (45, .getfield 55, 3), (48, .iload_n 3, 1), (49, .iaload, 1), (50, .if_icmp .eq 6, 3), (53, .ldc 134, 2), (55, .ireturn, 1), (56, .iload_n 2, 1)] (by decide +kernel)
theorem dX8_copy_0 : decode cX8_copy 0 = .ok (.iload_n 1, 1) := edX8_copy_0.1
theorem dX8_copy_1 : decode cX8_copy 1 = .ok (.invokestatic 184, 3) := edX8_copy_0.2.1
theorem dX8_copy_4 : decode cX8_copy 4 = .ok (.ifCond .eq 10, 3) := edX8_copy_0.2.2.1
theorem dX8_copy_7 : decode cX8_copy 7 = .ok (.iload_n 3, 1) := edX8_copy_0.2.2.2.1
theorem dX8_copy_8 : decode cX8_copy 8 = .ok (.invokestatic 184, 3) := edX8_copy_0.2.2.2.2.1
theorem dX8_copy_11 : decode cX8_copy 11 = .ok (.ifCond .ne 6, 3) := edX8_copy_0.2.2.2.2.2.1
theorem dX8_copy_14 : decode cX8_copy 14 = .ok (.ldc 91, 2) := edX8_copy_0.2.2.2.2.2.2.1
theorem dX8_copy_16 : decode cX8_copy 16 = .ok (.ireturn, 1) := edX8_copy_0.2.2.2.2.2.2.2.1
theorem dX8_copy_17 : decode cX8_copy 17 = .ok (.aload_n 0, 1) := edX8_copy_0.2.2.2.2.2.2.2.2.1
theorem dX8_copy_18 : decode cX8_copy 18 = .ok (.getfield 55, 3) := edX8_copy_0.2.2.2.2.2.2.2.2.2.1
theorem dX8_copy_21 : decode cX8_copy 21 = .ok (.iload_n 1, 1) := edX8_copy_0.2.2.2.2.2.2.2.2.2.2.1
theorem dX8_copy_22 : decode cX8_copy 22 = .ok (.iaload, 1) := edX8_copy_0.2.2.2.2.2.2.2.2.2.2.2.1
theorem dX8_copy_23 : decode cX8_copy 23 = .ok (.ifCond .lt 12, 3) := edX8_copy_0.2.2.2.2.2.2.2.2.2.2.2.2.1
theorem dX8_copy_26 : decode cX8_copy 26 = .ok (.aload_n 0, 1) := edX8_copy_0.2.2.2.2.2.2.2.2.2.2.2.2.2.1
theorem dX8_copy_27 : decode cX8_copy 27 = .ok (.getfield 55, 3) := edX8_copy_0.2.2.2.2.2.2.2.2.2.2.2.2.2.2.1
theorem dX8_copy_30 : decode cX8_copy 30 = .ok (.iload_n 3, 1) := edX8_copy_0.2.2.2.2.2.2.2.2.2.2.2.2.2.2.2.1
theorem dX8_copy_31 : decode cX8_copy 31 = .ok (.iaload, 1) := edX8_copy_0.2.2.2.2.2.2.2.2.2.2.2.2.2.2.2.2.1
theorem dX8_copy_32 : decode cX8_copy 32 = .ok (.ifCond .ge 6, 3) := edX8_copy_0.2.2.2.2.2.2.2.2.2.2.2.2.2.2.2.2.2.1
theorem dX8_copy_35 : decode cX8_copy 35 = .ok (.ldc 187, 2) := edX8_copy_0.2.2.2.2.2.2.2.2.2.2.2.2.2.2.2.2.2.2.1
theorem dX8_copy_37 : decode cX8_copy 37 = .ok (.ireturn, 1) := edX8_copy_0.2.2.2.2.2.2.2.2.2.2.2.2.2.2.2.2.2.2.2.1
theorem dX8_copy_38 : decode cX8_copy 38 = .ok (.aload_n 0, 1) := edX8_copy_0.2.2.2.2.2.2.2.2.2.2.2.2.2.2.2.2.2.2.2.2.1
theorem dX8_copy_39 : decode cX8_copy 39 = .ok (.getfield 55, 3) := edX8_copy_0.2.2.2.2.2.2.2.2.2.2.2.2.2.2.2.2.2.2.2.2.2.1
theorem dX8_copy_42 : decode cX8_copy 42 = .ok (.iload_n 1, 1) := edX8_copy_0.2.2.2.2.2.2.2.2.2.2.2.2.2.2.2.2.2.2.2.2.2.2.1
theorem dX8_copy_43 : decode cX8_copy 43 = .ok (.iaload, 1) := edX8_copy_0.2.2.2.2.2.2.2.2.2.2.2.2.2.2.2.2.2.2.2.2.2.2.2.1
theorem dX8_copy_44 : decode cX8_copy 44 = .ok (.aload_n 0, 1) := edX8_copy_0.2.2.2.2.2.2.2.2.2.2.2.2.2.2.2.2.2.2.2.2.2.2.2.2.1
theorem dX8_copy_45 : decode cX8_copy 45 = .ok (.getfield 55, 3) := edX8_copy_0.2.2.2.2.2.2.2.2.2.2.2.2.2.2.2.2.2.2.2.2.2.2.2.2.2.1
theorem dX8_copy_48 : decode cX8_copy 48 = .ok (.iload_n 3, 1) := edX8_copy_0.2.2.2.2.2.2.2.2.2.2.2.2.2.2.2.2.2.2.2.2.2.2.2.2.2.2.1
theorem dX8_copy_49 : decode cX8_copy 49 = .ok (.iaload, 1) := edX8_copy_0.2.2.2.2.2.2.2.2.2.2.2.2.2.2.2.2.2.2.2.2.2.2.2.2.2.2.2.1
theorem dX8_copy_50 : decode cX8_copy 50 = .ok (.if_icmp .eq 6, 3) := edX8_copy_0.2.2.2.2.2.2.2.2.2.2.2.2.2.2.2.2.2.2.2.2.2.2.2.2.2.2.2.2.1
theorem dX8_copy_53 : decode cX8_copy 53 = .ok (.ldc 134, 2) := edX8_copy_0.2.2.2.2.2.2.2.2.2.2.2.2.2.2.2.2.2.2.2.2.2.2.2.2.2.2.2.2.2.1
theorem dX8_copy_55 : decode cX8_copy 55 = .ok (.ireturn, 1) := edX8_copy_0.2.2.2.2.2.2.2.2.2.2.2.2.2.2.2.2.2.2.2.2.2.2.2.2.2.2.2.2.2.2.1
theorem dX8_copy_56 : decode cX8_copy 56 = .ok (.iload_n 2, 1) := edX8_copy_0.2.2.2.2.2.2.2.2.2.2.2.2.2.2.2.2.2.2.2.2.2.2.2.2.2.2.2.2.2.2.2.1
theorem edX8_copy_57 : (decode cX8_copy 57 = .ok (.ifCond .lt 40, 3)) ∧ (decode cX8_copy 60 = .ok (.iload 4, 2)) ∧ (decode cX8_copy 62 = .ok (.ifCond .lt 35, 3)) ∧ (decode cX8_copy 65 = .ok (.iload 5, 2)) ∧ (decode cX8_copy 67 = .ok (.ifCond .lt 30, 3)) ∧ (decode cX8_copy 70 = .ok (.iload_n 2, 1)) ∧ (decode cX8_copy 71 = .ok (.aload_n 0, 1)) ∧ (decode cX8_copy 72 = .ok (.getfield 58, 3)) ∧ (decode cX8_copy 75 = .ok (.iload_n 1, 1)) ∧ (decode cX8_copy 76 = .ok (.iaload, 1)) ∧ (decode cX8_copy 77 = .ok (.iload 5, 2)) ∧ (decode cX8_copy 79 = .ok (.isub, 1)) ∧ (decode cX8_copy 80 = .ok (.if_icmp .gt 17, 3)) ∧ (decode cX8_copy 83 = .ok (.iload 4, 2)) ∧ (decode cX8_copy 85 = .ok (.aload_n 0, 1)) ∧ (decode cX8_copy 86 = .ok (.getfield 58, 3)) ∧ (decode cX8_copy 89 = .ok (.iload_n 3, 1)) ∧ (decode cX8_copy 90 = .ok (.iaload, 1)) ∧ (decode cX8_copy 91 = .ok (.iload 5, 2)) ∧ (decode cX8_copy 93 = .ok (.isub, 1)) ∧ (decode cX8_copy 94 = .ok (.if_icmp .le 7, 3)) ∧ (decode cX8_copy 97 = .ok (.ldc_w 259, 3)) ∧ (decode cX8_copy 100 = .ok (.ireturn, 1)) ∧ (decode cX8_copy 101 = .ok (.iconst 0, 1)) ∧ (decode cX8_copy 102 = .ok (.istore 6, 2)) ∧ (decode cX8_copy 104 = .ok (.iload 6, 2)) ∧ (decode cX8_copy 106 = .ok (.iload 5, 2)) ∧ (decode cX8_copy 108 = .ok (.if_icmp .ge 30, 3)) ∧ (decode cX8_copy 111 = .ok (.aload_n 0, 1)) ∧ (decode cX8_copy 112 = .ok (.getfield 76, 3)) ∧ (decode cX8_copy 115 = .ok (.iload 6, 2)) ∧ (decode cX8_copy 117 = .ok (.aload_n 0, 1)) ∧ True := dc_cj [(57, .ifCond .lt 40, 3), (60, .iload 4, 2), (62, .ifCond .lt 35, 3), (65, .iload 5, 2), (67, .ifCond .lt 30, 3), (70, .iload_n 2, 1), (71, .aload_n 0, 1), (72, .getfield 58, 3), (75, .iload_n 1, 1), (76, .iaload, 1), (77, .iload 5, 2), (79, .isub, 1), (80, .if_icmp .gt 17, 3), (83, .iload 4, 2), (85, .aload_n 0, 1), (86, .getfield 58, 3), (89, .iload_n 3, 1), (90, .iaload, 1), (91, .iload 5, 2), (93, .isub, 1), (94, .if_icmp .le 7, 3), (97, .ldc_w 259, 3), (100, .ireturn, 1), (101, .iconst 0, 1), (102, .istore 6, 2), (104, .iload 6, 2), (106, .iload 5, 2), (108, .if_icmp .ge 30, 3), (111, .aload_n 0, 1), (112, .getfield 76, 3), (115, .iload 6, 2), (117, .aload_n 0, 1)] (by decide +kernel)
theorem dX8_copy_57 : decode cX8_copy 57 = .ok (.ifCond .lt 40, 3) := edX8_copy_57.1
theorem dX8_copy_60 : decode cX8_copy 60 = .ok (.iload 4, 2) := edX8_copy_57.2.1
theorem dX8_copy_62 : decode cX8_copy 62 = .ok (.ifCond .lt 35, 3) := edX8_copy_57.2.2.1
theorem dX8_copy_65 : decode cX8_copy 65 = .ok (.iload 5, 2) := edX8_copy_57.2.2.2.1
theorem dX8_copy_67 : decode cX8_copy 67 = .ok (.ifCond .lt 30, 3) := edX8_copy_57.2.2.2.2.1
theorem dX8_copy_70 : decode cX8_copy 70 = .ok (.iload_n 2, 1) := edX8_copy_57.2.2.2.2.2.1
theorem dX8_copy_71 : decode cX8_copy 71 = .ok (.aload_n 0, 1) := edX8_copy_57.2.2.2.2.2.2.1
theorem dX8_copy_72 : decode cX8_copy 72 = .ok (.getfield 58, 3) := edX8_copy_57.2.2.2.2.2.2.2.1
theorem dX8_copy_75 : decode cX8_copy 75 = .ok (.iload_n 1, 1) := edX8_copy_57.2.2.2.2.2.2.2.2.1
theorem dX8_copy_76 : decode cX8_copy 76 = .ok (.iaload, 1) := edX8_copy_57.2.2.2.2.2.2.2.2.2.1
theorem dX8_copy_77 : decode cX8_copy 77 = .ok (.iload 5, 2) := edX8_copy_57.2.2.2.2.2.2.2.2.2.2.1
theorem dX8_copy_79 : decode cX8_copy 79 = .ok (.isub, 1) := edX8_copy_57.2.2.2.2.2.2.2.2.2.2.2.1
theorem dX8_copy_80 : decode cX8_copy 80 = .ok (.if_icmp .gt 17, 3) := edX8_copy_57.2.2.2.2.2.2.2.2.2.2.2.2.1
theorem dX8_copy_83 : decode cX8_copy 83 = .ok (.iload 4, 2) := edX8_copy_57.2.2.2.2.2.2.2.2.2.2.2.2.2.1
theorem dX8_copy_85 : decode cX8_copy 85 = .ok (.aload_n 0, 1) := edX8_copy_57.2.2.2.2.2.2.2.2.2.2.2.2.2.2.1
theorem dX8_copy_86 : decode cX8_copy 86 = .ok (.getfield 58, 3) := edX8_copy_57.2.2.2.2.2.2.2.2.2.2.2.2.2.2.2.1
theorem dX8_copy_89 : decode cX8_copy 89 = .ok (.iload_n 3, 1) := edX8_copy_57.2.2.2.2.2.2.2.2.2.2.2.2.2.2.2.2.1
theorem dX8_copy_90 : decode cX8_copy 90 = .ok (.iaload, 1) := edX8_copy_57.2.2.2.2.2.2.2.2.2.2.2.2.2.2.2.2.2.1
theorem dX8_copy_91 : decode cX8_copy 91 = .ok (.iload 5, 2) := edX8_copy_57.2.2.2.2.2.2.2.2.2.2.2.2.2.2.2.2.2.2.1
theorem dX8_copy_93 : decode cX8_copy 93 = .ok (.isub, 1) := edX8_copy_57.2.2.2.2.2.2.2.2.2.2.2.2.2.2.2.2.2.2.2.1
theorem dX8_copy_94 : decode cX8_copy 94 = .ok (.if_icmp .le 7, 3) := edX8_copy_57.2.2.2.2.2.2.2.2.2.2.2.2.2.2.2.2.2.2.2.2.1
theorem dX8_copy_97 : decode cX8_copy 97 = .ok (.ldc_w 259, 3) := edX8_copy_57.2.2.2.2.2.2.2.2.2.2.2.2.2.2.2.2.2.2.2.2.2.1
theorem dX8_copy_100 : decode cX8_copy 100 = .ok (.ireturn, 1) := edX8_copy_57.2.2.2.2.2.2.2.2.2.2.2.2.2.2.2.2.2.2.2.2.2.2.1
theorem dX8_copy_101 : decode cX8_copy 101 = .ok (.iconst 0, 1) := edX8_copy_57.2.2.2.2.2.2.2.2.2.2.2.2.2.2.2.2.2.2.2.2.2.2.2.1
theorem dX8_copy_102 : decode cX8_copy 102 = .ok (.istore 6, 2) := edX8_copy_57.2.2.2.2.2.2.2.2.2.2.2.2.2.2.2.2.2.2.2.2.2.2.2.2.1
theorem dX8_copy_104 : decode cX8_copy 104 = .ok (.iload 6, 2) := edX8_copy_57.2.2.2.2.2.2.2.2.2.2.2.2.2.2.2.2.2.2.2.2.2.2.2.2.2.1
theorem dX8_copy_106 : decode cX8_copy 106 = .ok (.iload 5, 2) := edX8_copy_57.2.2.2.2.2.2.2.2.2.2.2.2.2.2.2.2.2.2.2.2.2.2.2.2.2.2.1
theorem dX8_copy_108 : decode cX8_copy 108 = .ok (.if_icmp .ge 30, 3) := edX8_copy_57.2.2.2.2.2.2.2.2.2.2.2.2.2.2.2.2.2.2.2.2.2.2.2.2.2.2.2.1
theorem dX8_copy_111 : decode cX8_copy 111 = .ok (.aload_n 0, 1) := edX8_copy_57.2.2.2.2.2.2.2.2.2.2.2.2.2.2.2.2.2.2.2.2.2.2.2.2.2.2.2.2.1
theorem dX8_copy_112 : decode cX8_copy 112 = .ok (.getfield 76, 3) := edX8_copy_57.2.2.2.2.2.2.2.2.2.2.2.2.2.2.2.2.2.2.2.2.2.2.2.2.2.2.2.2.2.1
theorem dX8_copy_115 : decode cX8_copy 115 = .ok (.iload 6, 2) := edX8_copy_57.2.2.2.2.2.2.2.2.2.2.2.2.2.2.2.2.2.2.2.2.2.2.2.2.2.2.2.2.2.2.1
theorem dX8_copy_117 : decode cX8_copy 117 = .ok (.aload_n 0, 1) := edX8_copy_57.2.2.2.2.2.2.2.2.2.2.2.2.2.2.2.2.2.2.2.2.2.2.2.2.2.2.2.2.2.2.2.1
theorem edX8_copy_118 : (decode cX8_copy 118 = .ok (.getfield 61, 3)) ∧ (decode cX8_copy 121 = .ok (.bipush 24, 2)) ∧ (decode cX8_copy 123 = .ok (.iload_n 1, 1)) ∧ (decode cX8_copy 124 = .ok (.imul, 1)) ∧ (decode cX8_copy 125 = .ok (.iload_n 2, 1)) ∧ (decode cX8_copy 126 = .ok (.iadd, 1)) ∧ (decode cX8_copy 127 = .ok (.iload 6, 2)) ∧ (decode cX8_copy 129 = .ok (.iadd, 1)) ∧ (decode cX8_copy 130 = .ok (.iaload, 1)) ∧ (decode cX8_copy 131 = .ok (.iastore, 1)) ∧ (decode cX8_copy 132 = .ok (.iinc 6 1, 3)) ∧ (decode cX8_copy 135 = .ok (.goto (-31), 3)) ∧ (decode cX8_copy 138 = .ok (.iconst 0, 1)) ∧ (decode cX8_copy 139 = .ok (.istore 6, 2)) ∧ (decode cX8_copy 141 = .ok (.iload 6, 2)) ∧ (decode cX8_copy 143 = .ok (.iload 5, 2)) ∧ (decode cX8_copy 145 = .ok (.if_icmp .ge 31, 3)) ∧ (decode cX8_copy 148 = .ok (.aload_n 0, 1)) ∧ (decode cX8_copy 149 = .ok (.getfield 61, 3)) ∧ (decode cX8_copy 152 = .ok (.bipush 24, 2)) ∧ (decode cX8_copy 154 = .ok (.iload_n 3, 1)) ∧ (decode cX8_copy 155 = .ok (.imul, 1)) ∧ (decode cX8_copy 156 = .ok (.iload 4, 2)) ∧ (decode cX8_copy 158 = .ok (.iadd, 1)) ∧ (decode cX8_copy 159 = .ok (.iload 6, 2)) ∧ (decode cX8_copy 161 = .ok (.iadd, 1)) ∧ (decode cX8_copy 162 = .ok (.aload_n 0, 1)) ∧ (decode cX8_copy 163 = .ok (.getfield 76, 3)) ∧ (decode cX8_copy 166 = .ok (.iload 6, 2)) ∧ (decode cX8_copy 168 = .ok (.iaload, 1)) ∧ (decode cX8_copy 169 = .ok (.iastore, 1)) ∧ (decode cX8_copy 170 = .ok (.iinc 6 1, 3)) ∧ True := dc_cj [(118, .getfield 61, 3), (121, .bipush 24, 2), (123, .iload_n 1, 1), (124, .imul, 1), (125, .iload_n 2, 1), (126, .iadd, 1), (127, .iload 6, 2), (129, .iadd, 1), (130, .iaload, 1), (131, .iastore, 1), (132, .iinc 6 1, 3), (135, .goto (-31), 3), (138, .iconst 0, 1), (139, .istore 6, 2), (141, .iload 6, 2), (143, .iload 5, 2), (145, .if_icmp .ge 31, 3), (148, .aload_n 0, 1), (149, .getfield 61, 3), (152, .bipush 24, 2), (154, .iload_n 3, 1), (155, .imul, 1), (156, .iload 4, 2), (158, .iadd, 1), (159, .iload 6, 2), (161, .iadd, 1), (162, .aload_n 0, 1), (163, .getfield 76, 3), (166, .iload 6, 2), (168, .iaload, 1), (169, .iastore, 1), (170, .iinc 6 1, 3)] (by decide +kernel)
theorem dX8_copy_118 : decode cX8_copy 118 = .ok (.getfield 61, 3) := edX8_copy_118.1
theorem dX8_copy_121 : decode cX8_copy 121 = .ok (.bipush 24, 2) := edX8_copy_118.2.1
theorem dX8_copy_123 : decode cX8_copy 123 = .ok (.iload_n 1, 1) := edX8_copy_118.2.2.1
theorem dX8_copy_124 : decode cX8_copy 124 = .ok (.imul, 1) := edX8_copy_118.2.2.2.1
theorem dX8_copy_125 : decode cX8_copy 125 = .ok (.iload_n 2, 1) := edX8_copy_118.2.2.2.2.1
theorem dX8_copy_126 : decode cX8_copy 126 = .ok (.iadd, 1) := edX8_copy_118.2.2.2.2.2.1
theorem dX8_copy_127 : decode cX8_copy 127 = .ok (.iload 6, 2) := edX8_copy_118.2.2.2.2.2.2.1
theorem dX8_copy_129 : decode cX8_copy 129 = .ok (.iadd, 1) := edX8_copy_118.2.2.2.2.2.2.2.1
theorem dX8_copy_130 : decode cX8_copy 130 = .ok (.iaload, 1) := edX8_copy_118.2.2.2.2.2.2.2.2.1
theorem dX8_copy_131 : decode cX8_copy 131 = .ok (.iastore, 1) := edX8_copy_118.2.2.2.2.2.2.2.2.2.1
theorem dX8_copy_132 : decode cX8_copy 132 = .ok (.iinc 6 1, 3) := edX8_copy_118.2.2.2.2.2.2.2.2.2.2.1
theorem dX8_copy_135 : decode cX8_copy 135 = .ok (.goto (-31), 3) := edX8_copy_118.2.2.2.2.2.2.2.2.2.2.2.1
theorem dX8_copy_138 : decode cX8_copy 138 = .ok (.iconst 0, 1) := edX8_copy_118.2.2.2.2.2.2.2.2.2.2.2.2.1
theorem dX8_copy_139 : decode cX8_copy 139 = .ok (.istore 6, 2) := edX8_copy_118.2.2.2.2.2.2.2.2.2.2.2.2.2.1
theorem dX8_copy_141 : decode cX8_copy 141 = .ok (.iload 6, 2) := edX8_copy_118.2.2.2.2.2.2.2.2.2.2.2.2.2.2.1
theorem dX8_copy_143 : decode cX8_copy 143 = .ok (.iload 5, 2) := edX8_copy_118.2.2.2.2.2.2.2.2.2.2.2.2.2.2.2.1
theorem dX8_copy_145 : decode cX8_copy 145 = .ok (.if_icmp .ge 31, 3) := edX8_copy_118.2.2.2.2.2.2.2.2.2.2.2.2.2.2.2.2.1
theorem dX8_copy_148 : decode cX8_copy 148 = .ok (.aload_n 0, 1) := edX8_copy_118.2.2.2.2.2.2.2.2.2.2.2.2.2.2.2.2.2.1
theorem dX8_copy_149 : decode cX8_copy 149 = .ok (.getfield 61, 3) := edX8_copy_118.2.2.2.2.2.2.2.2.2.2.2.2.2.2.2.2.2.2.1
theorem dX8_copy_152 : decode cX8_copy 152 = .ok (.bipush 24, 2) := edX8_copy_118.2.2.2.2.2.2.2.2.2.2.2.2.2.2.2.2.2.2.2.1
theorem dX8_copy_154 : decode cX8_copy 154 = .ok (.iload_n 3, 1) := edX8_copy_118.2.2.2.2.2.2.2.2.2.2.2.2.2.2.2.2.2.2.2.2.1
theorem dX8_copy_155 : decode cX8_copy 155 = .ok (.imul, 1) := edX8_copy_118.2.2.2.2.2.2.2.2.2.2.2.2.2.2.2.2.2.2.2.2.2.1
theorem dX8_copy_156 : decode cX8_copy 156 = .ok (.iload 4, 2) := edX8_copy_118.2.2.2.2.2.2.2.2.2.2.2.2.2.2.2.2.2.2.2.2.2.2.1
theorem dX8_copy_158 : decode cX8_copy 158 = .ok (.iadd, 1) := edX8_copy_118.2.2.2.2.2.2.2.2.2.2.2.2.2.2.2.2.2.2.2.2.2.2.2.1
theorem dX8_copy_159 : decode cX8_copy 159 = .ok (.iload 6, 2) := edX8_copy_118.2.2.2.2.2.2.2.2.2.2.2.2.2.2.2.2.2.2.2.2.2.2.2.2.1
theorem dX8_copy_161 : decode cX8_copy 161 = .ok (.iadd, 1) := edX8_copy_118.2.2.2.2.2.2.2.2.2.2.2.2.2.2.2.2.2.2.2.2.2.2.2.2.2.1
theorem dX8_copy_162 : decode cX8_copy 162 = .ok (.aload_n 0, 1) := edX8_copy_118.2.2.2.2.2.2.2.2.2.2.2.2.2.2.2.2.2.2.2.2.2.2.2.2.2.2.1
theorem dX8_copy_163 : decode cX8_copy 163 = .ok (.getfield 76, 3) := edX8_copy_118.2.2.2.2.2.2.2.2.2.2.2.2.2.2.2.2.2.2.2.2.2.2.2.2.2.2.2.1
theorem dX8_copy_166 : decode cX8_copy 166 = .ok (.iload 6, 2) := edX8_copy_118.2.2.2.2.2.2.2.2.2.2.2.2.2.2.2.2.2.2.2.2.2.2.2.2.2.2.2.2.1
theorem dX8_copy_168 : decode cX8_copy 168 = .ok (.iaload, 1) := edX8_copy_118.2.2.2.2.2.2.2.2.2.2.2.2.2.2.2.2.2.2.2.2.2.2.2.2.2.2.2.2.2.1
theorem dX8_copy_169 : decode cX8_copy 169 = .ok (.iastore, 1) := edX8_copy_118.2.2.2.2.2.2.2.2.2.2.2.2.2.2.2.2.2.2.2.2.2.2.2.2.2.2.2.2.2.2.1
theorem dX8_copy_170 : decode cX8_copy 170 = .ok (.iinc 6 1, 3) := edX8_copy_118.2.2.2.2.2.2.2.2.2.2.2.2.2.2.2.2.2.2.2.2.2.2.2.2.2.2.2.2.2.2.2.1
theorem edX8_copy_173 : (decode cX8_copy 173 = .ok (.goto (-32), 3)) ∧ (decode cX8_copy 176 = .ok (.iload 5, 2)) ∧ (decode cX8_copy 178 = .ok (.ireturn, 1)) ∧ True := dc_cj [(173, .goto (-32), 3), (176, .iload 5, 2), (178, .ireturn, 1)] (by decide +kernel)
theorem dX8_copy_173 : decode cX8_copy 173 = .ok (.goto (-32), 3) := edX8_copy_173.1
theorem dX8_copy_176 : decode cX8_copy 176 = .ok (.iload 5, 2) := edX8_copy_173.2.1
theorem dX8_copy_178 : decode cX8_copy 178 = .ok (.ireturn, 1) := edX8_copy_173.2.2.1
theorem edX8_lay_0 : (decode cX8_lay 0 = .ok (.iload_n 1, 1)) ∧ (decode cX8_lay 1 = .ok (.invokestatic 262, 3)) ∧ (decode cX8_lay 4 = .ok (.ifCond .eq 37, 3)) ∧ (decode cX8_lay 7 = .ok (.iload_n 2, 1)) ∧ (decode cX8_lay 8 = .ok (.iconst 0, 1)) ∧ (decode cX8_lay 9 = .ok (.iconst 3, 1)) ∧ (decode cX8_lay 10 = .ok (.invokestatic 83, 3)) ∧ (decode cX8_lay 13 = .ok (.ifCond .eq 28, 3)) ∧ (decode cX8_lay 16 = .ok (.iload_n 2, 1)) ∧ (decode cX8_lay 17 = .ok (.iconst 1, 1)) ∧ (decode cX8_lay 18 = .ok (.if_icmp .ne 11, 3)) ∧ (decode cX8_lay 21 = .ok (.aload_n 0, 1)) ∧ (decode cX8_lay 22 = .ok (.iload_n 3, 1)) ∧ (decode cX8_lay 23 = .ok (.invokevirtual 114, 3)) ∧ (decode cX8_lay 26 = .ok (.ifCond .eq 15, 3)) ∧ (decode cX8_lay 29 = .ok (.iload_n 2, 1)) ∧ (decode cX8_lay 30 = .ok (.iconst 2, 1)) ∧ (decode cX8_lay 31 = .ok (.if_icmp .ne 13, 3)) ∧ (decode cX8_lay 34 = .ok (.iload_n 3, 1)) ∧ (decode cX8_lay 35 = .ok (.invokestatic 184, 3)) ∧ (decode cX8_lay 38 = .ok (.ifCond .ne 6, 3)) ∧ (decode cX8_lay 41 = .ok (.ldc 91, 2)) ∧ (decode cX8_lay 43 = .ok (.ireturn, 1)) ∧ (decode cX8_lay 44 = .ok (.iload_n 2, 1)) ∧ (decode cX8_lay 45 = .ok (.iconst 2, 1)) ∧ (decode cX8_lay 46 = .ok (.if_icmp .ne 15, 3)) ∧ (decode cX8_lay 49 = .ok (.aload_n 0, 1)) ∧ (decode cX8_lay 50 = .ok (.getfield 55, 3)) ∧ (decode cX8_lay 53 = .ok (.iload_n 3, 1)) ∧ (decode cX8_lay 54 = .ok (.iaload, 1)) ∧ (decode cX8_lay 55 = .ok (.ifCond .ge 6, 3)) ∧ (decode cX8_lay 58 = .ok (.ldc 187, 2)) ∧ True := dc_cj [(0, .iload_n 1, 1), (1, .invokestatic 262, 3), (4, .ifCond .eq 37, 3), (7, .iload_n 2, 1), (8, .iconst 0, 1), (9, .iconst 3, 1), (10, .invokestatic 83, 3), (13, .ifCond .eq 28, 3), (16, .iload_n 2, 1), (17, .iconst 1, 1), (18, .if_icmp .ne 11, 3), (21, .aload_n 0, 1), (22, .iload_n 3, 1), (23, .invokevirtual 114, 3), (26, .ifCond .eq 15, 3), (29, .iload_n 2, 1), (30, .iconst 2, 1), (31, .if_icmp .ne 13, 3), (34, .iload_n 3, 1), (35, .invokestatic 184, 3), (38, .ifCond .ne 6, 3), (41, .ldc 91, 2), (43, .ireturn, 1), (44, .iload_n 2, 1), (45, .iconst 2, 1), (46, .if_icmp .ne 15, 3), (49, .aload_n 0, 1), (50, .getfield 55, 3), (53, .iload_n 3, 1), (54, .iaload, 1), (55, .ifCond .ge 6, 3), (58, .ldc 187, 2)] (by decide +kernel)
theorem dX8_lay_0 : decode cX8_lay 0 = .ok (.iload_n 1, 1) := edX8_lay_0.1
theorem dX8_lay_1 : decode cX8_lay 1 = .ok (.invokestatic 262, 3) := edX8_lay_0.2.1
theorem dX8_lay_4 : decode cX8_lay 4 = .ok (.ifCond .eq 37, 3) := edX8_lay_0.2.2.1
theorem dX8_lay_7 : decode cX8_lay 7 = .ok (.iload_n 2, 1) := edX8_lay_0.2.2.2.1
theorem dX8_lay_8 : decode cX8_lay 8 = .ok (.iconst 0, 1) := edX8_lay_0.2.2.2.2.1
theorem dX8_lay_9 : decode cX8_lay 9 = .ok (.iconst 3, 1) := edX8_lay_0.2.2.2.2.2.1
theorem dX8_lay_10 : decode cX8_lay 10 = .ok (.invokestatic 83, 3) := edX8_lay_0.2.2.2.2.2.2.1
theorem dX8_lay_13 : decode cX8_lay 13 = .ok (.ifCond .eq 28, 3) := edX8_lay_0.2.2.2.2.2.2.2.1
theorem dX8_lay_16 : decode cX8_lay 16 = .ok (.iload_n 2, 1) := edX8_lay_0.2.2.2.2.2.2.2.2.1
theorem dX8_lay_17 : decode cX8_lay 17 = .ok (.iconst 1, 1) := edX8_lay_0.2.2.2.2.2.2.2.2.2.1
theorem dX8_lay_18 : decode cX8_lay 18 = .ok (.if_icmp .ne 11, 3) := edX8_lay_0.2.2.2.2.2.2.2.2.2.2.1
theorem dX8_lay_21 : decode cX8_lay 21 = .ok (.aload_n 0, 1) := edX8_lay_0.2.2.2.2.2.2.2.2.2.2.2.1
theorem dX8_lay_22 : decode cX8_lay 22 = .ok (.iload_n 3, 1) := edX8_lay_0.2.2.2.2.2.2.2.2.2.2.2.2.1
theorem dX8_lay_23 : decode cX8_lay 23 = .ok (.invokevirtual 114, 3) := edX8_lay_0.2.2.2.2.2.2.2.2.2.2.2.2.2.1
theorem dX8_lay_26 : decode cX8_lay 26 = .ok (.ifCond .eq 15, 3) := edX8_lay_0.2.2.2.2.2.2.2.2.2.2.2.2.2.2.1
theorem dX8_lay_29 : decode cX8_lay 29 = .ok (.iload_n 2, 1) := edX8_lay_0.2.2.2.2.2.2.2.2.2.2.2.2.2.2.2.1
theorem dX8_lay_30 : decode cX8_lay 30 = .ok (.iconst 2, 1) := edX8_lay_0.2.2.2.2.2.2.2.2.2.2.2.2.2.2.2.2.1
theorem dX8_lay_31 : decode cX8_lay 31 = .ok (.if_icmp .ne 13, 3) := edX8_lay_0.2.2.2.2.2.2.2.2.2.2.2.2.2.2.2.2.2.1
theorem dX8_lay_34 : decode cX8_lay 34 = .ok (.iload_n 3, 1) := edX8_lay_0.2.2.2.2.2.2.2.2.2.2.2.2.2.2.2.2.2.2.1
theorem dX8_lay_35 : decode cX8_lay 35 = .ok (.invokestatic 184, 3) := edX8_lay_0.2.2.2.2.2.2.2.2.2.2.2.2.2.2.2.2.2.2.2.1
theorem dX8_lay_38 : decode cX8_lay 38 = .ok (.ifCond .ne 6, 3) := edX8_lay_0.2.2.2.2.2.2.2.2.2.2.2.2.2.2.2.2.2.2.2.2.1
theorem dX8_lay_41 : decode cX8_lay 41 = .ok (.ldc 91, 2) := edX8_lay_0.2.2.2.2.2.2.2.2.2.2.2.2.2.2.2.2.2.2.2.2.2.1
theorem dX8_lay_43 : decode cX8_lay 43 = .ok (.ireturn, 1) := edX8_lay_0.2.2.2.2.2.2.2.2.2.2.2.2.2.2.2.2.2.2.2.2.2.2.1
theorem dX8_lay_44 : decode cX8_lay 44 = .ok (.iload_n 2, 1) := edX8_lay_0.2.2.2.2.2.2.2.2.2.2.2.2.2.2.2.2.2.2.2.2.2.2.2.1
theorem dX8_lay_45 : decode cX8_lay 45 = .ok (.iconst 2, 1) := edX8_lay_0.2.2.2.2.2.2.2.2.2.2.2.2.2.2.2.2.2.2.2.2.2.2.2.2.1
theorem dX8_lay_46 : decode cX8_lay 46 = .ok (.if_icmp .ne 15, 3) := edX8_lay_0.2.2.2.2.2.2.2.2.2.2.2.2.2.2.2.2.2.2.2.2.2.2.2.2.2.1
theorem dX8_lay_49 : decode cX8_lay 49 = .ok (.aload_n 0, 1) := edX8_lay_0.2.2.2.2.2.2.2.2.2.2.2.2.2.2.2.2.2.2.2.2.2.2.2.2.2.2.1
theorem dX8_lay_50 : decode cX8_lay 50 = .ok (.getfield 55, 3) := edX8_lay_0.2.2.2.2.2.2.2.2.2.2.2.2.2.2.2.2.2.2.2.2.2.2.2.2.2.2.2.1
theorem dX8_lay_53 : decode cX8_lay 53 = .ok (.iload_n 3, 1) := edX8_lay_0.2.2.2.2.2.2.2.2.2.2.2.2.2.2.2.2.2.2.2.2.2.2.2.2.2.2.2.2.1
theorem dX8_lay_54 : decode cX8_lay 54 = .ok (.iaload, 1) := edX8_lay_0.2.2.2.2.2.2.2.2.2.2.2.2.2.2.2.2.2.2.2.2.2.2.2.2.2.2.2.2.2.1
theorem dX8_lay_55 : decode cX8_lay 55 = .ok (.ifCond .ge 6, 3) := edX8_lay_0.2.2.2.2.2.2.2.2.2.2.2.2.2.2.2.2.2.2.2.2.2.2.2.2.2.2.2.2.2.2.1
theorem dX8_lay_58 : decode cX8_lay 58 = .ok (.ldc 187, 2) := edX8_lay_0.2.2.2.2.2.2.2.2.2.2.2.2.2.2.2.2.2.2.2.2.2.2.2.2.2.2.2.2.2.2.2.1
theorem edX8_lay_60 : (decode cX8_lay 60 = .ok (.ireturn, 1)) ∧ (decode cX8_lay 61 = .ok (.aload_n 0, 1)) ∧ (decode cX8_lay 62 = .ok (.getfield 64, 3)) ∧ (decode cX8_lay 65 = .ok (.iload_n 1, 1)) ∧ (decode cX8_lay 66 = .ok (.iaload, 1)) ∧ (decode cX8_lay 67 = .ok (.istore 4, 2)) ∧ (decode cX8_lay 69 = .ok (.aload_n 0, 1)) ∧ (decode cX8_lay 70 = .ok (.getfield 64, 3)) ∧ (decode cX8_lay 73 = .ok (.iload_n 1, 1)) ∧ (decode cX8_lay 74 = .ok (.iload_n 2, 1)) ∧ (decode cX8_lay 75 = .ok (.iastore, 1)) ∧ (decode cX8_lay 76 = .ok (.aload_n 0, 1)) ∧ (decode cX8_lay 77 = .ok (.getfield 67, 3)) ∧ (decode cX8_lay 80 = .ok (.iload_n 1, 1)) ∧ (decode cX8_lay 81 = .ok (.iload_n 2, 1)) ∧ (decode cX8_lay 82 = .ok (.iconst 1, 1)) ∧ (decode cX8_lay 83 = .ok (.if_icmp .ne 12, 3)) ∧ (decode cX8_lay 86 = .ok (.aload_n 0, 1)) ∧ (decode cX8_lay 87 = .ok (.iload_n 3, 1)) ∧ (decode cX8_lay 88 = .ok (.iconst 0, 1)) ∧ (decode cX8_lay 89 = .ok (.invokevirtual 101, 3)) ∧ (decode cX8_lay 92 = .ok (.goto 18, 3)) ∧ (decode cX8_lay 95 = .ok (.iload_n 2, 1)) ∧ (decode cX8_lay 96 = .ok (.iconst 2, 1)) ∧ (decode cX8_lay 97 = .ok (.if_icmp .ne 12, 3)) ∧ (decode cX8_lay 100 = .ok (.aload_n 0, 1)) ∧ (decode cX8_lay 101 = .ok (.getfield 58, 3)) ∧ (decode cX8_lay 104 = .ok (.iload_n 3, 1)) ∧ (decode cX8_lay 105 = .ok (.iaload, 1)) ∧ (decode cX8_lay 106 = .ok (.goto 4, 3)) ∧ (decode cX8_lay 109 = .ok (.iload_n 3, 1)) ∧ (decode cX8_lay 110 = .ok (.iastore, 1)) ∧ True := dc_cj [(60, .ireturn, 1), (61, .aload_n 0, 1), (62, .getfield 64, 3), (65, .iload_n 1, 1), (66, .iaload, 1), (67, .istore 4, 2), (69, .aload_n 0, 1), (70, .getfield 64, 3), (73, .iload_n 1, 1), (74, .iload_n 2, 1), (75, .iastore, 1), (76, .aload_n 0, 1), (77, .getfield 67, 3), (80, .iload_n 1, 1), (81, .iload_n 2, 1), (82, .iconst 1, 1), (83, .if_icmp .ne 12, 3), (86, .aload_n 0, 1), (87, .iload_n 3, 1), (88, .iconst 0, 1), (89, .invokevirtual 101, 3), (92, .goto 18, 3), (95, .iload_n 2, 1), (96, .iconst 2, 1), (97, .if_icmp .ne 12, 3), (100, .aload_n 0, 1), (101, .getfield 58, 3), (104, .iload_n 3, 1), (105, .iaload, 1), (106, .goto 4, 3), (109, .iload_n 3, 1), (110, .iastore, 1)] (by decide +kernel)
theorem dX8_lay_60 : decode cX8_lay 60 = .ok (.ireturn, 1) := edX8_lay_60.1
theorem dX8_lay_61 : decode cX8_lay 61 = .ok (.aload_n 0, 1) := edX8_lay_60.2.1
theorem dX8_lay_62 : decode cX8_lay 62 = .ok (.getfield 64, 3) := edX8_lay_60.2.2.1
theorem dX8_lay_65 : decode cX8_lay 65 = .ok (.iload_n 1, 1) := edX8_lay_60.2.2.2.1
theorem dX8_lay_66 : decode cX8_lay 66 = .ok (.iaload, 1) := edX8_lay_60.2.2.2.2.1
theorem dX8_lay_67 : decode cX8_lay 67 = .ok (.istore 4, 2) := edX8_lay_60.2.2.2.2.2.1
theorem dX8_lay_69 : decode cX8_lay 69 = .ok (.aload_n 0, 1) := edX8_lay_60.2.2.2.2.2.2.1
theorem dX8_lay_70 : decode cX8_lay 70 = .ok (.getfield 64, 3) := edX8_lay_60.2.2.2.2.2.2.2.1
theorem dX8_lay_73 : decode cX8_lay 73 = .ok (.iload_n 1, 1) := edX8_lay_60.2.2.2.2.2.2.2.2.1
theorem dX8_lay_74 : decode cX8_lay 74 = .ok (.iload_n 2, 1) := edX8_lay_60.2.2.2.2.2.2.2.2.2.1
theorem dX8_lay_75 : decode cX8_lay 75 = .ok (.iastore, 1) := edX8_lay_60.2.2.2.2.2.2.2.2.2.2.1
theorem dX8_lay_76 : decode cX8_lay 76 = .ok (.aload_n 0, 1) := edX8_lay_60.2.2.2.2.2.2.2.2.2.2.2.1
theorem dX8_lay_77 : decode cX8_lay 77 = .ok (.getfield 67, 3) := edX8_lay_60.2.2.2.2.2.2.2.2.2.2.2.2.1
theorem dX8_lay_80 : decode cX8_lay 80 = .ok (.iload_n 1, 1) := edX8_lay_60.2.2.2.2.2.2.2.2.2.2.2.2.2.1
theorem dX8_lay_81 : decode cX8_lay 81 = .ok (.iload_n 2, 1) := edX8_lay_60.2.2.2.2.2.2.2.2.2.2.2.2.2.2.1
theorem dX8_lay_82 : decode cX8_lay 82 = .ok (.iconst 1, 1) := edX8_lay_60.2.2.2.2.2.2.2.2.2.2.2.2.2.2.2.1
theorem dX8_lay_83 : decode cX8_lay 83 = .ok (.if_icmp .ne 12, 3) := edX8_lay_60.2.2.2.2.2.2.2.2.2.2.2.2.2.2.2.2.1
theorem dX8_lay_86 : decode cX8_lay 86 = .ok (.aload_n 0, 1) := edX8_lay_60.2.2.2.2.2.2.2.2.2.2.2.2.2.2.2.2.2.1
theorem dX8_lay_87 : decode cX8_lay 87 = .ok (.iload_n 3, 1) := edX8_lay_60.2.2.2.2.2.2.2.2.2.2.2.2.2.2.2.2.2.2.1
theorem dX8_lay_88 : decode cX8_lay 88 = .ok (.iconst 0, 1) := edX8_lay_60.2.2.2.2.2.2.2.2.2.2.2.2.2.2.2.2.2.2.2.1
theorem dX8_lay_89 : decode cX8_lay 89 = .ok (.invokevirtual 101, 3) := edX8_lay_60.2.2.2.2.2.2.2.2.2.2.2.2.2.2.2.2.2.2.2.2.1
theorem dX8_lay_92 : decode cX8_lay 92 = .ok (.goto 18, 3) := edX8_lay_60.2.2.2.2.2.2.2.2.2.2.2.2.2.2.2.2.2.2.2.2.2.1
theorem dX8_lay_95 : decode cX8_lay 95 = .ok (.iload_n 2, 1) := edX8_lay_60.2.2.2.2.2.2.2.2.2.2.2.2.2.2.2.2.2.2.2.2.2.2.1
theorem dX8_lay_96 : decode cX8_lay 96 = .ok (.iconst 2, 1) := edX8_lay_60.2.2.2.2.2.2.2.2.2.2.2.2.2.2.2.2.2.2.2.2.2.2.2.1
theorem dX8_lay_97 : decode cX8_lay 97 = .ok (.if_icmp .ne 12, 3) := edX8_lay_60.2.2.2.2.2.2.2.2.2.2.2.2.2.2.2.2.2.2.2.2.2.2.2.2.1
theorem dX8_lay_100 : decode cX8_lay 100 = .ok (.aload_n 0, 1) := edX8_lay_60.2.2.2.2.2.2.2.2.2.2.2.2.2.2.2.2.2.2.2.2.2.2.2.2.2.1
theorem dX8_lay_101 : decode cX8_lay 101 = .ok (.getfield 58, 3) := edX8_lay_60.2.2.2.2.2.2.2.2.2.2.2.2.2.2.2.2.2.2.2.2.2.2.2.2.2.2.1
theorem dX8_lay_104 : decode cX8_lay 104 = .ok (.iload_n 3, 1) := edX8_lay_60.2.2.2.2.2.2.2.2.2.2.2.2.2.2.2.2.2.2.2.2.2.2.2.2.2.2.2.1
theorem dX8_lay_105 : decode cX8_lay 105 = .ok (.iaload, 1) := edX8_lay_60.2.2.2.2.2.2.2.2.2.2.2.2.2.2.2.2.2.2.2.2.2.2.2.2.2.2.2.2.1
theorem dX8_lay_106 : decode cX8_lay 106 = .ok (.goto 4, 3) := edX8_lay_60.2.2.2.2.2.2.2.2.2.2.2.2.2.2.2.2.2.2.2.2.2.2.2.2.2.2.2.2.2.1
theorem dX8_lay_109 : decode cX8_lay 109 = .ok (.iload_n 3, 1) := edX8_lay_60.2.2.2.2.2.2.2.2.2.2.2.2.2.2.2.2.2.2.2.2.2.2.2.2.2.2.2.2.2.2.1
theorem dX8_lay_110 : decode cX8_lay 110 = .ok (.iastore, 1) := edX8_lay_60.2.2.2.2.2.2.2.2.2.2.2.2.2.2.2.2.2.2.2.2.2.2.2.2.2.2.2.2.2.2.2.1
theorem edX8_lay_111 : (decode cX8_lay 111 = .ok (.aload_n 0, 1)) ∧ (decode cX8_lay 112 = .ok (.getfield 70, 3)) ∧ (decode cX8_lay 115 = .ok (.iload_n 1, 1)) ∧ (decode cX8_lay 116 = .ok (.iload_n 2, 1)) ∧ (decode cX8_lay 117 = .ok (.iconst 1, 1)) ∧ (decode cX8_lay 118 = .ok (.if_icmp .ne 11, 3)) ∧ (decode cX8_lay 121 = .ok (.aload_n 0, 1)) ∧ (decode cX8_lay 122 = .ok (.iload_n 3, 1)) ∧ (decode cX8_lay 123 = .ok (.invokevirtual 127, 3)) ∧ (decode cX8_lay 126 = .ok (.goto 4, 3)) ∧ (decode cX8_lay 129 = .ok (.iconst 0, 1)) ∧ (decode cX8_lay 130 = .ok (.iastore, 1)) ∧ (decode cX8_lay 131 = .ok (.iconst 0, 1)) ∧ (decode cX8_lay 132 = .ok (.istore 5, 2)) ∧ (decode cX8_lay 134 = .ok (.iload 5, 2)) ∧ (decode cX8_lay 136 = .ok (.bipush 24, 2)) ∧ (decode cX8_lay 138 = .ok (.if_icmp .ge 38, 3)) ∧ (decode cX8_lay 141 = .ok (.iload_n 2, 1)) ∧ (decode cX8_lay 142 = .ok (.iconst 2, 1)) ∧ (decode cX8_lay 143 = .ok (.if_icmp .ne 33, 3)) ∧ (decode cX8_lay 146 = .ok (.aload_n 0, 1)) ∧ (decode cX8_lay 147 = .ok (.getfield 73, 3)) ∧ (decode cX8_lay 150 = .ok (.bipush 24, 2)) ∧ (decode cX8_lay 152 = .ok (.iload_n 1, 1)) ∧ (decode cX8_lay 153 = .ok (.imul, 1)) ∧ (decode cX8_lay 154 = .ok (.iload 5, 2)) ∧ (decode cX8_lay 156 = .ok (.iadd, 1)) ∧ (decode cX8_lay 157 = .ok (.aload_n 0, 1)) ∧ (decode cX8_lay 158 = .ok (.getfield 61, 3)) ∧ (decode cX8_lay 161 = .ok (.bipush 24, 2)) ∧ (decode cX8_lay 163 = .ok (.iload_n 3, 1)) ∧ (decode cX8_lay 164 = .ok (.imul, 1)) ∧ True := dc_cj [(111, .aload_n 0, 1), (112, .getfield 70, 3), (115, .iload_n 1, 1), (116, .iload_n 2, 1), (117, .iconst 1, 1), (118, .if_icmp .ne 11, 3), (121, .aload_n 0, 1), (122, .iload_n 3, 1), (123, .invokevirtual 127, 3), (126, .goto 4, 3), (129, .iconst 0, 1), (130, .iastore, 1), (131, .iconst 0, 1), (132, .istore 5, 2), (134, .iload 5, 2), (136, .bipush 24, 2), (138, .if_icmp .ge 38, 3), (141, .iload_n 2, 1), (142, .iconst 2, 1), (143, .if_icmp .ne 33, 3), (146, .aload_n 0, 1), (147, .getfield 73, 3), (150, .bipush 24, 2), (152, .iload_n 1, 1), (153, .imul, 1), (154, .iload 5, 2), (156, .iadd, 1), (157, .aload_n 0, 1), (158, .getfield 61, 3), (161, .bipush 24, 2), (163, .iload_n 3, 1), (164, .imul, 1)] (by decide +kernel)
theorem dX8_lay_111 : decode cX8_lay 111 = .ok (.aload_n 0, 1) := edX8_lay_111.1
theorem dX8_lay_112 : decode cX8_lay 112 = .ok (.getfield 70, 3) := edX8_lay_111.2.1
theorem dX8_lay_115 : decode cX8_lay 115 = .ok (.iload_n 1, 1) := edX8_lay_111.2.2.1
theorem dX8_lay_116 : decode cX8_lay 116 = .ok (.iload_n 2, 1) := edX8_lay_111.2.2.2.1
theorem dX8_lay_117 : decode cX8_lay 117 = .ok (.iconst 1, 1) := edX8_lay_111.2.2.2.2.1
theorem dX8_lay_118 : decode cX8_lay 118 = .ok (.if_icmp .ne 11, 3) := edX8_lay_111.2.2.2.2.2.1
theorem dX8_lay_121 : decode cX8_lay 121 = .ok (.aload_n 0, 1) := edX8_lay_111.2.2.2.2.2.2.1
theorem dX8_lay_122 : decode cX8_lay 122 = .ok (.iload_n 3, 1) := edX8_lay_111.2.2.2.2.2.2.2.1
theorem dX8_lay_123 : decode cX8_lay 123 = .ok (.invokevirtual 127, 3) := edX8_lay_111.2.2.2.2.2.2.2.2.1
theorem dX8_lay_126 : decode cX8_lay 126 = .ok (.goto 4, 3) := edX8_lay_111.2.2.2.2.2.2.2.2.2.1
theorem dX8_lay_129 : decode cX8_lay 129 = .ok (.iconst 0, 1) := edX8_lay_111.2.2.2.2.2.2.2.2.2.2.1
theorem dX8_lay_130 : decode cX8_lay 130 = .ok (.iastore, 1) := edX8_lay_111.2.2.2.2.2.2.2.2.2.2.2.1
theorem dX8_lay_131 : decode cX8_lay 131 = .ok (.iconst 0, 1) := edX8_lay_111.2.2.2.2.2.2.2.2.2.2.2.2.1
theorem dX8_lay_132 : decode cX8_lay 132 = .ok (.istore 5, 2) := edX8_lay_111.2.2.2.2.2.2.2.2.2.2.2.2.2.1
theorem dX8_lay_134 : decode cX8_lay 134 = .ok (.iload 5, 2) := edX8_lay_111.2.2.2.2.2.2.2.2.2.2.2.2.2.2.1
theorem dX8_lay_136 : decode cX8_lay 136 = .ok (.bipush 24, 2) := edX8_lay_111.2.2.2.2.2.2.2.2.2.2.2.2.2.2.2.1
theorem dX8_lay_138 : decode cX8_lay 138 = .ok (.if_icmp .ge 38, 3) := edX8_lay_111.2.2.2.2.2.2.2.2.2.2.2.2.2.2.2.2.1
theorem dX8_lay_141 : decode cX8_lay 141 = .ok (.iload_n 2, 1) := edX8_lay_111.2.2.2.2.2.2.2.2.2.2.2.2.2.2.2.2.2.1
theorem dX8_lay_142 : decode cX8_lay 142 = .ok (.iconst 2, 1) := edX8_lay_111.2.2.2.2.2.2.2.2.2.2.2.2.2.2.2.2.2.2.1
theorem dX8_lay_143 : decode cX8_lay 143 = .ok (.if_icmp .ne 33, 3) := edX8_lay_111.2.2.2.2.2.2.2.2.2.2.2.2.2.2.2.2.2.2.2.1
theorem dX8_lay_146 : decode cX8_lay 146 = .ok (.aload_n 0, 1) := edX8_lay_111.2.2.2.2.2.2.2.2.2.2.2.2.2.2.2.2.2.2.2.2.1
theorem dX8_lay_147 : decode cX8_lay 147 = .ok (.getfield 73, 3) := edX8_lay_111.2.2.2.2.2.2.2.2.2.2.2.2.2.2.2.2.2.2.2.2.2.1
theorem dX8_lay_150 : decode cX8_lay 150 = .ok (.bipush 24, 2) := edX8_lay_111.2.2.2.2.2.2.2.2.2.2.2.2.2.2.2.2.2.2.2.2.2.2.1
theorem dX8_lay_152 : decode cX8_lay 152 = .ok (.iload_n 1, 1) := edX8_lay_111.2.2.2.2.2.2.2.2.2.2.2.2.2.2.2.2.2.2.2.2.2.2.2.1
theorem dX8_lay_153 : decode cX8_lay 153 = .ok (.imul, 1) := edX8_lay_111.2.2.2.2.2.2.2.2.2.2.2.2.2.2.2.2.2.2.2.2.2.2.2.2.1
theorem dX8_lay_154 : decode cX8_lay 154 = .ok (.iload 5, 2) := edX8_lay_111.2.2.2.2.2.2.2.2.2.2.2.2.2.2.2.2.2.2.2.2.2.2.2.2.2.1
theorem dX8_lay_156 : decode cX8_lay 156 = .ok (.iadd, 1) := edX8_lay_111.2.2.2.2.2.2.2.2.2.2.2.2.2.2.2.2.2.2.2.2.2.2.2.2.2.2.1
theorem dX8_lay_157 : decode cX8_lay 157 = .ok (.aload_n 0, 1) := edX8_lay_111.2.2.2.2.2.2.2.2.2.2.2.2.2.2.2.2.2.2.2.2.2.2.2.2.2.2.2.1
theorem dX8_lay_158 : decode cX8_lay 158 = .ok (.getfield 61, 3) := edX8_lay_111.2.2.2.2.2.2.2.2.2.2.2.2.2.2.2.2.2.2.2.2.2.2.2.2.2.2.2.2.1
theorem dX8_lay_161 : decode cX8_lay 161 = .ok (.bipush 24, 2) := edX8_lay_111.2.2.2.2.2.2.2.2.2.2.2.2.2.2.2.2.2.2.2.2.2.2.2.2.2.2.2.2.2.1
theorem dX8_lay_163 : decode cX8_lay 163 = .ok (.iload_n 3, 1) := edX8_lay_111.2.2.2.2.2.2.2.2.2.2.2.2.2.2.2.2.2.2.2.2.2.2.2.2.2.2.2.2.2.2.1
theorem dX8_lay_164 : decode cX8_lay 164 = .ok (.imul, 1) := edX8_lay_111.2.2.2.2.2.2.2.2.2.2.2.2.2.2.2.2.2.2.2.2.2.2.2.2.2.2.2.2.2.2.2.1
theorem edX8_lay_165 : (decode cX8_lay 165 = .ok (.iload 5, 2)) ∧ (decode cX8_lay 167 = .ok (.iadd, 1)) ∧ (decode cX8_lay 168 = .ok (.iaload, 1)) ∧ (decode cX8_lay 169 = .ok (.iastore, 1)) ∧ (decode cX8_lay 170 = .ok (.iinc 5 1, 3)) ∧ (decode cX8_lay 173 = .ok (.goto (-39), 3)) ∧ (decode cX8_lay 176 = .ok (.iload 4, 2)) ∧ (decode cX8_lay 178 = .ok (.ireturn, 1)) ∧ True := dc_cj [(165, .iload 5, 2), (167, .iadd, 1), (168, .iaload, 1), (169, .iastore, 1), (170, .iinc 5 1, 3), (173, .goto (-39), 3), (176, .iload 4, 2), (178, .ireturn, 1)] (by decide +kernel)
theorem dX8_lay_165 : decode cX8_lay 165 = .ok (.iload 5, 2) := edX8_lay_165.1
theorem dX8_lay_167 : decode cX8_lay 167 = .ok (.iadd, 1) := edX8_lay_165.2.1
theorem dX8_lay_168 : decode cX8_lay 168 = .ok (.iaload, 1) := edX8_lay_165.2.2.1
theorem dX8_lay_169 : decode cX8_lay 169 = .ok (.iastore, 1) := edX8_lay_165.2.2.2.1
theorem dX8_lay_170 : decode cX8_lay 170 = .ok (.iinc 5 1, 3) := edX8_lay_165.2.2.2.2.1
theorem dX8_lay_173 : decode cX8_lay 173 = .ok (.goto (-39), 3) := edX8_lay_165.2.2.2.2.2.1
theorem dX8_lay_176 : decode cX8_lay 176 = .ok (.iload 4, 2) := edX8_lay_165.2.2.2.2.2.2.1
theorem dX8_lay_178 : decode cX8_lay 178 = .ok (.ireturn, 1) := edX8_lay_165.2.2.2.2.2.2.2.1
theorem edX8_ask_0 : (decode cX8_ask 0 = .ok (.iload_n 1, 1)) ∧ (decode cX8_ask 1 = .ok (.invokestatic 262, 3)) ∧ (decode cX8_ask 4 = .ok (.ifCond .eq 12, 3)) ∧ (decode cX8_ask 7 = .ok (.iload_n 2, 1)) ∧ (decode cX8_ask 8 = .ok (.iconst 0, 1)) ∧ (decode cX8_ask 9 = .ok (.iconst 5, 1)) ∧ (decode cX8_ask 10 = .ok (.invokestatic 83, 3)) ∧ (decode cX8_ask 13 = .ok (.ifCond .ne 6, 3)) ∧ (decode cX8_ask 16 = .ok (.ldc 91, 2)) ∧ (decode cX8_ask 18 = .ok (.ireturn, 1)) ∧ (decode cX8_ask 19 = .ok (.aload_n 0, 1)) ∧ (decode cX8_ask 20 = .ok (.getfield 64, 3)) ∧ (decode cX8_ask 23 = .ok (.iload_n 1, 1)) ∧ (decode cX8_ask 24 = .ok (.iaload, 1)) ∧ (decode cX8_ask 25 = .ok (.ifCond .ne 6, 3)) ∧ (decode cX8_ask 28 = .ok (.ldc 187, 2)) ∧ (decode cX8_ask 30 = .ok (.ireturn, 1)) ∧ (decode cX8_ask 31 = .ok (.aload_n 0, 1)) ∧ (decode cX8_ask 32 = .ok (.getfield 64, 3)) ∧ (decode cX8_ask 35 = .ok (.iload_n 1, 1)) ∧ (decode cX8_ask 36 = .ok (.iaload, 1)) ∧ (decode cX8_ask 37 = .ok (.iconst 1, 1)) ∧ (decode cX8_ask 38 = .ok (.if_icmp .ne 25, 3)) ∧ (decode cX8_ask 41 = .ok (.aload_n 0, 1)) ∧ (decode cX8_ask 42 = .ok (.getfield 67, 3)) ∧ (decode cX8_ask 45 = .ok (.iload_n 1, 1)) ∧ (decode cX8_ask 46 = .ok (.iaload, 1)) ∧ (decode cX8_ask 47 = .ok (.iload_n 2, 1)) ∧ (decode cX8_ask 48 = .ok (.invokestatic 130, 3)) ∧ (decode cX8_ask 51 = .ok (.ifCond .eq 12, 3)) ∧ (decode cX8_ask 54 = .ok (.aload_n 0, 1)) ∧ (decode cX8_ask 55 = .ok (.getfield 70, 3)) ∧ True := dc_cj [(0, .iload_n 1, 1), (1, .invokestatic 262, 3), (4, .ifCond .eq 12, 3), (7, .iload_n 2, 1), (8, .iconst 0, 1), (9, .iconst 5, 1), (10, .invokestatic 83, 3), (13, .ifCond .ne 6, 3), (16, .ldc 91, 2), (18, .ireturn, 1), (19, .aload_n 0, 1), (20, .getfield 64, 3), (23, .iload_n 1, 1), (24, .iaload, 1), (25, .ifCond .ne 6, 3), (28, .ldc 187, 2), (30, .ireturn, 1), (31, .aload_n 0, 1), (32, .getfield 64, 3), (35, .iload_n 1, 1), (36, .iaload, 1), (37, .iconst 1, 1), (38, .if_icmp .ne 25, 3), (41, .aload_n 0, 1), (42, .getfield 67, 3), (45, .iload_n 1, 1), (46, .iaload, 1), (47, .iload_n 2, 1), (48, .invokestatic 130, 3), (51, .ifCond .eq 12, 3), (54, .aload_n 0, 1), (55, .getfield 70, 3)] (by decide +kernel)
theorem dX8_ask_0 : decode cX8_ask 0 = .ok (.iload_n 1, 1) := edX8_ask_0.1
theorem dX8_ask_1 : decode cX8_ask 1 = .ok (.invokestatic 262, 3) := edX8_ask_0.2.1
theorem dX8_ask_4 : decode cX8_ask 4 = .ok (.ifCond .eq 12, 3) := edX8_ask_0.2.2.1
theorem dX8_ask_7 : decode cX8_ask 7 = .ok (.iload_n 2, 1) := edX8_ask_0.2.2.2.1
theorem dX8_ask_8 : decode cX8_ask 8 = .ok (.iconst 0, 1) := edX8_ask_0.2.2.2.2.1
theorem dX8_ask_9 : decode cX8_ask 9 = .ok (.iconst 5, 1) := edX8_ask_0.2.2.2.2.2.1
theorem dX8_ask_10 : decode cX8_ask 10 = .ok (.invokestatic 83, 3) := edX8_ask_0.2.2.2.2.2.2.1
theorem dX8_ask_13 : decode cX8_ask 13 = .ok (.ifCond .ne 6, 3) := edX8_ask_0.2.2.2.2.2.2.2.1
theorem dX8_ask_16 : decode cX8_ask 16 = .ok (.ldc 91, 2) := edX8_ask_0.2.2.2.2.2.2.2.2.1
theorem dX8_ask_18 : decode cX8_ask 18 = .ok (.ireturn, 1) := edX8_ask_0.2.2.2.2.2.2.2.2.2.1
theorem dX8_ask_19 : decode cX8_ask 19 = .ok (.aload_n 0, 1) := edX8_ask_0.2.2.2.2.2.2.2.2.2.2.1
theorem dX8_ask_20 : decode cX8_ask 20 = .ok (.getfield 64, 3) := edX8_ask_0.2.2.2.2.2.2.2.2.2.2.2.1
theorem dX8_ask_23 : decode cX8_ask 23 = .ok (.iload_n 1, 1) := edX8_ask_0.2.2.2.2.2.2.2.2.2.2.2.2.1
theorem dX8_ask_24 : decode cX8_ask 24 = .ok (.iaload, 1) := edX8_ask_0.2.2.2.2.2.2.2.2.2.2.2.2.2.1
theorem dX8_ask_25 : decode cX8_ask 25 = .ok (.ifCond .ne 6, 3) := edX8_ask_0.2.2.2.2.2.2.2.2.2.2.2.2.2.2.1
theorem dX8_ask_28 : decode cX8_ask 28 = .ok (.ldc 187, 2) := edX8_ask_0.2.2.2.2.2.2.2.2.2.2.2.2.2.2.2.1
theorem dX8_ask_30 : decode cX8_ask 30 = .ok (.ireturn, 1) := edX8_ask_0.2.2.2.2.2.2.2.2.2.2.2.2.2.2.2.2.1
theorem dX8_ask_31 : decode cX8_ask 31 = .ok (.aload_n 0, 1) := edX8_ask_0.2.2.2.2.2.2.2.2.2.2.2.2.2.2.2.2.2.1
theorem dX8_ask_32 : decode cX8_ask 32 = .ok (.getfield 64, 3) := edX8_ask_0.2.2.2.2.2.2.2.2.2.2.2.2.2.2.2.2.2.2.1
theorem dX8_ask_35 : decode cX8_ask 35 = .ok (.iload_n 1, 1) := edX8_ask_0.2.2.2.2.2.2.2.2.2.2.2.2.2.2.2.2.2.2.2.1
theorem dX8_ask_36 : decode cX8_ask 36 = .ok (.iaload, 1) := edX8_ask_0.2.2.2.2.2.2.2.2.2.2.2.2.2.2.2.2.2.2.2.2.1
theorem dX8_ask_37 : decode cX8_ask 37 = .ok (.iconst 1, 1) := edX8_ask_0.2.2.2.2.2.2.2.2.2.2.2.2.2.2.2.2.2.2.2.2.2.1
theorem dX8_ask_38 : decode cX8_ask 38 = .ok (.if_icmp .ne 25, 3) := edX8_ask_0.2.2.2.2.2.2.2.2.2.2.2.2.2.2.2.2.2.2.2.2.2.2.1
theorem dX8_ask_41 : decode cX8_ask 41 = .ok (.aload_n 0, 1) := edX8_ask_0.2.2.2.2.2.2.2.2.2.2.2.2.2.2.2.2.2.2.2.2.2.2.2.1
theorem dX8_ask_42 : decode cX8_ask 42 = .ok (.getfield 67, 3) := edX8_ask_0.2.2.2.2.2.2.2.2.2.2.2.2.2.2.2.2.2.2.2.2.2.2.2.2.1
theorem dX8_ask_45 : decode cX8_ask 45 = .ok (.iload_n 1, 1) := edX8_ask_0.2.2.2.2.2.2.2.2.2.2.2.2.2.2.2.2.2.2.2.2.2.2.2.2.2.1
theorem dX8_ask_46 : decode cX8_ask 46 = .ok (.iaload, 1) := edX8_ask_0.2.2.2.2.2.2.2.2.2.2.2.2.2.2.2.2.2.2.2.2.2.2.2.2.2.2.1
theorem dX8_ask_47 : decode cX8_ask 47 = .ok (.iload_n 2, 1) := edX8_ask_0.2.2.2.2.2.2.2.2.2.2.2.2.2.2.2.2.2.2.2.2.2.2.2.2.2.2.2.1
theorem dX8_ask_48 : decode cX8_ask 48 = .ok (.invokestatic 130, 3) := edX8_ask_0.2.2.2.2.2.2.2.2.2.2.2.2.2.2.2.2.2.2.2.2.2.2.2.2.2.2.2.2.1
theorem dX8_ask_51 : decode cX8_ask 51 = .ok (.ifCond .eq 12, 3) := edX8_ask_0.2.2.2.2.2.2.2.2.2.2.2.2.2.2.2.2.2.2.2.2.2.2.2.2.2.2.2.2.2.1
theorem dX8_ask_54 : decode cX8_ask 54 = .ok (.aload_n 0, 1) := edX8_ask_0.2.2.2.2.2.2.2.2.2.2.2.2.2.2.2.2.2.2.2.2.2.2.2.2.2.2.2.2.2.2.1
theorem dX8_ask_55 : decode cX8_ask 55 = .ok (.getfield 70, 3) := edX8_ask_0.2.2.2.2.2.2.2.2.2.2.2.2.2.2.2.2.2.2.2.2.2.2.2.2.2.2.2.2.2.2.2.1
theorem edX8_ask_58 : (decode cX8_ask 58 = .ok (.iload_n 1, 1)) ∧ (decode cX8_ask 59 = .ok (.iaload, 1)) ∧ (decode cX8_ask 60 = .ok (.goto 5, 3)) ∧ (decode cX8_ask 63 = .ok (.ldc 134, 2)) ∧ (decode cX8_ask 65 = .ok (.ireturn, 1)) ∧ True := dc_cj [(58, .iload_n 1, 1), (59, .iaload, 1), (60, .goto 5, 3), (63, .ldc 134, 2), (65, .ireturn, 1)] (by decide +kernel)
theorem dX8_ask_58 : decode cX8_ask 58 = .ok (.iload_n 1, 1) := edX8_ask_58.1
theorem dX8_ask_59 : decode cX8_ask 59 = .ok (.iaload, 1) := edX8_ask_58.2.1
theorem dX8_ask_60 : decode cX8_ask 60 = .ok (.goto 5, 3) := edX8_ask_58.2.2.1
theorem dX8_ask_63 : decode cX8_ask 63 = .ok (.ldc 134, 2) := edX8_ask_58.2.2.2.1
theorem dX8_ask_65 : decode cX8_ask 65 = .ok (.ireturn, 1) := edX8_ask_58.2.2.2.2.1
theorem edX8_item_0 : (decode cX8_item 0 = .ok (.iload_n 1, 1)) ∧ (decode cX8_item 1 = .ok (.invokestatic 262, 3)) ∧ (decode cX8_item 4 = .ok (.ifCond .ne 6, 3)) ∧ (decode cX8_item 7 = .ok (.ldc 91, 2)) ∧ (decode cX8_item 9 = .ok (.ireturn, 1)) ∧ (decode cX8_item 10 = .ok (.aload_n 0, 1)) ∧ (decode cX8_item 11 = .ok (.getfield 64, 3)) ∧ (decode cX8_item 14 = .ok (.iload_n 1, 1)) ∧ (decode cX8_item 15 = .ok (.iaload, 1)) ∧ (decode cX8_item 16 = .ok (.ifCond .ne 6, 3)) ∧ (decode cX8_item 19 = .ok (.ldc 187, 2)) ∧ (decode cX8_item 21 = .ok (.ireturn, 1)) ∧ (decode cX8_item 22 = .ok (.aload_n 0, 1)) ∧ (decode cX8_item 23 = .ok (.getfield 64, 3)) ∧ (decode cX8_item 26 = .ok (.iload_n 1, 1)) ∧ (decode cX8_item 27 = .ok (.iaload, 1)) ∧ (decode cX8_item 28 = .ok (.iconst 2, 1)) ∧ (decode cX8_item 29 = .ok (.if_icmp .eq 6, 3)) ∧ (decode cX8_item 32 = .ok (.ldc 134, 2)) ∧ (decode cX8_item 34 = .ok (.ireturn, 1)) ∧ (decode cX8_item 35 = .ok (.iload_n 2, 1)) ∧ (decode cX8_item 36 = .ok (.iconst 0, 1)) ∧ (decode cX8_item 37 = .ok (.aload_n 0, 1)) ∧ (decode cX8_item 38 = .ok (.getfield 67, 3)) ∧ (decode cX8_item 41 = .ok (.iload_n 1, 1)) ∧ (decode cX8_item 42 = .ok (.iaload, 1)) ∧ (decode cX8_item 43 = .ok (.iconst 1, 1)) ∧ (decode cX8_item 44 = .ok (.isub, 1)) ∧ (decode cX8_item 45 = .ok (.invokestatic 83, 3)) ∧ (decode cX8_item 48 = .ok (.ifCond .ne 7, 3)) ∧ (decode cX8_item 51 = .ok (.ldc_w 259, 3)) ∧ (decode cX8_item 54 = .ok (.ireturn, 1)) ∧ True := dc_cj [(0, .iload_n 1, 1), (1, .invokestatic 262, 3), (4, .ifCond .ne 6, 3), (7, .ldc 91, 2), (9, .ireturn, 1), (10, .aload_n 0, 1), (11, .getfield 64, 3), (14, .iload_n 1, 1), (15, .iaload, 1), (16, .ifCond .ne 6, 3), (19, .ldc 187, 2), (21, .ireturn, 1), (22, .aload_n 0, 1), (23, .getfield 64, 3), (26, .iload_n 1, 1), (27, .iaload, 1), (28, .iconst 2, 1), (29, .if_icmp .eq 6, 3), (32, .ldc 134, 2), (34, .ireturn, 1), (35, .iload_n 2, 1), (36, .iconst 0, 1), (37, .aload_n 0, 1), (38, .getfield 67, 3), (41, .iload_n 1, 1), (42, .iaload, 1), (43, .iconst 1, 1), (44, .isub, 1), (45, .invokestatic 83, 3), (48, .ifCond .ne 7, 3), (51, .ldc_w 259, 3), (54, .ireturn, 1)] (by decide +kernel)
theorem dX8_item_0 : decode cX8_item 0 = .ok (.iload_n 1, 1) := edX8_item_0.1
theorem dX8_item_1 : decode cX8_item 1 = .ok (.invokestatic 262, 3) := edX8_item_0.2.1
theorem dX8_item_4 : decode cX8_item 4 = .ok (.ifCond .ne 6, 3) := edX8_item_0.2.2.1
theorem dX8_item_7 : decode cX8_item 7 = .ok (.ldc 91, 2) := edX8_item_0.2.2.2.1
theorem dX8_item_9 : decode cX8_item 9 = .ok (.ireturn, 1) := edX8_item_0.2.2.2.2.1
theorem dX8_item_10 : decode cX8_item 10 = .ok (.aload_n 0, 1) := edX8_item_0.2.2.2.2.2.1
theorem dX8_item_11 : decode cX8_item 11 = .ok (.getfield 64, 3) := edX8_item_0.2.2.2.2.2.2.1
theorem dX8_item_14 : decode cX8_item 14 = .ok (.iload_n 1, 1) := edX8_item_0.2.2.2.2.2.2.2.1
theorem dX8_item_15 : decode cX8_item 15 = .ok (.iaload, 1) := edX8_item_0.2.2.2.2.2.2.2.2.1
theorem dX8_item_16 : decode cX8_item 16 = .ok (.ifCond .ne 6, 3) := edX8_item_0.2.2.2.2.2.2.2.2.2.1
theorem dX8_item_19 : decode cX8_item 19 = .ok (.ldc 187, 2) := edX8_item_0.2.2.2.2.2.2.2.2.2.2.1
theorem dX8_item_21 : decode cX8_item 21 = .ok (.ireturn, 1) := edX8_item_0.2.2.2.2.2.2.2.2.2.2.2.1
theorem dX8_item_22 : decode cX8_item 22 = .ok (.aload_n 0, 1) := edX8_item_0.2.2.2.2.2.2.2.2.2.2.2.2.1
theorem dX8_item_23 : decode cX8_item 23 = .ok (.getfield 64, 3) := edX8_item_0.2.2.2.2.2.2.2.2.2.2.2.2.2.1
theorem dX8_item_26 : decode cX8_item 26 = .ok (.iload_n 1, 1) := edX8_item_0.2.2.2.2.2.2.2.2.2.2.2.2.2.2.1
theorem dX8_item_27 : decode cX8_item 27 = .ok (.iaload, 1) := edX8_item_0.2.2.2.2.2.2.2.2.2.2.2.2.2.2.2.1
theorem dX8_item_28 : decode cX8_item 28 = .ok (.iconst 2, 1) := edX8_item_0.2.2.2.2.2.2.2.2.2.2.2.2.2.2.2.2.1
theorem dX8_item_29 : decode cX8_item 29 = .ok (.if_icmp .eq 6, 3) := edX8_item_0.2.2.2.2.2.2.2.2.2.2.2.2.2.2.2.2.2.1
theorem dX8_item_32 : decode cX8_item 32 = .ok (.ldc 134, 2) := edX8_item_0.2.2.2.2.2.2.2.2.2.2.2.2.2.2.2.2.2.2.1
theorem dX8_item_34 : decode cX8_item 34 = .ok (.ireturn, 1) := edX8_item_0.2.2.2.2.2.2.2.2.2.2.2.2.2.2.2.2.2.2.2.1
theorem dX8_item_35 : decode cX8_item 35 = .ok (.iload_n 2, 1) := edX8_item_0.2.2.2.2.2.2.2.2.2.2.2.2.2.2.2.2.2.2.2.2.1
theorem dX8_item_36 : decode cX8_item 36 = .ok (.iconst 0, 1) := edX8_item_0.2.2.2.2.2.2.2.2.2.2.2.2.2.2.2.2.2.2.2.2.2.1
theorem dX8_item_37 : decode cX8_item 37 = .ok (.aload_n 0, 1) := edX8_item_0.2.2.2.2.2.2.2.2.2.2.2.2.2.2.2.2.2.2.2.2.2.2.1
theorem dX8_item_38 : decode cX8_item 38 = .ok (.getfield 67, 3) := edX8_item_0.2.2.2.2.2.2.2.2.2.2.2.2.2.2.2.2.2.2.2.2.2.2.2.1
theorem dX8_item_41 : decode cX8_item 41 = .ok (.iload_n 1, 1) := edX8_item_0.2.2.2.2.2.2.2.2.2.2.2.2.2.2.2.2.2.2.2.2.2.2.2.2.1
theorem dX8_item_42 : decode cX8_item 42 = .ok (.iaload, 1) := edX8_item_0.2.2.2.2.2.2.2.2.2.2.2.2.2.2.2.2.2.2.2.2.2.2.2.2.2.1
theorem dX8_item_43 : decode cX8_item 43 = .ok (.iconst 1, 1) := edX8_item_0.2.2.2.2.2.2.2.2.2.2.2.2.2.2.2.2.2.2.2.2.2.2.2.2.2.2.1
theorem dX8_item_44 : decode cX8_item 44 = .ok (.isub, 1) := edX8_item_0.2.2.2.2.2.2.2.2.2.2.2.2.2.2.2.2.2.2.2.2.2.2.2.2.2.2.2.1
theorem dX8_item_45 : decode cX8_item 45 = .ok (.invokestatic 83, 3) := edX8_item_0.2.2.2.2.2.2.2.2.2.2.2.2.2.2.2.2.2.2.2.2.2.2.2.2.2.2.2.2.1
theorem dX8_item_48 : decode cX8_item 48 = .ok (.ifCond .ne 7, 3) := edX8_item_0.2.2.2.2.2.2.2.2.2.2.2.2.2.2.2.2.2.2.2.2.2.2.2.2.2.2.2.2.2.1
theorem dX8_item_51 : decode cX8_item 51 = .ok (.ldc_w 259, 3) := edX8_item_0.2.2.2.2.2.2.2.2.2.2.2.2.2.2.2.2.2.2.2.2.2.2.2.2.2.2.2.2.2.2.1
theorem dX8_item_54 : decode cX8_item 54 = .ok (.ireturn, 1) := edX8_item_0.2.2.2.2.2.2.2.2.2.2.2.2.2.2.2.2.2.2.2.2.2.2.2.2.2.2.2.2.2.2.2.1
theorem edX8_item_55 : (decode cX8_item 55 = .ok (.aload_n 0, 1)) ∧ (decode cX8_item 56 = .ok (.getfield 73, 3)) ∧ (decode cX8_item 59 = .ok (.bipush 24, 2)) ∧ (decode cX8_item 61 = .ok (.iload_n 1, 1)) ∧ (decode cX8_item 62 = .ok (.imul, 1)) ∧ (decode cX8_item 63 = .ok (.iload_n 2, 1)) ∧ (decode cX8_item 64 = .ok (.iadd, 1)) ∧ (decode cX8_item 65 = .ok (.iaload, 1)) ∧ (decode cX8_item 66 = .ok (.istore_n 3, 1)) ∧ (decode cX8_item 67 = .ok (.iload_n 3, 1)) ∧ (decode cX8_item 68 = .ok (.ldc 82, 2)) ∧ (decode cX8_item 70 = .ok (.if_icmp .ne 8, 3)) ∧ (decode cX8_item 73 = .ok (.ldc 134, 2)) ∧ (decode cX8_item 75 = .ok (.goto 4, 3)) ∧ (decode cX8_item 78 = .ok (.iload_n 3, 1)) ∧ (decode cX8_item 79 = .ok (.ireturn, 1)) ∧ True := dc_cj [(55, .aload_n 0, 1), (56, .getfield 73, 3), (59, .bipush 24, 2), (61, .iload_n 1, 1), (62, .imul, 1), (63, .iload_n 2, 1), (64, .iadd, 1), (65, .iaload, 1), (66, .istore_n 3, 1), (67, .iload_n 3, 1), (68, .ldc 82, 2), (70, .if_icmp .ne 8, 3), (73, .ldc 134, 2), (75, .goto 4, 3), (78, .iload_n 3, 1), (79, .ireturn, 1)] (by decide +kernel)
theorem dX8_item_55 : decode cX8_item 55 = .ok (.aload_n 0, 1) := edX8_item_55.1
theorem dX8_item_56 : decode cX8_item 56 = .ok (.getfield 73, 3) := edX8_item_55.2.1
theorem dX8_item_59 : decode cX8_item 59 = .ok (.bipush 24, 2) := edX8_item_55.2.2.1
theorem dX8_item_61 : decode cX8_item 61 = .ok (.iload_n 1, 1) := edX8_item_55.2.2.2.1
theorem dX8_item_62 : decode cX8_item 62 = .ok (.imul, 1) := edX8_item_55.2.2.2.2.1
theorem dX8_item_63 : decode cX8_item 63 = .ok (.iload_n 2, 1) := edX8_item_55.2.2.2.2.2.1
theorem dX8_item_64 : decode cX8_item 64 = .ok (.iadd, 1) := edX8_item_55.2.2.2.2.2.2.1
theorem dX8_item_65 : decode cX8_item 65 = .ok (.iaload, 1) := edX8_item_55.2.2.2.2.2.2.2.1
theorem dX8_item_66 : decode cX8_item 66 = .ok (.istore_n 3, 1) := edX8_item_55.2.2.2.2.2.2.2.2.1
theorem dX8_item_67 : decode cX8_item 67 = .ok (.iload_n 3, 1) := edX8_item_55.2.2.2.2.2.2.2.2.2.1
theorem dX8_item_68 : decode cX8_item 68 = .ok (.ldc 82, 2) := edX8_item_55.2.2.2.2.2.2.2.2.2.2.1
theorem dX8_item_70 : decode cX8_item 70 = .ok (.if_icmp .ne 8, 3) := edX8_item_55.2.2.2.2.2.2.2.2.2.2.2.1
theorem dX8_item_73 : decode cX8_item 73 = .ok (.ldc 134, 2) := edX8_item_55.2.2.2.2.2.2.2.2.2.2.2.2.1
theorem dX8_item_75 : decode cX8_item 75 = .ok (.goto 4, 3) := edX8_item_55.2.2.2.2.2.2.2.2.2.2.2.2.2.1
theorem dX8_item_78 : decode cX8_item 78 = .ok (.iload_n 3, 1) := edX8_item_55.2.2.2.2.2.2.2.2.2.2.2.2.2.2.1
theorem dX8_item_79 : decode cX8_item 79 = .ok (.ireturn, 1) := edX8_item_55.2.2.2.2.2.2.2.2.2.2.2.2.2.2.2.1
theorem edX8_rest_0 : (decode cX8_rest 0 = .ok (.iload_n 1, 1)) ∧ (decode cX8_rest 1 = .ok (.invokestatic 262, 3)) ∧ (decode cX8_rest 4 = .ok (.ifCond .ne 6, 3)) ∧ (decode cX8_rest 7 = .ok (.ldc 91, 2)) ∧ (decode cX8_rest 9 = .ok (.ireturn, 1)) ∧ (decode cX8_rest 10 = .ok (.aload_n 0, 1)) ∧ (decode cX8_rest 11 = .ok (.getfield 64, 3)) ∧ (decode cX8_rest 14 = .ok (.iload_n 1, 1)) ∧ (decode cX8_rest 15 = .ok (.iaload, 1)) ∧ (decode cX8_rest 16 = .ok (.ifCond .ne 6, 3)) ∧ (decode cX8_rest 19 = .ok (.ldc 187, 2)) ∧ (decode cX8_rest 21 = .ok (.ireturn, 1)) ∧ (decode cX8_rest 22 = .ok (.aload_n 0, 1)) ∧ (decode cX8_rest 23 = .ok (.getfield 64, 3)) ∧ (decode cX8_rest 26 = .ok (.iload_n 1, 1)) ∧ (decode cX8_rest 27 = .ok (.iaload, 1)) ∧ (decode cX8_rest 28 = .ok (.iconst 3, 1)) ∧ (decode cX8_rest 29 = .ok (.if_icmp .eq 6, 3)) ∧ (decode cX8_rest 32 = .ok (.ldc 134, 2)) ∧ (decode cX8_rest 34 = .ok (.ireturn, 1)) ∧ (decode cX8_rest 35 = .ok (.iload_n 2, 1)) ∧ (decode cX8_rest 36 = .ok (.ifCond .ne 9, 3)) ∧ (decode cX8_rest 39 = .ok (.ldc_w 265, 3)) ∧ (decode cX8_rest 42 = .ok (.goto 20, 3)) ∧ (decode cX8_rest 45 = .ok (.iload_n 2, 1)) ∧ (decode cX8_rest 46 = .ok (.iconst (-1), 1)) ∧ (decode cX8_rest 47 = .ok (.if_icmp .ne 7, 3)) ∧ (decode cX8_rest 50 = .ok (.iconst 0, 1)) ∧ (decode cX8_rest 51 = .ok (.goto 11, 3)) ∧ (decode cX8_rest 54 = .ok (.aload_n 0, 1)) ∧ (decode cX8_rest 55 = .ok (.getfield 67, 3)) ∧ (decode cX8_rest 58 = .ok (.iload_n 1, 1)) ∧ True := dc_cj [(0, .iload_n 1, 1), (1, .invokestatic 262, 3), (4, .ifCond .ne 6, 3), (7, .ldc 91, 2), (9, .ireturn, 1), (10, .aload_n 0, 1), (11, .getfield 64, 3), (14, .iload_n 1, 1), (15, .iaload, 1), (16, .ifCond .ne 6, 3), (19, .ldc 187, 2), (21, .ireturn, 1), (22, .aload_n 0, 1), (23, .getfield 64, 3), (26, .iload_n 1, 1), (27, .iaload, 1), (28, .iconst 3, 1), (29, .if_icmp .eq 6, 3), (32, .ldc 134, 2), (34, .ireturn, 1), (35, .iload_n 2, 1), (36, .ifCond .ne 9, 3), (39, .ldc_w 265, 3), (42, .goto 20, 3), (45, .iload_n 2, 1), (46, .iconst (-1), 1), (47, .if_icmp .ne 7, 3), (50, .iconst 0, 1), (51, .goto 11, 3), (54, .aload_n 0, 1), (55, .getfield 67, 3), (58, .iload_n 1, 1)] (by decide +kernel)
theorem dX8_rest_0 : decode cX8_rest 0 = .ok (.iload_n 1, 1) := edX8_rest_0.1
theorem dX8_rest_1 : decode cX8_rest 1 = .ok (.invokestatic 262, 3) := edX8_rest_0.2.1
theorem dX8_rest_4 : decode cX8_rest 4 = .ok (.ifCond .ne 6, 3) := edX8_rest_0.2.2.1
theorem dX8_rest_7 : decode cX8_rest 7 = .ok (.ldc 91, 2) := edX8_rest_0.2.2.2.1
theorem dX8_rest_9 : decode cX8_rest 9 = .ok (.ireturn, 1) := edX8_rest_0.2.2.2.2.1
theorem dX8_rest_10 : decode cX8_rest 10 = .ok (.aload_n 0, 1) := edX8_rest_0.2.2.2.2.2.1
theorem dX8_rest_11 : decode cX8_rest 11 = .ok (.getfield 64, 3) := edX8_rest_0.2.2.2.2.2.2.1
theorem dX8_rest_14 : decode cX8_rest 14 = .ok (.iload_n 1, 1) := edX8_rest_0.2.2.2.2.2.2.2.1
theorem dX8_rest_15 : decode cX8_rest 15 = .ok (.iaload, 1) := edX8_rest_0.2.2.2.2.2.2.2.2.1
theorem dX8_rest_16 : decode cX8_rest 16 = .ok (.ifCond .ne 6, 3) := edX8_rest_0.2.2.2.2.2.2.2.2.2.1
theorem dX8_rest_19 : decode cX8_rest 19 = .ok (.ldc 187, 2) := edX8_rest_0.2.2.2.2.2.2.2.2.2.2.1
theorem dX8_rest_21 : decode cX8_rest 21 = .ok (.ireturn, 1) := edX8_rest_0.2.2.2.2.2.2.2.2.2.2.2.1
theorem dX8_rest_22 : decode cX8_rest 22 = .ok (.aload_n 0, 1) := edX8_rest_0.2.2.2.2.2.2.2.2.2.2.2.2.1
theorem dX8_rest_23 : decode cX8_rest 23 = .ok (.getfield 64, 3) := edX8_rest_0.2.2.2.2.2.2.2.2.2.2.2.2.2.1
theorem dX8_rest_26 : decode cX8_rest 26 = .ok (.iload_n 1, 1) := edX8_rest_0.2.2.2.2.2.2.2.2.2.2.2.2.2.2.1
theorem dX8_rest_27 : decode cX8_rest 27 = .ok (.iaload, 1) := edX8_rest_0.2.2.2.2.2.2.2.2.2.2.2.2.2.2.2.1
theorem dX8_rest_28 : decode cX8_rest 28 = .ok (.iconst 3, 1) := edX8_rest_0.2.2.2.2.2.2.2.2.2.2.2.2.2.2.2.2.1
theorem dX8_rest_29 : decode cX8_rest 29 = .ok (.if_icmp .eq 6, 3) := edX8_rest_0.2.2.2.2.2.2.2.2.2.2.2.2.2.2.2.2.2.1
theorem dX8_rest_32 : decode cX8_rest 32 = .ok (.ldc 134, 2) := edX8_rest_0.2.2.2.2.2.2.2.2.2.2.2.2.2.2.2.2.2.2.1
theorem dX8_rest_34 : decode cX8_rest 34 = .ok (.ireturn, 1) := edX8_rest_0.2.2.2.2.2.2.2.2.2.2.2.2.2.2.2.2.2.2.2.1
theorem dX8_rest_35 : decode cX8_rest 35 = .ok (.iload_n 2, 1) := edX8_rest_0.2.2.2.2.2.2.2.2.2.2.2.2.2.2.2.2.2.2.2.2.1
theorem dX8_rest_36 : decode cX8_rest 36 = .ok (.ifCond .ne 9, 3) := edX8_rest_0.2.2.2.2.2.2.2.2.2.2.2.2.2.2.2.2.2.2.2.2.2.1
theorem dX8_rest_39 : decode cX8_rest 39 = .ok (.ldc_w 265, 3) := edX8_rest_0.2.2.2.2.2.2.2.2.2.2.2.2.2.2.2.2.2.2.2.2.2.2.1
theorem dX8_rest_42 : decode cX8_rest 42 = .ok (.goto 20, 3) := edX8_rest_0.2.2.2.2.2.2.2.2.2.2.2.2.2.2.2.2.2.2.2.2.2.2.2.1
theorem dX8_rest_45 : decode cX8_rest 45 = .ok (.iload_n 2, 1) := edX8_rest_0.2.2.2.2.2.2.2.2.2.2.2.2.2.2.2.2.2.2.2.2.2.2.2.2.1
theorem dX8_rest_46 : decode cX8_rest 46 = .ok (.iconst (-1), 1) := edX8_rest_0.2.2.2.2.2.2.2.2.2.2.2.2.2.2.2.2.2.2.2.2.2.2.2.2.2.1
theorem dX8_rest_47 : decode cX8_rest 47 = .ok (.if_icmp .ne 7, 3) := edX8_rest_0.2.2.2.2.2.2.2.2.2.2.2.2.2.2.2.2.2.2.2.2.2.2.2.2.2.2.1
theorem dX8_rest_50 : decode cX8_rest 50 = .ok (.iconst 0, 1) := edX8_rest_0.2.2.2.2.2.2.2.2.2.2.2.2.2.2.2.2.2.2.2.2.2.2.2.2.2.2.2.1
theorem dX8_rest_51 : decode cX8_rest 51 = .ok (.goto 11, 3) := edX8_rest_0.2.2.2.2.2.2.2.2.2.2.2.2.2.2.2.2.2.2.2.2.2.2.2.2.2.2.2.2.1
theorem dX8_rest_54 : decode cX8_rest 54 = .ok (.aload_n 0, 1) := edX8_rest_0.2.2.2.2.2.2.2.2.2.2.2.2.2.2.2.2.2.2.2.2.2.2.2.2.2.2.2.2.2.1
theorem dX8_rest_55 : decode cX8_rest 55 = .ok (.getfield 67, 3) := edX8_rest_0.2.2.2.2.2.2.2.2.2.2.2.2.2.2.2.2.2.2.2.2.2.2.2.2.2.2.2.2.2.2.1
theorem dX8_rest_58 : decode cX8_rest 58 = .ok (.iload_n 1, 1) := edX8_rest_0.2.2.2.2.2.2.2.2.2.2.2.2.2.2.2.2.2.2.2.2.2.2.2.2.2.2.2.2.2.2.2.1
theorem edX8_rest_59 : (decode cX8_rest 59 = .ok (.iaload, 1)) ∧ (decode cX8_rest 60 = .ok (.iload_n 2, 1)) ∧ (decode cX8_rest 61 = .ok (.irem, 1)) ∧ (decode cX8_rest 62 = .ok (.ireturn, 1)) ∧ True := dc_cj [(59, .iaload, 1), (60, .iload_n 2, 1), (61, .irem, 1), (62, .ireturn, 1)] (by decide +kernel)
theorem dX8_rest_59 : decode cX8_rest 59 = .ok (.iaload, 1) := edX8_rest_59.1
theorem dX8_rest_60 : decode cX8_rest 60 = .ok (.iload_n 2, 1) := edX8_rest_59.2.1
theorem dX8_rest_61 : decode cX8_rest 61 = .ok (.irem, 1) := edX8_rest_59.2.2.1
theorem dX8_rest_62 : decode cX8_rest 62 = .ok (.ireturn, 1) := edX8_rest_59.2.2.2.1
theorem edX8_tell_0 : (decode cX8_tell 0 = .ok (.aload_n 0, 1)) ∧ (decode cX8_tell 1 = .ok (.getfield 266, 3)) ∧ (decode cX8_tell 4 = .ok (.bipush 60, 2)) ∧ (decode cX8_tell 6 = .ok (.if_icmp .ne 6, 3)) ∧ (decode cX8_tell 9 = .ok (.ldc 92, 2)) ∧ (decode cX8_tell 11 = .ok (.ireturn, 1)) ∧ (decode cX8_tell 12 = .ok (.aload_n 0, 1)) ∧ (decode cX8_tell 13 = .ok (.getfield 79, 3)) ∧ (decode cX8_tell 16 = .ok (.aload_n 0, 1)) ∧ (decode cX8_tell 17 = .ok (.getfield 266, 3)) ∧ (decode cX8_tell 20 = .ok (.iload_n 1, 1)) ∧ (decode cX8_tell 21 = .ok (.iastore, 1)) ∧ (decode cX8_tell 22 = .ok (.aload_n 0, 1)) ∧ (decode cX8_tell 23 = .ok (.dup, 1)) ∧ (decode cX8_tell 24 = .ok (.getfield 266, 3)) ∧ (decode cX8_tell 27 = .ok (.iconst 1, 1)) ∧ (decode cX8_tell 28 = .ok (.iadd, 1)) ∧ (decode cX8_tell 29 = .ok (.putfield 266, 3)) ∧ (decode cX8_tell 32 = .ok (.aload_n 0, 1)) ∧ (decode cX8_tell 33 = .ok (.getfield 266, 3)) ∧ (decode cX8_tell 36 = .ok (.ireturn, 1)) ∧ True := dc_cj [(0, .aload_n 0, 1), (1, .getfield 266, 3), (4, .bipush 60, 2), (6, .if_icmp .ne 6, 3), (9, .ldc 92, 2), (11, .ireturn, 1), (12, .aload_n 0, 1), (13, .getfield 79, 3), (16, .aload_n 0, 1), (17, .getfield 266, 3), (20, .iload_n 1, 1), (21, .iastore, 1), (22, .aload_n 0, 1), (23, .dup, 1), (24, .getfield 266, 3), (27, .iconst 1, 1), (28, .iadd, 1), (29, .putfield 266, 3), (32, .aload_n 0, 1), (33, .getfield 266, 3), (36, .ireturn, 1)] (by decide +kernel)
theorem dX8_tell_0 : decode cX8_tell 0 = .ok (.aload_n 0, 1) := edX8_tell_0.1
theorem dX8_tell_1 : decode cX8_tell 1 = .ok (.getfield 266, 3) := edX8_tell_0.2.1
theorem dX8_tell_4 : decode cX8_tell 4 = .ok (.bipush 60, 2) := edX8_tell_0.2.2.1
theorem dX8_tell_6 : decode cX8_tell 6 = .ok (.if_icmp .ne 6, 3) := edX8_tell_0.2.2.2.1
theorem dX8_tell_9 : decode cX8_tell 9 = .ok (.ldc 92, 2) := edX8_tell_0.2.2.2.2.1
theorem dX8_tell_11 : decode cX8_tell 11 = .ok (.ireturn, 1) := edX8_tell_0.2.2.2.2.2.1
theorem dX8_tell_12 : decode cX8_tell 12 = .ok (.aload_n 0, 1) := edX8_tell_0.2.2.2.2.2.2.1
theorem dX8_tell_13 : decode cX8_tell 13 = .ok (.getfield 79, 3) := edX8_tell_0.2.2.2.2.2.2.2.1
theorem dX8_tell_16 : decode cX8_tell 16 = .ok (.aload_n 0, 1) := edX8_tell_0.2.2.2.2.2.2.2.2.1
theorem dX8_tell_17 : decode cX8_tell 17 = .ok (.getfield 266, 3) := edX8_tell_0.2.2.2.2.2.2.2.2.2.1
theorem dX8_tell_20 : decode cX8_tell 20 = .ok (.iload_n 1, 1) := edX8_tell_0.2.2.2.2.2.2.2.2.2.2.1
theorem dX8_tell_21 : decode cX8_tell 21 = .ok (.iastore, 1) := edX8_tell_0.2.2.2.2.2.2.2.2.2.2.2.1
theorem dX8_tell_22 : decode cX8_tell 22 = .ok (.aload_n 0, 1) := edX8_tell_0.2.2.2.2.2.2.2.2.2.2.2.2.1
theorem dX8_tell_23 : decode cX8_tell 23 = .ok (.dup, 1) := edX8_tell_0.2.2.2.2.2.2.2.2.2.2.2.2.2.1
theorem dX8_tell_24 : decode cX8_tell 24 = .ok (.getfield 266, 3) := edX8_tell_0.2.2.2.2.2.2.2.2.2.2.2.2.2.2.1
theorem dX8_tell_27 : decode cX8_tell 27 = .ok (.iconst 1, 1) := edX8_tell_0.2.2.2.2.2.2.2.2.2.2.2.2.2.2.2.1
theorem dX8_tell_28 : decode cX8_tell 28 = .ok (.iadd, 1) := edX8_tell_0.2.2.2.2.2.2.2.2.2.2.2.2.2.2.2.2.1
theorem dX8_tell_29 : decode cX8_tell 29 = .ok (.putfield 266, 3) := edX8_tell_0.2.2.2.2.2.2.2.2.2.2.2.2.2.2.2.2.2.1
theorem dX8_tell_32 : decode cX8_tell 32 = .ok (.aload_n 0, 1) := edX8_tell_0.2.2.2.2.2.2.2.2.2.2.2.2.2.2.2.2.2.2.1
theorem dX8_tell_33 : decode cX8_tell 33 = .ok (.getfield 266, 3) := edX8_tell_0.2.2.2.2.2.2.2.2.2.2.2.2.2.2.2.2.2.2.2.1
theorem dX8_tell_36 : decode cX8_tell 36 = .ok (.ireturn, 1) := edX8_tell_0.2.2.2.2.2.2.2.2.2.2.2.2.2.2.2.2.2.2.2.2.1
theorem edX8_check_0 : (decode cX8_check 0 = .ok (.aload_n 0, 1)) ∧ (decode cX8_check 1 = .ok (.getfield 266, 3)) ∧ (decode cX8_check 4 = .ok (.istore_n 2, 1)) ∧ (decode cX8_check 5 = .ok (.aload_n 0, 1)) ∧ (decode cX8_check 6 = .ok (.iconst 0, 1)) ∧ (decode cX8_check 7 = .ok (.putfield 266, 3)) ∧ (decode cX8_check 10 = .ok (.iload_n 1, 1)) ∧ (decode cX8_check 11 = .ok (.iconst 1, 1)) ∧ (decode cX8_check 12 = .ok (.bipush 30, 2)) ∧ (decode cX8_check 14 = .ok (.invokestatic 83, 3)) ∧ (decode cX8_check 17 = .ok (.ifCond .ne 6, 3)) ∧ (decode cX8_check 20 = .ok (.ldc 91, 2)) ∧ (decode cX8_check 22 = .ok (.ireturn, 1)) ∧ (decode cX8_check 23 = .ok (.aload_n 0, 1)) ∧ (decode cX8_check 24 = .ok (.getfield 269, 3)) ∧ (decode cX8_check 27 = .ok (.ifCond .ne 7, 3)) ∧ (decode cX8_check 30 = .ok (.ldc_w 265, 3)) ∧ (decode cX8_check 33 = .ok (.ireturn, 1)) ∧ (decode cX8_check 34 = .ok (.aload_n 0, 1)) ∧ (decode cX8_check 35 = .ok (.getfield 9, 3)) ∧ (decode cX8_check 38 = .ok (.aload_n 0, 1)) ∧ (decode cX8_check 39 = .ok (.getfield 16, 3)) ∧ (decode cX8_check 42 = .ok (.invokestatic 273, 3)) ∧ (decode cX8_check 45 = .ok (.aload_n 0, 1)) ∧ (decode cX8_check 46 = .ok (.getfield 13, 3)) ∧ (decode cX8_check 49 = .ok (.aload_n 0, 1)) ∧ (decode cX8_check 50 = .ok (.getfield 9, 3)) ∧ (decode cX8_check 53 = .ok (.invokestatic 273, 3)) ∧ (decode cX8_check 56 = .ok (.iconst 2, 1)) ∧ (decode cX8_check 57 = .ok (.sipush 9999, 3)) ∧ (decode cX8_check 60 = .ok (.aload_n 0, 1)) ∧ (decode cX8_check 61 = .ok (.getfield 9, 3)) ∧ True := dc_cj [(0, .aload_n 0, 1), (1, .getfield 266, 3), (4, .istore_n 2, 1), (5, .aload_n 0, 1), (6, .iconst 0, 1), (7, .putfield 266, 3), (10, .iload_n 1, 1), (11, .iconst 1, 1), (12, .bipush 30, 2), (14, .invokestatic 83, 3), (17, .ifCond .ne 6, 3), (20, .ldc 91, 2), (22, .ireturn, 1), (23, .aload_n 0, 1), (24, .getfield 269, 3), (27, .ifCond .ne 7, 3), (30, .ldc_w 265, 3), (33, .ireturn, 1), (34, .aload_n 0, 1), (35, .getfield 9, 3), (38, .aload_n 0, 1), (39, .getfield 16, 3), (42, .invokestatic 273, 3), (45, .aload_n 0, 1), (46, .getfield 13, 3), (49, .aload_n 0, 1), (50, .getfield 9, 3), (53, .invokestatic 273, 3), (56, .iconst 2, 1), (57, .sipush 9999, 3), (60, .aload_n 0, 1), (61, .getfield 9, 3)] (by decide +kernel)
theorem dX8_check_0 : decode cX8_check 0 = .ok (.aload_n 0, 1) := edX8_check_0.1
theorem dX8_check_1 : decode cX8_check 1 = .ok (.getfield 266, 3) := edX8_check_0.2.1
theorem dX8_check_4 : decode cX8_check 4 = .ok (.istore_n 2, 1) := edX8_check_0.2.2.1
theorem dX8_check_5 : decode cX8_check 5 = .ok (.aload_n 0, 1) := edX8_check_0.2.2.2.1
theorem dX8_check_6 : decode cX8_check 6 = .ok (.iconst 0, 1) := edX8_check_0.2.2.2.2.1
theorem dX8_check_7 : decode cX8_check 7 = .ok (.putfield 266, 3) := edX8_check_0.2.2.2.2.2.1
theorem dX8_check_10 : decode cX8_check 10 = .ok (.iload_n 1, 1) := edX8_check_0.2.2.2.2.2.2.1
theorem dX8_check_11 : decode cX8_check 11 = .ok (.iconst 1, 1) := edX8_check_0.2.2.2.2.2.2.2.1
theorem dX8_check_12 : decode cX8_check 12 = .ok (.bipush 30, 2) := edX8_check_0.2.2.2.2.2.2.2.2.1
theorem dX8_check_14 : decode cX8_check 14 = .ok (.invokestatic 83, 3) := edX8_check_0.2.2.2.2.2.2.2.2.2.1
theorem dX8_check_17 : decode cX8_check 17 = .ok (.ifCond .ne 6, 3) := edX8_check_0.2.2.2.2.2.2.2.2.2.2.1
theorem dX8_check_20 : decode cX8_check 20 = .ok (.ldc 91, 2) := edX8_check_0.2.2.2.2.2.2.2.2.2.2.2.1
theorem dX8_check_22 : decode cX8_check 22 = .ok (.ireturn, 1) := edX8_check_0.2.2.2.2.2.2.2.2.2.2.2.2.1
theorem dX8_check_23 : decode cX8_check 23 = .ok (.aload_n 0, 1) := edX8_check_0.2.2.2.2.2.2.2.2.2.2.2.2.2.1
theorem dX8_check_24 : decode cX8_check 24 = .ok (.getfield 269, 3) := edX8_check_0.2.2.2.2.2.2.2.2.2.2.2.2.2.2.1
theorem dX8_check_27 : decode cX8_check 27 = .ok (.ifCond .ne 7, 3) := edX8_check_0.2.2.2.2.2.2.2.2.2.2.2.2.2.2.2.1
theorem dX8_check_30 : decode cX8_check 30 = .ok (.ldc_w 265, 3) := edX8_check_0.2.2.2.2.2.2.2.2.2.2.2.2.2.2.2.2.1
theorem dX8_check_33 : decode cX8_check 33 = .ok (.ireturn, 1) := edX8_check_0.2.2.2.2.2.2.2.2.2.2.2.2.2.2.2.2.2.1
theorem dX8_check_34 : decode cX8_check 34 = .ok (.aload_n 0, 1) := edX8_check_0.2.2.2.2.2.2.2.2.2.2.2.2.2.2.2.2.2.2.1
theorem dX8_check_35 : decode cX8_check 35 = .ok (.getfield 9, 3) := edX8_check_0.2.2.2.2.2.2.2.2.2.2.2.2.2.2.2.2.2.2.2.1
theorem dX8_check_38 : decode cX8_check 38 = .ok (.aload_n 0, 1) := edX8_check_0.2.2.2.2.2.2.2.2.2.2.2.2.2.2.2.2.2.2.2.2.1
theorem dX8_check_39 : decode cX8_check 39 = .ok (.getfield 16, 3) := edX8_check_0.2.2.2.2.2.2.2.2.2.2.2.2.2.2.2.2.2.2.2.2.2.1
theorem dX8_check_42 : decode cX8_check 42 = .ok (.invokestatic 273, 3) := edX8_check_0.2.2.2.2.2.2.2.2.2.2.2.2.2.2.2.2.2.2.2.2.2.2.1
theorem dX8_check_45 : decode cX8_check 45 = .ok (.aload_n 0, 1) := edX8_check_0.2.2.2.2.2.2.2.2.2.2.2.2.2.2.2.2.2.2.2.2.2.2.2.1
theorem dX8_check_46 : decode cX8_check 46 = .ok (.getfield 13, 3) := edX8_check_0.2.2.2.2.2.2.2.2.2.2.2.2.2.2.2.2.2.2.2.2.2.2.2.2.1
theorem dX8_check_49 : decode cX8_check 49 = .ok (.aload_n 0, 1) := edX8_check_0.2.2.2.2.2.2.2.2.2.2.2.2.2.2.2.2.2.2.2.2.2.2.2.2.2.1
theorem dX8_check_50 : decode cX8_check 50 = .ok (.getfield 9, 3) := edX8_check_0.2.2.2.2.2.2.2.2.2.2.2.2.2.2.2.2.2.2.2.2.2.2.2.2.2.2.1
theorem dX8_check_53 : decode cX8_check 53 = .ok (.invokestatic 273, 3) := edX8_check_0.2.2.2.2.2.2.2.2.2.2.2.2.2.2.2.2.2.2.2.2.2.2.2.2.2.2.2.1
theorem dX8_check_56 : decode cX8_check 56 = .ok (.iconst 2, 1) := edX8_check_0.2.2.2.2.2.2.2.2.2.2.2.2.2.2.2.2.2.2.2.2.2.2.2.2.2.2.2.2.1
theorem dX8_check_57 : decode cX8_check 57 = .ok (.sipush 9999, 3) := edX8_check_0.2.2.2.2.2.2.2.2.2.2.2.2.2.2.2.2.2.2.2.2.2.2.2.2.2.2.2.2.2.1
theorem dX8_check_60 : decode cX8_check 60 = .ok (.aload_n 0, 1) := edX8_check_0.2.2.2.2.2.2.2.2.2.2.2.2.2.2.2.2.2.2.2.2.2.2.2.2.2.2.2.2.2.2.1
theorem dX8_check_61 : decode cX8_check 61 = .ok (.getfield 9, 3) := edX8_check_0.2.2.2.2.2.2.2.2.2.2.2.2.2.2.2.2.2.2.2.2.2.2.2.2.2.2.2.2.2.2.2.1
theorem edX8_check_64 : (decode cX8_check 64 = .ok (.iconst 2, 1)) ∧ (decode cX8_check 65 = .ok (.iaload, 1)) ∧ (decode cX8_check 66 = .ok (.isub, 1)) ∧ (decode cX8_check 67 = .ok (.iconst 0, 1)) ∧ (decode cX8_check 68 = .ok (.iload_n 1, 1)) ∧ (decode cX8_check 69 = .ok (.invokestatic 108, 3)) ∧ (decode cX8_check 72 = .ok (.imul, 1)) ∧ (decode cX8_check 73 = .ok (.istore_n 3, 1)) ∧ (decode cX8_check 74 = .ok (.iconst 0, 1)) ∧ (decode cX8_check 75 = .ok (.istore 4, 2)) ∧ (decode cX8_check 77 = .ok (.iconst 0, 1)) ∧ (decode cX8_check 78 = .ok (.istore 5, 2)) ∧ (decode cX8_check 80 = .ok (.iconst 2, 1)) ∧ (decode cX8_check 81 = .ok (.iload 5, 2)) ∧ (decode cX8_check 83 = .ok (.imul, 1)) ∧ (decode cX8_check 84 = .ok (.iload_n 3, 1)) ∧ (decode cX8_check 85 = .ok (.if_icmp .ge 95, 3)) ∧ (decode cX8_check 88 = .ok (.iload 4, 2)) ∧ (decode cX8_check 90 = .ok (.iconst 2, 1)) ∧ (decode cX8_check 91 = .ok (.iload 5, 2)) ∧ (decode cX8_check 93 = .ok (.imul, 1)) ∧ (decode cX8_check 94 = .ok (.if_icmp .ne 86, 3)) ∧ (decode cX8_check 97 = .ok (.aload_n 0, 1)) ∧ (decode cX8_check 98 = .ok (.invokevirtual 157, 3)) ∧ (decode cX8_check 101 = .ok (.iload 4, 2)) ∧ (decode cX8_check 103 = .ok (.iload 4, 2)) ∧ (decode cX8_check 105 = .ok (.iload_n 2, 1)) ∧ (decode cX8_check 106 = .ok (.if_icmp .ge 21, 3)) ∧ (decode cX8_check 109 = .ok (.aload_n 0, 1)) ∧ (decode cX8_check 110 = .ok (.getfield 79, 3)) ∧ (decode cX8_check 113 = .ok (.iload 4, 2)) ∧ (decode cX8_check 115 = .ok (.iaload, 1)) ∧ True := dc_cj [(64, .iconst 2, 1), (65, .iaload, 1), (66, .isub, 1), (67, .iconst 0, 1), (68, .iload_n 1, 1), (69, .invokestatic 108, 3), (72, .imul, 1), (73, .istore_n 3, 1), (74, .iconst 0, 1), (75, .istore 4, 2), (77, .iconst 0, 1), (78, .istore 5, 2), (80, .iconst 2, 1), (81, .iload 5, 2), (83, .imul, 1), (84, .iload_n 3, 1), (85, .if_icmp .ge 95, 3), (88, .iload 4, 2), (90, .iconst 2, 1), (91, .iload 5, 2), (93, .imul, 1), (94, .if_icmp .ne 86, 3), (97, .aload_n 0, 1), (98, .invokevirtual 157, 3), (101, .iload 4, 2), (103, .iload 4, 2), (105, .iload_n 2, 1), (106, .if_icmp .ge 21, 3), (109, .aload_n 0, 1), (110, .getfield 79, 3), (113, .iload 4, 2), (115, .iaload, 1)] (by decide +kernel)
theorem dX8_check_64 : decode cX8_check 64 = .ok (.iconst 2, 1) := edX8_check_64.1
theorem dX8_check_65 : decode cX8_check 65 = .ok (.iaload, 1) := edX8_check_64.2.1
theorem dX8_check_66 : decode cX8_check 66 = .ok (.isub, 1) := edX8_check_64.2.2.1
theorem dX8_check_67 : decode cX8_check 67 = .ok (.iconst 0, 1) := edX8_check_64.2.2.2.1
theorem dX8_check_68 : decode cX8_check 68 = .ok (.iload_n 1, 1) := edX8_check_64.2.2.2.2.1
theorem dX8_check_69 : decode cX8_check 69 = .ok (.invokestatic 108, 3) := edX8_check_64.2.2.2.2.2.1
theorem dX8_check_72 : decode cX8_check 72 = .ok (.imul, 1) := edX8_check_64.2.2.2.2.2.2.1
theorem dX8_check_73 : decode cX8_check 73 = .ok (.istore_n 3, 1) := edX8_check_64.2.2.2.2.2.2.2.1
theorem dX8_check_74 : decode cX8_check 74 = .ok (.iconst 0, 1) := edX8_check_64.2.2.2.2.2.2.2.2.1
theorem dX8_check_75 : decode cX8_check 75 = .ok (.istore 4, 2) := edX8_check_64.2.2.2.2.2.2.2.2.2.1
theorem dX8_check_77 : decode cX8_check 77 = .ok (.iconst 0, 1) := edX8_check_64.2.2.2.2.2.2.2.2.2.2.1
theorem dX8_check_78 : decode cX8_check 78 = .ok (.istore 5, 2) := edX8_check_64.2.2.2.2.2.2.2.2.2.2.2.1
theorem dX8_check_80 : decode cX8_check 80 = .ok (.iconst 2, 1) := edX8_check_64.2.2.2.2.2.2.2.2.2.2.2.2.1
theorem dX8_check_81 : decode cX8_check 81 = .ok (.iload 5, 2) := edX8_check_64.2.2.2.2.2.2.2.2.2.2.2.2.2.1
theorem dX8_check_83 : decode cX8_check 83 = .ok (.imul, 1) := edX8_check_64.2.2.2.2.2.2.2.2.2.2.2.2.2.2.1
theorem dX8_check_84 : decode cX8_check 84 = .ok (.iload_n 3, 1) := edX8_check_64.2.2.2.2.2.2.2.2.2.2.2.2.2.2.2.1
theorem dX8_check_85 : decode cX8_check 85 = .ok (.if_icmp .ge 95, 3) := edX8_check_64.2.2.2.2.2.2.2.2.2.2.2.2.2.2.2.2.1
theorem dX8_check_88 : decode cX8_check 88 = .ok (.iload 4, 2) := edX8_check_64.2.2.2.2.2.2.2.2.2.2.2.2.2.2.2.2.2.1
theorem dX8_check_90 : decode cX8_check 90 = .ok (.iconst 2, 1) := edX8_check_64.2.2.2.2.2.2.2.2.2.2.2.2.2.2.2.2.2.2.1
theorem dX8_check_91 : decode cX8_check 91 = .ok (.iload 5, 2) := edX8_check_64.2.2.2.2.2.2.2.2.2.2.2.2.2.2.2.2.2.2.2.1
theorem dX8_check_93 : decode cX8_check 93 = .ok (.imul, 1) := edX8_check_64.2.2.2.2.2.2.2.2.2.2.2.2.2.2.2.2.2.2.2.2.1
theorem dX8_check_94 : decode cX8_check 94 = .ok (.if_icmp .ne 86, 3) := edX8_check_64.2.2.2.2.2.2.2.2.2.2.2.2.2.2.2.2.2.2.2.2.2.1
theorem dX8_check_97 : decode cX8_check 97 = .ok (.aload_n 0, 1) := edX8_check_64.2.2.2.2.2.2.2.2.2.2.2.2.2.2.2.2.2.2.2.2.2.2.1
theorem dX8_check_98 : decode cX8_check 98 = .ok (.invokevirtual 157, 3) := edX8_check_64.2.2.2.2.2.2.2.2.2.2.2.2.2.2.2.2.2.2.2.2.2.2.2.1
theorem dX8_check_101 : decode cX8_check 101 = .ok (.iload 4, 2) := edX8_check_64.2.2.2.2.2.2.2.2.2.2.2.2.2.2.2.2.2.2.2.2.2.2.2.2.1
theorem dX8_check_103 : decode cX8_check 103 = .ok (.iload 4, 2) := edX8_check_64.2.2.2.2.2.2.2.2.2.2.2.2.2.2.2.2.2.2.2.2.2.2.2.2.2.1
theorem dX8_check_105 : decode cX8_check 105 = .ok (.iload_n 2, 1) := edX8_check_64.2.2.2.2.2.2.2.2.2.2.2.2.2.2.2.2.2.2.2.2.2.2.2.2.2.2.1
theorem dX8_check_106 : decode cX8_check 106 = .ok (.if_icmp .ge 21, 3) := edX8_check_64.2.2.2.2.2.2.2.2.2.2.2.2.2.2.2.2.2.2.2.2.2.2.2.2.2.2.2.1
theorem dX8_check_109 : decode cX8_check 109 = .ok (.aload_n 0, 1) := edX8_check_64.2.2.2.2.2.2.2.2.2.2.2.2.2.2.2.2.2.2.2.2.2.2.2.2.2.2.2.2.1
theorem dX8_check_110 : decode cX8_check 110 = .ok (.getfield 79, 3) := edX8_check_64.2.2.2.2.2.2.2.2.2.2.2.2.2.2.2.2.2.2.2.2.2.2.2.2.2.2.2.2.2.1
theorem dX8_check_113 : decode cX8_check 113 = .ok (.iload 4, 2) := edX8_check_64.2.2.2.2.2.2.2.2.2.2.2.2.2.2.2.2.2.2.2.2.2.2.2.2.2.2.2.2.2.2.1
theorem dX8_check_115 : decode cX8_check 115 = .ok (.iaload, 1) := edX8_check_64.2.2.2.2.2.2.2.2.2.2.2.2.2.2.2.2.2.2.2.2.2.2.2.2.2.2.2.2.2.2.2.1
theorem edX8_check_116 : (decode cX8_check 116 = .ok (.aload_n 0, 1)) ∧ (decode cX8_check 117 = .ok (.invokevirtual 166, 3)) ∧ (decode cX8_check 120 = .ok (.if_icmp .ne 7, 3)) ∧ (decode cX8_check 123 = .ok (.iconst 1, 1)) ∧ (decode cX8_check 124 = .ok (.goto 4, 3)) ∧ (decode cX8_check 127 = .ok (.iconst 0, 1)) ∧ (decode cX8_check 128 = .ok (.iadd, 1)) ∧ (decode cX8_check 129 = .ok (.istore 4, 2)) ∧ (decode cX8_check 131 = .ok (.iload 4, 2)) ∧ (decode cX8_check 133 = .ok (.iload 4, 2)) ∧ (decode cX8_check 135 = .ok (.iconst 2, 1)) ∧ (decode cX8_check 136 = .ok (.iload 5, 2)) ∧ (decode cX8_check 138 = .ok (.imul, 1)) ∧ (decode cX8_check 139 = .ok (.iconst 1, 1)) ∧ (decode cX8_check 140 = .ok (.iadd, 1)) ∧ (decode cX8_check 141 = .ok (.if_icmp .ne 29, 3)) ∧ (decode cX8_check 144 = .ok (.iload 4, 2)) ∧ (decode cX8_check 146 = .ok (.iload_n 2, 1)) ∧ (decode cX8_check 147 = .ok (.if_icmp .ge 23, 3)) ∧ (decode cX8_check 150 = .ok (.aload_n 0, 1)) ∧ (decode cX8_check 151 = .ok (.getfield 79, 3)) ∧ (decode cX8_check 154 = .ok (.iload 4, 2)) ∧ (decode cX8_check 156 = .ok (.iaload, 1)) ∧ (decode cX8_check 157 = .ok (.aload_n 0, 1)) ∧ (decode cX8_check 158 = .ok (.getfield 9, 3)) ∧ (decode cX8_check 161 = .ok (.iconst 3, 1)) ∧ (decode cX8_check 162 = .ok (.iaload, 1)) ∧ (decode cX8_check 163 = .ok (.if_icmp .ne 7, 3)) ∧ (decode cX8_check 166 = .ok (.iconst 1, 1)) ∧ (decode cX8_check 167 = .ok (.goto 4, 3)) ∧ (decode cX8_check 170 = .ok (.iconst 0, 1)) ∧ (decode cX8_check 171 = .ok (.iadd, 1)) ∧ True := dc_cj [(116, .aload_n 0, 1), (117, .invokevirtual 166, 3), (120, .if_icmp .ne 7, 3), (123, .iconst 1, 1), (124, .goto 4, 3), (127, .iconst 0, 1), (128, .iadd, 1), (129, .istore 4, 2), (131, .iload 4, 2), (133, .iload 4, 2), (135, .iconst 2, 1), (136, .iload 5, 2), (138, .imul, 1), (139, .iconst 1, 1), (140, .iadd, 1), (141, .if_icmp .ne 29, 3), (144, .iload 4, 2), (146, .iload_n 2, 1), (147, .if_icmp .ge 23, 3), (150, .aload_n 0, 1), (151, .getfield 79, 3), (154, .iload 4, 2), (156, .iaload, 1), (157, .aload_n 0, 1), (158, .getfield 9, 3), (161, .iconst 3, 1), (162, .iaload, 1), (163, .if_icmp .ne 7, 3), (166, .iconst 1, 1), (167, .goto 4, 3), (170, .iconst 0, 1), (171, .iadd, 1)] (by decide +kernel)
theorem dX8_check_116 : decode cX8_check 116 = .ok (.aload_n 0, 1) := edX8_check_116.1
theorem dX8_check_117 : decode cX8_check 117 = .ok (.invokevirtual 166, 3) := edX8_check_116.2.1
theorem dX8_check_120 : decode cX8_check 120 = .ok (.if_icmp .ne 7, 3) := edX8_check_116.2.2.1
theorem dX8_check_123 : decode cX8_check 123 = .ok (.iconst 1, 1) := edX8_check_116.2.2.2.1
theorem dX8_check_124 : decode cX8_check 124 = .ok (.goto 4, 3) := edX8_check_116.2.2.2.2.1
theorem dX8_check_127 : decode cX8_check 127 = .ok (.iconst 0, 1) := edX8_check_116.2.2.2.2.2.1
theorem dX8_check_128 : decode cX8_check 128 = .ok (.iadd, 1) := edX8_check_116.2.2.2.2.2.2.1
theorem dX8_check_129 : decode cX8_check 129 = .ok (.istore 4, 2) := edX8_check_116.2.2.2.2.2.2.2.1
theorem dX8_check_131 : decode cX8_check 131 = .ok (.iload 4, 2) := edX8_check_116.2.2.2.2.2.2.2.2.1
theorem dX8_check_133 : decode cX8_check 133 = .ok (.iload 4, 2) := edX8_check_116.2.2.2.2.2.2.2.2.2.1
theorem dX8_check_135 : decode cX8_check 135 = .ok (.iconst 2, 1) := edX8_check_116.2.2.2.2.2.2.2.2.2.2.1
theorem dX8_check_136 : decode cX8_check 136 = .ok (.iload 5, 2) := edX8_check_116.2.2.2.2.2.2.2.2.2.2.2.1
theorem dX8_check_138 : decode cX8_check 138 = .ok (.imul, 1) := edX8_check_116.2.2.2.2.2.2.2.2.2.2.2.2.1
theorem dX8_check_139 : decode cX8_check 139 = .ok (.iconst 1, 1) := edX8_check_116.2.2.2.2.2.2.2.2.2.2.2.2.2.1
theorem dX8_check_140 : decode cX8_check 140 = .ok (.iadd, 1) := edX8_check_116.2.2.2.2.2.2.2.2.2.2.2.2.2.2.1
theorem dX8_check_141 : decode cX8_check 141 = .ok (.if_icmp .ne 29, 3) := edX8_check_116.2.2.2.2.2.2.2.2.2.2.2.2.2.2.2.1
theorem dX8_check_144 : decode cX8_check 144 = .ok (.iload 4, 2) := edX8_check_116.2.2.2.2.2.2.2.2.2.2.2.2.2.2.2.2.1
theorem dX8_check_146 : decode cX8_check 146 = .ok (.iload_n 2, 1) := edX8_check_116.2.2.2.2.2.2.2.2.2.2.2.2.2.2.2.2.2.1
theorem dX8_check_147 : decode cX8_check 147 = .ok (.if_icmp .ge 23, 3) := edX8_check_116.2.2.2.2.2.2.2.2.2.2.2.2.2.2.2.2.2.2.1
theorem dX8_check_150 : decode cX8_check 150 = .ok (.aload_n 0, 1) := edX8_check_116.2.2.2.2.2.2.2.2.2.2.2.2.2.2.2.2.2.2.2.1
theorem dX8_check_151 : decode cX8_check 151 = .ok (.getfield 79, 3) := edX8_check_116.2.2.2.2.2.2.2.2.2.2.2.2.2.2.2.2.2.2.2.2.1
theorem dX8_check_154 : decode cX8_check 154 = .ok (.iload 4, 2) := edX8_check_116.2.2.2.2.2.2.2.2.2.2.2.2.2.2.2.2.2.2.2.2.2.1
theorem dX8_check_156 : decode cX8_check 156 = .ok (.iaload, 1) := edX8_check_116.2.2.2.2.2.2.2.2.2.2.2.2.2.2.2.2.2.2.2.2.2.2.1
theorem dX8_check_157 : decode cX8_check 157 = .ok (.aload_n 0, 1) := edX8_check_116.2.2.2.2.2.2.2.2.2.2.2.2.2.2.2.2.2.2.2.2.2.2.2.1
theorem dX8_check_158 : decode cX8_check 158 = .ok (.getfield 9, 3) := edX8_check_116.2.2.2.2.2.2.2.2.2.2.2.2.2.2.2.2.2.2.2.2.2.2.2.2.1
theorem dX8_check_161 : decode cX8_check 161 = .ok (.iconst 3, 1) := edX8_check_116.2.2.2.2.2.2.2.2.2.2.2.2.2.2.2.2.2.2.2.2.2.2.2.2.2.1
theorem dX8_check_162 : decode cX8_check 162 = .ok (.iaload, 1) := edX8_check_116.2.2.2.2.2.2.2.2.2.2.2.2.2.2.2.2.2.2.2.2.2.2.2.2.2.2.1
theorem dX8_check_163 : decode cX8_check 163 = .ok (.if_icmp .ne 7, 3) := edX8_check_116.2.2.2.2.2.2.2.2.2.2.2.2.2.2.2.2.2.2.2.2.2.2.2.2.2.2.2.1
theorem dX8_check_166 : decode cX8_check 166 = .ok (.iconst 1, 1) := edX8_check_116.2.2.2.2.2.2.2.2.2.2.2.2.2.2.2.2.2.2.2.2.2.2.2.2.2.2.2.2.1
theorem dX8_check_167 : decode cX8_check 167 = .ok (.goto 4, 3) := edX8_check_116.2.2.2.2.2.2.2.2.2.2.2.2.2.2.2.2.2.2.2.2.2.2.2.2.2.2.2.2.2.1
theorem dX8_check_170 : decode cX8_check 170 = .ok (.iconst 0, 1) := edX8_check_116.2.2.2.2.2.2.2.2.2.2.2.2.2.2.2.2.2.2.2.2.2.2.2.2.2.2.2.2.2.2.1
theorem dX8_check_171 : decode cX8_check 171 = .ok (.iadd, 1) := edX8_check_116.2.2.2.2.2.2.2.2.2.2.2.2.2.2.2.2.2.2.2.2.2.2.2.2.2.2.2.2.2.2.2.1
theorem edX8_check_172 : (decode cX8_check 172 = .ok (.istore 4, 2)) ∧ (decode cX8_check 174 = .ok (.iinc 5 1, 3)) ∧ (decode cX8_check 177 = .ok (.goto (-97), 3)) ∧ (decode cX8_check 180 = .ok (.aload_n 0, 1)) ∧ (decode cX8_check 181 = .ok (.getfield 16, 3)) ∧ (decode cX8_check 184 = .ok (.aload_n 0, 1)) ∧ (decode cX8_check 185 = .ok (.getfield 9, 3)) ∧ (decode cX8_check 188 = .ok (.invokestatic 273, 3)) ∧ (decode cX8_check 191 = .ok (.iload 4, 2)) ∧ (decode cX8_check 193 = .ok (.iload_n 2, 1)) ∧ (decode cX8_check 194 = .ok (.if_icmp .ne 13, 3)) ∧ (decode cX8_check 197 = .ok (.iload 4, 2)) ∧ (decode cX8_check 199 = .ok (.iload_n 3, 1)) ∧ (decode cX8_check 200 = .ok (.if_icmp .ne 7, 3)) ∧ (decode cX8_check 203 = .ok (.iconst 0, 1)) ∧ (decode cX8_check 204 = .ok (.goto 7, 3)) ∧ (decode cX8_check 207 = .ok (.iconst 1, 1)) ∧ (decode cX8_check 208 = .ok (.iload 4, 2)) ∧ (decode cX8_check 210 = .ok (.iadd, 1)) ∧ (decode cX8_check 211 = .ok (.ireturn, 1)) ∧ True := dc_cj [(172, .istore 4, 2), (174, .iinc 5 1, 3), (177, .goto (-97), 3), (180, .aload_n 0, 1), (181, .getfield 16, 3), (184, .aload_n 0, 1), (185, .getfield 9, 3), (188, .invokestatic 273, 3), (191, .iload 4, 2), (193, .iload_n 2, 1), (194, .if_icmp .ne 13, 3), (197, .iload 4, 2), (199, .iload_n 3, 1), (200, .if_icmp .ne 7, 3), (203, .iconst 0, 1), (204, .goto 7, 3), (207, .iconst 1, 1), (208, .iload 4, 2), (210, .iadd, 1), (211, .ireturn, 1)] (by decide +kernel)
theorem dX8_check_172 : decode cX8_check 172 = .ok (.istore 4, 2) := edX8_check_172.1
theorem dX8_check_174 : decode cX8_check 174 = .ok (.iinc 5 1, 3) := edX8_check_172.2.1
theorem dX8_check_177 : decode cX8_check 177 = .ok (.goto (-97), 3) := edX8_check_172.2.2.1
theorem dX8_check_180 : decode cX8_check 180 = .ok (.aload_n 0, 1) := edX8_check_172.2.2.2.1
theorem dX8_check_181 : decode cX8_check 181 = .ok (.getfield 16, 3) := edX8_check_172.2.2.2.2.1
theorem dX8_check_184 : decode cX8_check 184 = .ok (.aload_n 0, 1) := edX8_check_172.2.2.2.2.2.1
theorem dX8_check_185 : decode cX8_check 185 = .ok (.getfield 9, 3) := edX8_check_172.2.2.2.2.2.2.1
theorem dX8_check_188 : decode cX8_check 188 = .ok (.invokestatic 273, 3) := edX8_check_172.2.2.2.2.2.2.2.1
theorem dX8_check_191 : decode cX8_check 191 = .ok (.iload 4, 2) := edX8_check_172.2.2.2.2.2.2.2.2.1
theorem dX8_check_193 : decode cX8_check 193 = .ok (.iload_n 2, 1) := edX8_check_172.2.2.2.2.2.2.2.2.2.1
theorem dX8_check_194 : decode cX8_check 194 = .ok (.if_icmp .ne 13, 3) := edX8_check_172.2.2.2.2.2.2.2.2.2.2.1
theorem dX8_check_197 : decode cX8_check 197 = .ok (.iload 4, 2) := edX8_check_172.2.2.2.2.2.2.2.2.2.2.2.1
theorem dX8_check_199 : decode cX8_check 199 = .ok (.iload_n 3, 1) := edX8_check_172.2.2.2.2.2.2.2.2.2.2.2.2.1
theorem dX8_check_200 : decode cX8_check 200 = .ok (.if_icmp .ne 7, 3) := edX8_check_172.2.2.2.2.2.2.2.2.2.2.2.2.2.1
theorem dX8_check_203 : decode cX8_check 203 = .ok (.iconst 0, 1) := edX8_check_172.2.2.2.2.2.2.2.2.2.2.2.2.2.2.1
theorem dX8_check_204 : decode cX8_check 204 = .ok (.goto 7, 3) := edX8_check_172.2.2.2.2.2.2.2.2.2.2.2.2.2.2.2.1
theorem dX8_check_207 : decode cX8_check 207 = .ok (.iconst 1, 1) := edX8_check_172.2.2.2.2.2.2.2.2.2.2.2.2.2.2.2.2.1
theorem dX8_check_208 : decode cX8_check 208 = .ok (.iload 4, 2) := edX8_check_172.2.2.2.2.2.2.2.2.2.2.2.2.2.2.2.2.2.1
theorem dX8_check_210 : decode cX8_check 210 = .ok (.iadd, 1) := edX8_check_172.2.2.2.2.2.2.2.2.2.2.2.2.2.2.2.2.2.2.1
theorem dX8_check_211 : decode cX8_check 211 = .ok (.ireturn, 1) := edX8_check_172.2.2.2.2.2.2.2.2.2.2.2.2.2.2.2.2.2.2.2.1
theorem edX8_keep_0 : (decode cX8_keep 0 = .ok (.aload_n 0, 1)) ∧ (decode cX8_keep 1 = .ok (.getfield 9, 3)) ∧ (decode cX8_keep 4 = .ok (.aload_n 0, 1)) ∧ (decode cX8_keep 5 = .ok (.getfield 13, 3)) ∧ (decode cX8_keep 8 = .ok (.invokestatic 273, 3)) ∧ (decode cX8_keep 11 = .ok (.aload_n 0, 1)) ∧ (decode cX8_keep 12 = .ok (.iconst 1, 1)) ∧ (decode cX8_keep 13 = .ok (.putfield 269, 3)) ∧ (decode cX8_keep 16 = .ok (.aload_n 0, 1)) ∧ (decode cX8_keep 17 = .ok (.getfield 9, 3)) ∧ (decode cX8_keep 20 = .ok (.iconst 1, 1)) ∧ (decode cX8_keep 21 = .ok (.iaload, 1)) ∧ (decode cX8_keep 22 = .ok (.ireturn, 1)) ∧ True := dc_cj [(0, .aload_n 0, 1), (1, .getfield 9, 3), (4, .aload_n 0, 1), (5, .getfield 13, 3), (8, .invokestatic 273, 3), (11, .aload_n 0, 1), (12, .iconst 1, 1), (13, .putfield 269, 3), (16, .aload_n 0, 1), (17, .getfield 9, 3), (20, .iconst 1, 1), (21, .iaload, 1), (22, .ireturn, 1)] (by decide +kernel)
theorem dX8_keep_0 : decode cX8_keep 0 = .ok (.aload_n 0, 1) := edX8_keep_0.1
theorem dX8_keep_1 : decode cX8_keep 1 = .ok (.getfield 9, 3) := edX8_keep_0.2.1
theorem dX8_keep_4 : decode cX8_keep 4 = .ok (.aload_n 0, 1) := edX8_keep_0.2.2.1
theorem dX8_keep_5 : decode cX8_keep 5 = .ok (.getfield 13, 3) := edX8_keep_0.2.2.2.1
theorem dX8_keep_8 : decode cX8_keep 8 = .ok (.invokestatic 273, 3) := edX8_keep_0.2.2.2.2.1
theorem dX8_keep_11 : decode cX8_keep 11 = .ok (.aload_n 0, 1) := edX8_keep_0.2.2.2.2.2.1
theorem dX8_keep_12 : decode cX8_keep 12 = .ok (.iconst 1, 1) := edX8_keep_0.2.2.2.2.2.2.1
theorem dX8_keep_13 : decode cX8_keep 13 = .ok (.putfield 269, 3) := edX8_keep_0.2.2.2.2.2.2.2.1
theorem dX8_keep_16 : decode cX8_keep 16 = .ok (.aload_n 0, 1) := edX8_keep_0.2.2.2.2.2.2.2.2.1
theorem dX8_keep_17 : decode cX8_keep 17 = .ok (.getfield 9, 3) := edX8_keep_0.2.2.2.2.2.2.2.2.2.1
theorem dX8_keep_20 : decode cX8_keep 20 = .ok (.iconst 1, 1) := edX8_keep_0.2.2.2.2.2.2.2.2.2.2.1
theorem dX8_keep_21 : decode cX8_keep 21 = .ok (.iaload, 1) := edX8_keep_0.2.2.2.2.2.2.2.2.2.2.2.1
theorem dX8_keep_22 : decode cX8_keep 22 = .ok (.ireturn, 1) := edX8_keep_0.2.2.2.2.2.2.2.2.2.2.2.2.1
theorem edX8_back_0 : (decode cX8_back 0 = .ok (.aload_n 0, 1)) ∧ (decode cX8_back 1 = .ok (.getfield 269, 3)) ∧ (decode cX8_back 4 = .ok (.ifCond .ne 7, 3)) ∧ (decode cX8_back 7 = .ok (.ldc_w 265, 3)) ∧ (decode cX8_back 10 = .ok (.ireturn, 1)) ∧ (decode cX8_back 11 = .ok (.aload_n 0, 1)) ∧ (decode cX8_back 12 = .ok (.getfield 13, 3)) ∧ (decode cX8_back 15 = .ok (.aload_n 0, 1)) ∧ (decode cX8_back 16 = .ok (.getfield 9, 3)) ∧ (decode cX8_back 19 = .ok (.invokestatic 273, 3)) ∧ (decode cX8_back 22 = .ok (.aload_n 0, 1)) ∧ (decode cX8_back 23 = .ok (.getfield 9, 3)) ∧ (decode cX8_back 26 = .ok (.iconst 1, 1)) ∧ (decode cX8_back 27 = .ok (.iaload, 1)) ∧ (decode cX8_back 28 = .ok (.ireturn, 1)) ∧ True := dc_cj [(0, .aload_n 0, 1), (1, .getfield 269, 3), (4, .ifCond .ne 7, 3), (7, .ldc_w 265, 3), (10, .ireturn, 1), (11, .aload_n 0, 1), (12, .getfield 13, 3), (15, .aload_n 0, 1), (16, .getfield 9, 3), (19, .invokestatic 273, 3), (22, .aload_n 0, 1), (23, .getfield 9, 3), (26, .iconst 1, 1), (27, .iaload, 1), (28, .ireturn, 1)] (by decide +kernel)
theorem dX8_back_0 : decode cX8_back 0 = .ok (.aload_n 0, 1) := edX8_back_0.1
theorem dX8_back_1 : decode cX8_back 1 = .ok (.getfield 269, 3) := edX8_back_0.2.1
theorem dX8_back_4 : decode cX8_back 4 = .ok (.ifCond .ne 7, 3) := edX8_back_0.2.2.1
theorem dX8_back_7 : decode cX8_back 7 = .ok (.ldc_w 265, 3) := edX8_back_0.2.2.2.1
theorem dX8_back_10 : decode cX8_back 10 = .ok (.ireturn, 1) := edX8_back_0.2.2.2.2.1
theorem dX8_back_11 : decode cX8_back 11 = .ok (.aload_n 0, 1) := edX8_back_0.2.2.2.2.2.1
theorem dX8_back_12 : decode cX8_back 12 = .ok (.getfield 13, 3) := edX8_back_0.2.2.2.2.2.2.1
theorem dX8_back_15 : decode cX8_back 15 = .ok (.aload_n 0, 1) := edX8_back_0.2.2.2.2.2.2.2.1
theorem dX8_back_16 : decode cX8_back 16 = .ok (.getfield 9, 3) := edX8_back_0.2.2.2.2.2.2.2.2.1
theorem dX8_back_19 : decode cX8_back 19 = .ok (.invokestatic 273, 3) := edX8_back_0.2.2.2.2.2.2.2.2.2.1
theorem dX8_back_22 : decode cX8_back 22 = .ok (.aload_n 0, 1) := edX8_back_0.2.2.2.2.2.2.2.2.2.2.1
theorem dX8_back_23 : decode cX8_back 23 = .ok (.getfield 9, 3) := edX8_back_0.2.2.2.2.2.2.2.2.2.2.2.1
theorem dX8_back_26 : decode cX8_back 26 = .ok (.iconst 1, 1) := edX8_back_0.2.2.2.2.2.2.2.2.2.2.2.2.1
theorem dX8_back_27 : decode cX8_back 27 = .ok (.iaload, 1) := edX8_back_0.2.2.2.2.2.2.2.2.2.2.2.2.2.1
theorem dX8_back_28 : decode cX8_back 28 = .ok (.ireturn, 1) := edX8_back_0.2.2.2.2.2.2.2.2.2.2.2.2.2.2.1
theorem edX8_count_0 : (decode cX8_count 0 = .ok (.iload_n 1, 1)) ∧ (decode cX8_count 1 = .ok (.tableswitch 99 0 8 #[51, 58, 65, 65, 65, 74, 82, 87, 92], 51)) ∧ (decode cX8_count 52 = .ok (.aload_n 0, 1)) ∧ (decode cX8_count 53 = .ok (.getfield 9, 3)) ∧ (decode cX8_count 56 = .ok (.iconst 1, 1)) ∧ (decode cX8_count 57 = .ok (.iaload, 1)) ∧ (decode cX8_count 58 = .ok (.ireturn, 1)) ∧ (decode cX8_count 59 = .ok (.aload_n 0, 1)) ∧ (decode cX8_count 60 = .ok (.getfield 9, 3)) ∧ (decode cX8_count 63 = .ok (.iconst 2, 1)) ∧ (decode cX8_count 64 = .ok (.iaload, 1)) ∧ (decode cX8_count 65 = .ok (.ireturn, 1)) ∧ (decode cX8_count 66 = .ok (.aload_n 0, 1)) ∧ (decode cX8_count 67 = .ok (.getfield 9, 3)) ∧ (decode cX8_count 70 = .ok (.iconst 1, 1)) ∧ (decode cX8_count 71 = .ok (.iload_n 1, 1)) ∧ (decode cX8_count 72 = .ok (.iadd, 1)) ∧ (decode cX8_count 73 = .ok (.iaload, 1)) ∧ (decode cX8_count 74 = .ok (.ireturn, 1)) ∧ (decode cX8_count 75 = .ok (.aload_n 0, 1)) ∧ (decode cX8_count 76 = .ok (.getfield 9, 3)) ∧ (decode cX8_count 79 = .ok (.bipush 7, 2)) ∧ (decode cX8_count 81 = .ok (.iaload, 1)) ∧ (decode cX8_count 82 = .ok (.ireturn, 1)) ∧ (decode cX8_count 83 = .ok (.aload_n 0, 1)) ∧ (decode cX8_count 84 = .ok (.getfield 266, 3)) ∧ (decode cX8_count 87 = .ok (.ireturn, 1)) ∧ (decode cX8_count 88 = .ok (.aload_n 0, 1)) ∧ (decode cX8_count 89 = .ok (.getfield 192, 3)) ∧ (decode cX8_count 92 = .ok (.ireturn, 1)) ∧ (decode cX8_count 93 = .ok (.aload_n 0, 1)) ∧ (decode cX8_count 94 = .ok (.getfield 9, 3)) ∧ True := dc_cj [(0, .iload_n 1, 1), (1, .tableswitch 99 0 8 #[51, 58, 65, 65, 65, 74, 82, 87, 92], 51), (52, .aload_n 0, 1), (53, .getfield 9, 3), (56, .iconst 1, 1), (57, .iaload, 1), (58, .ireturn, 1), (59, .aload_n 0, 1), (60, .getfield 9, 3), (63, .iconst 2, 1), (64, .iaload, 1), (65, .ireturn, 1), (66, .aload_n 0, 1), (67, .getfield 9, 3), (70, .iconst 1, 1), (71, .iload_n 1, 1), (72, .iadd, 1), (73, .iaload, 1), (74, .ireturn, 1), (75, .aload_n 0, 1), (76, .getfield 9, 3), (79, .bipush 7, 2), (81, .iaload, 1), (82, .ireturn, 1), (83, .aload_n 0, 1), (84, .getfield 266, 3), (87, .ireturn, 1), (88, .aload_n 0, 1), (89, .getfield 192, 3), (92, .ireturn, 1), (93, .aload_n 0, 1), (94, .getfield 9, 3)] (by decide +kernel)
theorem dX8_count_0 : decode cX8_count 0 = .ok (.iload_n 1, 1) := edX8_count_0.1
theorem dX8_count_1 : decode cX8_count 1 = .ok (.tableswitch 99 0 8 #[51, 58, 65, 65, 65, 74, 82, 87, 92], 51) := edX8_count_0.2.1
theorem dX8_count_52 : decode cX8_count 52 = .ok (.aload_n 0, 1) := edX8_count_0.2.2.1
theorem dX8_count_53 : decode cX8_count 53 = .ok (.getfield 9, 3) := edX8_count_0.2.2.2.1
theorem dX8_count_56 : decode cX8_count 56 = .ok (.iconst 1, 1) := edX8_count_0.2.2.2.2.1
theorem dX8_count_57 : decode cX8_count 57 = .ok (.iaload, 1) := edX8_count_0.2.2.2.2.2.1
theorem dX8_count_58 : decode cX8_count 58 = .ok (.ireturn, 1) := edX8_count_0.2.2.2.2.2.2.1
theorem dX8_count_59 : decode cX8_count 59 = .ok (.aload_n 0, 1) := edX8_count_0.2.2.2.2.2.2.2.1
theorem dX8_count_60 : decode cX8_count 60 = .ok (.getfield 9, 3) := edX8_count_0.2.2.2.2.2.2.2.2.1
theorem dX8_count_63 : decode cX8_count 63 = .ok (.iconst 2, 1) := edX8_count_0.2.2.2.2.2.2.2.2.2.1
theorem dX8_count_64 : decode cX8_count 64 = .ok (.iaload, 1) := edX8_count_0.2.2.2.2.2.2.2.2.2.2.1
theorem dX8_count_65 : decode cX8_count 65 = .ok (.ireturn, 1) := edX8_count_0.2.2.2.2.2.2.2.2.2.2.2.1
theorem dX8_count_66 : decode cX8_count 66 = .ok (.aload_n 0, 1) := edX8_count_0.2.2.2.2.2.2.2.2.2.2.2.2.1
theorem dX8_count_67 : decode cX8_count 67 = .ok (.getfield 9, 3) := edX8_count_0.2.2.2.2.2.2.2.2.2.2.2.2.2.1
theorem dX8_count_70 : decode cX8_count 70 = .ok (.iconst 1, 1) := edX8_count_0.2.2.2.2.2.2.2.2.2.2.2.2.2.2.1
theorem dX8_count_71 : decode cX8_count 71 = .ok (.iload_n 1, 1) := edX8_count_0.2.2.2.2.2.2.2.2.2.2.2.2.2.2.2.1
theorem dX8_count_72 : decode cX8_count 72 = .ok (.iadd, 1) := edX8_count_0.2.2.2.2.2.2.2.2.2.2.2.2.2.2.2.2.1
theorem dX8_count_73 : decode cX8_count 73 = .ok (.iaload, 1) := edX8_count_0.2.2.2.2.2.2.2.2.2.2.2.2.2.2.2.2.2.1
theorem dX8_count_74 : decode cX8_count 74 = .ok (.ireturn, 1) := edX8_count_0.2.2.2.2.2.2.2.2.2.2.2.2.2.2.2.2.2.2.1
theorem dX8_count_75 : decode cX8_count 75 = .ok (.aload_n 0, 1) := edX8_count_0.2.2.2.2.2.2.2.2.2.2.2.2.2.2.2.2.2.2.2.1
theorem dX8_count_76 : decode cX8_count 76 = .ok (.getfield 9, 3) := edX8_count_0.2.2.2.2.2.2.2.2.2.2.2.2.2.2.2.2.2.2.2.2.1
theorem dX8_count_79 : decode cX8_count 79 = .ok (.bipush 7, 2) := edX8_count_0.2.2.2.2.2.2.2.2.2.2.2.2.2.2.2.2.2.2.2.2.2.1
theorem dX8_count_81 : decode cX8_count 81 = .ok (.iaload, 1) := edX8_count_0.2.2.2.2.2.2.2.2.2.2.2.2.2.2.2.2.2.2.2.2.2.2.1
theorem dX8_count_82 : decode cX8_count 82 = .ok (.ireturn, 1) := edX8_count_0.2.2.2.2.2.2.2.2.2.2.2.2.2.2.2.2.2.2.2.2.2.2.2.1
theorem dX8_count_83 : decode cX8_count 83 = .ok (.aload_n 0, 1) := edX8_count_0.2.2.2.2.2.2.2.2.2.2.2.2.2.2.2.2.2.2.2.2.2.2.2.2.1
theorem dX8_count_84 : decode cX8_count 84 = .ok (.getfield 266, 3) := edX8_count_0.2.2.2.2.2.2.2.2.2.2.2.2.2.2.2.2.2.2.2.2.2.2.2.2.2.1
theorem dX8_count_87 : decode cX8_count 87 = .ok (.ireturn, 1) := edX8_count_0.2.2.2.2.2.2.2.2.2.2.2.2.2.2.2.2.2.2.2.2.2.2.2.2.2.2.1
theorem dX8_count_88 : decode cX8_count 88 = .ok (.aload_n 0, 1) := edX8_count_0.2.2.2.2.2.2.2.2.2.2.2.2.2.2.2.2.2.2.2.2.2.2.2.2.2.2.2.1
theorem dX8_count_89 : decode cX8_count 89 = .ok (.getfield 192, 3) := edX8_count_0.2.2.2.2.2.2.2.2.2.2.2.2.2.2.2.2.2.2.2.2.2.2.2.2.2.2.2.2.1
theorem dX8_count_92 : decode cX8_count 92 = .ok (.ireturn, 1) := edX8_count_0.2.2.2.2.2.2.2.2.2.2.2.2.2.2.2.2.2.2.2.2.2.2.2.2.2.2.2.2.2.1
theorem dX8_count_93 : decode cX8_count 93 = .ok (.aload_n 0, 1) := edX8_count_0.2.2.2.2.2.2.2.2.2.2.2.2.2.2.2.2.2.2.2.2.2.2.2.2.2.2.2.2.2.2.1
theorem dX8_count_94 : decode cX8_count 94 = .ok (.getfield 9, 3) := edX8_count_0.2.2.2.2.2.2.2.2.2.2.2.2.2.2.2.2.2.2.2.2.2.2.2.2.2.2.2.2.2.2.2.1
theorem edX8_count_97 : (decode cX8_count 97 = .ok (.iconst 0, 1)) ∧ (decode cX8_count 98 = .ok (.iaload, 1)) ∧ (decode cX8_count 99 = .ok (.ireturn, 1)) ∧ (decode cX8_count 100 = .ok (.ldc 91, 2)) ∧ (decode cX8_count 102 = .ok (.ireturn, 1)) ∧ True := dc_cj [(97, .iconst 0, 1), (98, .iaload, 1), (99, .ireturn, 1), (100, .ldc 91, 2), (102, .ireturn, 1)] (by decide +kernel)
theorem dX8_count_97 : decode cX8_count 97 = .ok (.iconst 0, 1) := edX8_count_97.1
theorem dX8_count_98 : decode cX8_count 98 = .ok (.iaload, 1) := edX8_count_97.2.1
theorem dX8_count_99 : decode cX8_count 99 = .ok (.ireturn, 1) := edX8_count_97.2.2.1
theorem dX8_count_100 : decode cX8_count 100 = .ok (.ldc 91, 2) := edX8_count_97.2.2.2.1
theorem dX8_count_102 : decode cX8_count 102 = .ok (.ireturn, 1) := edX8_count_97.2.2.2.2.1
theorem edJ0_length_8abf5_0 : (decode cJ0_length_8abf5 0 = .ok (.aload_n 0, 1)) ∧ (decode cJ0_length_8abf5 1 = .ok (.getfield 9, 3)) ∧ (decode cJ0_length_8abf5 4 = .ok (.arraylength, 1)) ∧ (decode cJ0_length_8abf5 5 = .ok (.aload_n 0, 1)) ∧ (decode cJ0_length_8abf5 6 = .ok (.invokevirtual 335, 3)) ∧ (decode cJ0_length_8abf5 9 = .ok (.ishr, 1)) ∧ (decode cJ0_length_8abf5 10 = .ok (.ireturn, 1)) ∧ True := dc_cj [(0, .aload_n 0, 1), (1, .getfield 9, 3), (4, .arraylength, 1), (5, .aload_n 0, 1), (6, .invokevirtual 335, 3), (9, .ishr, 1), (10, .ireturn, 1)] (by decide +kernel)
theorem dJ0_length_8abf5_0 : decode cJ0_length_8abf5 0 = .ok (.aload_n 0, 1) := edJ0_length_8abf5_0.1
theorem dJ0_length_8abf5_1 : decode cJ0_length_8abf5 1 = .ok (.getfield 9, 3) := edJ0_length_8abf5_0.2.1
theorem dJ0_length_8abf5_4 : decode cJ0_length_8abf5 4 = .ok (.arraylength, 1) := edJ0_length_8abf5_0.2.2.1
theorem dJ0_length_8abf5_5 : decode cJ0_length_8abf5 5 = .ok (.aload_n 0, 1) := edJ0_length_8abf5_0.2.2.2.1
theorem dJ0_length_8abf5_6 : decode cJ0_length_8abf5 6 = .ok (.invokevirtual 335, 3) := edJ0_length_8abf5_0.2.2.2.2.1
theorem dJ0_length_8abf5_9 : decode cJ0_length_8abf5 9 = .ok (.ishr, 1) := edJ0_length_8abf5_0.2.2.2.2.2.1
theorem dJ0_length_8abf5_10 : decode cJ0_length_8abf5 10 = .ok (.ireturn, 1) := edJ0_length_8abf5_0.2.2.2.2.2.2.1
theorem edJ0_charAt_5068e_0 : (decode cJ0_charAt_5068e 0 = .ok (.aload_n 0, 1)) ∧ (decode cJ0_charAt_5068e 1 = .ok (.invokevirtual 492, 3)) ∧ (decode cJ0_charAt_5068e 4 = .ok (.ifCond .eq 12, 3)) ∧ (decode cJ0_charAt_5068e 7 = .ok (.aload_n 0, 1)) ∧ (decode cJ0_charAt_5068e 8 = .ok (.getfield 9, 3)) ∧ (decode cJ0_charAt_5068e 11 = .ok (.iload_n 1, 1)) ∧ (decode cJ0_charAt_5068e 12 = .ok (.invokestatic 495, 3)) ∧ (decode cJ0_charAt_5068e 15 = .ok (.ireturn, 1)) ∧ True := dc_cj [(0, .aload_n 0, 1), (1, .invokevirtual 492, 3), (4, .ifCond .eq 12, 3), (7, .aload_n 0, 1), (8, .getfield 9, 3), (11, .iload_n 1, 1), (12, .invokestatic 495, 3), (15, .ireturn, 1)] (by decide +kernel)
theorem dJ0_charAt_5068e_0 : decode cJ0_charAt_5068e 0 = .ok (.aload_n 0, 1) := edJ0_charAt_5068e_0.1
theorem dJ0_charAt_5068e_1 : decode cJ0_charAt_5068e 1 = .ok (.invokevirtual 492, 3) := edJ0_charAt_5068e_0.2.1
theorem dJ0_charAt_5068e_4 : decode cJ0_charAt_5068e 4 = .ok (.ifCond .eq 12, 3) := edJ0_charAt_5068e_0.2.2.1
theorem dJ0_charAt_5068e_7 : decode cJ0_charAt_5068e 7 = .ok (.aload_n 0, 1) := edJ0_charAt_5068e_0.2.2.2.1
theorem dJ0_charAt_5068e_8 : decode cJ0_charAt_5068e 8 = .ok (.getfield 9, 3) := edJ0_charAt_5068e_0.2.2.2.2.1
theorem dJ0_charAt_5068e_11 : decode cJ0_charAt_5068e 11 = .ok (.iload_n 1, 1) := edJ0_charAt_5068e_0.2.2.2.2.2.1
theorem dJ0_charAt_5068e_12 : decode cJ0_charAt_5068e 12 = .ok (.invokestatic 495, 3) := edJ0_charAt_5068e_0.2.2.2.2.2.2.1
theorem dJ0_charAt_5068e_15 : decode cJ0_charAt_5068e 15 = .ok (.ireturn, 1) := edJ0_charAt_5068e_0.2.2.2.2.2.2.2.1
theorem edJ0_indexOf_0f7a4_0 : (decode cJ0_indexOf_0f7a4 0 = .ok (.aload_n 0, 1)) ∧ (decode cJ0_indexOf_0f7a4 1 = .ok (.iload_n 1, 1)) ∧ (decode cJ0_indexOf_0f7a4 2 = .ok (.iconst 0, 1)) ∧ (decode cJ0_indexOf_0f7a4 3 = .ok (.invokevirtual 633, 3)) ∧ (decode cJ0_indexOf_0f7a4 6 = .ok (.ireturn, 1)) ∧ True := dc_cj [(0, .aload_n 0, 1), (1, .iload_n 1, 1), (2, .iconst 0, 1), (3, .invokevirtual 633, 3), (6, .ireturn, 1)] (by decide +kernel)
theorem dJ0_indexOf_0f7a4_0 : decode cJ0_indexOf_0f7a4 0 = .ok (.aload_n 0, 1) := edJ0_indexOf_0f7a4_0.1
theorem dJ0_indexOf_0f7a4_1 : decode cJ0_indexOf_0f7a4 1 = .ok (.iload_n 1, 1) := edJ0_indexOf_0f7a4_0.2.1
theorem dJ0_indexOf_0f7a4_2 : decode cJ0_indexOf_0f7a4 2 = .ok (.iconst 0, 1) := edJ0_indexOf_0f7a4_0.2.2.1
theorem dJ0_indexOf_0f7a4_3 : decode cJ0_indexOf_0f7a4 3 = .ok (.invokevirtual 633, 3) := edJ0_indexOf_0f7a4_0.2.2.2.1
theorem dJ0_indexOf_0f7a4_6 : decode cJ0_indexOf_0f7a4 6 = .ok (.ireturn, 1) := edJ0_indexOf_0f7a4_0.2.2.2.2.1
theorem edJ0_indexOf_7cf53_0 : (decode cJ0_indexOf_7cf53 0 = .ok (.aload_n 0, 1)) ∧ (decode cJ0_indexOf_7cf53 1 = .ok (.invokevirtual 492, 3)) ∧ (decode cJ0_indexOf_7cf53 4 = .ok (.ifCond .eq 19, 3)) ∧ (decode cJ0_indexOf_7cf53 7 = .ok (.aload_n 0, 1)) ∧ (decode cJ0_indexOf_7cf53 8 = .ok (.getfield 9, 3)) ∧ (decode cJ0_indexOf_7cf53 11 = .ok (.iload_n 1, 1)) ∧ (decode cJ0_indexOf_7cf53 12 = .ok (.iload_n 2, 1)) ∧ (decode cJ0_indexOf_7cf53 13 = .ok (.aload_n 0, 1)) ∧ (decode cJ0_indexOf_7cf53 14 = .ok (.invokevirtual 505, 3)) ∧ (decode cJ0_indexOf_7cf53 17 = .ok (.invokestatic 637, 3)) ∧ (decode cJ0_indexOf_7cf53 20 = .ok (.goto 16, 3)) ∧ (decode cJ0_indexOf_7cf53 36 = .ok (.ireturn, 1)) ∧ True := dc_cj [(0, .aload_n 0, 1), (1, .invokevirtual 492, 3), (4, .ifCond .eq 19, 3), (7, .aload_n 0, 1), (8, .getfield 9, 3), (11, .iload_n 1, 1), (12, .iload_n 2, 1), (13, .aload_n 0, 1), (14, .invokevirtual 505, 3), (17, .invokestatic 637, 3), (20, .goto 16, 3), (36, .ireturn, 1)] (by decide +kernel)
theorem dJ0_indexOf_7cf53_0 : decode cJ0_indexOf_7cf53 0 = .ok (.aload_n 0, 1) := edJ0_indexOf_7cf53_0.1
theorem dJ0_indexOf_7cf53_1 : decode cJ0_indexOf_7cf53 1 = .ok (.invokevirtual 492, 3) := edJ0_indexOf_7cf53_0.2.1
theorem dJ0_indexOf_7cf53_4 : decode cJ0_indexOf_7cf53 4 = .ok (.ifCond .eq 19, 3) := edJ0_indexOf_7cf53_0.2.2.1
theorem dJ0_indexOf_7cf53_7 : decode cJ0_indexOf_7cf53 7 = .ok (.aload_n 0, 1) := edJ0_indexOf_7cf53_0.2.2.2.1
theorem dJ0_indexOf_7cf53_8 : decode cJ0_indexOf_7cf53 8 = .ok (.getfield 9, 3) := edJ0_indexOf_7cf53_0.2.2.2.2.1
theorem dJ0_indexOf_7cf53_11 : decode cJ0_indexOf_7cf53 11 = .ok (.iload_n 1, 1) := edJ0_indexOf_7cf53_0.2.2.2.2.2.1
theorem dJ0_indexOf_7cf53_12 : decode cJ0_indexOf_7cf53 12 = .ok (.iload_n 2, 1) := edJ0_indexOf_7cf53_0.2.2.2.2.2.2.1
theorem dJ0_indexOf_7cf53_13 : decode cJ0_indexOf_7cf53 13 = .ok (.aload_n 0, 1) := edJ0_indexOf_7cf53_0.2.2.2.2.2.2.2.1
theorem dJ0_indexOf_7cf53_14 : decode cJ0_indexOf_7cf53 14 = .ok (.invokevirtual 505, 3) := edJ0_indexOf_7cf53_0.2.2.2.2.2.2.2.2.1
theorem dJ0_indexOf_7cf53_17 : decode cJ0_indexOf_7cf53 17 = .ok (.invokestatic 637, 3) := edJ0_indexOf_7cf53_0.2.2.2.2.2.2.2.2.2.1
theorem dJ0_indexOf_7cf53_20 : decode cJ0_indexOf_7cf53 20 = .ok (.goto 16, 3) := edJ0_indexOf_7cf53_0.2.2.2.2.2.2.2.2.2.2.1
theorem dJ0_indexOf_7cf53_36 : decode cJ0_indexOf_7cf53 36 = .ok (.ireturn, 1) := edJ0_indexOf_7cf53_0.2.2.2.2.2.2.2.2.2.2.2.1
theorem edJ0_coder_7d493_0 : (decode cJ0_coder_7d493 0 = .ok (.getstatic 38, 3)) ∧ (decode cJ0_coder_7d493 3 = .ok (.ifCond .eq 10, 3)) ∧ (decode cJ0_coder_7d493 6 = .ok (.aload_n 0, 1)) ∧ (decode cJ0_coder_7d493 7 = .ok (.getfield 15, 3)) ∧ (decode cJ0_coder_7d493 10 = .ok (.goto 4, 3)) ∧ (decode cJ0_coder_7d493 14 = .ok (.ireturn, 1)) ∧ True := dc_cj [(0, .getstatic 38, 3), (3, .ifCond .eq 10, 3), (6, .aload_n 0, 1), (7, .getfield 15, 3), (10, .goto 4, 3), (14, .ireturn, 1)] (by decide +kernel)
theorem dJ0_coder_7d493_0 : decode cJ0_coder_7d493 0 = .ok (.getstatic 38, 3) := edJ0_coder_7d493_0.1
theorem dJ0_coder_7d493_3 : decode cJ0_coder_7d493 3 = .ok (.ifCond .eq 10, 3) := edJ0_coder_7d493_0.2.1
theorem dJ0_coder_7d493_6 : decode cJ0_coder_7d493 6 = .ok (.aload_n 0, 1) := edJ0_coder_7d493_0.2.2.1
theorem dJ0_coder_7d493_7 : decode cJ0_coder_7d493 7 = .ok (.getfield 15, 3) := edJ0_coder_7d493_0.2.2.2.1
theorem dJ0_coder_7d493_10 : decode cJ0_coder_7d493 10 = .ok (.goto 4, 3) := edJ0_coder_7d493_0.2.2.2.2.1
theorem dJ0_coder_7d493_14 : decode cJ0_coder_7d493 14 = .ok (.ireturn, 1) := edJ0_coder_7d493_0.2.2.2.2.2.1
theorem edJ0_isLatin1_aae02_0 : (decode cJ0_isLatin1_aae02 0 = .ok (.getstatic 38, 3)) ∧ (decode cJ0_isLatin1_aae02 3 = .ok (.ifCond .eq 14, 3)) ∧ (decode cJ0_isLatin1_aae02 6 = .ok (.aload_n 0, 1)) ∧ (decode cJ0_isLatin1_aae02 7 = .ok (.getfield 15, 3)) ∧ (decode cJ0_isLatin1_aae02 10 = .ok (.ifCond .ne 7, 3)) ∧ (decode cJ0_isLatin1_aae02 13 = .ok (.iconst 1, 1)) ∧ (decode cJ0_isLatin1_aae02 14 = .ok (.goto 4, 3)) ∧ (decode cJ0_isLatin1_aae02 18 = .ok (.ireturn, 1)) ∧ True := dc_cj [(0, .getstatic 38, 3), (3, .ifCond .eq 14, 3), (6, .aload_n 0, 1), (7, .getfield 15, 3), (10, .ifCond .ne 7, 3), (13, .iconst 1, 1), (14, .goto 4, 3), (18, .ireturn, 1)] (by decide +kernel)
theorem dJ0_isLatin1_aae02_0 : decode cJ0_isLatin1_aae02 0 = .ok (.getstatic 38, 3) := edJ0_isLatin1_aae02_0.1
theorem dJ0_isLatin1_aae02_3 : decode cJ0_isLatin1_aae02 3 = .ok (.ifCond .eq 14, 3) := edJ0_isLatin1_aae02_0.2.1
theorem dJ0_isLatin1_aae02_6 : decode cJ0_isLatin1_aae02 6 = .ok (.aload_n 0, 1) := edJ0_isLatin1_aae02_0.2.2.1
theorem dJ0_isLatin1_aae02_7 : decode cJ0_isLatin1_aae02 7 = .ok (.getfield 15, 3) := edJ0_isLatin1_aae02_0.2.2.2.1
theorem dJ0_isLatin1_aae02_10 : decode cJ0_isLatin1_aae02 10 = .ok (.ifCond .ne 7, 3) := edJ0_isLatin1_aae02_0.2.2.2.2.1
theorem dJ0_isLatin1_aae02_13 : decode cJ0_isLatin1_aae02 13 = .ok (.iconst 1, 1) := edJ0_isLatin1_aae02_0.2.2.2.2.2.1
theorem dJ0_isLatin1_aae02_14 : decode cJ0_isLatin1_aae02 14 = .ok (.goto 4, 3) := edJ0_isLatin1_aae02_0.2.2.2.2.2.2.1
theorem dJ0_isLatin1_aae02_18 : decode cJ0_isLatin1_aae02 18 = .ok (.ireturn, 1) := edJ0_isLatin1_aae02_0.2.2.2.2.2.2.2.1
theorem edJ0_checkIndex_df160_0 : (decode cJ0_checkIndex_df160 0 = .ok (.iload_n 0, 1)) ∧ (decode cJ0_checkIndex_df160 1 = .ok (.iload_n 1, 1)) ∧ (decode cJ0_checkIndex_df160 2 = .ok (.getstatic 1053, 3)) ∧ (decode cJ0_checkIndex_df160 5 = .ok (.invokestatic 1059, 3)) ∧ (decode cJ0_checkIndex_df160 8 = .ok (.pop, 1)) ∧ (decode cJ0_checkIndex_df160 9 = .ok (.return_, 1)) ∧ True := dc_cj [(0, .iload_n 0, 1), (1, .iload_n 1, 1), (2, .getstatic 1053, 3), (5, .invokestatic 1059, 3), (8, .pop, 1), (9, .return_, 1)] (by decide +kernel)
theorem dJ0_checkIndex_df160_0 : decode cJ0_checkIndex_df160 0 = .ok (.iload_n 0, 1) := edJ0_checkIndex_df160_0.1
theorem dJ0_checkIndex_df160_1 : decode cJ0_checkIndex_df160 1 = .ok (.iload_n 1, 1) := edJ0_checkIndex_df160_0.2.1
theorem dJ0_checkIndex_df160_2 : decode cJ0_checkIndex_df160 2 = .ok (.getstatic 1053, 3) := edJ0_checkIndex_df160_0.2.2.1
theorem dJ0_checkIndex_df160_5 : decode cJ0_checkIndex_df160 5 = .ok (.invokestatic 1059, 3) := edJ0_checkIndex_df160_0.2.2.2.1
theorem dJ0_checkIndex_df160_8 : decode cJ0_checkIndex_df160 8 = .ok (.pop, 1) := edJ0_checkIndex_df160_0.2.2.2.2.1
theorem dJ0_checkIndex_df160_9 : decode cJ0_checkIndex_df160 9 = .ok (.return_, 1) := edJ0_checkIndex_df160_0.2.2.2.2.2.1
theorem edJ1_charAt_3b067_0 : (decode cJ1_charAt_3b067 0 = .ok (.iload_n 1, 1)) ∧ (decode cJ1_charAt_3b067 1 = .ok (.aload_n 0, 1)) ∧ (decode cJ1_charAt_3b067 2 = .ok (.arraylength, 1)) ∧ (decode cJ1_charAt_3b067 3 = .ok (.invokestatic 9, 3)) ∧ (decode cJ1_charAt_3b067 6 = .ok (.aload_n 0, 1)) ∧ (decode cJ1_charAt_3b067 7 = .ok (.iload_n 1, 1)) ∧ (decode cJ1_charAt_3b067 8 = .ok (.baload, 1)) ∧ (decode cJ1_charAt_3b067 9 = .ok (.sipush 255, 3)) ∧ (decode cJ1_charAt_3b067 12 = .ok (.iand, 1)) ∧ (decode cJ1_charAt_3b067 13 = .ok (.i2c, 1)) ∧ (decode cJ1_charAt_3b067 14 = .ok (.ireturn, 1)) ∧ True := dc_cj [(0, .iload_n 1, 1), (1, .aload_n 0, 1), (2, .arraylength, 1), (3, .invokestatic 9, 3), (6, .aload_n 0, 1), (7, .iload_n 1, 1), (8, .baload, 1), (9, .sipush 255, 3), (12, .iand, 1), (13, .i2c, 1), (14, .ireturn, 1)] (by decide +kernel)
theorem dJ1_charAt_3b067_0 : decode cJ1_charAt_3b067 0 = .ok (.iload_n 1, 1) := edJ1_charAt_3b067_0.1
theorem dJ1_charAt_3b067_1 : decode cJ1_charAt_3b067 1 = .ok (.aload_n 0, 1) := edJ1_charAt_3b067_0.2.1
theorem dJ1_charAt_3b067_2 : decode cJ1_charAt_3b067 2 = .ok (.arraylength, 1) := edJ1_charAt_3b067_0.2.2.1
theorem dJ1_charAt_3b067_3 : decode cJ1_charAt_3b067 3 = .ok (.invokestatic 9, 3) := edJ1_charAt_3b067_0.2.2.2.1
theorem dJ1_charAt_3b067_6 : decode cJ1_charAt_3b067 6 = .ok (.aload_n 0, 1) := edJ1_charAt_3b067_0.2.2.2.2.1
theorem dJ1_charAt_3b067_7 : decode cJ1_charAt_3b067 7 = .ok (.iload_n 1, 1) := edJ1_charAt_3b067_0.2.2.2.2.2.1
theorem dJ1_charAt_3b067_8 : decode cJ1_charAt_3b067 8 = .ok (.baload, 1) := edJ1_charAt_3b067_0.2.2.2.2.2.2.1
theorem dJ1_charAt_3b067_9 : decode cJ1_charAt_3b067 9 = .ok (.sipush 255, 3) := edJ1_charAt_3b067_0.2.2.2.2.2.2.2.1
theorem dJ1_charAt_3b067_12 : decode cJ1_charAt_3b067 12 = .ok (.iand, 1) := edJ1_charAt_3b067_0.2.2.2.2.2.2.2.2.1
theorem dJ1_charAt_3b067_13 : decode cJ1_charAt_3b067 13 = .ok (.i2c, 1) := edJ1_charAt_3b067_0.2.2.2.2.2.2.2.2.2.1
theorem dJ1_charAt_3b067_14 : decode cJ1_charAt_3b067 14 = .ok (.ireturn, 1) := edJ1_charAt_3b067_0.2.2.2.2.2.2.2.2.2.2.1
theorem edJ1_canEncode_9a6ad_0 : (decode cJ1_canEncode_9a6ad 0 = .ok (.iload_n 0, 1)) ∧ (decode cJ1_canEncode_9a6ad 1 = .ok (.ifCond .lt 14, 3)) ∧ (decode cJ1_canEncode_9a6ad 4 = .ok (.iload_n 0, 1)) ∧ (decode cJ1_canEncode_9a6ad 5 = .ok (.sipush 255, 3)) ∧ (decode cJ1_canEncode_9a6ad 8 = .ok (.if_icmp .gt 7, 3)) ∧ (decode cJ1_canEncode_9a6ad 11 = .ok (.iconst 1, 1)) ∧ (decode cJ1_canEncode_9a6ad 12 = .ok (.goto 4, 3)) ∧ (decode cJ1_canEncode_9a6ad 16 = .ok (.ireturn, 1)) ∧ True := dc_cj [(0, .iload_n 0, 1), (1, .ifCond .lt 14, 3), (4, .iload_n 0, 1), (5, .sipush 255, 3), (8, .if_icmp .gt 7, 3), (11, .iconst 1, 1), (12, .goto 4, 3), (16, .ireturn, 1)] (by decide +kernel)
theorem dJ1_canEncode_9a6ad_0 : decode cJ1_canEncode_9a6ad 0 = .ok (.iload_n 0, 1) := edJ1_canEncode_9a6ad_0.1
theorem dJ1_canEncode_9a6ad_1 : decode cJ1_canEncode_9a6ad 1 = .ok (.ifCond .lt 14, 3) := edJ1_canEncode_9a6ad_0.2.1
theorem dJ1_canEncode_9a6ad_4 : decode cJ1_canEncode_9a6ad 4 = .ok (.iload_n 0, 1) := edJ1_canEncode_9a6ad_0.2.2.1
theorem dJ1_canEncode_9a6ad_5 : decode cJ1_canEncode_9a6ad 5 = .ok (.sipush 255, 3) := edJ1_canEncode_9a6ad_0.2.2.2.1
theorem dJ1_canEncode_9a6ad_8 : decode cJ1_canEncode_9a6ad 8 = .ok (.if_icmp .gt 7, 3) := edJ1_canEncode_9a6ad_0.2.2.2.2.1
theorem dJ1_canEncode_9a6ad_11 : decode cJ1_canEncode_9a6ad 11 = .ok (.iconst 1, 1) := edJ1_canEncode_9a6ad_0.2.2.2.2.2.1
theorem dJ1_canEncode_9a6ad_12 : decode cJ1_canEncode_9a6ad 12 = .ok (.goto 4, 3) := edJ1_canEncode_9a6ad_0.2.2.2.2.2.2.1
theorem dJ1_canEncode_9a6ad_16 : decode cJ1_canEncode_9a6ad 16 = .ok (.ireturn, 1) := edJ1_canEncode_9a6ad_0.2.2.2.2.2.2.2.1
theorem edJ1_indexOf_4cfef_0 : (decode cJ1_indexOf_4cfef 0 = .ok (.iload_n 1, 1)) ∧ (decode cJ1_indexOf_4cfef 1 = .ok (.invokestatic 88, 3)) ∧ (decode cJ1_indexOf_4cfef 4 = .ok (.ifCond .ne 5, 3)) ∧ (decode cJ1_indexOf_4cfef 9 = .ok (.iload_n 2, 1)) ∧ (decode cJ1_indexOf_4cfef 10 = .ok (.iconst 0, 1)) ∧ (decode cJ1_indexOf_4cfef 11 = .ok (.invokestatic 92, 3)) ∧ (decode cJ1_indexOf_4cfef 14 = .ok (.istore_n 2, 1)) ∧ (decode cJ1_indexOf_4cfef 15 = .ok (.iload_n 3, 1)) ∧ (decode cJ1_indexOf_4cfef 16 = .ok (.aload_n 0, 1)) ∧ (decode cJ1_indexOf_4cfef 17 = .ok (.arraylength, 1)) ∧ (decode cJ1_indexOf_4cfef 18 = .ok (.invokestatic 38, 3)) ∧ (decode cJ1_indexOf_4cfef 21 = .ok (.istore_n 3, 1)) ∧ (decode cJ1_indexOf_4cfef 22 = .ok (.iload_n 2, 1)) ∧ (decode cJ1_indexOf_4cfef 23 = .ok (.iload_n 3, 1)) ∧ (decode cJ1_indexOf_4cfef 24 = .ok (.if_icmp .lt 5, 3)) ∧ (decode cJ1_indexOf_4cfef 29 = .ok (.aload_n 0, 1)) ∧ (decode cJ1_indexOf_4cfef 30 = .ok (.iload_n 1, 1)) ∧ (decode cJ1_indexOf_4cfef 31 = .ok (.iload_n 2, 1)) ∧ (decode cJ1_indexOf_4cfef 32 = .ok (.iload_n 3, 1)) ∧ (decode cJ1_indexOf_4cfef 33 = .ok (.invokestatic 95, 3)) ∧ (decode cJ1_indexOf_4cfef 36 = .ok (.ireturn, 1)) ∧ True := dc_cj [(0, .iload_n 1, 1), (1, .invokestatic 88, 3), (4, .ifCond .ne 5, 3), (9, .iload_n 2, 1), (10, .iconst 0, 1), (11, .invokestatic 92, 3), (14, .istore_n 2, 1), (15, .iload_n 3, 1), (16, .aload_n 0, 1), (17, .arraylength, 1), (18, .invokestatic 38, 3), (21, .istore_n 3, 1), (22, .iload_n 2, 1), (23, .iload_n 3, 1), (24, .if_icmp .lt 5, 3), (29, .aload_n 0, 1), (30, .iload_n 1, 1), (31, .iload_n 2, 1), (32, .iload_n 3, 1), (33, .invokestatic 95, 3), (36, .ireturn, 1)] (by decide +kernel)
theorem dJ1_indexOf_4cfef_0 : decode cJ1_indexOf_4cfef 0 = .ok (.iload_n 1, 1) := edJ1_indexOf_4cfef_0.1
theorem dJ1_indexOf_4cfef_1 : decode cJ1_indexOf_4cfef 1 = .ok (.invokestatic 88, 3) := edJ1_indexOf_4cfef_0.2.1
theorem dJ1_indexOf_4cfef_4 : decode cJ1_indexOf_4cfef 4 = .ok (.ifCond .ne 5, 3) := edJ1_indexOf_4cfef_0.2.2.1
theorem dJ1_indexOf_4cfef_9 : decode cJ1_indexOf_4cfef 9 = .ok (.iload_n 2, 1) := edJ1_indexOf_4cfef_0.2.2.2.1
theorem dJ1_indexOf_4cfef_10 : decode cJ1_indexOf_4cfef 10 = .ok (.iconst 0, 1) := edJ1_indexOf_4cfef_0.2.2.2.2.1
theorem dJ1_indexOf_4cfef_11 : decode cJ1_indexOf_4cfef 11 = .ok (.invokestatic 92, 3) := edJ1_indexOf_4cfef_0.2.2.2.2.2.1
theorem dJ1_indexOf_4cfef_14 : decode cJ1_indexOf_4cfef 14 = .ok (.istore_n 2, 1) := edJ1_indexOf_4cfef_0.2.2.2.2.2.2.1
theorem dJ1_indexOf_4cfef_15 : decode cJ1_indexOf_4cfef 15 = .ok (.iload_n 3, 1) := edJ1_indexOf_4cfef_0.2.2.2.2.2.2.2.1
theorem dJ1_indexOf_4cfef_16 : decode cJ1_indexOf_4cfef 16 = .ok (.aload_n 0, 1) := edJ1_indexOf_4cfef_0.2.2.2.2.2.2.2.2.1
theorem dJ1_indexOf_4cfef_17 : decode cJ1_indexOf_4cfef 17 = .ok (.arraylength, 1) := edJ1_indexOf_4cfef_0.2.2.2.2.2.2.2.2.2.1
theorem dJ1_indexOf_4cfef_18 : decode cJ1_indexOf_4cfef 18 = .ok (.invokestatic 38, 3) := edJ1_indexOf_4cfef_0.2.2.2.2.2.2.2.2.2.2.1
theorem dJ1_indexOf_4cfef_21 : decode cJ1_indexOf_4cfef 21 = .ok (.istore_n 3, 1) := edJ1_indexOf_4cfef_0.2.2.2.2.2.2.2.2.2.2.2.1
theorem dJ1_indexOf_4cfef_22 : decode cJ1_indexOf_4cfef 22 = .ok (.iload_n 2, 1) := edJ1_indexOf_4cfef_0.2.2.2.2.2.2.2.2.2.2.2.2.1
theorem dJ1_indexOf_4cfef_23 : decode cJ1_indexOf_4cfef 23 = .ok (.iload_n 3, 1) := edJ1_indexOf_4cfef_0.2.2.2.2.2.2.2.2.2.2.2.2.2.1
theorem dJ1_indexOf_4cfef_24 : decode cJ1_indexOf_4cfef 24 = .ok (.if_icmp .lt 5, 3) := edJ1_indexOf_4cfef_0.2.2.2.2.2.2.2.2.2.2.2.2.2.2.1
theorem dJ1_indexOf_4cfef_29 : decode cJ1_indexOf_4cfef 29 = .ok (.aload_n 0, 1) := edJ1_indexOf_4cfef_0.2.2.2.2.2.2.2.2.2.2.2.2.2.2.2.1
theorem dJ1_indexOf_4cfef_30 : decode cJ1_indexOf_4cfef 30 = .ok (.iload_n 1, 1) := edJ1_indexOf_4cfef_0.2.2.2.2.2.2.2.2.2.2.2.2.2.2.2.2.1
theorem dJ1_indexOf_4cfef_31 : decode cJ1_indexOf_4cfef 31 = .ok (.iload_n 2, 1) := edJ1_indexOf_4cfef_0.2.2.2.2.2.2.2.2.2.2.2.2.2.2.2.2.2.1
theorem dJ1_indexOf_4cfef_32 : decode cJ1_indexOf_4cfef 32 = .ok (.iload_n 3, 1) := edJ1_indexOf_4cfef_0.2.2.2.2.2.2.2.2.2.2.2.2.2.2.2.2.2.2.1
theorem dJ1_indexOf_4cfef_33 : decode cJ1_indexOf_4cfef 33 = .ok (.invokestatic 95, 3) := edJ1_indexOf_4cfef_0.2.2.2.2.2.2.2.2.2.2.2.2.2.2.2.2.2.2.2.1
theorem dJ1_indexOf_4cfef_36 : decode cJ1_indexOf_4cfef 36 = .ok (.ireturn, 1) := edJ1_indexOf_4cfef_0.2.2.2.2.2.2.2.2.2.2.2.2.2.2.2.2.2.2.2.2.1
theorem edJ1_indexOfChar_4cfef_0 : (decode cJ1_indexOfChar_4cfef 0 = .ok (.iload_n 1, 1)) ∧ (decode cJ1_indexOfChar_4cfef 1 = .ok (.i2b, 1)) ∧ (decode cJ1_indexOfChar_4cfef 2 = .ok (.istore 4, 2)) ∧ (decode cJ1_indexOfChar_4cfef 4 = .ok (.iload_n 2, 1)) ∧ (decode cJ1_indexOfChar_4cfef 5 = .ok (.istore 5, 2)) ∧ (decode cJ1_indexOfChar_4cfef 7 = .ok (.iload 5, 2)) ∧ (decode cJ1_indexOfChar_4cfef 9 = .ok (.iload_n 3, 1)) ∧ (decode cJ1_indexOfChar_4cfef 10 = .ok (.if_icmp .ge 21, 3)) ∧ (decode cJ1_indexOfChar_4cfef 13 = .ok (.aload_n 0, 1)) ∧ (decode cJ1_indexOfChar_4cfef 14 = .ok (.iload 5, 2)) ∧ (decode cJ1_indexOfChar_4cfef 16 = .ok (.baload, 1)) ∧ (decode cJ1_indexOfChar_4cfef 17 = .ok (.iload 4, 2)) ∧ (decode cJ1_indexOfChar_4cfef 19 = .ok (.if_icmp .ne 6, 3)) ∧ (decode cJ1_indexOfChar_4cfef 22 = .ok (.iload 5, 2)) ∧ (decode cJ1_indexOfChar_4cfef 24 = .ok (.ireturn, 1)) ∧ (decode cJ1_indexOfChar_4cfef 25 = .ok (.iinc 5 1, 3)) ∧ (decode cJ1_indexOfChar_4cfef 28 = .ok (.goto (-21), 3)) ∧ (decode cJ1_indexOfChar_4cfef 31 = .ok (.iconst (-1), 1)) ∧ (decode cJ1_indexOfChar_4cfef 32 = .ok (.ireturn, 1)) ∧ True := dc_cj [(0, .iload_n 1, 1), (1, .i2b, 1), (2, .istore 4, 2), (4, .iload_n 2, 1), (5, .istore 5, 2), (7, .iload 5, 2), (9, .iload_n 3, 1), (10, .if_icmp .ge 21, 3), (13, .aload_n 0, 1), (14, .iload 5, 2), (16, .baload, 1), (17, .iload 4, 2), (19, .if_icmp .ne 6, 3), (22, .iload 5, 2), (24, .ireturn, 1), (25, .iinc 5 1, 3), (28, .goto (-21), 3), (31, .iconst (-1), 1), (32, .ireturn, 1)] (by decide +kernel)
theorem dJ1_indexOfChar_4cfef_0 : decode cJ1_indexOfChar_4cfef 0 = .ok (.iload_n 1, 1) := edJ1_indexOfChar_4cfef_0.1
theorem dJ1_indexOfChar_4cfef_1 : decode cJ1_indexOfChar_4cfef 1 = .ok (.i2b, 1) := edJ1_indexOfChar_4cfef_0.2.1
theorem dJ1_indexOfChar_4cfef_2 : decode cJ1_indexOfChar_4cfef 2 = .ok (.istore 4, 2) := edJ1_indexOfChar_4cfef_0.2.2.1
theorem dJ1_indexOfChar_4cfef_4 : decode cJ1_indexOfChar_4cfef 4 = .ok (.iload_n 2, 1) := edJ1_indexOfChar_4cfef_0.2.2.2.1
theorem dJ1_indexOfChar_4cfef_5 : decode cJ1_indexOfChar_4cfef 5 = .ok (.istore 5, 2) := edJ1_indexOfChar_4cfef_0.2.2.2.2.1
theorem dJ1_indexOfChar_4cfef_7 : decode cJ1_indexOfChar_4cfef 7 = .ok (.iload 5, 2) := edJ1_indexOfChar_4cfef_0.2.2.2.2.2.1
theorem dJ1_indexOfChar_4cfef_9 : decode cJ1_indexOfChar_4cfef 9 = .ok (.iload_n 3, 1) := edJ1_indexOfChar_4cfef_0.2.2.2.2.2.2.1
theorem dJ1_indexOfChar_4cfef_10 : decode cJ1_indexOfChar_4cfef 10 = .ok (.if_icmp .ge 21, 3) := edJ1_indexOfChar_4cfef_0.2.2.2.2.2.2.2.1
theorem dJ1_indexOfChar_4cfef_13 : decode cJ1_indexOfChar_4cfef 13 = .ok (.aload_n 0, 1) := edJ1_indexOfChar_4cfef_0.2.2.2.2.2.2.2.2.1
theorem dJ1_indexOfChar_4cfef_14 : decode cJ1_indexOfChar_4cfef 14 = .ok (.iload 5, 2) := edJ1_indexOfChar_4cfef_0.2.2.2.2.2.2.2.2.2.1
theorem dJ1_indexOfChar_4cfef_16 : decode cJ1_indexOfChar_4cfef 16 = .ok (.baload, 1) := edJ1_indexOfChar_4cfef_0.2.2.2.2.2.2.2.2.2.2.1
theorem dJ1_indexOfChar_4cfef_17 : decode cJ1_indexOfChar_4cfef 17 = .ok (.iload 4, 2) := edJ1_indexOfChar_4cfef_0.2.2.2.2.2.2.2.2.2.2.2.1
theorem dJ1_indexOfChar_4cfef_19 : decode cJ1_indexOfChar_4cfef 19 = .ok (.if_icmp .ne 6, 3) := edJ1_indexOfChar_4cfef_0.2.2.2.2.2.2.2.2.2.2.2.2.1
theorem dJ1_indexOfChar_4cfef_22 : decode cJ1_indexOfChar_4cfef 22 = .ok (.iload 5, 2) := edJ1_indexOfChar_4cfef_0.2.2.2.2.2.2.2.2.2.2.2.2.2.1
theorem dJ1_indexOfChar_4cfef_24 : decode cJ1_indexOfChar_4cfef 24 = .ok (.ireturn, 1) := edJ1_indexOfChar_4cfef_0.2.2.2.2.2.2.2.2.2.2.2.2.2.2.1
theorem dJ1_indexOfChar_4cfef_25 : decode cJ1_indexOfChar_4cfef 25 = .ok (.iinc 5 1, 3) := edJ1_indexOfChar_4cfef_0.2.2.2.2.2.2.2.2.2.2.2.2.2.2.2.1
theorem dJ1_indexOfChar_4cfef_28 : decode cJ1_indexOfChar_4cfef 28 = .ok (.goto (-21), 3) := edJ1_indexOfChar_4cfef_0.2.2.2.2.2.2.2.2.2.2.2.2.2.2.2.2.1
theorem dJ1_indexOfChar_4cfef_31 : decode cJ1_indexOfChar_4cfef 31 = .ok (.iconst (-1), 1) := edJ1_indexOfChar_4cfef_0.2.2.2.2.2.2.2.2.2.2.2.2.2.2.2.2.2.1
theorem dJ1_indexOfChar_4cfef_32 : decode cJ1_indexOfChar_4cfef 32 = .ok (.ireturn, 1) := edJ1_indexOfChar_4cfef_0.2.2.2.2.2.2.2.2.2.2.2.2.2.2.2.2.2.2.1
theorem edJ7_fill_53178_0 : (decode cJ7_fill_53178 0 = .ok (.iconst 0, 1)) ∧ (decode cJ7_fill_53178 1 = .ok (.istore_n 2, 1)) ∧ (decode cJ7_fill_53178 2 = .ok (.aload_n 0, 1)) ∧ (decode cJ7_fill_53178 3 = .ok (.arraylength, 1)) ∧ (decode cJ7_fill_53178 4 = .ok (.istore_n 3, 1)) ∧ (decode cJ7_fill_53178 5 = .ok (.iload_n 2, 1)) ∧ (decode cJ7_fill_53178 6 = .ok (.iload_n 3, 1)) ∧ (decode cJ7_fill_53178 7 = .ok (.if_icmp .ge 13, 3)) ∧ (decode cJ7_fill_53178 10 = .ok (.aload_n 0, 1)) ∧ (decode cJ7_fill_53178 11 = .ok (.iload_n 2, 1)) ∧ (decode cJ7_fill_53178 12 = .ok (.iload_n 1, 1)) ∧ (decode cJ7_fill_53178 13 = .ok (.iastore, 1)) ∧ (decode cJ7_fill_53178 14 = .ok (.iinc 2 1, 3)) ∧ (decode cJ7_fill_53178 17 = .ok (.goto (-12), 3)) ∧ (decode cJ7_fill_53178 20 = .ok (.return_, 1)) ∧ True := dc_cj [(0, .iconst 0, 1), (1, .istore_n 2, 1), (2, .aload_n 0, 1), (3, .arraylength, 1), (4, .istore_n 3, 1), (5, .iload_n 2, 1), (6, .iload_n 3, 1), (7, .if_icmp .ge 13, 3), (10, .aload_n 0, 1), (11, .iload_n 2, 1), (12, .iload_n 1, 1), (13, .iastore, 1), (14, .iinc 2 1, 3), (17, .goto (-12), 3), (20, .return_, 1)] (by decide +kernel)
theorem dJ7_fill_53178_0 : decode cJ7_fill_53178 0 = .ok (.iconst 0, 1) := edJ7_fill_53178_0.1
theorem dJ7_fill_53178_1 : decode cJ7_fill_53178 1 = .ok (.istore_n 2, 1) := edJ7_fill_53178_0.2.1
theorem dJ7_fill_53178_2 : decode cJ7_fill_53178 2 = .ok (.aload_n 0, 1) := edJ7_fill_53178_0.2.2.1
theorem dJ7_fill_53178_3 : decode cJ7_fill_53178 3 = .ok (.arraylength, 1) := edJ7_fill_53178_0.2.2.2.1
theorem dJ7_fill_53178_4 : decode cJ7_fill_53178 4 = .ok (.istore_n 3, 1) := edJ7_fill_53178_0.2.2.2.2.1
theorem dJ7_fill_53178_5 : decode cJ7_fill_53178 5 = .ok (.iload_n 2, 1) := edJ7_fill_53178_0.2.2.2.2.2.1
theorem dJ7_fill_53178_6 : decode cJ7_fill_53178 6 = .ok (.iload_n 3, 1) := edJ7_fill_53178_0.2.2.2.2.2.2.1
theorem dJ7_fill_53178_7 : decode cJ7_fill_53178 7 = .ok (.if_icmp .ge 13, 3) := edJ7_fill_53178_0.2.2.2.2.2.2.2.1
theorem dJ7_fill_53178_10 : decode cJ7_fill_53178 10 = .ok (.aload_n 0, 1) := edJ7_fill_53178_0.2.2.2.2.2.2.2.2.1
theorem dJ7_fill_53178_11 : decode cJ7_fill_53178 11 = .ok (.iload_n 2, 1) := edJ7_fill_53178_0.2.2.2.2.2.2.2.2.2.1
theorem dJ7_fill_53178_12 : decode cJ7_fill_53178 12 = .ok (.iload_n 1, 1) := edJ7_fill_53178_0.2.2.2.2.2.2.2.2.2.2.1
theorem dJ7_fill_53178_13 : decode cJ7_fill_53178 13 = .ok (.iastore, 1) := edJ7_fill_53178_0.2.2.2.2.2.2.2.2.2.2.2.1
theorem dJ7_fill_53178_14 : decode cJ7_fill_53178 14 = .ok (.iinc 2 1, 3) := edJ7_fill_53178_0.2.2.2.2.2.2.2.2.2.2.2.2.1
theorem dJ7_fill_53178_17 : decode cJ7_fill_53178 17 = .ok (.goto (-12), 3) := edJ7_fill_53178_0.2.2.2.2.2.2.2.2.2.2.2.2.2.1
theorem dJ7_fill_53178_20 : decode cJ7_fill_53178 20 = .ok (.return_, 1) := edJ7_fill_53178_0.2.2.2.2.2.2.2.2.2.2.2.2.2.2.1
theorem edJ7_copyOf_59c91_0 : (decode cJ7_copyOf_59c91 0 = .ok (.iload_n 1, 1)) ∧ (decode cJ7_copyOf_59c91 1 = .ok (.aload_n 0, 1)) ∧ (decode cJ7_copyOf_59c91 2 = .ok (.arraylength, 1)) ∧ (decode cJ7_copyOf_59c91 3 = .ok (.if_icmp .ne 11, 3)) ∧ (decode cJ7_copyOf_59c91 14 = .ok (.iload_n 1, 1)) ∧ (decode cJ7_copyOf_59c91 15 = .ok (.newarray .int, 2)) ∧ (decode cJ7_copyOf_59c91 17 = .ok (.astore_n 2, 1)) ∧ (decode cJ7_copyOf_59c91 18 = .ok (.aload_n 0, 1)) ∧ (decode cJ7_copyOf_59c91 19 = .ok (.iconst 0, 1)) ∧ (decode cJ7_copyOf_59c91 20 = .ok (.aload_n 2, 1)) ∧ (decode cJ7_copyOf_59c91 21 = .ok (.iconst 0, 1)) ∧ (decode cJ7_copyOf_59c91 22 = .ok (.aload_n 0, 1)) ∧ (decode cJ7_copyOf_59c91 23 = .ok (.arraylength, 1)) ∧ (decode cJ7_copyOf_59c91 24 = .ok (.iload_n 1, 1)) ∧ (decode cJ7_copyOf_59c91 25 = .ok (.invokestatic 304, 3)) ∧ (decode cJ7_copyOf_59c91 28 = .ok (.invokestatic 150, 3)) ∧ (decode cJ7_copyOf_59c91 31 = .ok (.aload_n 2, 1)) ∧ (decode cJ7_copyOf_59c91 32 = .ok (.areturn, 1)) ∧ True := dc_cj [(0, .iload_n 1, 1), (1, .aload_n 0, 1), (2, .arraylength, 1), (3, .if_icmp .ne 11, 3), (14, .iload_n 1, 1), (15, .newarray .int, 2), (17, .astore_n 2, 1), (18, .aload_n 0, 1), (19, .iconst 0, 1), (20, .aload_n 2, 1), (21, .iconst 0, 1), (22, .aload_n 0, 1), (23, .arraylength, 1), (24, .iload_n 1, 1), (25, .invokestatic 304, 3), (28, .invokestatic 150, 3), (31, .aload_n 2, 1), (32, .areturn, 1)] (by decide +kernel)
theorem dJ7_copyOf_59c91_0 : decode cJ7_copyOf_59c91 0 = .ok (.iload_n 1, 1) := edJ7_copyOf_59c91_0.1
theorem dJ7_copyOf_59c91_1 : decode cJ7_copyOf_59c91 1 = .ok (.aload_n 0, 1) := edJ7_copyOf_59c91_0.2.1
theorem dJ7_copyOf_59c91_2 : decode cJ7_copyOf_59c91 2 = .ok (.arraylength, 1) := edJ7_copyOf_59c91_0.2.2.1
theorem dJ7_copyOf_59c91_3 : decode cJ7_copyOf_59c91 3 = .ok (.if_icmp .ne 11, 3) := edJ7_copyOf_59c91_0.2.2.2.1
theorem dJ7_copyOf_59c91_14 : decode cJ7_copyOf_59c91 14 = .ok (.iload_n 1, 1) := edJ7_copyOf_59c91_0.2.2.2.2.1
theorem dJ7_copyOf_59c91_15 : decode cJ7_copyOf_59c91 15 = .ok (.newarray .int, 2) := edJ7_copyOf_59c91_0.2.2.2.2.2.1
theorem dJ7_copyOf_59c91_17 : decode cJ7_copyOf_59c91 17 = .ok (.astore_n 2, 1) := edJ7_copyOf_59c91_0.2.2.2.2.2.2.1
theorem dJ7_copyOf_59c91_18 : decode cJ7_copyOf_59c91 18 = .ok (.aload_n 0, 1) := edJ7_copyOf_59c91_0.2.2.2.2.2.2.2.1
theorem dJ7_copyOf_59c91_19 : decode cJ7_copyOf_59c91 19 = .ok (.iconst 0, 1) := edJ7_copyOf_59c91_0.2.2.2.2.2.2.2.2.1
theorem dJ7_copyOf_59c91_20 : decode cJ7_copyOf_59c91 20 = .ok (.aload_n 2, 1) := edJ7_copyOf_59c91_0.2.2.2.2.2.2.2.2.2.1
theorem dJ7_copyOf_59c91_21 : decode cJ7_copyOf_59c91 21 = .ok (.iconst 0, 1) := edJ7_copyOf_59c91_0.2.2.2.2.2.2.2.2.2.2.1
theorem dJ7_copyOf_59c91_22 : decode cJ7_copyOf_59c91 22 = .ok (.aload_n 0, 1) := edJ7_copyOf_59c91_0.2.2.2.2.2.2.2.2.2.2.2.1
theorem dJ7_copyOf_59c91_23 : decode cJ7_copyOf_59c91 23 = .ok (.arraylength, 1) := edJ7_copyOf_59c91_0.2.2.2.2.2.2.2.2.2.2.2.2.1
theorem dJ7_copyOf_59c91_24 : decode cJ7_copyOf_59c91 24 = .ok (.iload_n 1, 1) := edJ7_copyOf_59c91_0.2.2.2.2.2.2.2.2.2.2.2.2.2.1
theorem dJ7_copyOf_59c91_25 : decode cJ7_copyOf_59c91 25 = .ok (.invokestatic 304, 3) := edJ7_copyOf_59c91_0.2.2.2.2.2.2.2.2.2.2.2.2.2.2.1
theorem dJ7_copyOf_59c91_28 : decode cJ7_copyOf_59c91 28 = .ok (.invokestatic 150, 3) := edJ7_copyOf_59c91_0.2.2.2.2.2.2.2.2.2.2.2.2.2.2.2.1
theorem dJ7_copyOf_59c91_31 : decode cJ7_copyOf_59c91 31 = .ok (.aload_n 2, 1) := edJ7_copyOf_59c91_0.2.2.2.2.2.2.2.2.2.2.2.2.2.2.2.2.1
theorem dJ7_copyOf_59c91_32 : decode cJ7_copyOf_59c91 32 = .ok (.areturn, 1) := edJ7_copyOf_59c91_0.2.2.2.2.2.2.2.2.2.2.2.2.2.2.2.2.2.1
theorem edJ3_checkIndex_8e157_0 : (decode cJ3_checkIndex_8e157 0 = .ok (.iload_n 0, 1)) ∧ (decode cJ3_checkIndex_8e157 1 = .ok (.ifCond .lt 8, 3)) ∧ (decode cJ3_checkIndex_8e157 4 = .ok (.iload_n 0, 1)) ∧ (decode cJ3_checkIndex_8e157 5 = .ok (.iload_n 1, 1)) ∧ (decode cJ3_checkIndex_8e157 6 = .ok (.if_icmp .lt 10, 3)) ∧ (decode cJ3_checkIndex_8e157 16 = .ok (.iload_n 0, 1)) ∧ (decode cJ3_checkIndex_8e157 17 = .ok (.ireturn, 1)) ∧ True := dc_cj [(0, .iload_n 0, 1), (1, .ifCond .lt 8, 3), (4, .iload_n 0, 1), (5, .iload_n 1, 1), (6, .if_icmp .lt 10, 3), (16, .iload_n 0, 1), (17, .ireturn, 1)] (by decide +kernel)
theorem dJ3_checkIndex_8e157_0 : decode cJ3_checkIndex_8e157 0 = .ok (.iload_n 0, 1) := edJ3_checkIndex_8e157_0.1
theorem dJ3_checkIndex_8e157_1 : decode cJ3_checkIndex_8e157 1 = .ok (.ifCond .lt 8, 3) := edJ3_checkIndex_8e157_0.2.1
theorem dJ3_checkIndex_8e157_4 : decode cJ3_checkIndex_8e157 4 = .ok (.iload_n 0, 1) := edJ3_checkIndex_8e157_0.2.2.1
theorem dJ3_checkIndex_8e157_5 : decode cJ3_checkIndex_8e157 5 = .ok (.iload_n 1, 1) := edJ3_checkIndex_8e157_0.2.2.2.1
theorem dJ3_checkIndex_8e157_6 : decode cJ3_checkIndex_8e157 6 = .ok (.if_icmp .lt 10, 3) := edJ3_checkIndex_8e157_0.2.2.2.2.1
theorem dJ3_checkIndex_8e157_16 : decode cJ3_checkIndex_8e157 16 = .ok (.iload_n 0, 1) := edJ3_checkIndex_8e157_0.2.2.2.2.2.1
theorem dJ3_checkIndex_8e157_17 : decode cJ3_checkIndex_8e157 17 = .ok (.ireturn, 1) := edJ3_checkIndex_8e157_0.2.2.2.2.2.2.1
theorem edL_law_0 : (decode cL_law 0 = .ok (.new 7, 3)) ∧ (decode cL_law 3 = .ok (.dup, 1)) ∧ (decode cL_law 4 = .ok (.invokespecial 9, 3)) ∧ (decode cL_law 7 = .ok (.astore_n 1, 1)) ∧ (decode cL_law 8 = .ok (.new 10, 3)) ∧ (decode cL_law 11 = .ok (.dup, 1)) ∧ (decode cL_law 12 = .ok (.invokespecial 12, 3)) ∧ (decode cL_law 15 = .ok (.astore_n 2, 1)) ∧ (decode cL_law 16 = .ok (.iconst 0, 1)) ∧ (decode cL_law 17 = .ok (.istore_n 3, 1)) ∧ (decode cL_law 18 = .ok (.iload_n 3, 1)) ∧ (decode cL_law 19 = .ok (.aload_n 0, 1)) ∧ (decode cL_law 20 = .ok (.arraylength, 1)) ∧ (decode cL_law 21 = .ok (.bipush 6, 2)) ∧ (decode cL_law 23 = .ok (.isub, 1)) ∧ (decode cL_law 24 = .ok (.if_icmp .gt 1434, 3)) ∧ (decode cL_law 27 = .ok (.aload_n 0, 1)) ∧ (decode cL_law 28 = .ok (.iload_n 3, 1)) ∧ (decode cL_law 29 = .ok (.iaload, 1)) ∧ (decode cL_law 30 = .ok (.bipush 63, 2)) ∧ (decode cL_law 32 = .ok (.iand, 1)) ∧ (decode cL_law 33 = .ok (.tableswitch 1419 0 41 #[183, 226, 259, 292, 325, 368, 401, 444, 477, 510, 533, 556, 579, 602, 615, 638, 671, 694, 717, 740, 773, 816, 829, 852, 895, 918, 931, 964, 987, 1030, 1073, 1096, 1119, 1182, 1225, 1258, 1291, 1324, 1347, 1370, 1383, 1396], 183)) ∧ (decode cL_law 216 = .ok (.aload_n 1, 1)) ∧ (decode cL_law 217 = .ok (.aload_n 0, 1)) ∧ (decode cL_law 218 = .ok (.iload_n 3, 1)) ∧ (decode cL_law 219 = .ok (.iconst 1, 1)) ∧ (decode cL_law 220 = .ok (.iadd, 1)) ∧ (decode cL_law 221 = .ok (.iaload, 1)) ∧ (decode cL_law 222 = .ok (.aload_n 0, 1)) ∧ (decode cL_law 223 = .ok (.iload_n 3, 1)) ∧ (decode cL_law 224 = .ok (.iconst 2, 1)) ∧ (decode cL_law 225 = .ok (.iadd, 1)) ∧ True := dc_cj [(0, .new 7, 3), (3, .dup, 1), (4, .invokespecial 9, 3), (7, .astore_n 1, 1), (8, .new 10, 3), (11, .dup, 1), (12, .invokespecial 12, 3), (15, .astore_n 2, 1), (16, .iconst 0, 1), (17, .istore_n 3, 1), (18, .iload_n 3, 1), (19, .aload_n 0, 1), (20, .arraylength, 1), (21, .bipush 6, 2), (23, .isub, 1), (24, .if_icmp .gt 1434, 3), (27, .aload_n 0, 1), (28, .iload_n 3, 1), (29, .iaload, 1), (30, .bipush 63, 2), (32, .iand, 1), (33, .tableswitch 1419 0 41 #[183, 226, 259, 292, 325, 368, 401, 444, 477, 510, 533, 556, 579, 602, 615, 638, 671, 694, 717, 740, 773, 816, 829, 852, 895, 918, 931, 964, 987, 1030, 1073, 1096, 1119, 1182, 1225, 1258, 1291, 1324, 1347, 1370, 1383, 1396], 183), (216, .aload_n 1, 1), (217, .aload_n 0, 1), (218, .iload_n 3, 1), (219, .iconst 1, 1), (220, .iadd, 1), (221, .iaload, 1), (222, .aload_n 0, 1), (223, .iload_n 3, 1), (224, .iconst 2, 1), (225, .iadd, 1)] (by decide +kernel)
theorem dL_law_0 : decode cL_law 0 = .ok (.new 7, 3) := edL_law_0.1
theorem dL_law_3 : decode cL_law 3 = .ok (.dup, 1) := edL_law_0.2.1
theorem dL_law_4 : decode cL_law 4 = .ok (.invokespecial 9, 3) := edL_law_0.2.2.1
theorem dL_law_7 : decode cL_law 7 = .ok (.astore_n 1, 1) := edL_law_0.2.2.2.1
theorem dL_law_8 : decode cL_law 8 = .ok (.new 10, 3) := edL_law_0.2.2.2.2.1
theorem dL_law_11 : decode cL_law 11 = .ok (.dup, 1) := edL_law_0.2.2.2.2.2.1
theorem dL_law_12 : decode cL_law 12 = .ok (.invokespecial 12, 3) := edL_law_0.2.2.2.2.2.2.1
theorem dL_law_15 : decode cL_law 15 = .ok (.astore_n 2, 1) := edL_law_0.2.2.2.2.2.2.2.1
theorem dL_law_16 : decode cL_law 16 = .ok (.iconst 0, 1) := edL_law_0.2.2.2.2.2.2.2.2.1
theorem dL_law_17 : decode cL_law 17 = .ok (.istore_n 3, 1) := edL_law_0.2.2.2.2.2.2.2.2.2.1
theorem dL_law_18 : decode cL_law 18 = .ok (.iload_n 3, 1) := edL_law_0.2.2.2.2.2.2.2.2.2.2.1
theorem dL_law_19 : decode cL_law 19 = .ok (.aload_n 0, 1) := edL_law_0.2.2.2.2.2.2.2.2.2.2.2.1
theorem dL_law_20 : decode cL_law 20 = .ok (.arraylength, 1) := edL_law_0.2.2.2.2.2.2.2.2.2.2.2.2.1
theorem dL_law_21 : decode cL_law 21 = .ok (.bipush 6, 2) := edL_law_0.2.2.2.2.2.2.2.2.2.2.2.2.2.1
theorem dL_law_23 : decode cL_law 23 = .ok (.isub, 1) := edL_law_0.2.2.2.2.2.2.2.2.2.2.2.2.2.2.1
theorem dL_law_24 : decode cL_law 24 = .ok (.if_icmp .gt 1434, 3) := edL_law_0.2.2.2.2.2.2.2.2.2.2.2.2.2.2.2.1
theorem dL_law_27 : decode cL_law 27 = .ok (.aload_n 0, 1) := edL_law_0.2.2.2.2.2.2.2.2.2.2.2.2.2.2.2.2.1
theorem dL_law_28 : decode cL_law 28 = .ok (.iload_n 3, 1) := edL_law_0.2.2.2.2.2.2.2.2.2.2.2.2.2.2.2.2.2.1
theorem dL_law_29 : decode cL_law 29 = .ok (.iaload, 1) := edL_law_0.2.2.2.2.2.2.2.2.2.2.2.2.2.2.2.2.2.2.1
theorem dL_law_30 : decode cL_law 30 = .ok (.bipush 63, 2) := edL_law_0.2.2.2.2.2.2.2.2.2.2.2.2.2.2.2.2.2.2.2.1
theorem dL_law_32 : decode cL_law 32 = .ok (.iand, 1) := edL_law_0.2.2.2.2.2.2.2.2.2.2.2.2.2.2.2.2.2.2.2.2.1
theorem dL_law_33 : decode cL_law 33 = .ok (.tableswitch 1419 0 41 #[183, 226, 259, 292, 325, 368, 401, 444, 477, 510, 533, 556, 579, 602, 615, 638, 671, 694, 717, 740, 773, 816, 829, 852, 895, 918, 931, 964, 987, 1030, 1073, 1096, 1119, 1182, 1225, 1258, 1291, 1324, 1347, 1370, 1383, 1396], 183) := edL_law_0.2.2.2.2.2.2.2.2.2.2.2.2.2.2.2.2.2.2.2.2.2.1
theorem dL_law_216 : decode cL_law 216 = .ok (.aload_n 1, 1) := edL_law_0.2.2.2.2.2.2.2.2.2.2.2.2.2.2.2.2.2.2.2.2.2.2.1
theorem dL_law_217 : decode cL_law 217 = .ok (.aload_n 0, 1) := edL_law_0.2.2.2.2.2.2.2.2.2.2.2.2.2.2.2.2.2.2.2.2.2.2.2.1
theorem dL_law_218 : decode cL_law 218 = .ok (.iload_n 3, 1) := edL_law_0.2.2.2.2.2.2.2.2.2.2.2.2.2.2.2.2.2.2.2.2.2.2.2.2.1
theorem dL_law_219 : decode cL_law 219 = .ok (.iconst 1, 1) := edL_law_0.2.2.2.2.2.2.2.2.2.2.2.2.2.2.2.2.2.2.2.2.2.2.2.2.2.1
theorem dL_law_220 : decode cL_law 220 = .ok (.iadd, 1) := edL_law_0.2.2.2.2.2.2.2.2.2.2.2.2.2.2.2.2.2.2.2.2.2.2.2.2.2.2.1
theorem dL_law_221 : decode cL_law 221 = .ok (.iaload, 1) := edL_law_0.2.2.2.2.2.2.2.2.2.2.2.2.2.2.2.2.2.2.2.2.2.2.2.2.2.2.2.1
theorem dL_law_222 : decode cL_law 222 = .ok (.aload_n 0, 1) := edL_law_0.2.2.2.2.2.2.2.2.2.2.2.2.2.2.2.2.2.2.2.2.2.2.2.2.2.2.2.2.1
theorem dL_law_223 : decode cL_law 223 = .ok (.iload_n 3, 1) := edL_law_0.2.2.2.2.2.2.2.2.2.2.2.2.2.2.2.2.2.2.2.2.2.2.2.2.2.2.2.2.2.1
theorem dL_law_224 : decode cL_law 224 = .ok (.iconst 2, 1) := edL_law_0.2.2.2.2.2.2.2.2.2.2.2.2.2.2.2.2.2.2.2.2.2.2.2.2.2.2.2.2.2.2.1
theorem dL_law_225 : decode cL_law 225 = .ok (.iadd, 1) := edL_law_0.2.2.2.2.2.2.2.2.2.2.2.2.2.2.2.2.2.2.2.2.2.2.2.2.2.2.2.2.2.2.2.1
theorem edL_law_226 : (decode cL_law 226 = .ok (.iaload, 1)) ∧ (decode cL_law 227 = .ok (.aload_n 0, 1)) ∧ (decode cL_law 228 = .ok (.iload_n 3, 1)) ∧ (decode cL_law 229 = .ok (.iconst 3, 1)) ∧ (decode cL_law 230 = .ok (.iadd, 1)) ∧ (decode cL_law 231 = .ok (.iaload, 1)) ∧ (decode cL_law 232 = .ok (.invokevirtual 13, 3)) ∧ (decode cL_law 235 = .ok (.pop, 1)) ∧ (decode cL_law 236 = .ok (.aload_n 2, 1)) ∧ (decode cL_law 237 = .ok (.aload_n 0, 1)) ∧ (decode cL_law 238 = .ok (.iload_n 3, 1)) ∧ (decode cL_law 239 = .ok (.iconst 1, 1)) ∧ (decode cL_law 240 = .ok (.iadd, 1)) ∧ (decode cL_law 241 = .ok (.iaload, 1)) ∧ (decode cL_law 242 = .ok (.aload_n 0, 1)) ∧ (decode cL_law 243 = .ok (.iload_n 3, 1)) ∧ (decode cL_law 244 = .ok (.iconst 2, 1)) ∧ (decode cL_law 245 = .ok (.iadd, 1)) ∧ (decode cL_law 246 = .ok (.iaload, 1)) ∧ (decode cL_law 247 = .ok (.aload_n 0, 1)) ∧ (decode cL_law 248 = .ok (.iload_n 3, 1)) ∧ (decode cL_law 249 = .ok (.iconst 3, 1)) ∧ (decode cL_law 250 = .ok (.iadd, 1)) ∧ (decode cL_law 251 = .ok (.iaload, 1)) ∧ (decode cL_law 252 = .ok (.invokevirtual 17, 3)) ∧ (decode cL_law 255 = .ok (.pop, 1)) ∧ (decode cL_law 256 = .ok (.goto 1196, 3)) ∧ (decode cL_law 259 = .ok (.aload_n 1, 1)) ∧ (decode cL_law 260 = .ok (.aload_n 0, 1)) ∧ (decode cL_law 261 = .ok (.iload_n 3, 1)) ∧ (decode cL_law 262 = .ok (.iconst 1, 1)) ∧ (decode cL_law 263 = .ok (.iadd, 1)) ∧ True := dc_cj [(226, .iaload, 1), (227, .aload_n 0, 1), (228, .iload_n 3, 1), (229, .iconst 3, 1), (230, .iadd, 1), (231, .iaload, 1), (232, .invokevirtual 13, 3), (235, .pop, 1), (236, .aload_n 2, 1), (237, .aload_n 0, 1), (238, .iload_n 3, 1), (239, .iconst 1, 1), (240, .iadd, 1), (241, .iaload, 1), (242, .aload_n 0, 1), (243, .iload_n 3, 1), (244, .iconst 2, 1), (245, .iadd, 1), (246, .iaload, 1), (247, .aload_n 0, 1), (248, .iload_n 3, 1), (249, .iconst 3, 1), (250, .iadd, 1), (251, .iaload, 1), (252, .invokevirtual 17, 3), (255, .pop, 1), (256, .goto 1196, 3), (259, .aload_n 1, 1), (260, .aload_n 0, 1), (261, .iload_n 3, 1), (262, .iconst 1, 1), (263, .iadd, 1)] (by decide +kernel)
theorem dL_law_226 : decode cL_law 226 = .ok (.iaload, 1) := edL_law_226.1
theorem dL_law_227 : decode cL_law 227 = .ok (.aload_n 0, 1) := edL_law_226.2.1
theorem dL_law_228 : decode cL_law 228 = .ok (.iload_n 3, 1) := edL_law_226.2.2.1
theorem dL_law_229 : decode cL_law 229 = .ok (.iconst 3, 1) := edL_law_226.2.2.2.1
theorem dL_law_230 : decode cL_law 230 = .ok (.iadd, 1) := edL_law_226.2.2.2.2.1
theorem dL_law_231 : decode cL_law 231 = .ok (.iaload, 1) := edL_law_226.2.2.2.2.2.1
theorem dL_law_232 : decode cL_law 232 = .ok (.invokevirtual 13, 3) := edL_law_226.2.2.2.2.2.2.1
theorem dL_law_235 : decode cL_law 235 = .ok (.pop, 1) := edL_law_226.2.2.2.2.2.2.2.1
theorem dL_law_236 : decode cL_law 236 = .ok (.aload_n 2, 1) := edL_law_226.2.2.2.2.2.2.2.2.1
theorem dL_law_237 : decode cL_law 237 = .ok (.aload_n 0, 1) := edL_law_226.2.2.2.2.2.2.2.2.2.1
theorem dL_law_238 : decode cL_law 238 = .ok (.iload_n 3, 1) := edL_law_226.2.2.2.2.2.2.2.2.2.2.1
theorem dL_law_239 : decode cL_law 239 = .ok (.iconst 1, 1) := edL_law_226.2.2.2.2.2.2.2.2.2.2.2.1
theorem dL_law_240 : decode cL_law 240 = .ok (.iadd, 1) := edL_law_226.2.2.2.2.2.2.2.2.2.2.2.2.1
theorem dL_law_241 : decode cL_law 241 = .ok (.iaload, 1) := edL_law_226.2.2.2.2.2.2.2.2.2.2.2.2.2.1
theorem dL_law_242 : decode cL_law 242 = .ok (.aload_n 0, 1) := edL_law_226.2.2.2.2.2.2.2.2.2.2.2.2.2.2.1
theorem dL_law_243 : decode cL_law 243 = .ok (.iload_n 3, 1) := edL_law_226.2.2.2.2.2.2.2.2.2.2.2.2.2.2.2.1
theorem dL_law_244 : decode cL_law 244 = .ok (.iconst 2, 1) := edL_law_226.2.2.2.2.2.2.2.2.2.2.2.2.2.2.2.2.1
theorem dL_law_245 : decode cL_law 245 = .ok (.iadd, 1) := edL_law_226.2.2.2.2.2.2.2.2.2.2.2.2.2.2.2.2.2.1
theorem dL_law_246 : decode cL_law 246 = .ok (.iaload, 1) := edL_law_226.2.2.2.2.2.2.2.2.2.2.2.2.2.2.2.2.2.2.1
theorem dL_law_247 : decode cL_law 247 = .ok (.aload_n 0, 1) := edL_law_226.2.2.2.2.2.2.2.2.2.2.2.2.2.2.2.2.2.2.2.1
theorem dL_law_248 : decode cL_law 248 = .ok (.iload_n 3, 1) := edL_law_226.2.2.2.2.2.2.2.2.2.2.2.2.2.2.2.2.2.2.2.2.1
theorem dL_law_249 : decode cL_law 249 = .ok (.iconst 3, 1) := edL_law_226.2.2.2.2.2.2.2.2.2.2.2.2.2.2.2.2.2.2.2.2.2.1
theorem dL_law_250 : decode cL_law 250 = .ok (.iadd, 1) := edL_law_226.2.2.2.2.2.2.2.2.2.2.2.2.2.2.2.2.2.2.2.2.2.2.1
theorem dL_law_251 : decode cL_law 251 = .ok (.iaload, 1) := edL_law_226.2.2.2.2.2.2.2.2.2.2.2.2.2.2.2.2.2.2.2.2.2.2.2.1
theorem dL_law_252 : decode cL_law 252 = .ok (.invokevirtual 17, 3) := edL_law_226.2.2.2.2.2.2.2.2.2.2.2.2.2.2.2.2.2.2.2.2.2.2.2.2.1
theorem dL_law_255 : decode cL_law 255 = .ok (.pop, 1) := edL_law_226.2.2.2.2.2.2.2.2.2.2.2.2.2.2.2.2.2.2.2.2.2.2.2.2.2.1
theorem dL_law_256 : decode cL_law 256 = .ok (.goto 1196, 3) := edL_law_226.2.2.2.2.2.2.2.2.2.2.2.2.2.2.2.2.2.2.2.2.2.2.2.2.2.2.1
theorem dL_law_259 : decode cL_law 259 = .ok (.aload_n 1, 1) := edL_law_226.2.2.2.2.2.2.2.2.2.2.2.2.2.2.2.2.2.2.2.2.2.2.2.2.2.2.2.1
theorem dL_law_260 : decode cL_law 260 = .ok (.aload_n 0, 1) := edL_law_226.2.2.2.2.2.2.2.2.2.2.2.2.2.2.2.2.2.2.2.2.2.2.2.2.2.2.2.2.1
theorem dL_law_261 : decode cL_law 261 = .ok (.iload_n 3, 1) := edL_law_226.2.2.2.2.2.2.2.2.2.2.2.2.2.2.2.2.2.2.2.2.2.2.2.2.2.2.2.2.2.1
theorem dL_law_262 : decode cL_law 262 = .ok (.iconst 1, 1) := edL_law_226.2.2.2.2.2.2.2.2.2.2.2.2.2.2.2.2.2.2.2.2.2.2.2.2.2.2.2.2.2.2.1
theorem dL_law_263 : decode cL_law 263 = .ok (.iadd, 1) := edL_law_226.2.2.2.2.2.2.2.2.2.2.2.2.2.2.2.2.2.2.2.2.2.2.2.2.2.2.2.2.2.2.2.1
theorem edL_law_264 : (decode cL_law 264 = .ok (.iaload, 1)) ∧ (decode cL_law 265 = .ok (.aload_n 0, 1)) ∧ (decode cL_law 266 = .ok (.iload_n 3, 1)) ∧ (decode cL_law 267 = .ok (.iconst 2, 1)) ∧ (decode cL_law 268 = .ok (.iadd, 1)) ∧ (decode cL_law 269 = .ok (.iaload, 1)) ∧ (decode cL_law 270 = .ok (.invokevirtual 18, 3)) ∧ (decode cL_law 273 = .ok (.aload_n 2, 1)) ∧ (decode cL_law 274 = .ok (.aload_n 0, 1)) ∧ (decode cL_law 275 = .ok (.iload_n 3, 1)) ∧ (decode cL_law 276 = .ok (.iconst 1, 1)) ∧ (decode cL_law 277 = .ok (.iadd, 1)) ∧ (decode cL_law 278 = .ok (.iaload, 1)) ∧ (decode cL_law 279 = .ok (.aload_n 0, 1)) ∧ (decode cL_law 280 = .ok (.iload_n 3, 1)) ∧ (decode cL_law 281 = .ok (.iconst 2, 1)) ∧ (decode cL_law 282 = .ok (.iadd, 1)) ∧ (decode cL_law 283 = .ok (.iaload, 1)) ∧ (decode cL_law 284 = .ok (.invokevirtual 22, 3)) ∧ (decode cL_law 287 = .ok (.if_icmp .eq 1165, 3)) ∧ (decode cL_law 290 = .ok (.iconst 0, 1)) ∧ (decode cL_law 291 = .ok (.ireturn, 1)) ∧ (decode cL_law 292 = .ok (.aload_n 1, 1)) ∧ (decode cL_law 293 = .ok (.aload_n 0, 1)) ∧ (decode cL_law 294 = .ok (.iload_n 3, 1)) ∧ (decode cL_law 295 = .ok (.iconst 1, 1)) ∧ (decode cL_law 296 = .ok (.iadd, 1)) ∧ (decode cL_law 297 = .ok (.iaload, 1)) ∧ (decode cL_law 298 = .ok (.aload_n 0, 1)) ∧ (decode cL_law 299 = .ok (.iload_n 3, 1)) ∧ (decode cL_law 300 = .ok (.iconst 2, 1)) ∧ (decode cL_law 301 = .ok (.iadd, 1)) ∧ True := dc_cj [(264, .iaload, 1), (265, .aload_n 0, 1), (266, .iload_n 3, 1), (267, .iconst 2, 1), (268, .iadd, 1), (269, .iaload, 1), (270, .invokevirtual 18, 3), (273, .aload_n 2, 1), (274, .aload_n 0, 1), (275, .iload_n 3, 1), (276, .iconst 1, 1), (277, .iadd, 1), (278, .iaload, 1), (279, .aload_n 0, 1), (280, .iload_n 3, 1), (281, .iconst 2, 1), (282, .iadd, 1), (283, .iaload, 1), (284, .invokevirtual 22, 3), (287, .if_icmp .eq 1165, 3), (290, .iconst 0, 1), (291, .ireturn, 1), (292, .aload_n 1, 1), (293, .aload_n 0, 1), (294, .iload_n 3, 1), (295, .iconst 1, 1), (296, .iadd, 1), (297, .iaload, 1), (298, .aload_n 0, 1), (299, .iload_n 3, 1), (300, .iconst 2, 1), (301, .iadd, 1)] (by decide +kernel)
theorem dL_law_264 : decode cL_law 264 = .ok (.iaload, 1) := edL_law_264.1
theorem dL_law_265 : decode cL_law 265 = .ok (.aload_n 0, 1) := edL_law_264.2.1
theorem dL_law_266 : decode cL_law 266 = .ok (.iload_n 3, 1) := edL_law_264.2.2.1
theorem dL_law_267 : decode cL_law 267 = .ok (.iconst 2, 1) := edL_law_264.2.2.2.1
theorem dL_law_268 : decode cL_law 268 = .ok (.iadd, 1) := edL_law_264.2.2.2.2.1
theorem dL_law_269 : decode cL_law 269 = .ok (.iaload, 1) := edL_law_264.2.2.2.2.2.1
theorem dL_law_270 : decode cL_law 270 = .ok (.invokevirtual 18, 3) := edL_law_264.2.2.2.2.2.2.1
theorem dL_law_273 : decode cL_law 273 = .ok (.aload_n 2, 1) := edL_law_264.2.2.2.2.2.2.2.1
theorem dL_law_274 : decode cL_law 274 = .ok (.aload_n 0, 1) := edL_law_264.2.2.2.2.2.2.2.2.1
theorem dL_law_275 : decode cL_law 275 = .ok (.iload_n 3, 1) := edL_law_264.2.2.2.2.2.2.2.2.2.1
theorem dL_law_276 : decode cL_law 276 = .ok (.iconst 1, 1) := edL_law_264.2.2.2.2.2.2.2.2.2.2.1
theorem dL_law_277 : decode cL_law 277 = .ok (.iadd, 1) := edL_law_264.2.2.2.2.2.2.2.2.2.2.2.1
theorem dL_law_278 : decode cL_law 278 = .ok (.iaload, 1) := edL_law_264.2.2.2.2.2.2.2.2.2.2.2.2.1
theorem dL_law_279 : decode cL_law 279 = .ok (.aload_n 0, 1) := edL_law_264.2.2.2.2.2.2.2.2.2.2.2.2.2.1
theorem dL_law_280 : decode cL_law 280 = .ok (.iload_n 3, 1) := edL_law_264.2.2.2.2.2.2.2.2.2.2.2.2.2.2.1
theorem dL_law_281 : decode cL_law 281 = .ok (.iconst 2, 1) := edL_law_264.2.2.2.2.2.2.2.2.2.2.2.2.2.2.2.1
theorem dL_law_282 : decode cL_law 282 = .ok (.iadd, 1) := edL_law_264.2.2.2.2.2.2.2.2.2.2.2.2.2.2.2.2.1
theorem dL_law_283 : decode cL_law 283 = .ok (.iaload, 1) := edL_law_264.2.2.2.2.2.2.2.2.2.2.2.2.2.2.2.2.2.1
theorem dL_law_284 : decode cL_law 284 = .ok (.invokevirtual 22, 3) := edL_law_264.2.2.2.2.2.2.2.2.2.2.2.2.2.2.2.2.2.2.1
theorem dL_law_287 : decode cL_law 287 = .ok (.if_icmp .eq 1165, 3) := edL_law_264.2.2.2.2.2.2.2.2.2.2.2.2.2.2.2.2.2.2.2.1
theorem dL_law_290 : decode cL_law 290 = .ok (.iconst 0, 1) := edL_law_264.2.2.2.2.2.2.2.2.2.2.2.2.2.2.2.2.2.2.2.2.1
theorem dL_law_291 : decode cL_law 291 = .ok (.ireturn, 1) := edL_law_264.2.2.2.2.2.2.2.2.2.2.2.2.2.2.2.2.2.2.2.2.2.1
theorem dL_law_292 : decode cL_law 292 = .ok (.aload_n 1, 1) := edL_law_264.2.2.2.2.2.2.2.2.2.2.2.2.2.2.2.2.2.2.2.2.2.2.1
theorem dL_law_293 : decode cL_law 293 = .ok (.aload_n 0, 1) := edL_law_264.2.2.2.2.2.2.2.2.2.2.2.2.2.2.2.2.2.2.2.2.2.2.2.1
theorem dL_law_294 : decode cL_law 294 = .ok (.iload_n 3, 1) := edL_law_264.2.2.2.2.2.2.2.2.2.2.2.2.2.2.2.2.2.2.2.2.2.2.2.2.1
theorem dL_law_295 : decode cL_law 295 = .ok (.iconst 1, 1) := edL_law_264.2.2.2.2.2.2.2.2.2.2.2.2.2.2.2.2.2.2.2.2.2.2.2.2.2.1
theorem dL_law_296 : decode cL_law 296 = .ok (.iadd, 1) := edL_law_264.2.2.2.2.2.2.2.2.2.2.2.2.2.2.2.2.2.2.2.2.2.2.2.2.2.2.1
theorem dL_law_297 : decode cL_law 297 = .ok (.iaload, 1) := edL_law_264.2.2.2.2.2.2.2.2.2.2.2.2.2.2.2.2.2.2.2.2.2.2.2.2.2.2.2.1
theorem dL_law_298 : decode cL_law 298 = .ok (.aload_n 0, 1) := edL_law_264.2.2.2.2.2.2.2.2.2.2.2.2.2.2.2.2.2.2.2.2.2.2.2.2.2.2.2.2.1
theorem dL_law_299 : decode cL_law 299 = .ok (.iload_n 3, 1) := edL_law_264.2.2.2.2.2.2.2.2.2.2.2.2.2.2.2.2.2.2.2.2.2.2.2.2.2.2.2.2.2.1
theorem dL_law_300 : decode cL_law 300 = .ok (.iconst 2, 1) := edL_law_264.2.2.2.2.2.2.2.2.2.2.2.2.2.2.2.2.2.2.2.2.2.2.2.2.2.2.2.2.2.2.1
theorem dL_law_301 : decode cL_law 301 = .ok (.iadd, 1) := edL_law_264.2.2.2.2.2.2.2.2.2.2.2.2.2.2.2.2.2.2.2.2.2.2.2.2.2.2.2.2.2.2.2.1
theorem edL_law_302 : (decode cL_law 302 = .ok (.iaload, 1)) ∧ (decode cL_law 303 = .ok (.invokevirtual 23, 3)) ∧ (decode cL_law 306 = .ok (.pop, 1)) ∧ (decode cL_law 307 = .ok (.aload_n 2, 1)) ∧ (decode cL_law 308 = .ok (.aload_n 0, 1)) ∧ (decode cL_law 309 = .ok (.iload_n 3, 1)) ∧ (decode cL_law 310 = .ok (.iconst 1, 1)) ∧ (decode cL_law 311 = .ok (.iadd, 1)) ∧ (decode cL_law 312 = .ok (.iaload, 1)) ∧ (decode cL_law 313 = .ok (.aload_n 0, 1)) ∧ (decode cL_law 314 = .ok (.iload_n 3, 1)) ∧ (decode cL_law 315 = .ok (.iconst 2, 1)) ∧ (decode cL_law 316 = .ok (.iadd, 1)) ∧ (decode cL_law 317 = .ok (.iaload, 1)) ∧ (decode cL_law 318 = .ok (.invokevirtual 26, 3)) ∧ (decode cL_law 321 = .ok (.pop, 1)) ∧ (decode cL_law 322 = .ok (.goto 1130, 3)) ∧ (decode cL_law 325 = .ok (.aload_n 1, 1)) ∧ (decode cL_law 326 = .ok (.aload_n 0, 1)) ∧ (decode cL_law 327 = .ok (.iload_n 3, 1)) ∧ (decode cL_law 328 = .ok (.iconst 1, 1)) ∧ (decode cL_law 329 = .ok (.iadd, 1)) ∧ (decode cL_law 330 = .ok (.iaload, 1)) ∧ (decode cL_law 331 = .ok (.aload_n 0, 1)) ∧ (decode cL_law 332 = .ok (.iload_n 3, 1)) ∧ (decode cL_law 333 = .ok (.iconst 2, 1)) ∧ (decode cL_law 334 = .ok (.iadd, 1)) ∧ (decode cL_law 335 = .ok (.iaload, 1)) ∧ (decode cL_law 336 = .ok (.invokevirtual 27, 3)) ∧ (decode cL_law 339 = .ok (.pop, 1)) ∧ (decode cL_law 340 = .ok (.aload_n 2, 1)) ∧ (decode cL_law 341 = .ok (.aload_n 0, 1)) ∧ True := dc_cj [(302, .iaload, 1), (303, .invokevirtual 23, 3), (306, .pop, 1), (307, .aload_n 2, 1), (308, .aload_n 0, 1), (309, .iload_n 3, 1), (310, .iconst 1, 1), (311, .iadd, 1), (312, .iaload, 1), (313, .aload_n 0, 1), (314, .iload_n 3, 1), (315, .iconst 2, 1), (316, .iadd, 1), (317, .iaload, 1), (318, .invokevirtual 26, 3), (321, .pop, 1), (322, .goto 1130, 3), (325, .aload_n 1, 1), (326, .aload_n 0, 1), (327, .iload_n 3, 1), (328, .iconst 1, 1), (329, .iadd, 1), (330, .iaload, 1), (331, .aload_n 0, 1), (332, .iload_n 3, 1), (333, .iconst 2, 1), (334, .iadd, 1), (335, .iaload, 1), (336, .invokevirtual 27, 3), (339, .pop, 1), (340, .aload_n 2, 1), (341, .aload_n 0, 1)] (by decide +kernel)
theorem dL_law_302 : decode cL_law 302 = .ok (.iaload, 1) := edL_law_302.1
theorem dL_law_303 : decode cL_law 303 = .ok (.invokevirtual 23, 3) := edL_law_302.2.1
theorem dL_law_306 : decode cL_law 306 = .ok (.pop, 1) := edL_law_302.2.2.1
theorem dL_law_307 : decode cL_law 307 = .ok (.aload_n 2, 1) := edL_law_302.2.2.2.1
theorem dL_law_308 : decode cL_law 308 = .ok (.aload_n 0, 1) := edL_law_302.2.2.2.2.1
theorem dL_law_309 : decode cL_law 309 = .ok (.iload_n 3, 1) := edL_law_302.2.2.2.2.2.1
theorem dL_law_310 : decode cL_law 310 = .ok (.iconst 1, 1) := edL_law_302.2.2.2.2.2.2.1
theorem dL_law_311 : decode cL_law 311 = .ok (.iadd, 1) := edL_law_302.2.2.2.2.2.2.2.1
theorem dL_law_312 : decode cL_law 312 = .ok (.iaload, 1) := edL_law_302.2.2.2.2.2.2.2.2.1
theorem dL_law_313 : decode cL_law 313 = .ok (.aload_n 0, 1) := edL_law_302.2.2.2.2.2.2.2.2.2.1
theorem dL_law_314 : decode cL_law 314 = .ok (.iload_n 3, 1) := edL_law_302.2.2.2.2.2.2.2.2.2.2.1
theorem dL_law_315 : decode cL_law 315 = .ok (.iconst 2, 1) := edL_law_302.2.2.2.2.2.2.2.2.2.2.2.1
theorem dL_law_316 : decode cL_law 316 = .ok (.iadd, 1) := edL_law_302.2.2.2.2.2.2.2.2.2.2.2.2.1
theorem dL_law_317 : decode cL_law 317 = .ok (.iaload, 1) := edL_law_302.2.2.2.2.2.2.2.2.2.2.2.2.2.1
theorem dL_law_318 : decode cL_law 318 = .ok (.invokevirtual 26, 3) := edL_law_302.2.2.2.2.2.2.2.2.2.2.2.2.2.2.1
theorem dL_law_321 : decode cL_law 321 = .ok (.pop, 1) := edL_law_302.2.2.2.2.2.2.2.2.2.2.2.2.2.2.2.1
theorem dL_law_322 : decode cL_law 322 = .ok (.goto 1130, 3) := edL_law_302.2.2.2.2.2.2.2.2.2.2.2.2.2.2.2.2.1
theorem dL_law_325 : decode cL_law 325 = .ok (.aload_n 1, 1) := edL_law_302.2.2.2.2.2.2.2.2.2.2.2.2.2.2.2.2.2.1
theorem dL_law_326 : decode cL_law 326 = .ok (.aload_n 0, 1) := edL_law_302.2.2.2.2.2.2.2.2.2.2.2.2.2.2.2.2.2.2.1
theorem dL_law_327 : decode cL_law 327 = .ok (.iload_n 3, 1) := edL_law_302.2.2.2.2.2.2.2.2.2.2.2.2.2.2.2.2.2.2.2.1
theorem dL_law_328 : decode cL_law 328 = .ok (.iconst 1, 1) := edL_law_302.2.2.2.2.2.2.2.2.2.2.2.2.2.2.2.2.2.2.2.2.1
theorem dL_law_329 : decode cL_law 329 = .ok (.iadd, 1) := edL_law_302.2.2.2.2.2.2.2.2.2.2.2.2.2.2.2.2.2.2.2.2.2.1
theorem dL_law_330 : decode cL_law 330 = .ok (.iaload, 1) := edL_law_302.2.2.2.2.2.2.2.2.2.2.2.2.2.2.2.2.2.2.2.2.2.2.1
theorem dL_law_331 : decode cL_law 331 = .ok (.aload_n 0, 1) := edL_law_302.2.2.2.2.2.2.2.2.2.2.2.2.2.2.2.2.2.2.2.2.2.2.2.1
theorem dL_law_332 : decode cL_law 332 = .ok (.iload_n 3, 1) := edL_law_302.2.2.2.2.2.2.2.2.2.2.2.2.2.2.2.2.2.2.2.2.2.2.2.2.1
theorem dL_law_333 : decode cL_law 333 = .ok (.iconst 2, 1) := edL_law_302.2.2.2.2.2.2.2.2.2.2.2.2.2.2.2.2.2.2.2.2.2.2.2.2.2.1
theorem dL_law_334 : decode cL_law 334 = .ok (.iadd, 1) := edL_law_302.2.2.2.2.2.2.2.2.2.2.2.2.2.2.2.2.2.2.2.2.2.2.2.2.2.2.1
theorem dL_law_335 : decode cL_law 335 = .ok (.iaload, 1) := edL_law_302.2.2.2.2.2.2.2.2.2.2.2.2.2.2.2.2.2.2.2.2.2.2.2.2.2.2.2.1
theorem dL_law_336 : decode cL_law 336 = .ok (.invokevirtual 27, 3) := edL_law_302.2.2.2.2.2.2.2.2.2.2.2.2.2.2.2.2.2.2.2.2.2.2.2.2.2.2.2.2.1
theorem dL_law_339 : decode cL_law 339 = .ok (.pop, 1) := edL_law_302.2.2.2.2.2.2.2.2.2.2.2.2.2.2.2.2.2.2.2.2.2.2.2.2.2.2.2.2.2.1
theorem dL_law_340 : decode cL_law 340 = .ok (.aload_n 2, 1) := edL_law_302.2.2.2.2.2.2.2.2.2.2.2.2.2.2.2.2.2.2.2.2.2.2.2.2.2.2.2.2.2.2.1
theorem dL_law_341 : decode cL_law 341 = .ok (.aload_n 0, 1) := edL_law_302.2.2.2.2.2.2.2.2.2.2.2.2.2.2.2.2.2.2.2.2.2.2.2.2.2.2.2.2.2.2.2.1
theorem edL_law_342 : (decode cL_law 342 = .ok (.iload_n 3, 1)) ∧ (decode cL_law 343 = .ok (.iconst 1, 1)) ∧ (decode cL_law 344 = .ok (.iadd, 1)) ∧ (decode cL_law 345 = .ok (.iaload, 1)) ∧ (decode cL_law 346 = .ok (.aload_n 0, 1)) ∧ (decode cL_law 347 = .ok (.iload_n 3, 1)) ∧ (decode cL_law 348 = .ok (.iconst 2, 1)) ∧ (decode cL_law 349 = .ok (.iadd, 1)) ∧ (decode cL_law 350 = .ok (.iaload, 1)) ∧ (decode cL_law 351 = .ok (.invokevirtual 30, 3)) ∧ (decode cL_law 354 = .ok (.pop, 1)) ∧ (decode cL_law 355 = .ok (.goto 1097, 3)) ∧ (decode cL_law 358 = .ok (.aload_n 1, 1)) ∧ (decode cL_law 359 = .ok (.aload_n 0, 1)) ∧ (decode cL_law 360 = .ok (.iload_n 3, 1)) ∧ (decode cL_law 361 = .ok (.iconst 1, 1)) ∧ (decode cL_law 362 = .ok (.iadd, 1)) ∧ (decode cL_law 363 = .ok (.iaload, 1)) ∧ (decode cL_law 364 = .ok (.aload_n 0, 1)) ∧ (decode cL_law 365 = .ok (.iload_n 3, 1)) ∧ (decode cL_law 366 = .ok (.iconst 2, 1)) ∧ (decode cL_law 367 = .ok (.iadd, 1)) ∧ (decode cL_law 368 = .ok (.iaload, 1)) ∧ (decode cL_law 369 = .ok (.aload_n 0, 1)) ∧ (decode cL_law 370 = .ok (.iload_n 3, 1)) ∧ (decode cL_law 371 = .ok (.iconst 3, 1)) ∧ (decode cL_law 372 = .ok (.iadd, 1)) ∧ (decode cL_law 373 = .ok (.iaload, 1)) ∧ (decode cL_law 374 = .ok (.invokevirtual 31, 3)) ∧ (decode cL_law 377 = .ok (.pop, 1)) ∧ (decode cL_law 378 = .ok (.aload_n 2, 1)) ∧ (decode cL_law 379 = .ok (.aload_n 0, 1)) ∧ True := dc_cj [(342, .iload_n 3, 1), (343, .iconst 1, 1), (344, .iadd, 1), (345, .iaload, 1), (346, .aload_n 0, 1), (347, .iload_n 3, 1), (348, .iconst 2, 1), (349, .iadd, 1), (350, .iaload, 1), (351, .invokevirtual 30, 3), (354, .pop, 1), (355, .goto 1097, 3), (358, .aload_n 1, 1), (359, .aload_n 0, 1), (360, .iload_n 3, 1), (361, .iconst 1, 1), (362, .iadd, 1), (363, .iaload, 1), (364, .aload_n 0, 1), (365, .iload_n 3, 1), (366, .iconst 2, 1), (367, .iadd, 1), (368, .iaload, 1), (369, .aload_n 0, 1), (370, .iload_n 3, 1), (371, .iconst 3, 1), (372, .iadd, 1), (373, .iaload, 1), (374, .invokevirtual 31, 3), (377, .pop, 1), (378, .aload_n 2, 1), (379, .aload_n 0, 1)] (by decide +kernel)
theorem dL_law_342 : decode cL_law 342 = .ok (.iload_n 3, 1) := edL_law_342.1
theorem dL_law_343 : decode cL_law 343 = .ok (.iconst 1, 1) := edL_law_342.2.1
theorem dL_law_344 : decode cL_law 344 = .ok (.iadd, 1) := edL_law_342.2.2.1
theorem dL_law_345 : decode cL_law 345 = .ok (.iaload, 1) := edL_law_342.2.2.2.1
theorem dL_law_346 : decode cL_law 346 = .ok (.aload_n 0, 1) := edL_law_342.2.2.2.2.1
theorem dL_law_347 : decode cL_law 347 = .ok (.iload_n 3, 1) := edL_law_342.2.2.2.2.2.1
theorem dL_law_348 : decode cL_law 348 = .ok (.iconst 2, 1) := edL_law_342.2.2.2.2.2.2.1
theorem dL_law_349 : decode cL_law 349 = .ok (.iadd, 1) := edL_law_342.2.2.2.2.2.2.2.1
theorem dL_law_350 : decode cL_law 350 = .ok (.iaload, 1) := edL_law_342.2.2.2.2.2.2.2.2.1
theorem dL_law_351 : decode cL_law 351 = .ok (.invokevirtual 30, 3) := edL_law_342.2.2.2.2.2.2.2.2.2.1
theorem dL_law_354 : decode cL_law 354 = .ok (.pop, 1) := edL_law_342.2.2.2.2.2.2.2.2.2.2.1
theorem dL_law_355 : decode cL_law 355 = .ok (.goto 1097, 3) := edL_law_342.2.2.2.2.2.2.2.2.2.2.2.1
theorem dL_law_358 : decode cL_law 358 = .ok (.aload_n 1, 1) := edL_law_342.2.2.2.2.2.2.2.2.2.2.2.2.1
theorem dL_law_359 : decode cL_law 359 = .ok (.aload_n 0, 1) := edL_law_342.2.2.2.2.2.2.2.2.2.2.2.2.2.1
theorem dL_law_360 : decode cL_law 360 = .ok (.iload_n 3, 1) := edL_law_342.2.2.2.2.2.2.2.2.2.2.2.2.2.2.1
theorem dL_law_361 : decode cL_law 361 = .ok (.iconst 1, 1) := edL_law_342.2.2.2.2.2.2.2.2.2.2.2.2.2.2.2.1
theorem dL_law_362 : decode cL_law 362 = .ok (.iadd, 1) := edL_law_342.2.2.2.2.2.2.2.2.2.2.2.2.2.2.2.2.1
theorem dL_law_363 : decode cL_law 363 = .ok (.iaload, 1) := edL_law_342.2.2.2.2.2.2.2.2.2.2.2.2.2.2.2.2.2.1
theorem dL_law_364 : decode cL_law 364 = .ok (.aload_n 0, 1) := edL_law_342.2.2.2.2.2.2.2.2.2.2.2.2.2.2.2.2.2.2.1
theorem dL_law_365 : decode cL_law 365 = .ok (.iload_n 3, 1) := edL_law_342.2.2.2.2.2.2.2.2.2.2.2.2.2.2.2.2.2.2.2.1
theorem dL_law_366 : decode cL_law 366 = .ok (.iconst 2, 1) := edL_law_342.2.2.2.2.2.2.2.2.2.2.2.2.2.2.2.2.2.2.2.2.1
theorem dL_law_367 : decode cL_law 367 = .ok (.iadd, 1) := edL_law_342.2.2.2.2.2.2.2.2.2.2.2.2.2.2.2.2.2.2.2.2.2.1
theorem dL_law_368 : decode cL_law 368 = .ok (.iaload, 1) := edL_law_342.2.2.2.2.2.2.2.2.2.2.2.2.2.2.2.2.2.2.2.2.2.2.1
theorem dL_law_369 : decode cL_law 369 = .ok (.aload_n 0, 1) := edL_law_342.2.2.2.2.2.2.2.2.2.2.2.2.2.2.2.2.2.2.2.2.2.2.2.1
theorem dL_law_370 : decode cL_law 370 = .ok (.iload_n 3, 1) := edL_law_342.2.2.2.2.2.2.2.2.2.2.2.2.2.2.2.2.2.2.2.2.2.2.2.2.1
theorem dL_law_371 : decode cL_law 371 = .ok (.iconst 3, 1) := edL_law_342.2.2.2.2.2.2.2.2.2.2.2.2.2.2.2.2.2.2.2.2.2.2.2.2.2.1
theorem dL_law_372 : decode cL_law 372 = .ok (.iadd, 1) := edL_law_342.2.2.2.2.2.2.2.2.2.2.2.2.2.2.2.2.2.2.2.2.2.2.2.2.2.2.1
theorem dL_law_373 : decode cL_law 373 = .ok (.iaload, 1) := edL_law_342.2.2.2.2.2.2.2.2.2.2.2.2.2.2.2.2.2.2.2.2.2.2.2.2.2.2.2.1
theorem dL_law_374 : decode cL_law 374 = .ok (.invokevirtual 31, 3) := edL_law_342.2.2.2.2.2.2.2.2.2.2.2.2.2.2.2.2.2.2.2.2.2.2.2.2.2.2.2.2.1
theorem dL_law_377 : decode cL_law 377 = .ok (.pop, 1) := edL_law_342.2.2.2.2.2.2.2.2.2.2.2.2.2.2.2.2.2.2.2.2.2.2.2.2.2.2.2.2.2.1
theorem dL_law_378 : decode cL_law 378 = .ok (.aload_n 2, 1) := edL_law_342.2.2.2.2.2.2.2.2.2.2.2.2.2.2.2.2.2.2.2.2.2.2.2.2.2.2.2.2.2.2.1
theorem dL_law_379 : decode cL_law 379 = .ok (.aload_n 0, 1) := edL_law_342.2.2.2.2.2.2.2.2.2.2.2.2.2.2.2.2.2.2.2.2.2.2.2.2.2.2.2.2.2.2.2.1
theorem edL_law_380 : (decode cL_law 380 = .ok (.iload_n 3, 1)) ∧ (decode cL_law 381 = .ok (.iconst 1, 1)) ∧ (decode cL_law 382 = .ok (.iadd, 1)) ∧ (decode cL_law 383 = .ok (.iaload, 1)) ∧ (decode cL_law 384 = .ok (.aload_n 0, 1)) ∧ (decode cL_law 385 = .ok (.iload_n 3, 1)) ∧ (decode cL_law 386 = .ok (.iconst 2, 1)) ∧ (decode cL_law 387 = .ok (.iadd, 1)) ∧ (decode cL_law 388 = .ok (.iaload, 1)) ∧ (decode cL_law 389 = .ok (.aload_n 0, 1)) ∧ (decode cL_law 390 = .ok (.iload_n 3, 1)) ∧ (decode cL_law 391 = .ok (.iconst 3, 1)) ∧ (decode cL_law 392 = .ok (.iadd, 1)) ∧ (decode cL_law 393 = .ok (.iaload, 1)) ∧ (decode cL_law 394 = .ok (.invokevirtual 34, 3)) ∧ (decode cL_law 397 = .ok (.pop, 1)) ∧ (decode cL_law 398 = .ok (.goto 1054, 3)) ∧ (decode cL_law 401 = .ok (.aload_n 1, 1)) ∧ (decode cL_law 402 = .ok (.aload_n 0, 1)) ∧ (decode cL_law 403 = .ok (.iload_n 3, 1)) ∧ (decode cL_law 404 = .ok (.iconst 1, 1)) ∧ (decode cL_law 405 = .ok (.iadd, 1)) ∧ (decode cL_law 406 = .ok (.iaload, 1)) ∧ (decode cL_law 407 = .ok (.aload_n 0, 1)) ∧ (decode cL_law 408 = .ok (.iload_n 3, 1)) ∧ (decode cL_law 409 = .ok (.iconst 2, 1)) ∧ (decode cL_law 410 = .ok (.iadd, 1)) ∧ (decode cL_law 411 = .ok (.iaload, 1)) ∧ (decode cL_law 412 = .ok (.invokevirtual 35, 3)) ∧ (decode cL_law 415 = .ok (.pop, 1)) ∧ (decode cL_law 416 = .ok (.aload_n 2, 1)) ∧ (decode cL_law 417 = .ok (.aload_n 0, 1)) ∧ True := dc_cj [(380, .iload_n 3, 1), (381, .iconst 1, 1), (382, .iadd, 1), (383, .iaload, 1), (384, .aload_n 0, 1), (385, .iload_n 3, 1), (386, .iconst 2, 1), (387, .iadd, 1), (388, .iaload, 1), (389, .aload_n 0, 1), (390, .iload_n 3, 1), (391, .iconst 3, 1), (392, .iadd, 1), (393, .iaload, 1), (394, .invokevirtual 34, 3), (397, .pop, 1), (398, .goto 1054, 3), (401, .aload_n 1, 1), (402, .aload_n 0, 1), (403, .iload_n 3, 1), (404, .iconst 1, 1), (405, .iadd, 1), (406, .iaload, 1), (407, .aload_n 0, 1), (408, .iload_n 3, 1), (409, .iconst 2, 1), (410, .iadd, 1), (411, .iaload, 1), (412, .invokevirtual 35, 3), (415, .pop, 1), (416, .aload_n 2, 1), (417, .aload_n 0, 1)] (by decide +kernel)
theorem dL_law_380 : decode cL_law 380 = .ok (.iload_n 3, 1) := edL_law_380.1
theorem dL_law_381 : decode cL_law 381 = .ok (.iconst 1, 1) := edL_law_380.2.1
theorem dL_law_382 : decode cL_law 382 = .ok (.iadd, 1) := edL_law_380.2.2.1
theorem dL_law_383 : decode cL_law 383 = .ok (.iaload, 1) := edL_law_380.2.2.2.1
theorem dL_law_384 : decode cL_law 384 = .ok (.aload_n 0, 1) := edL_law_380.2.2.2.2.1
theorem dL_law_385 : decode cL_law 385 = .ok (.iload_n 3, 1) := edL_law_380.2.2.2.2.2.1
theorem dL_law_386 : decode cL_law 386 = .ok (.iconst 2, 1) := edL_law_380.2.2.2.2.2.2.1
theorem dL_law_387 : decode cL_law 387 = .ok (.iadd, 1) := edL_law_380.2.2.2.2.2.2.2.1
theorem dL_law_388 : decode cL_law 388 = .ok (.iaload, 1) := edL_law_380.2.2.2.2.2.2.2.2.1
theorem dL_law_389 : decode cL_law 389 = .ok (.aload_n 0, 1) := edL_law_380.2.2.2.2.2.2.2.2.2.1
theorem dL_law_390 : decode cL_law 390 = .ok (.iload_n 3, 1) := edL_law_380.2.2.2.2.2.2.2.2.2.2.1
theorem dL_law_391 : decode cL_law 391 = .ok (.iconst 3, 1) := edL_law_380.2.2.2.2.2.2.2.2.2.2.2.1
theorem dL_law_392 : decode cL_law 392 = .ok (.iadd, 1) := edL_law_380.2.2.2.2.2.2.2.2.2.2.2.2.1
theorem dL_law_393 : decode cL_law 393 = .ok (.iaload, 1) := edL_law_380.2.2.2.2.2.2.2.2.2.2.2.2.2.1
theorem dL_law_394 : decode cL_law 394 = .ok (.invokevirtual 34, 3) := edL_law_380.2.2.2.2.2.2.2.2.2.2.2.2.2.2.1
theorem dL_law_397 : decode cL_law 397 = .ok (.pop, 1) := edL_law_380.2.2.2.2.2.2.2.2.2.2.2.2.2.2.2.1
theorem dL_law_398 : decode cL_law 398 = .ok (.goto 1054, 3) := edL_law_380.2.2.2.2.2.2.2.2.2.2.2.2.2.2.2.2.1
theorem dL_law_401 : decode cL_law 401 = .ok (.aload_n 1, 1) := edL_law_380.2.2.2.2.2.2.2.2.2.2.2.2.2.2.2.2.2.1
theorem dL_law_402 : decode cL_law 402 = .ok (.aload_n 0, 1) := edL_law_380.2.2.2.2.2.2.2.2.2.2.2.2.2.2.2.2.2.2.1
theorem dL_law_403 : decode cL_law 403 = .ok (.iload_n 3, 1) := edL_law_380.2.2.2.2.2.2.2.2.2.2.2.2.2.2.2.2.2.2.2.1
theorem dL_law_404 : decode cL_law 404 = .ok (.iconst 1, 1) := edL_law_380.2.2.2.2.2.2.2.2.2.2.2.2.2.2.2.2.2.2.2.2.1
theorem dL_law_405 : decode cL_law 405 = .ok (.iadd, 1) := edL_law_380.2.2.2.2.2.2.2.2.2.2.2.2.2.2.2.2.2.2.2.2.2.1
theorem dL_law_406 : decode cL_law 406 = .ok (.iaload, 1) := edL_law_380.2.2.2.2.2.2.2.2.2.2.2.2.2.2.2.2.2.2.2.2.2.2.1
theorem dL_law_407 : decode cL_law 407 = .ok (.aload_n 0, 1) := edL_law_380.2.2.2.2.2.2.2.2.2.2.2.2.2.2.2.2.2.2.2.2.2.2.2.1
theorem dL_law_408 : decode cL_law 408 = .ok (.iload_n 3, 1) := edL_law_380.2.2.2.2.2.2.2.2.2.2.2.2.2.2.2.2.2.2.2.2.2.2.2.2.1
theorem dL_law_409 : decode cL_law 409 = .ok (.iconst 2, 1) := edL_law_380.2.2.2.2.2.2.2.2.2.2.2.2.2.2.2.2.2.2.2.2.2.2.2.2.2.1
theorem dL_law_410 : decode cL_law 410 = .ok (.iadd, 1) := edL_law_380.2.2.2.2.2.2.2.2.2.2.2.2.2.2.2.2.2.2.2.2.2.2.2.2.2.2.1
theorem dL_law_411 : decode cL_law 411 = .ok (.iaload, 1) := edL_law_380.2.2.2.2.2.2.2.2.2.2.2.2.2.2.2.2.2.2.2.2.2.2.2.2.2.2.2.1
theorem dL_law_412 : decode cL_law 412 = .ok (.invokevirtual 35, 3) := edL_law_380.2.2.2.2.2.2.2.2.2.2.2.2.2.2.2.2.2.2.2.2.2.2.2.2.2.2.2.2.1
theorem dL_law_415 : decode cL_law 415 = .ok (.pop, 1) := edL_law_380.2.2.2.2.2.2.2.2.2.2.2.2.2.2.2.2.2.2.2.2.2.2.2.2.2.2.2.2.2.1
theorem dL_law_416 : decode cL_law 416 = .ok (.aload_n 2, 1) := edL_law_380.2.2.2.2.2.2.2.2.2.2.2.2.2.2.2.2.2.2.2.2.2.2.2.2.2.2.2.2.2.2.1
theorem dL_law_417 : decode cL_law 417 = .ok (.aload_n 0, 1) := edL_law_380.2.2.2.2.2.2.2.2.2.2.2.2.2.2.2.2.2.2.2.2.2.2.2.2.2.2.2.2.2.2.2.1
theorem edL_law_418 : (decode cL_law 418 = .ok (.iload_n 3, 1)) ∧ (decode cL_law 419 = .ok (.iconst 1, 1)) ∧ (decode cL_law 420 = .ok (.iadd, 1)) ∧ (decode cL_law 421 = .ok (.iaload, 1)) ∧ (decode cL_law 422 = .ok (.aload_n 0, 1)) ∧ (decode cL_law 423 = .ok (.iload_n 3, 1)) ∧ (decode cL_law 424 = .ok (.iconst 2, 1)) ∧ (decode cL_law 425 = .ok (.iadd, 1)) ∧ (decode cL_law 426 = .ok (.iaload, 1)) ∧ (decode cL_law 427 = .ok (.invokevirtual 38, 3)) ∧ (decode cL_law 430 = .ok (.pop, 1)) ∧ (decode cL_law 431 = .ok (.goto 1021, 3)) ∧ (decode cL_law 434 = .ok (.aload_n 1, 1)) ∧ (decode cL_law 435 = .ok (.aload_n 0, 1)) ∧ (decode cL_law 436 = .ok (.iload_n 3, 1)) ∧ (decode cL_law 437 = .ok (.iconst 1, 1)) ∧ (decode cL_law 438 = .ok (.iadd, 1)) ∧ (decode cL_law 439 = .ok (.iaload, 1)) ∧ (decode cL_law 440 = .ok (.aload_n 0, 1)) ∧ (decode cL_law 441 = .ok (.iload_n 3, 1)) ∧ (decode cL_law 442 = .ok (.iconst 2, 1)) ∧ (decode cL_law 443 = .ok (.iadd, 1)) ∧ (decode cL_law 444 = .ok (.iaload, 1)) ∧ (decode cL_law 445 = .ok (.aload_n 0, 1)) ∧ (decode cL_law 446 = .ok (.iload_n 3, 1)) ∧ (decode cL_law 447 = .ok (.iconst 3, 1)) ∧ (decode cL_law 448 = .ok (.iadd, 1)) ∧ (decode cL_law 449 = .ok (.iaload, 1)) ∧ (decode cL_law 450 = .ok (.invokevirtual 39, 3)) ∧ (decode cL_law 453 = .ok (.pop, 1)) ∧ (decode cL_law 454 = .ok (.aload_n 2, 1)) ∧ (decode cL_law 455 = .ok (.aload_n 0, 1)) ∧ True := dc_cj [(418, .iload_n 3, 1), (419, .iconst 1, 1), (420, .iadd, 1), (421, .iaload, 1), (422, .aload_n 0, 1), (423, .iload_n 3, 1), (424, .iconst 2, 1), (425, .iadd, 1), (426, .iaload, 1), (427, .invokevirtual 38, 3), (430, .pop, 1), (431, .goto 1021, 3), (434, .aload_n 1, 1), (435, .aload_n 0, 1), (436, .iload_n 3, 1), (437, .iconst 1, 1), (438, .iadd, 1), (439, .iaload, 1), (440, .aload_n 0, 1), (441, .iload_n 3, 1), (442, .iconst 2, 1), (443, .iadd, 1), (444, .iaload, 1), (445, .aload_n 0, 1), (446, .iload_n 3, 1), (447, .iconst 3, 1), (448, .iadd, 1), (449, .iaload, 1), (450, .invokevirtual 39, 3), (453, .pop, 1), (454, .aload_n 2, 1), (455, .aload_n 0, 1)] (by decide +kernel)
theorem dL_law_418 : decode cL_law 418 = .ok (.iload_n 3, 1) := edL_law_418.1
theorem dL_law_419 : decode cL_law 419 = .ok (.iconst 1, 1) := edL_law_418.2.1
theorem dL_law_420 : decode cL_law 420 = .ok (.iadd, 1) := edL_law_418.2.2.1
theorem dL_law_421 : decode cL_law 421 = .ok (.iaload, 1) := edL_law_418.2.2.2.1
theorem dL_law_422 : decode cL_law 422 = .ok (.aload_n 0, 1) := edL_law_418.2.2.2.2.1
theorem dL_law_423 : decode cL_law 423 = .ok (.iload_n 3, 1) := edL_law_418.2.2.2.2.2.1
theorem dL_law_424 : decode cL_law 424 = .ok (.iconst 2, 1) := edL_law_418.2.2.2.2.2.2.1
theorem dL_law_425 : decode cL_law 425 = .ok (.iadd, 1) := edL_law_418.2.2.2.2.2.2.2.1
theorem dL_law_426 : decode cL_law 426 = .ok (.iaload, 1) := edL_law_418.2.2.2.2.2.2.2.2.1
theorem dL_law_427 : decode cL_law 427 = .ok (.invokevirtual 38, 3) := edL_law_418.2.2.2.2.2.2.2.2.2.1
theorem dL_law_430 : decode cL_law 430 = .ok (.pop, 1) := edL_law_418.2.2.2.2.2.2.2.2.2.2.1
theorem dL_law_431 : decode cL_law 431 = .ok (.goto 1021, 3) := edL_law_418.2.2.2.2.2.2.2.2.2.2.2.1
theorem dL_law_434 : decode cL_law 434 = .ok (.aload_n 1, 1) := edL_law_418.2.2.2.2.2.2.2.2.2.2.2.2.1
theorem dL_law_435 : decode cL_law 435 = .ok (.aload_n 0, 1) := edL_law_418.2.2.2.2.2.2.2.2.2.2.2.2.2.1
theorem dL_law_436 : decode cL_law 436 = .ok (.iload_n 3, 1) := edL_law_418.2.2.2.2.2.2.2.2.2.2.2.2.2.2.1
theorem dL_law_437 : decode cL_law 437 = .ok (.iconst 1, 1) := edL_law_418.2.2.2.2.2.2.2.2.2.2.2.2.2.2.2.1
theorem dL_law_438 : decode cL_law 438 = .ok (.iadd, 1) := edL_law_418.2.2.2.2.2.2.2.2.2.2.2.2.2.2.2.2.1
theorem dL_law_439 : decode cL_law 439 = .ok (.iaload, 1) := edL_law_418.2.2.2.2.2.2.2.2.2.2.2.2.2.2.2.2.2.1
theorem dL_law_440 : decode cL_law 440 = .ok (.aload_n 0, 1) := edL_law_418.2.2.2.2.2.2.2.2.2.2.2.2.2.2.2.2.2.2.1
theorem dL_law_441 : decode cL_law 441 = .ok (.iload_n 3, 1) := edL_law_418.2.2.2.2.2.2.2.2.2.2.2.2.2.2.2.2.2.2.2.1
theorem dL_law_442 : decode cL_law 442 = .ok (.iconst 2, 1) := edL_law_418.2.2.2.2.2.2.2.2.2.2.2.2.2.2.2.2.2.2.2.2.1
theorem dL_law_443 : decode cL_law 443 = .ok (.iadd, 1) := edL_law_418.2.2.2.2.2.2.2.2.2.2.2.2.2.2.2.2.2.2.2.2.2.1
theorem dL_law_444 : decode cL_law 444 = .ok (.iaload, 1) := edL_law_418.2.2.2.2.2.2.2.2.2.2.2.2.2.2.2.2.2.2.2.2.2.2.1
theorem dL_law_445 : decode cL_law 445 = .ok (.aload_n 0, 1) := edL_law_418.2.2.2.2.2.2.2.2.2.2.2.2.2.2.2.2.2.2.2.2.2.2.2.1
theorem dL_law_446 : decode cL_law 446 = .ok (.iload_n 3, 1) := edL_law_418.2.2.2.2.2.2.2.2.2.2.2.2.2.2.2.2.2.2.2.2.2.2.2.2.1
theorem dL_law_447 : decode cL_law 447 = .ok (.iconst 3, 1) := edL_law_418.2.2.2.2.2.2.2.2.2.2.2.2.2.2.2.2.2.2.2.2.2.2.2.2.2.1
theorem dL_law_448 : decode cL_law 448 = .ok (.iadd, 1) := edL_law_418.2.2.2.2.2.2.2.2.2.2.2.2.2.2.2.2.2.2.2.2.2.2.2.2.2.2.1
theorem dL_law_449 : decode cL_law 449 = .ok (.iaload, 1) := edL_law_418.2.2.2.2.2.2.2.2.2.2.2.2.2.2.2.2.2.2.2.2.2.2.2.2.2.2.2.1
theorem dL_law_450 : decode cL_law 450 = .ok (.invokevirtual 39, 3) := edL_law_418.2.2.2.2.2.2.2.2.2.2.2.2.2.2.2.2.2.2.2.2.2.2.2.2.2.2.2.2.1
theorem dL_law_453 : decode cL_law 453 = .ok (.pop, 1) := edL_law_418.2.2.2.2.2.2.2.2.2.2.2.2.2.2.2.2.2.2.2.2.2.2.2.2.2.2.2.2.2.1
theorem dL_law_454 : decode cL_law 454 = .ok (.aload_n 2, 1) := edL_law_418.2.2.2.2.2.2.2.2.2.2.2.2.2.2.2.2.2.2.2.2.2.2.2.2.2.2.2.2.2.2.1
theorem dL_law_455 : decode cL_law 455 = .ok (.aload_n 0, 1) := edL_law_418.2.2.2.2.2.2.2.2.2.2.2.2.2.2.2.2.2.2.2.2.2.2.2.2.2.2.2.2.2.2.2.1
theorem edL_law_456 : (decode cL_law 456 = .ok (.iload_n 3, 1)) ∧ (decode cL_law 457 = .ok (.iconst 1, 1)) ∧ (decode cL_law 458 = .ok (.iadd, 1)) ∧ (decode cL_law 459 = .ok (.iaload, 1)) ∧ (decode cL_law 460 = .ok (.aload_n 0, 1)) ∧ (decode cL_law 461 = .ok (.iload_n 3, 1)) ∧ (decode cL_law 462 = .ok (.iconst 2, 1)) ∧ (decode cL_law 463 = .ok (.iadd, 1)) ∧ (decode cL_law 464 = .ok (.iaload, 1)) ∧ (decode cL_law 465 = .ok (.aload_n 0, 1)) ∧ (decode cL_law 466 = .ok (.iload_n 3, 1)) ∧ (decode cL_law 467 = .ok (.iconst 3, 1)) ∧ (decode cL_law 468 = .ok (.iadd, 1)) ∧ (decode cL_law 469 = .ok (.iaload, 1)) ∧ (decode cL_law 470 = .ok (.invokevirtual 42, 3)) ∧ (decode cL_law 473 = .ok (.pop, 1)) ∧ (decode cL_law 474 = .ok (.goto 978, 3)) ∧ (decode cL_law 477 = .ok (.aload_n 1, 1)) ∧ (decode cL_law 478 = .ok (.aload_n 0, 1)) ∧ (decode cL_law 479 = .ok (.iload_n 3, 1)) ∧ (decode cL_law 480 = .ok (.iconst 1, 1)) ∧ (decode cL_law 481 = .ok (.iadd, 1)) ∧ (decode cL_law 482 = .ok (.iaload, 1)) ∧ (decode cL_law 483 = .ok (.aload_n 0, 1)) ∧ (decode cL_law 484 = .ok (.iload_n 3, 1)) ∧ (decode cL_law 485 = .ok (.iconst 2, 1)) ∧ (decode cL_law 486 = .ok (.iadd, 1)) ∧ (decode cL_law 487 = .ok (.iaload, 1)) ∧ (decode cL_law 488 = .ok (.invokevirtual 43, 3)) ∧ (decode cL_law 491 = .ok (.pop, 1)) ∧ (decode cL_law 492 = .ok (.aload_n 2, 1)) ∧ (decode cL_law 493 = .ok (.aload_n 0, 1)) ∧ True := dc_cj [(456, .iload_n 3, 1), (457, .iconst 1, 1), (458, .iadd, 1), (459, .iaload, 1), (460, .aload_n 0, 1), (461, .iload_n 3, 1), (462, .iconst 2, 1), (463, .iadd, 1), (464, .iaload, 1), (465, .aload_n 0, 1), (466, .iload_n 3, 1), (467, .iconst 3, 1), (468, .iadd, 1), (469, .iaload, 1), (470, .invokevirtual 42, 3), (473, .pop, 1), (474, .goto 978, 3), (477, .aload_n 1, 1), (478, .aload_n 0, 1), (479, .iload_n 3, 1), (480, .iconst 1, 1), (481, .iadd, 1), (482, .iaload, 1), (483, .aload_n 0, 1), (484, .iload_n 3, 1), (485, .iconst 2, 1), (486, .iadd, 1), (487, .iaload, 1), (488, .invokevirtual 43, 3), (491, .pop, 1), (492, .aload_n 2, 1), (493, .aload_n 0, 1)] (by decide +kernel)
theorem dL_law_456 : decode cL_law 456 = .ok (.iload_n 3, 1) := edL_law_456.1
theorem dL_law_457 : decode cL_law 457 = .ok (.iconst 1, 1) := edL_law_456.2.1
theorem dL_law_458 : decode cL_law 458 = .ok (.iadd, 1) := edL_law_456.2.2.1
theorem dL_law_459 : decode cL_law 459 = .ok (.iaload, 1) := edL_law_456.2.2.2.1
theorem dL_law_460 : decode cL_law 460 = .ok (.aload_n 0, 1) := edL_law_456.2.2.2.2.1
theorem dL_law_461 : decode cL_law 461 = .ok (.iload_n 3, 1) := edL_law_456.2.2.2.2.2.1
theorem dL_law_462 : decode cL_law 462 = .ok (.iconst 2, 1) := edL_law_456.2.2.2.2.2.2.1
theorem dL_law_463 : decode cL_law 463 = .ok (.iadd, 1) := edL_law_456.2.2.2.2.2.2.2.1
theorem dL_law_464 : decode cL_law 464 = .ok (.iaload, 1) := edL_law_456.2.2.2.2.2.2.2.2.1
theorem dL_law_465 : decode cL_law 465 = .ok (.aload_n 0, 1) := edL_law_456.2.2.2.2.2.2.2.2.2.1
theorem dL_law_466 : decode cL_law 466 = .ok (.iload_n 3, 1) := edL_law_456.2.2.2.2.2.2.2.2.2.2.1
theorem dL_law_467 : decode cL_law 467 = .ok (.iconst 3, 1) := edL_law_456.2.2.2.2.2.2.2.2.2.2.2.1
theorem dL_law_468 : decode cL_law 468 = .ok (.iadd, 1) := edL_law_456.2.2.2.2.2.2.2.2.2.2.2.2.1
theorem dL_law_469 : decode cL_law 469 = .ok (.iaload, 1) := edL_law_456.2.2.2.2.2.2.2.2.2.2.2.2.2.1
theorem dL_law_470 : decode cL_law 470 = .ok (.invokevirtual 42, 3) := edL_law_456.2.2.2.2.2.2.2.2.2.2.2.2.2.2.1
theorem dL_law_473 : decode cL_law 473 = .ok (.pop, 1) := edL_law_456.2.2.2.2.2.2.2.2.2.2.2.2.2.2.2.1
theorem dL_law_474 : decode cL_law 474 = .ok (.goto 978, 3) := edL_law_456.2.2.2.2.2.2.2.2.2.2.2.2.2.2.2.2.1
theorem dL_law_477 : decode cL_law 477 = .ok (.aload_n 1, 1) := edL_law_456.2.2.2.2.2.2.2.2.2.2.2.2.2.2.2.2.2.1
theorem dL_law_478 : decode cL_law 478 = .ok (.aload_n 0, 1) := edL_law_456.2.2.2.2.2.2.2.2.2.2.2.2.2.2.2.2.2.2.1
theorem dL_law_479 : decode cL_law 479 = .ok (.iload_n 3, 1) := edL_law_456.2.2.2.2.2.2.2.2.2.2.2.2.2.2.2.2.2.2.2.1
theorem dL_law_480 : decode cL_law 480 = .ok (.iconst 1, 1) := edL_law_456.2.2.2.2.2.2.2.2.2.2.2.2.2.2.2.2.2.2.2.2.1
theorem dL_law_481 : decode cL_law 481 = .ok (.iadd, 1) := edL_law_456.2.2.2.2.2.2.2.2.2.2.2.2.2.2.2.2.2.2.2.2.2.1
theorem dL_law_482 : decode cL_law 482 = .ok (.iaload, 1) := edL_law_456.2.2.2.2.2.2.2.2.2.2.2.2.2.2.2.2.2.2.2.2.2.2.1
theorem dL_law_483 : decode cL_law 483 = .ok (.aload_n 0, 1) := edL_law_456.2.2.2.2.2.2.2.2.2.2.2.2.2.2.2.2.2.2.2.2.2.2.2.1
theorem dL_law_484 : decode cL_law 484 = .ok (.iload_n 3, 1) := edL_law_456.2.2.2.2.2.2.2.2.2.2.2.2.2.2.2.2.2.2.2.2.2.2.2.2.1
theorem dL_law_485 : decode cL_law 485 = .ok (.iconst 2, 1) := edL_law_456.2.2.2.2.2.2.2.2.2.2.2.2.2.2.2.2.2.2.2.2.2.2.2.2.2.1
theorem dL_law_486 : decode cL_law 486 = .ok (.iadd, 1) := edL_law_456.2.2.2.2.2.2.2.2.2.2.2.2.2.2.2.2.2.2.2.2.2.2.2.2.2.2.1
theorem dL_law_487 : decode cL_law 487 = .ok (.iaload, 1) := edL_law_456.2.2.2.2.2.2.2.2.2.2.2.2.2.2.2.2.2.2.2.2.2.2.2.2.2.2.2.1
theorem dL_law_488 : decode cL_law 488 = .ok (.invokevirtual 43, 3) := edL_law_456.2.2.2.2.2.2.2.2.2.2.2.2.2.2.2.2.2.2.2.2.2.2.2.2.2.2.2.2.1
theorem dL_law_491 : decode cL_law 491 = .ok (.pop, 1) := edL_law_456.2.2.2.2.2.2.2.2.2.2.2.2.2.2.2.2.2.2.2.2.2.2.2.2.2.2.2.2.2.1
theorem dL_law_492 : decode cL_law 492 = .ok (.aload_n 2, 1) := edL_law_456.2.2.2.2.2.2.2.2.2.2.2.2.2.2.2.2.2.2.2.2.2.2.2.2.2.2.2.2.2.2.1
theorem dL_law_493 : decode cL_law 493 = .ok (.aload_n 0, 1) := edL_law_456.2.2.2.2.2.2.2.2.2.2.2.2.2.2.2.2.2.2.2.2.2.2.2.2.2.2.2.2.2.2.2.1
theorem edL_law_494 : (decode cL_law 494 = .ok (.iload_n 3, 1)) ∧ (decode cL_law 495 = .ok (.iconst 1, 1)) ∧ (decode cL_law 496 = .ok (.iadd, 1)) ∧ (decode cL_law 497 = .ok (.iaload, 1)) ∧ (decode cL_law 498 = .ok (.aload_n 0, 1)) ∧ (decode cL_law 499 = .ok (.iload_n 3, 1)) ∧ (decode cL_law 500 = .ok (.iconst 2, 1)) ∧ (decode cL_law 501 = .ok (.iadd, 1)) ∧ (decode cL_law 502 = .ok (.iaload, 1)) ∧ (decode cL_law 503 = .ok (.invokevirtual 46, 3)) ∧ (decode cL_law 506 = .ok (.pop, 1)) ∧ (decode cL_law 507 = .ok (.goto 945, 3)) ∧ (decode cL_law 510 = .ok (.aload_n 1, 1)) ∧ (decode cL_law 511 = .ok (.aload_n 0, 1)) ∧ (decode cL_law 512 = .ok (.iload_n 3, 1)) ∧ (decode cL_law 513 = .ok (.iconst 1, 1)) ∧ (decode cL_law 514 = .ok (.iadd, 1)) ∧ (decode cL_law 515 = .ok (.iaload, 1)) ∧ (decode cL_law 516 = .ok (.aload_n 0, 1)) ∧ (decode cL_law 517 = .ok (.iload_n 3, 1)) ∧ (decode cL_law 518 = .ok (.iconst 2, 1)) ∧ (decode cL_law 519 = .ok (.iadd, 1)) ∧ (decode cL_law 520 = .ok (.iaload, 1)) ∧ (decode cL_law 521 = .ok (.invokevirtual 47, 3)) ∧ (decode cL_law 524 = .ok (.pop, 1)) ∧ (decode cL_law 525 = .ok (.aload_n 2, 1)) ∧ (decode cL_law 526 = .ok (.aload_n 0, 1)) ∧ (decode cL_law 527 = .ok (.iload_n 3, 1)) ∧ (decode cL_law 528 = .ok (.iconst 1, 1)) ∧ (decode cL_law 529 = .ok (.iadd, 1)) ∧ (decode cL_law 530 = .ok (.iaload, 1)) ∧ (decode cL_law 531 = .ok (.aload_n 0, 1)) ∧ True := dc_cj [(494, .iload_n 3, 1), (495, .iconst 1, 1), (496, .iadd, 1), (497, .iaload, 1), (498, .aload_n 0, 1), (499, .iload_n 3, 1), (500, .iconst 2, 1), (501, .iadd, 1), (502, .iaload, 1), (503, .invokevirtual 46, 3), (506, .pop, 1), (507, .goto 945, 3), (510, .aload_n 1, 1), (511, .aload_n 0, 1), (512, .iload_n 3, 1), (513, .iconst 1, 1), (514, .iadd, 1), (515, .iaload, 1), (516, .aload_n 0, 1), (517, .iload_n 3, 1), (518, .iconst 2, 1), (519, .iadd, 1), (520, .iaload, 1), (521, .invokevirtual 47, 3), (524, .pop, 1), (525, .aload_n 2, 1), (526, .aload_n 0, 1), (527, .iload_n 3, 1), (528, .iconst 1, 1), (529, .iadd, 1), (530, .iaload, 1), (531, .aload_n 0, 1)] (by decide +kernel)
theorem dL_law_494 : decode cL_law 494 = .ok (.iload_n 3, 1) := edL_law_494.1
theorem dL_law_495 : decode cL_law 495 = .ok (.iconst 1, 1) := edL_law_494.2.1
theorem dL_law_496 : decode cL_law 496 = .ok (.iadd, 1) := edL_law_494.2.2.1
theorem dL_law_497 : decode cL_law 497 = .ok (.iaload, 1) := edL_law_494.2.2.2.1
theorem dL_law_498 : decode cL_law 498 = .ok (.aload_n 0, 1) := edL_law_494.2.2.2.2.1
theorem dL_law_499 : decode cL_law 499 = .ok (.iload_n 3, 1) := edL_law_494.2.2.2.2.2.1
theorem dL_law_500 : decode cL_law 500 = .ok (.iconst 2, 1) := edL_law_494.2.2.2.2.2.2.1
theorem dL_law_501 : decode cL_law 501 = .ok (.iadd, 1) := edL_law_494.2.2.2.2.2.2.2.1
theorem dL_law_502 : decode cL_law 502 = .ok (.iaload, 1) := edL_law_494.2.2.2.2.2.2.2.2.1
theorem dL_law_503 : decode cL_law 503 = .ok (.invokevirtual 46, 3) := edL_law_494.2.2.2.2.2.2.2.2.2.1
theorem dL_law_506 : decode cL_law 506 = .ok (.pop, 1) := edL_law_494.2.2.2.2.2.2.2.2.2.2.1
theorem dL_law_507 : decode cL_law 507 = .ok (.goto 945, 3) := edL_law_494.2.2.2.2.2.2.2.2.2.2.2.1
theorem dL_law_510 : decode cL_law 510 = .ok (.aload_n 1, 1) := edL_law_494.2.2.2.2.2.2.2.2.2.2.2.2.1
theorem dL_law_511 : decode cL_law 511 = .ok (.aload_n 0, 1) := edL_law_494.2.2.2.2.2.2.2.2.2.2.2.2.2.1
theorem dL_law_512 : decode cL_law 512 = .ok (.iload_n 3, 1) := edL_law_494.2.2.2.2.2.2.2.2.2.2.2.2.2.2.1
theorem dL_law_513 : decode cL_law 513 = .ok (.iconst 1, 1) := edL_law_494.2.2.2.2.2.2.2.2.2.2.2.2.2.2.2.1
theorem dL_law_514 : decode cL_law 514 = .ok (.iadd, 1) := edL_law_494.2.2.2.2.2.2.2.2.2.2.2.2.2.2.2.2.1
theorem dL_law_515 : decode cL_law 515 = .ok (.iaload, 1) := edL_law_494.2.2.2.2.2.2.2.2.2.2.2.2.2.2.2.2.2.1
theorem dL_law_516 : decode cL_law 516 = .ok (.aload_n 0, 1) := edL_law_494.2.2.2.2.2.2.2.2.2.2.2.2.2.2.2.2.2.2.1
theorem dL_law_517 : decode cL_law 517 = .ok (.iload_n 3, 1) := edL_law_494.2.2.2.2.2.2.2.2.2.2.2.2.2.2.2.2.2.2.2.1
theorem dL_law_518 : decode cL_law 518 = .ok (.iconst 2, 1) := edL_law_494.2.2.2.2.2.2.2.2.2.2.2.2.2.2.2.2.2.2.2.2.1
theorem dL_law_519 : decode cL_law 519 = .ok (.iadd, 1) := edL_law_494.2.2.2.2.2.2.2.2.2.2.2.2.2.2.2.2.2.2.2.2.2.1
theorem dL_law_520 : decode cL_law 520 = .ok (.iaload, 1) := edL_law_494.2.2.2.2.2.2.2.2.2.2.2.2.2.2.2.2.2.2.2.2.2.2.1
theorem dL_law_521 : decode cL_law 521 = .ok (.invokevirtual 47, 3) := edL_law_494.2.2.2.2.2.2.2.2.2.2.2.2.2.2.2.2.2.2.2.2.2.2.2.1
theorem dL_law_524 : decode cL_law 524 = .ok (.pop, 1) := edL_law_494.2.2.2.2.2.2.2.2.2.2.2.2.2.2.2.2.2.2.2.2.2.2.2.2.1
theorem dL_law_525 : decode cL_law 525 = .ok (.aload_n 2, 1) := edL_law_494.2.2.2.2.2.2.2.2.2.2.2.2.2.2.2.2.2.2.2.2.2.2.2.2.2.1
theorem dL_law_526 : decode cL_law 526 = .ok (.aload_n 0, 1) := edL_law_494.2.2.2.2.2.2.2.2.2.2.2.2.2.2.2.2.2.2.2.2.2.2.2.2.2.2.1
theorem dL_law_527 : decode cL_law 527 = .ok (.iload_n 3, 1) := edL_law_494.2.2.2.2.2.2.2.2.2.2.2.2.2.2.2.2.2.2.2.2.2.2.2.2.2.2.2.1
theorem dL_law_528 : decode cL_law 528 = .ok (.iconst 1, 1) := edL_law_494.2.2.2.2.2.2.2.2.2.2.2.2.2.2.2.2.2.2.2.2.2.2.2.2.2.2.2.2.1
theorem dL_law_529 : decode cL_law 529 = .ok (.iadd, 1) := edL_law_494.2.2.2.2.2.2.2.2.2.2.2.2.2.2.2.2.2.2.2.2.2.2.2.2.2.2.2.2.2.1
theorem dL_law_530 : decode cL_law 530 = .ok (.iaload, 1) := edL_law_494.2.2.2.2.2.2.2.2.2.2.2.2.2.2.2.2.2.2.2.2.2.2.2.2.2.2.2.2.2.2.1
theorem dL_law_531 : decode cL_law 531 = .ok (.aload_n 0, 1) := edL_law_494.2.2.2.2.2.2.2.2.2.2.2.2.2.2.2.2.2.2.2.2.2.2.2.2.2.2.2.2.2.2.2.1
theorem edL_law_532 : (decode cL_law 532 = .ok (.iload_n 3, 1)) ∧ (decode cL_law 533 = .ok (.iconst 2, 1)) ∧ (decode cL_law 534 = .ok (.iadd, 1)) ∧ (decode cL_law 535 = .ok (.iaload, 1)) ∧ (decode cL_law 536 = .ok (.invokevirtual 50, 3)) ∧ (decode cL_law 539 = .ok (.pop, 1)) ∧ (decode cL_law 540 = .ok (.goto 912, 3)) ∧ (decode cL_law 543 = .ok (.aload_n 1, 1)) ∧ (decode cL_law 544 = .ok (.aload_n 0, 1)) ∧ (decode cL_law 545 = .ok (.iload_n 3, 1)) ∧ (decode cL_law 546 = .ok (.iconst 1, 1)) ∧ (decode cL_law 547 = .ok (.iadd, 1)) ∧ (decode cL_law 548 = .ok (.iaload, 1)) ∧ (decode cL_law 549 = .ok (.invokevirtual 51, 3)) ∧ (decode cL_law 552 = .ok (.pop, 1)) ∧ (decode cL_law 553 = .ok (.aload_n 2, 1)) ∧ (decode cL_law 554 = .ok (.aload_n 0, 1)) ∧ (decode cL_law 555 = .ok (.iload_n 3, 1)) ∧ (decode cL_law 556 = .ok (.iconst 1, 1)) ∧ (decode cL_law 557 = .ok (.iadd, 1)) ∧ (decode cL_law 558 = .ok (.iaload, 1)) ∧ (decode cL_law 559 = .ok (.invokevirtual 55, 3)) ∧ (decode cL_law 562 = .ok (.pop, 1)) ∧ (decode cL_law 563 = .ok (.goto 889, 3)) ∧ (decode cL_law 566 = .ok (.aload_n 1, 1)) ∧ (decode cL_law 567 = .ok (.aload_n 0, 1)) ∧ (decode cL_law 568 = .ok (.iload_n 3, 1)) ∧ (decode cL_law 569 = .ok (.iconst 1, 1)) ∧ (decode cL_law 570 = .ok (.iadd, 1)) ∧ (decode cL_law 571 = .ok (.iaload, 1)) ∧ (decode cL_law 572 = .ok (.invokevirtual 56, 3)) ∧ (decode cL_law 575 = .ok (.pop, 1)) ∧ True := dc_cj [(532, .iload_n 3, 1), (533, .iconst 2, 1), (534, .iadd, 1), (535, .iaload, 1), (536, .invokevirtual 50, 3), (539, .pop, 1), (540, .goto 912, 3), (543, .aload_n 1, 1), (544, .aload_n 0, 1), (545, .iload_n 3, 1), (546, .iconst 1, 1), (547, .iadd, 1), (548, .iaload, 1), (549, .invokevirtual 51, 3), (552, .pop, 1), (553, .aload_n 2, 1), (554, .aload_n 0, 1), (555, .iload_n 3, 1), (556, .iconst 1, 1), (557, .iadd, 1), (558, .iaload, 1), (559, .invokevirtual 55, 3), (562, .pop, 1), (563, .goto 889, 3), (566, .aload_n 1, 1), (567, .aload_n 0, 1), (568, .iload_n 3, 1), (569, .iconst 1, 1), (570, .iadd, 1), (571, .iaload, 1), (572, .invokevirtual 56, 3), (575, .pop, 1)] (by decide +kernel)
theorem dL_law_532 : decode cL_law 532 = .ok (.iload_n 3, 1) := edL_law_532.1
theorem dL_law_533 : decode cL_law 533 = .ok (.iconst 2, 1) := edL_law_532.2.1
theorem dL_law_534 : decode cL_law 534 = .ok (.iadd, 1) := edL_law_532.2.2.1
theorem dL_law_535 : decode cL_law 535 = .ok (.iaload, 1) := edL_law_532.2.2.2.1
theorem dL_law_536 : decode cL_law 536 = .ok (.invokevirtual 50, 3) := edL_law_532.2.2.2.2.1
theorem dL_law_539 : decode cL_law 539 = .ok (.pop, 1) := edL_law_532.2.2.2.2.2.1
theorem dL_law_540 : decode cL_law 540 = .ok (.goto 912, 3) := edL_law_532.2.2.2.2.2.2.1
theorem dL_law_543 : decode cL_law 543 = .ok (.aload_n 1, 1) := edL_law_532.2.2.2.2.2.2.2.1
theorem dL_law_544 : decode cL_law 544 = .ok (.aload_n 0, 1) := edL_law_532.2.2.2.2.2.2.2.2.1
theorem dL_law_545 : decode cL_law 545 = .ok (.iload_n 3, 1) := edL_law_532.2.2.2.2.2.2.2.2.2.1
theorem dL_law_546 : decode cL_law 546 = .ok (.iconst 1, 1) := edL_law_532.2.2.2.2.2.2.2.2.2.2.1
theorem dL_law_547 : decode cL_law 547 = .ok (.iadd, 1) := edL_law_532.2.2.2.2.2.2.2.2.2.2.2.1
theorem dL_law_548 : decode cL_law 548 = .ok (.iaload, 1) := edL_law_532.2.2.2.2.2.2.2.2.2.2.2.2.1
theorem dL_law_549 : decode cL_law 549 = .ok (.invokevirtual 51, 3) := edL_law_532.2.2.2.2.2.2.2.2.2.2.2.2.2.1
theorem dL_law_552 : decode cL_law 552 = .ok (.pop, 1) := edL_law_532.2.2.2.2.2.2.2.2.2.2.2.2.2.2.1
theorem dL_law_553 : decode cL_law 553 = .ok (.aload_n 2, 1) := edL_law_532.2.2.2.2.2.2.2.2.2.2.2.2.2.2.2.1
theorem dL_law_554 : decode cL_law 554 = .ok (.aload_n 0, 1) := edL_law_532.2.2.2.2.2.2.2.2.2.2.2.2.2.2.2.2.1
theorem dL_law_555 : decode cL_law 555 = .ok (.iload_n 3, 1) := edL_law_532.2.2.2.2.2.2.2.2.2.2.2.2.2.2.2.2.2.1
theorem dL_law_556 : decode cL_law 556 = .ok (.iconst 1, 1) := edL_law_532.2.2.2.2.2.2.2.2.2.2.2.2.2.2.2.2.2.2.1
theorem dL_law_557 : decode cL_law 557 = .ok (.iadd, 1) := edL_law_532.2.2.2.2.2.2.2.2.2.2.2.2.2.2.2.2.2.2.2.1
theorem dL_law_558 : decode cL_law 558 = .ok (.iaload, 1) := edL_law_532.2.2.2.2.2.2.2.2.2.2.2.2.2.2.2.2.2.2.2.2.1
theorem dL_law_559 : decode cL_law 559 = .ok (.invokevirtual 55, 3) := edL_law_532.2.2.2.2.2.2.2.2.2.2.2.2.2.2.2.2.2.2.2.2.2.1
theorem dL_law_562 : decode cL_law 562 = .ok (.pop, 1) := edL_law_532.2.2.2.2.2.2.2.2.2.2.2.2.2.2.2.2.2.2.2.2.2.2.1
theorem dL_law_563 : decode cL_law 563 = .ok (.goto 889, 3) := edL_law_532.2.2.2.2.2.2.2.2.2.2.2.2.2.2.2.2.2.2.2.2.2.2.2.1
theorem dL_law_566 : decode cL_law 566 = .ok (.aload_n 1, 1) := edL_law_532.2.2.2.2.2.2.2.2.2.2.2.2.2.2.2.2.2.2.2.2.2.2.2.2.1
theorem dL_law_567 : decode cL_law 567 = .ok (.aload_n 0, 1) := edL_law_532.2.2.2.2.2.2.2.2.2.2.2.2.2.2.2.2.2.2.2.2.2.2.2.2.2.1
theorem dL_law_568 : decode cL_law 568 = .ok (.iload_n 3, 1) := edL_law_532.2.2.2.2.2.2.2.2.2.2.2.2.2.2.2.2.2.2.2.2.2.2.2.2.2.2.1
theorem dL_law_569 : decode cL_law 569 = .ok (.iconst 1, 1) := edL_law_532.2.2.2.2.2.2.2.2.2.2.2.2.2.2.2.2.2.2.2.2.2.2.2.2.2.2.2.1
theorem dL_law_570 : decode cL_law 570 = .ok (.iadd, 1) := edL_law_532.2.2.2.2.2.2.2.2.2.2.2.2.2.2.2.2.2.2.2.2.2.2.2.2.2.2.2.2.1
theorem dL_law_571 : decode cL_law 571 = .ok (.iaload, 1) := edL_law_532.2.2.2.2.2.2.2.2.2.2.2.2.2.2.2.2.2.2.2.2.2.2.2.2.2.2.2.2.2.1
theorem dL_law_572 : decode cL_law 572 = .ok (.invokevirtual 56, 3) := edL_law_532.2.2.2.2.2.2.2.2.2.2.2.2.2.2.2.2.2.2.2.2.2.2.2.2.2.2.2.2.2.2.1
theorem dL_law_575 : decode cL_law 575 = .ok (.pop, 1) := edL_law_532.2.2.2.2.2.2.2.2.2.2.2.2.2.2.2.2.2.2.2.2.2.2.2.2.2.2.2.2.2.2.2.1
theorem edL_law_576 : (decode cL_law 576 = .ok (.aload_n 2, 1)) ∧ (decode cL_law 577 = .ok (.aload_n 0, 1)) ∧ (decode cL_law 578 = .ok (.iload_n 3, 1)) ∧ (decode cL_law 579 = .ok (.iconst 1, 1)) ∧ (decode cL_law 580 = .ok (.iadd, 1)) ∧ (decode cL_law 581 = .ok (.iaload, 1)) ∧ (decode cL_law 582 = .ok (.invokevirtual 59, 3)) ∧ (decode cL_law 585 = .ok (.pop, 1)) ∧ (decode cL_law 586 = .ok (.goto 866, 3)) ∧ (decode cL_law 589 = .ok (.aload_n 1, 1)) ∧ (decode cL_law 590 = .ok (.aload_n 0, 1)) ∧ (decode cL_law 591 = .ok (.iload_n 3, 1)) ∧ (decode cL_law 592 = .ok (.iconst 1, 1)) ∧ (decode cL_law 593 = .ok (.iadd, 1)) ∧ (decode cL_law 594 = .ok (.iaload, 1)) ∧ (decode cL_law 595 = .ok (.invokevirtual 60, 3)) ∧ (decode cL_law 598 = .ok (.pop, 1)) ∧ (decode cL_law 599 = .ok (.aload_n 2, 1)) ∧ (decode cL_law 600 = .ok (.aload_n 0, 1)) ∧ (decode cL_law 601 = .ok (.iload_n 3, 1)) ∧ (decode cL_law 602 = .ok (.iconst 1, 1)) ∧ (decode cL_law 603 = .ok (.iadd, 1)) ∧ (decode cL_law 604 = .ok (.iaload, 1)) ∧ (decode cL_law 605 = .ok (.invokevirtual 63, 3)) ∧ (decode cL_law 608 = .ok (.pop, 1)) ∧ (decode cL_law 609 = .ok (.goto 843, 3)) ∧ (decode cL_law 612 = .ok (.aload_n 1, 1)) ∧ (decode cL_law 613 = .ok (.aload_n 0, 1)) ∧ (decode cL_law 614 = .ok (.iload_n 3, 1)) ∧ (decode cL_law 615 = .ok (.iconst 1, 1)) ∧ (decode cL_law 616 = .ok (.iadd, 1)) ∧ (decode cL_law 617 = .ok (.iaload, 1)) ∧ True := dc_cj [(576, .aload_n 2, 1), (577, .aload_n 0, 1), (578, .iload_n 3, 1), (579, .iconst 1, 1), (580, .iadd, 1), (581, .iaload, 1), (582, .invokevirtual 59, 3), (585, .pop, 1), (586, .goto 866, 3), (589, .aload_n 1, 1), (590, .aload_n 0, 1), (591, .iload_n 3, 1), (592, .iconst 1, 1), (593, .iadd, 1), (594, .iaload, 1), (595, .invokevirtual 60, 3), (598, .pop, 1), (599, .aload_n 2, 1), (600, .aload_n 0, 1), (601, .iload_n 3, 1), (602, .iconst 1, 1), (603, .iadd, 1), (604, .iaload, 1), (605, .invokevirtual 63, 3), (608, .pop, 1), (609, .goto 843, 3), (612, .aload_n 1, 1), (613, .aload_n 0, 1), (614, .iload_n 3, 1), (615, .iconst 1, 1), (616, .iadd, 1), (617, .iaload, 1)] (by decide +kernel)
theorem dL_law_576 : decode cL_law 576 = .ok (.aload_n 2, 1) := edL_law_576.1
theorem dL_law_577 : decode cL_law 577 = .ok (.aload_n 0, 1) := edL_law_576.2.1
theorem dL_law_578 : decode cL_law 578 = .ok (.iload_n 3, 1) := edL_law_576.2.2.1
theorem dL_law_579 : decode cL_law 579 = .ok (.iconst 1, 1) := edL_law_576.2.2.2.1
theorem dL_law_580 : decode cL_law 580 = .ok (.iadd, 1) := edL_law_576.2.2.2.2.1
theorem dL_law_581 : decode cL_law 581 = .ok (.iaload, 1) := edL_law_576.2.2.2.2.2.1
theorem dL_law_582 : decode cL_law 582 = .ok (.invokevirtual 59, 3) := edL_law_576.2.2.2.2.2.2.1
theorem dL_law_585 : decode cL_law 585 = .ok (.pop, 1) := edL_law_576.2.2.2.2.2.2.2.1
theorem dL_law_586 : decode cL_law 586 = .ok (.goto 866, 3) := edL_law_576.2.2.2.2.2.2.2.2.1
theorem dL_law_589 : decode cL_law 589 = .ok (.aload_n 1, 1) := edL_law_576.2.2.2.2.2.2.2.2.2.1
theorem dL_law_590 : decode cL_law 590 = .ok (.aload_n 0, 1) := edL_law_576.2.2.2.2.2.2.2.2.2.2.1
theorem dL_law_591 : decode cL_law 591 = .ok (.iload_n 3, 1) := edL_law_576.2.2.2.2.2.2.2.2.2.2.2.1
theorem dL_law_592 : decode cL_law 592 = .ok (.iconst 1, 1) := edL_law_576.2.2.2.2.2.2.2.2.2.2.2.2.1
theorem dL_law_593 : decode cL_law 593 = .ok (.iadd, 1) := edL_law_576.2.2.2.2.2.2.2.2.2.2.2.2.2.1
theorem dL_law_594 : decode cL_law 594 = .ok (.iaload, 1) := edL_law_576.2.2.2.2.2.2.2.2.2.2.2.2.2.2.1
theorem dL_law_595 : decode cL_law 595 = .ok (.invokevirtual 60, 3) := edL_law_576.2.2.2.2.2.2.2.2.2.2.2.2.2.2.2.1
theorem dL_law_598 : decode cL_law 598 = .ok (.pop, 1) := edL_law_576.2.2.2.2.2.2.2.2.2.2.2.2.2.2.2.2.1
theorem dL_law_599 : decode cL_law 599 = .ok (.aload_n 2, 1) := edL_law_576.2.2.2.2.2.2.2.2.2.2.2.2.2.2.2.2.2.1
theorem dL_law_600 : decode cL_law 600 = .ok (.aload_n 0, 1) := edL_law_576.2.2.2.2.2.2.2.2.2.2.2.2.2.2.2.2.2.2.1
theorem dL_law_601 : decode cL_law 601 = .ok (.iload_n 3, 1) := edL_law_576.2.2.2.2.2.2.2.2.2.2.2.2.2.2.2.2.2.2.2.1
theorem dL_law_602 : decode cL_law 602 = .ok (.iconst 1, 1) := edL_law_576.2.2.2.2.2.2.2.2.2.2.2.2.2.2.2.2.2.2.2.2.1
theorem dL_law_603 : decode cL_law 603 = .ok (.iadd, 1) := edL_law_576.2.2.2.2.2.2.2.2.2.2.2.2.2.2.2.2.2.2.2.2.2.1
theorem dL_law_604 : decode cL_law 604 = .ok (.iaload, 1) := edL_law_576.2.2.2.2.2.2.2.2.2.2.2.2.2.2.2.2.2.2.2.2.2.2.1
theorem dL_law_605 : decode cL_law 605 = .ok (.invokevirtual 63, 3) := edL_law_576.2.2.2.2.2.2.2.2.2.2.2.2.2.2.2.2.2.2.2.2.2.2.2.1
theorem dL_law_608 : decode cL_law 608 = .ok (.pop, 1) := edL_law_576.2.2.2.2.2.2.2.2.2.2.2.2.2.2.2.2.2.2.2.2.2.2.2.2.1
theorem dL_law_609 : decode cL_law 609 = .ok (.goto 843, 3) := edL_law_576.2.2.2.2.2.2.2.2.2.2.2.2.2.2.2.2.2.2.2.2.2.2.2.2.2.1
theorem dL_law_612 : decode cL_law 612 = .ok (.aload_n 1, 1) := edL_law_576.2.2.2.2.2.2.2.2.2.2.2.2.2.2.2.2.2.2.2.2.2.2.2.2.2.2.1
theorem dL_law_613 : decode cL_law 613 = .ok (.aload_n 0, 1) := edL_law_576.2.2.2.2.2.2.2.2.2.2.2.2.2.2.2.2.2.2.2.2.2.2.2.2.2.2.2.1
theorem dL_law_614 : decode cL_law 614 = .ok (.iload_n 3, 1) := edL_law_576.2.2.2.2.2.2.2.2.2.2.2.2.2.2.2.2.2.2.2.2.2.2.2.2.2.2.2.2.1
theorem dL_law_615 : decode cL_law 615 = .ok (.iconst 1, 1) := edL_law_576.2.2.2.2.2.2.2.2.2.2.2.2.2.2.2.2.2.2.2.2.2.2.2.2.2.2.2.2.2.1
theorem dL_law_616 : decode cL_law 616 = .ok (.iadd, 1) := edL_law_576.2.2.2.2.2.2.2.2.2.2.2.2.2.2.2.2.2.2.2.2.2.2.2.2.2.2.2.2.2.2.1
theorem dL_law_617 : decode cL_law 617 = .ok (.iaload, 1) := edL_law_576.2.2.2.2.2.2.2.2.2.2.2.2.2.2.2.2.2.2.2.2.2.2.2.2.2.2.2.2.2.2.2.1
theorem edL_law_618 : (decode cL_law 618 = .ok (.invokevirtual 64, 3)) ∧ (decode cL_law 621 = .ok (.pop, 1)) ∧ (decode cL_law 622 = .ok (.aload_n 2, 1)) ∧ (decode cL_law 623 = .ok (.aload_n 0, 1)) ∧ (decode cL_law 624 = .ok (.iload_n 3, 1)) ∧ (decode cL_law 625 = .ok (.iconst 1, 1)) ∧ (decode cL_law 626 = .ok (.iadd, 1)) ∧ (decode cL_law 627 = .ok (.iaload, 1)) ∧ (decode cL_law 628 = .ok (.invokevirtual 67, 3)) ∧ (decode cL_law 631 = .ok (.pop, 1)) ∧ (decode cL_law 632 = .ok (.goto 820, 3)) ∧ (decode cL_law 635 = .ok (.aload_n 1, 1)) ∧ (decode cL_law 636 = .ok (.invokevirtual 68, 3)) ∧ (decode cL_law 639 = .ok (.pop, 1)) ∧ (decode cL_law 640 = .ok (.aload_n 2, 1)) ∧ (decode cL_law 641 = .ok (.invokevirtual 72, 3)) ∧ (decode cL_law 644 = .ok (.pop, 1)) ∧ (decode cL_law 645 = .ok (.goto 807, 3)) ∧ (decode cL_law 648 = .ok (.aload_n 1, 1)) ∧ (decode cL_law 649 = .ok (.aload_n 0, 1)) ∧ (decode cL_law 650 = .ok (.iload_n 3, 1)) ∧ (decode cL_law 651 = .ok (.iconst 1, 1)) ∧ (decode cL_law 652 = .ok (.iadd, 1)) ∧ (decode cL_law 653 = .ok (.iaload, 1)) ∧ (decode cL_law 654 = .ok (.invokevirtual 73, 3)) ∧ (decode cL_law 657 = .ok (.pop, 1)) ∧ (decode cL_law 658 = .ok (.aload_n 2, 1)) ∧ (decode cL_law 659 = .ok (.aload_n 0, 1)) ∧ (decode cL_law 660 = .ok (.iload_n 3, 1)) ∧ (decode cL_law 661 = .ok (.iconst 1, 1)) ∧ (decode cL_law 662 = .ok (.iadd, 1)) ∧ (decode cL_law 663 = .ok (.iaload, 1)) ∧ True := dc_cj [(618, .invokevirtual 64, 3), (621, .pop, 1), (622, .aload_n 2, 1), (623, .aload_n 0, 1), (624, .iload_n 3, 1), (625, .iconst 1, 1), (626, .iadd, 1), (627, .iaload, 1), (628, .invokevirtual 67, 3), (631, .pop, 1), (632, .goto 820, 3), (635, .aload_n 1, 1), (636, .invokevirtual 68, 3), (639, .pop, 1), (640, .aload_n 2, 1), (641, .invokevirtual 72, 3), (644, .pop, 1), (645, .goto 807, 3), (648, .aload_n 1, 1), (649, .aload_n 0, 1), (650, .iload_n 3, 1), (651, .iconst 1, 1), (652, .iadd, 1), (653, .iaload, 1), (654, .invokevirtual 73, 3), (657, .pop, 1), (658, .aload_n 2, 1), (659, .aload_n 0, 1), (660, .iload_n 3, 1), (661, .iconst 1, 1), (662, .iadd, 1), (663, .iaload, 1)] (by decide +kernel)
theorem dL_law_618 : decode cL_law 618 = .ok (.invokevirtual 64, 3) := edL_law_618.1
theorem dL_law_621 : decode cL_law 621 = .ok (.pop, 1) := edL_law_618.2.1
theorem dL_law_622 : decode cL_law 622 = .ok (.aload_n 2, 1) := edL_law_618.2.2.1
theorem dL_law_623 : decode cL_law 623 = .ok (.aload_n 0, 1) := edL_law_618.2.2.2.1
theorem dL_law_624 : decode cL_law 624 = .ok (.iload_n 3, 1) := edL_law_618.2.2.2.2.1
theorem dL_law_625 : decode cL_law 625 = .ok (.iconst 1, 1) := edL_law_618.2.2.2.2.2.1
theorem dL_law_626 : decode cL_law 626 = .ok (.iadd, 1) := edL_law_618.2.2.2.2.2.2.1
theorem dL_law_627 : decode cL_law 627 = .ok (.iaload, 1) := edL_law_618.2.2.2.2.2.2.2.1
theorem dL_law_628 : decode cL_law 628 = .ok (.invokevirtual 67, 3) := edL_law_618.2.2.2.2.2.2.2.2.1
theorem dL_law_631 : decode cL_law 631 = .ok (.pop, 1) := edL_law_618.2.2.2.2.2.2.2.2.2.1
theorem dL_law_632 : decode cL_law 632 = .ok (.goto 820, 3) := edL_law_618.2.2.2.2.2.2.2.2.2.2.1
theorem dL_law_635 : decode cL_law 635 = .ok (.aload_n 1, 1) := edL_law_618.2.2.2.2.2.2.2.2.2.2.2.1
theorem dL_law_636 : decode cL_law 636 = .ok (.invokevirtual 68, 3) := edL_law_618.2.2.2.2.2.2.2.2.2.2.2.2.1
theorem dL_law_639 : decode cL_law 639 = .ok (.pop, 1) := edL_law_618.2.2.2.2.2.2.2.2.2.2.2.2.2.1
theorem dL_law_640 : decode cL_law 640 = .ok (.aload_n 2, 1) := edL_law_618.2.2.2.2.2.2.2.2.2.2.2.2.2.2.1
theorem dL_law_641 : decode cL_law 641 = .ok (.invokevirtual 72, 3) := edL_law_618.2.2.2.2.2.2.2.2.2.2.2.2.2.2.2.1
theorem dL_law_644 : decode cL_law 644 = .ok (.pop, 1) := edL_law_618.2.2.2.2.2.2.2.2.2.2.2.2.2.2.2.2.1
theorem dL_law_645 : decode cL_law 645 = .ok (.goto 807, 3) := edL_law_618.2.2.2.2.2.2.2.2.2.2.2.2.2.2.2.2.2.1
theorem dL_law_648 : decode cL_law 648 = .ok (.aload_n 1, 1) := edL_law_618.2.2.2.2.2.2.2.2.2.2.2.2.2.2.2.2.2.2.1
theorem dL_law_649 : decode cL_law 649 = .ok (.aload_n 0, 1) := edL_law_618.2.2.2.2.2.2.2.2.2.2.2.2.2.2.2.2.2.2.2.1
theorem dL_law_650 : decode cL_law 650 = .ok (.iload_n 3, 1) := edL_law_618.2.2.2.2.2.2.2.2.2.2.2.2.2.2.2.2.2.2.2.2.1
theorem dL_law_651 : decode cL_law 651 = .ok (.iconst 1, 1) := edL_law_618.2.2.2.2.2.2.2.2.2.2.2.2.2.2.2.2.2.2.2.2.2.1
theorem dL_law_652 : decode cL_law 652 = .ok (.iadd, 1) := edL_law_618.2.2.2.2.2.2.2.2.2.2.2.2.2.2.2.2.2.2.2.2.2.2.1
theorem dL_law_653 : decode cL_law 653 = .ok (.iaload, 1) := edL_law_618.2.2.2.2.2.2.2.2.2.2.2.2.2.2.2.2.2.2.2.2.2.2.2.1
theorem dL_law_654 : decode cL_law 654 = .ok (.invokevirtual 73, 3) := edL_law_618.2.2.2.2.2.2.2.2.2.2.2.2.2.2.2.2.2.2.2.2.2.2.2.2.1
theorem dL_law_657 : decode cL_law 657 = .ok (.pop, 1) := edL_law_618.2.2.2.2.2.2.2.2.2.2.2.2.2.2.2.2.2.2.2.2.2.2.2.2.2.1
theorem dL_law_658 : decode cL_law 658 = .ok (.aload_n 2, 1) := edL_law_618.2.2.2.2.2.2.2.2.2.2.2.2.2.2.2.2.2.2.2.2.2.2.2.2.2.2.1
theorem dL_law_659 : decode cL_law 659 = .ok (.aload_n 0, 1) := edL_law_618.2.2.2.2.2.2.2.2.2.2.2.2.2.2.2.2.2.2.2.2.2.2.2.2.2.2.2.1
theorem dL_law_660 : decode cL_law 660 = .ok (.iload_n 3, 1) := edL_law_618.2.2.2.2.2.2.2.2.2.2.2.2.2.2.2.2.2.2.2.2.2.2.2.2.2.2.2.2.1
theorem dL_law_661 : decode cL_law 661 = .ok (.iconst 1, 1) := edL_law_618.2.2.2.2.2.2.2.2.2.2.2.2.2.2.2.2.2.2.2.2.2.2.2.2.2.2.2.2.2.1
theorem dL_law_662 : decode cL_law 662 = .ok (.iadd, 1) := edL_law_618.2.2.2.2.2.2.2.2.2.2.2.2.2.2.2.2.2.2.2.2.2.2.2.2.2.2.2.2.2.2.1
theorem dL_law_663 : decode cL_law 663 = .ok (.iaload, 1) := edL_law_618.2.2.2.2.2.2.2.2.2.2.2.2.2.2.2.2.2.2.2.2.2.2.2.2.2.2.2.2.2.2.2.1
theorem edL_law_664 : (decode cL_law 664 = .ok (.invokevirtual 76, 3)) ∧ (decode cL_law 667 = .ok (.pop, 1)) ∧ (decode cL_law 668 = .ok (.goto 784, 3)) ∧ (decode cL_law 671 = .ok (.aload_n 1, 1)) ∧ (decode cL_law 672 = .ok (.aload_n 0, 1)) ∧ (decode cL_law 673 = .ok (.iload_n 3, 1)) ∧ (decode cL_law 674 = .ok (.iconst 1, 1)) ∧ (decode cL_law 675 = .ok (.iadd, 1)) ∧ (decode cL_law 676 = .ok (.iaload, 1)) ∧ (decode cL_law 677 = .ok (.aload_n 0, 1)) ∧ (decode cL_law 678 = .ok (.iload_n 3, 1)) ∧ (decode cL_law 679 = .ok (.iconst 2, 1)) ∧ (decode cL_law 680 = .ok (.iadd, 1)) ∧ (decode cL_law 681 = .ok (.iaload, 1)) ∧ (decode cL_law 682 = .ok (.invokevirtual 77, 3)) ∧ (decode cL_law 685 = .ok (.pop, 1)) ∧ (decode cL_law 686 = .ok (.aload_n 2, 1)) ∧ (decode cL_law 687 = .ok (.aload_n 0, 1)) ∧ (decode cL_law 688 = .ok (.iload_n 3, 1)) ∧ (decode cL_law 689 = .ok (.iconst 1, 1)) ∧ (decode cL_law 690 = .ok (.iadd, 1)) ∧ (decode cL_law 691 = .ok (.iaload, 1)) ∧ (decode cL_law 692 = .ok (.aload_n 0, 1)) ∧ (decode cL_law 693 = .ok (.iload_n 3, 1)) ∧ (decode cL_law 694 = .ok (.iconst 2, 1)) ∧ (decode cL_law 695 = .ok (.iadd, 1)) ∧ (decode cL_law 696 = .ok (.iaload, 1)) ∧ (decode cL_law 697 = .ok (.invokevirtual 80, 3)) ∧ (decode cL_law 700 = .ok (.pop, 1)) ∧ (decode cL_law 701 = .ok (.goto 751, 3)) ∧ (decode cL_law 704 = .ok (.aload_n 1, 1)) ∧ (decode cL_law 705 = .ok (.aload_n 0, 1)) ∧ True := dc_cj [(664, .invokevirtual 76, 3), (667, .pop, 1), (668, .goto 784, 3), (671, .aload_n 1, 1), (672, .aload_n 0, 1), (673, .iload_n 3, 1), (674, .iconst 1, 1), (675, .iadd, 1), (676, .iaload, 1), (677, .aload_n 0, 1), (678, .iload_n 3, 1), (679, .iconst 2, 1), (680, .iadd, 1), (681, .iaload, 1), (682, .invokevirtual 77, 3), (685, .pop, 1), (686, .aload_n 2, 1), (687, .aload_n 0, 1), (688, .iload_n 3, 1), (689, .iconst 1, 1), (690, .iadd, 1), (691, .iaload, 1), (692, .aload_n 0, 1), (693, .iload_n 3, 1), (694, .iconst 2, 1), (695, .iadd, 1), (696, .iaload, 1), (697, .invokevirtual 80, 3), (700, .pop, 1), (701, .goto 751, 3), (704, .aload_n 1, 1), (705, .aload_n 0, 1)] (by decide +kernel)
theorem dL_law_664 : decode cL_law 664 = .ok (.invokevirtual 76, 3) := edL_law_664.1
theorem dL_law_667 : decode cL_law 667 = .ok (.pop, 1) := edL_law_664.2.1
theorem dL_law_668 : decode cL_law 668 = .ok (.goto 784, 3) := edL_law_664.2.2.1
theorem dL_law_671 : decode cL_law 671 = .ok (.aload_n 1, 1) := edL_law_664.2.2.2.1
theorem dL_law_672 : decode cL_law 672 = .ok (.aload_n 0, 1) := edL_law_664.2.2.2.2.1
theorem dL_law_673 : decode cL_law 673 = .ok (.iload_n 3, 1) := edL_law_664.2.2.2.2.2.1
theorem dL_law_674 : decode cL_law 674 = .ok (.iconst 1, 1) := edL_law_664.2.2.2.2.2.2.1
theorem dL_law_675 : decode cL_law 675 = .ok (.iadd, 1) := edL_law_664.2.2.2.2.2.2.2.1
theorem dL_law_676 : decode cL_law 676 = .ok (.iaload, 1) := edL_law_664.2.2.2.2.2.2.2.2.1
theorem dL_law_677 : decode cL_law 677 = .ok (.aload_n 0, 1) := edL_law_664.2.2.2.2.2.2.2.2.2.1
theorem dL_law_678 : decode cL_law 678 = .ok (.iload_n 3, 1) := edL_law_664.2.2.2.2.2.2.2.2.2.2.1
theorem dL_law_679 : decode cL_law 679 = .ok (.iconst 2, 1) := edL_law_664.2.2.2.2.2.2.2.2.2.2.2.1
theorem dL_law_680 : decode cL_law 680 = .ok (.iadd, 1) := edL_law_664.2.2.2.2.2.2.2.2.2.2.2.2.1
theorem dL_law_681 : decode cL_law 681 = .ok (.iaload, 1) := edL_law_664.2.2.2.2.2.2.2.2.2.2.2.2.2.1
theorem dL_law_682 : decode cL_law 682 = .ok (.invokevirtual 77, 3) := edL_law_664.2.2.2.2.2.2.2.2.2.2.2.2.2.2.1
theorem dL_law_685 : decode cL_law 685 = .ok (.pop, 1) := edL_law_664.2.2.2.2.2.2.2.2.2.2.2.2.2.2.2.1
theorem dL_law_686 : decode cL_law 686 = .ok (.aload_n 2, 1) := edL_law_664.2.2.2.2.2.2.2.2.2.2.2.2.2.2.2.2.1
theorem dL_law_687 : decode cL_law 687 = .ok (.aload_n 0, 1) := edL_law_664.2.2.2.2.2.2.2.2.2.2.2.2.2.2.2.2.2.1
theorem dL_law_688 : decode cL_law 688 = .ok (.iload_n 3, 1) := edL_law_664.2.2.2.2.2.2.2.2.2.2.2.2.2.2.2.2.2.2.1
theorem dL_law_689 : decode cL_law 689 = .ok (.iconst 1, 1) := edL_law_664.2.2.2.2.2.2.2.2.2.2.2.2.2.2.2.2.2.2.2.1
theorem dL_law_690 : decode cL_law 690 = .ok (.iadd, 1) := edL_law_664.2.2.2.2.2.2.2.2.2.2.2.2.2.2.2.2.2.2.2.2.1
theorem dL_law_691 : decode cL_law 691 = .ok (.iaload, 1) := edL_law_664.2.2.2.2.2.2.2.2.2.2.2.2.2.2.2.2.2.2.2.2.2.1
theorem dL_law_692 : decode cL_law 692 = .ok (.aload_n 0, 1) := edL_law_664.2.2.2.2.2.2.2.2.2.2.2.2.2.2.2.2.2.2.2.2.2.2.1
theorem dL_law_693 : decode cL_law 693 = .ok (.iload_n 3, 1) := edL_law_664.2.2.2.2.2.2.2.2.2.2.2.2.2.2.2.2.2.2.2.2.2.2.2.1
theorem dL_law_694 : decode cL_law 694 = .ok (.iconst 2, 1) := edL_law_664.2.2.2.2.2.2.2.2.2.2.2.2.2.2.2.2.2.2.2.2.2.2.2.2.1
theorem dL_law_695 : decode cL_law 695 = .ok (.iadd, 1) := edL_law_664.2.2.2.2.2.2.2.2.2.2.2.2.2.2.2.2.2.2.2.2.2.2.2.2.2.1
theorem dL_law_696 : decode cL_law 696 = .ok (.iaload, 1) := edL_law_664.2.2.2.2.2.2.2.2.2.2.2.2.2.2.2.2.2.2.2.2.2.2.2.2.2.2.1
theorem dL_law_697 : decode cL_law 697 = .ok (.invokevirtual 80, 3) := edL_law_664.2.2.2.2.2.2.2.2.2.2.2.2.2.2.2.2.2.2.2.2.2.2.2.2.2.2.2.1
theorem dL_law_700 : decode cL_law 700 = .ok (.pop, 1) := edL_law_664.2.2.2.2.2.2.2.2.2.2.2.2.2.2.2.2.2.2.2.2.2.2.2.2.2.2.2.2.1
theorem dL_law_701 : decode cL_law 701 = .ok (.goto 751, 3) := edL_law_664.2.2.2.2.2.2.2.2.2.2.2.2.2.2.2.2.2.2.2.2.2.2.2.2.2.2.2.2.2.1
theorem dL_law_704 : decode cL_law 704 = .ok (.aload_n 1, 1) := edL_law_664.2.2.2.2.2.2.2.2.2.2.2.2.2.2.2.2.2.2.2.2.2.2.2.2.2.2.2.2.2.2.1
theorem dL_law_705 : decode cL_law 705 = .ok (.aload_n 0, 1) := edL_law_664.2.2.2.2.2.2.2.2.2.2.2.2.2.2.2.2.2.2.2.2.2.2.2.2.2.2.2.2.2.2.2.1
theorem edL_law_706 : (decode cL_law 706 = .ok (.iload_n 3, 1)) ∧ (decode cL_law 707 = .ok (.iconst 1, 1)) ∧ (decode cL_law 708 = .ok (.iadd, 1)) ∧ (decode cL_law 709 = .ok (.iaload, 1)) ∧ (decode cL_law 710 = .ok (.invokevirtual 81, 3)) ∧ (decode cL_law 713 = .ok (.pop, 1)) ∧ (decode cL_law 714 = .ok (.aload_n 2, 1)) ∧ (decode cL_law 715 = .ok (.aload_n 0, 1)) ∧ (decode cL_law 716 = .ok (.iload_n 3, 1)) ∧ (decode cL_law 717 = .ok (.iconst 1, 1)) ∧ (decode cL_law 718 = .ok (.iadd, 1)) ∧ (decode cL_law 719 = .ok (.iaload, 1)) ∧ (decode cL_law 720 = .ok (.invokevirtual 84, 3)) ∧ (decode cL_law 723 = .ok (.pop, 1)) ∧ (decode cL_law 724 = .ok (.goto 728, 3)) ∧ (decode cL_law 727 = .ok (.aload_n 1, 1)) ∧ (decode cL_law 728 = .ok (.aload_n 0, 1)) ∧ (decode cL_law 729 = .ok (.iload_n 3, 1)) ∧ (decode cL_law 730 = .ok (.iconst 1, 1)) ∧ (decode cL_law 731 = .ok (.iadd, 1)) ∧ (decode cL_law 732 = .ok (.iaload, 1)) ∧ (decode cL_law 733 = .ok (.invokevirtual 85, 3)) ∧ (decode cL_law 736 = .ok (.pop, 1)) ∧ (decode cL_law 737 = .ok (.aload_n 2, 1)) ∧ (decode cL_law 738 = .ok (.aload_n 0, 1)) ∧ (decode cL_law 739 = .ok (.iload_n 3, 1)) ∧ (decode cL_law 740 = .ok (.iconst 1, 1)) ∧ (decode cL_law 741 = .ok (.iadd, 1)) ∧ (decode cL_law 742 = .ok (.iaload, 1)) ∧ (decode cL_law 743 = .ok (.invokevirtual 88, 3)) ∧ (decode cL_law 746 = .ok (.pop, 1)) ∧ (decode cL_law 747 = .ok (.goto 705, 3)) ∧ True := dc_cj [(706, .iload_n 3, 1), (707, .iconst 1, 1), (708, .iadd, 1), (709, .iaload, 1), (710, .invokevirtual 81, 3), (713, .pop, 1), (714, .aload_n 2, 1), (715, .aload_n 0, 1), (716, .iload_n 3, 1), (717, .iconst 1, 1), (718, .iadd, 1), (719, .iaload, 1), (720, .invokevirtual 84, 3), (723, .pop, 1), (724, .goto 728, 3), (727, .aload_n 1, 1), (728, .aload_n 0, 1), (729, .iload_n 3, 1), (730, .iconst 1, 1), (731, .iadd, 1), (732, .iaload, 1), (733, .invokevirtual 85, 3), (736, .pop, 1), (737, .aload_n 2, 1), (738, .aload_n 0, 1), (739, .iload_n 3, 1), (740, .iconst 1, 1), (741, .iadd, 1), (742, .iaload, 1), (743, .invokevirtual 88, 3), (746, .pop, 1), (747, .goto 705, 3)] (by decide +kernel)
theorem dL_law_706 : decode cL_law 706 = .ok (.iload_n 3, 1) := edL_law_706.1
theorem dL_law_707 : decode cL_law 707 = .ok (.iconst 1, 1) := edL_law_706.2.1
theorem dL_law_708 : decode cL_law 708 = .ok (.iadd, 1) := edL_law_706.2.2.1
theorem dL_law_709 : decode cL_law 709 = .ok (.iaload, 1) := edL_law_706.2.2.2.1
theorem dL_law_710 : decode cL_law 710 = .ok (.invokevirtual 81, 3) := edL_law_706.2.2.2.2.1
theorem dL_law_713 : decode cL_law 713 = .ok (.pop, 1) := edL_law_706.2.2.2.2.2.1
theorem dL_law_714 : decode cL_law 714 = .ok (.aload_n 2, 1) := edL_law_706.2.2.2.2.2.2.1
theorem dL_law_715 : decode cL_law 715 = .ok (.aload_n 0, 1) := edL_law_706.2.2.2.2.2.2.2.1
theorem dL_law_716 : decode cL_law 716 = .ok (.iload_n 3, 1) := edL_law_706.2.2.2.2.2.2.2.2.1
theorem dL_law_717 : decode cL_law 717 = .ok (.iconst 1, 1) := edL_law_706.2.2.2.2.2.2.2.2.2.1
theorem dL_law_718 : decode cL_law 718 = .ok (.iadd, 1) := edL_law_706.2.2.2.2.2.2.2.2.2.2.1
theorem dL_law_719 : decode cL_law 719 = .ok (.iaload, 1) := edL_law_706.2.2.2.2.2.2.2.2.2.2.2.1
theorem dL_law_720 : decode cL_law 720 = .ok (.invokevirtual 84, 3) := edL_law_706.2.2.2.2.2.2.2.2.2.2.2.2.1
theorem dL_law_723 : decode cL_law 723 = .ok (.pop, 1) := edL_law_706.2.2.2.2.2.2.2.2.2.2.2.2.2.1
theorem dL_law_724 : decode cL_law 724 = .ok (.goto 728, 3) := edL_law_706.2.2.2.2.2.2.2.2.2.2.2.2.2.2.1
theorem dL_law_727 : decode cL_law 727 = .ok (.aload_n 1, 1) := edL_law_706.2.2.2.2.2.2.2.2.2.2.2.2.2.2.2.1
theorem dL_law_728 : decode cL_law 728 = .ok (.aload_n 0, 1) := edL_law_706.2.2.2.2.2.2.2.2.2.2.2.2.2.2.2.2.1
theorem dL_law_729 : decode cL_law 729 = .ok (.iload_n 3, 1) := edL_law_706.2.2.2.2.2.2.2.2.2.2.2.2.2.2.2.2.2.1
theorem dL_law_730 : decode cL_law 730 = .ok (.iconst 1, 1) := edL_law_706.2.2.2.2.2.2.2.2.2.2.2.2.2.2.2.2.2.2.1
theorem dL_law_731 : decode cL_law 731 = .ok (.iadd, 1) := edL_law_706.2.2.2.2.2.2.2.2.2.2.2.2.2.2.2.2.2.2.2.1
theorem dL_law_732 : decode cL_law 732 = .ok (.iaload, 1) := edL_law_706.2.2.2.2.2.2.2.2.2.2.2.2.2.2.2.2.2.2.2.2.1
theorem dL_law_733 : decode cL_law 733 = .ok (.invokevirtual 85, 3) := edL_law_706.2.2.2.2.2.2.2.2.2.2.2.2.2.2.2.2.2.2.2.2.2.1
theorem dL_law_736 : decode cL_law 736 = .ok (.pop, 1) := edL_law_706.2.2.2.2.2.2.2.2.2.2.2.2.2.2.2.2.2.2.2.2.2.2.1
theorem dL_law_737 : decode cL_law 737 = .ok (.aload_n 2, 1) := edL_law_706.2.2.2.2.2.2.2.2.2.2.2.2.2.2.2.2.2.2.2.2.2.2.2.1
theorem dL_law_738 : decode cL_law 738 = .ok (.aload_n 0, 1) := edL_law_706.2.2.2.2.2.2.2.2.2.2.2.2.2.2.2.2.2.2.2.2.2.2.2.2.1
theorem dL_law_739 : decode cL_law 739 = .ok (.iload_n 3, 1) := edL_law_706.2.2.2.2.2.2.2.2.2.2.2.2.2.2.2.2.2.2.2.2.2.2.2.2.2.1
theorem dL_law_740 : decode cL_law 740 = .ok (.iconst 1, 1) := edL_law_706.2.2.2.2.2.2.2.2.2.2.2.2.2.2.2.2.2.2.2.2.2.2.2.2.2.2.1
theorem dL_law_741 : decode cL_law 741 = .ok (.iadd, 1) := edL_law_706.2.2.2.2.2.2.2.2.2.2.2.2.2.2.2.2.2.2.2.2.2.2.2.2.2.2.2.1
theorem dL_law_742 : decode cL_law 742 = .ok (.iaload, 1) := edL_law_706.2.2.2.2.2.2.2.2.2.2.2.2.2.2.2.2.2.2.2.2.2.2.2.2.2.2.2.2.1
theorem dL_law_743 : decode cL_law 743 = .ok (.invokevirtual 88, 3) := edL_law_706.2.2.2.2.2.2.2.2.2.2.2.2.2.2.2.2.2.2.2.2.2.2.2.2.2.2.2.2.2.1
theorem dL_law_746 : decode cL_law 746 = .ok (.pop, 1) := edL_law_706.2.2.2.2.2.2.2.2.2.2.2.2.2.2.2.2.2.2.2.2.2.2.2.2.2.2.2.2.2.2.1
theorem dL_law_747 : decode cL_law 747 = .ok (.goto 705, 3) := edL_law_706.2.2.2.2.2.2.2.2.2.2.2.2.2.2.2.2.2.2.2.2.2.2.2.2.2.2.2.2.2.2.2.1
theorem edL_law_750 : (decode cL_law 750 = .ok (.aload_n 1, 1)) ∧ (decode cL_law 751 = .ok (.aload_n 0, 1)) ∧ (decode cL_law 752 = .ok (.iload_n 3, 1)) ∧ (decode cL_law 753 = .ok (.iconst 1, 1)) ∧ (decode cL_law 754 = .ok (.iadd, 1)) ∧ (decode cL_law 755 = .ok (.iaload, 1)) ∧ (decode cL_law 756 = .ok (.invokevirtual 89, 3)) ∧ (decode cL_law 759 = .ok (.pop, 1)) ∧ (decode cL_law 760 = .ok (.aload_n 2, 1)) ∧ (decode cL_law 761 = .ok (.aload_n 0, 1)) ∧ (decode cL_law 762 = .ok (.iload_n 3, 1)) ∧ (decode cL_law 763 = .ok (.iconst 1, 1)) ∧ (decode cL_law 764 = .ok (.iadd, 1)) ∧ (decode cL_law 765 = .ok (.iaload, 1)) ∧ (decode cL_law 766 = .ok (.invokevirtual 92, 3)) ∧ (decode cL_law 769 = .ok (.pop, 1)) ∧ (decode cL_law 770 = .ok (.goto 682, 3)) ∧ (decode cL_law 773 = .ok (.aload_n 1, 1)) ∧ (decode cL_law 774 = .ok (.aload_n 0, 1)) ∧ (decode cL_law 775 = .ok (.iload_n 3, 1)) ∧ (decode cL_law 776 = .ok (.iconst 1, 1)) ∧ (decode cL_law 777 = .ok (.iadd, 1)) ∧ (decode cL_law 778 = .ok (.iaload, 1)) ∧ (decode cL_law 779 = .ok (.aload_n 0, 1)) ∧ (decode cL_law 780 = .ok (.iload_n 3, 1)) ∧ (decode cL_law 781 = .ok (.iconst 2, 1)) ∧ (decode cL_law 782 = .ok (.iadd, 1)) ∧ (decode cL_law 783 = .ok (.iaload, 1)) ∧ (decode cL_law 784 = .ok (.invokevirtual 93, 3)) ∧ (decode cL_law 787 = .ok (.pop, 1)) ∧ (decode cL_law 788 = .ok (.aload_n 2, 1)) ∧ (decode cL_law 789 = .ok (.aload_n 0, 1)) ∧ True := dc_cj [(750, .aload_n 1, 1), (751, .aload_n 0, 1), (752, .iload_n 3, 1), (753, .iconst 1, 1), (754, .iadd, 1), (755, .iaload, 1), (756, .invokevirtual 89, 3), (759, .pop, 1), (760, .aload_n 2, 1), (761, .aload_n 0, 1), (762, .iload_n 3, 1), (763, .iconst 1, 1), (764, .iadd, 1), (765, .iaload, 1), (766, .invokevirtual 92, 3), (769, .pop, 1), (770, .goto 682, 3), (773, .aload_n 1, 1), (774, .aload_n 0, 1), (775, .iload_n 3, 1), (776, .iconst 1, 1), (777, .iadd, 1), (778, .iaload, 1), (779, .aload_n 0, 1), (780, .iload_n 3, 1), (781, .iconst 2, 1), (782, .iadd, 1), (783, .iaload, 1), (784, .invokevirtual 93, 3), (787, .pop, 1), (788, .aload_n 2, 1), (789, .aload_n 0, 1)] (by decide +kernel)
theorem dL_law_750 : decode cL_law 750 = .ok (.aload_n 1, 1) := edL_law_750.1
theorem dL_law_751 : decode cL_law 751 = .ok (.aload_n 0, 1) := edL_law_750.2.1
theorem dL_law_752 : decode cL_law 752 = .ok (.iload_n 3, 1) := edL_law_750.2.2.1
theorem dL_law_753 : decode cL_law 753 = .ok (.iconst 1, 1) := edL_law_750.2.2.2.1
theorem dL_law_754 : decode cL_law 754 = .ok (.iadd, 1) := edL_law_750.2.2.2.2.1
theorem dL_law_755 : decode cL_law 755 = .ok (.iaload, 1) := edL_law_750.2.2.2.2.2.1
theorem dL_law_756 : decode cL_law 756 = .ok (.invokevirtual 89, 3) := edL_law_750.2.2.2.2.2.2.1
theorem dL_law_759 : decode cL_law 759 = .ok (.pop, 1) := edL_law_750.2.2.2.2.2.2.2.1
theorem dL_law_760 : decode cL_law 760 = .ok (.aload_n 2, 1) := edL_law_750.2.2.2.2.2.2.2.2.1
theorem dL_law_761 : decode cL_law 761 = .ok (.aload_n 0, 1) := edL_law_750.2.2.2.2.2.2.2.2.2.1
theorem dL_law_762 : decode cL_law 762 = .ok (.iload_n 3, 1) := edL_law_750.2.2.2.2.2.2.2.2.2.2.1
theorem dL_law_763 : decode cL_law 763 = .ok (.iconst 1, 1) := edL_law_750.2.2.2.2.2.2.2.2.2.2.2.1
theorem dL_law_764 : decode cL_law 764 = .ok (.iadd, 1) := edL_law_750.2.2.2.2.2.2.2.2.2.2.2.2.1
theorem dL_law_765 : decode cL_law 765 = .ok (.iaload, 1) := edL_law_750.2.2.2.2.2.2.2.2.2.2.2.2.2.1
theorem dL_law_766 : decode cL_law 766 = .ok (.invokevirtual 92, 3) := edL_law_750.2.2.2.2.2.2.2.2.2.2.2.2.2.2.1
theorem dL_law_769 : decode cL_law 769 = .ok (.pop, 1) := edL_law_750.2.2.2.2.2.2.2.2.2.2.2.2.2.2.2.1
theorem dL_law_770 : decode cL_law 770 = .ok (.goto 682, 3) := edL_law_750.2.2.2.2.2.2.2.2.2.2.2.2.2.2.2.2.1
theorem dL_law_773 : decode cL_law 773 = .ok (.aload_n 1, 1) := edL_law_750.2.2.2.2.2.2.2.2.2.2.2.2.2.2.2.2.2.1
theorem dL_law_774 : decode cL_law 774 = .ok (.aload_n 0, 1) := edL_law_750.2.2.2.2.2.2.2.2.2.2.2.2.2.2.2.2.2.2.1
theorem dL_law_775 : decode cL_law 775 = .ok (.iload_n 3, 1) := edL_law_750.2.2.2.2.2.2.2.2.2.2.2.2.2.2.2.2.2.2.2.1
theorem dL_law_776 : decode cL_law 776 = .ok (.iconst 1, 1) := edL_law_750.2.2.2.2.2.2.2.2.2.2.2.2.2.2.2.2.2.2.2.2.1
theorem dL_law_777 : decode cL_law 777 = .ok (.iadd, 1) := edL_law_750.2.2.2.2.2.2.2.2.2.2.2.2.2.2.2.2.2.2.2.2.2.1
theorem dL_law_778 : decode cL_law 778 = .ok (.iaload, 1) := edL_law_750.2.2.2.2.2.2.2.2.2.2.2.2.2.2.2.2.2.2.2.2.2.2.1
theorem dL_law_779 : decode cL_law 779 = .ok (.aload_n 0, 1) := edL_law_750.2.2.2.2.2.2.2.2.2.2.2.2.2.2.2.2.2.2.2.2.2.2.2.1
theorem dL_law_780 : decode cL_law 780 = .ok (.iload_n 3, 1) := edL_law_750.2.2.2.2.2.2.2.2.2.2.2.2.2.2.2.2.2.2.2.2.2.2.2.2.1
theorem dL_law_781 : decode cL_law 781 = .ok (.iconst 2, 1) := edL_law_750.2.2.2.2.2.2.2.2.2.2.2.2.2.2.2.2.2.2.2.2.2.2.2.2.2.1
theorem dL_law_782 : decode cL_law 782 = .ok (.iadd, 1) := edL_law_750.2.2.2.2.2.2.2.2.2.2.2.2.2.2.2.2.2.2.2.2.2.2.2.2.2.2.1
theorem dL_law_783 : decode cL_law 783 = .ok (.iaload, 1) := edL_law_750.2.2.2.2.2.2.2.2.2.2.2.2.2.2.2.2.2.2.2.2.2.2.2.2.2.2.2.1
theorem dL_law_784 : decode cL_law 784 = .ok (.invokevirtual 93, 3) := edL_law_750.2.2.2.2.2.2.2.2.2.2.2.2.2.2.2.2.2.2.2.2.2.2.2.2.2.2.2.2.1
theorem dL_law_787 : decode cL_law 787 = .ok (.pop, 1) := edL_law_750.2.2.2.2.2.2.2.2.2.2.2.2.2.2.2.2.2.2.2.2.2.2.2.2.2.2.2.2.2.1
theorem dL_law_788 : decode cL_law 788 = .ok (.aload_n 2, 1) := edL_law_750.2.2.2.2.2.2.2.2.2.2.2.2.2.2.2.2.2.2.2.2.2.2.2.2.2.2.2.2.2.2.1
theorem dL_law_789 : decode cL_law 789 = .ok (.aload_n 0, 1) := edL_law_750.2.2.2.2.2.2.2.2.2.2.2.2.2.2.2.2.2.2.2.2.2.2.2.2.2.2.2.2.2.2.2.1
theorem edL_law_790 : (decode cL_law 790 = .ok (.iload_n 3, 1)) ∧ (decode cL_law 791 = .ok (.iconst 1, 1)) ∧ (decode cL_law 792 = .ok (.iadd, 1)) ∧ (decode cL_law 793 = .ok (.iaload, 1)) ∧ (decode cL_law 794 = .ok (.aload_n 0, 1)) ∧ (decode cL_law 795 = .ok (.iload_n 3, 1)) ∧ (decode cL_law 796 = .ok (.iconst 2, 1)) ∧ (decode cL_law 797 = .ok (.iadd, 1)) ∧ (decode cL_law 798 = .ok (.iaload, 1)) ∧ (decode cL_law 799 = .ok (.invokevirtual 96, 3)) ∧ (decode cL_law 802 = .ok (.pop, 1)) ∧ (decode cL_law 803 = .ok (.goto 649, 3)) ∧ (decode cL_law 806 = .ok (.aload_n 1, 1)) ∧ (decode cL_law 807 = .ok (.aload_n 0, 1)) ∧ (decode cL_law 808 = .ok (.iload_n 3, 1)) ∧ (decode cL_law 809 = .ok (.iconst 1, 1)) ∧ (decode cL_law 810 = .ok (.iadd, 1)) ∧ (decode cL_law 811 = .ok (.iaload, 1)) ∧ (decode cL_law 812 = .ok (.aload_n 0, 1)) ∧ (decode cL_law 813 = .ok (.iload_n 3, 1)) ∧ (decode cL_law 814 = .ok (.iconst 2, 1)) ∧ (decode cL_law 815 = .ok (.iadd, 1)) ∧ (decode cL_law 816 = .ok (.iaload, 1)) ∧ (decode cL_law 817 = .ok (.aload_n 0, 1)) ∧ (decode cL_law 818 = .ok (.iload_n 3, 1)) ∧ (decode cL_law 819 = .ok (.iconst 3, 1)) ∧ (decode cL_law 820 = .ok (.iadd, 1)) ∧ (decode cL_law 821 = .ok (.iaload, 1)) ∧ (decode cL_law 822 = .ok (.invokevirtual 97, 3)) ∧ (decode cL_law 825 = .ok (.pop, 1)) ∧ (decode cL_law 826 = .ok (.aload_n 2, 1)) ∧ (decode cL_law 827 = .ok (.aload_n 0, 1)) ∧ True := dc_cj [(790, .iload_n 3, 1), (791, .iconst 1, 1), (792, .iadd, 1), (793, .iaload, 1), (794, .aload_n 0, 1), (795, .iload_n 3, 1), (796, .iconst 2, 1), (797, .iadd, 1), (798, .iaload, 1), (799, .invokevirtual 96, 3), (802, .pop, 1), (803, .goto 649, 3), (806, .aload_n 1, 1), (807, .aload_n 0, 1), (808, .iload_n 3, 1), (809, .iconst 1, 1), (810, .iadd, 1), (811, .iaload, 1), (812, .aload_n 0, 1), (813, .iload_n 3, 1), (814, .iconst 2, 1), (815, .iadd, 1), (816, .iaload, 1), (817, .aload_n 0, 1), (818, .iload_n 3, 1), (819, .iconst 3, 1), (820, .iadd, 1), (821, .iaload, 1), (822, .invokevirtual 97, 3), (825, .pop, 1), (826, .aload_n 2, 1), (827, .aload_n 0, 1)] (by decide +kernel)
theorem dL_law_790 : decode cL_law 790 = .ok (.iload_n 3, 1) := edL_law_790.1
theorem dL_law_791 : decode cL_law 791 = .ok (.iconst 1, 1) := edL_law_790.2.1
theorem dL_law_792 : decode cL_law 792 = .ok (.iadd, 1) := edL_law_790.2.2.1
theorem dL_law_793 : decode cL_law 793 = .ok (.iaload, 1) := edL_law_790.2.2.2.1
theorem dL_law_794 : decode cL_law 794 = .ok (.aload_n 0, 1) := edL_law_790.2.2.2.2.1
theorem dL_law_795 : decode cL_law 795 = .ok (.iload_n 3, 1) := edL_law_790.2.2.2.2.2.1
theorem dL_law_796 : decode cL_law 796 = .ok (.iconst 2, 1) := edL_law_790.2.2.2.2.2.2.1
theorem dL_law_797 : decode cL_law 797 = .ok (.iadd, 1) := edL_law_790.2.2.2.2.2.2.2.1
theorem dL_law_798 : decode cL_law 798 = .ok (.iaload, 1) := edL_law_790.2.2.2.2.2.2.2.2.1
theorem dL_law_799 : decode cL_law 799 = .ok (.invokevirtual 96, 3) := edL_law_790.2.2.2.2.2.2.2.2.2.1
theorem dL_law_802 : decode cL_law 802 = .ok (.pop, 1) := edL_law_790.2.2.2.2.2.2.2.2.2.2.1
theorem dL_law_803 : decode cL_law 803 = .ok (.goto 649, 3) := edL_law_790.2.2.2.2.2.2.2.2.2.2.2.1
theorem dL_law_806 : decode cL_law 806 = .ok (.aload_n 1, 1) := edL_law_790.2.2.2.2.2.2.2.2.2.2.2.2.1
theorem dL_law_807 : decode cL_law 807 = .ok (.aload_n 0, 1) := edL_law_790.2.2.2.2.2.2.2.2.2.2.2.2.2.1
theorem dL_law_808 : decode cL_law 808 = .ok (.iload_n 3, 1) := edL_law_790.2.2.2.2.2.2.2.2.2.2.2.2.2.2.1
theorem dL_law_809 : decode cL_law 809 = .ok (.iconst 1, 1) := edL_law_790.2.2.2.2.2.2.2.2.2.2.2.2.2.2.2.1
theorem dL_law_810 : decode cL_law 810 = .ok (.iadd, 1) := edL_law_790.2.2.2.2.2.2.2.2.2.2.2.2.2.2.2.2.1
theorem dL_law_811 : decode cL_law 811 = .ok (.iaload, 1) := edL_law_790.2.2.2.2.2.2.2.2.2.2.2.2.2.2.2.2.2.1
theorem dL_law_812 : decode cL_law 812 = .ok (.aload_n 0, 1) := edL_law_790.2.2.2.2.2.2.2.2.2.2.2.2.2.2.2.2.2.2.1
theorem dL_law_813 : decode cL_law 813 = .ok (.iload_n 3, 1) := edL_law_790.2.2.2.2.2.2.2.2.2.2.2.2.2.2.2.2.2.2.2.1
theorem dL_law_814 : decode cL_law 814 = .ok (.iconst 2, 1) := edL_law_790.2.2.2.2.2.2.2.2.2.2.2.2.2.2.2.2.2.2.2.2.1
theorem dL_law_815 : decode cL_law 815 = .ok (.iadd, 1) := edL_law_790.2.2.2.2.2.2.2.2.2.2.2.2.2.2.2.2.2.2.2.2.2.1
theorem dL_law_816 : decode cL_law 816 = .ok (.iaload, 1) := edL_law_790.2.2.2.2.2.2.2.2.2.2.2.2.2.2.2.2.2.2.2.2.2.2.1
theorem dL_law_817 : decode cL_law 817 = .ok (.aload_n 0, 1) := edL_law_790.2.2.2.2.2.2.2.2.2.2.2.2.2.2.2.2.2.2.2.2.2.2.2.1
theorem dL_law_818 : decode cL_law 818 = .ok (.iload_n 3, 1) := edL_law_790.2.2.2.2.2.2.2.2.2.2.2.2.2.2.2.2.2.2.2.2.2.2.2.2.1
theorem dL_law_819 : decode cL_law 819 = .ok (.iconst 3, 1) := edL_law_790.2.2.2.2.2.2.2.2.2.2.2.2.2.2.2.2.2.2.2.2.2.2.2.2.2.1
theorem dL_law_820 : decode cL_law 820 = .ok (.iadd, 1) := edL_law_790.2.2.2.2.2.2.2.2.2.2.2.2.2.2.2.2.2.2.2.2.2.2.2.2.2.2.1
theorem dL_law_821 : decode cL_law 821 = .ok (.iaload, 1) := edL_law_790.2.2.2.2.2.2.2.2.2.2.2.2.2.2.2.2.2.2.2.2.2.2.2.2.2.2.2.1
theorem dL_law_822 : decode cL_law 822 = .ok (.invokevirtual 97, 3) := edL_law_790.2.2.2.2.2.2.2.2.2.2.2.2.2.2.2.2.2.2.2.2.2.2.2.2.2.2.2.2.1
theorem dL_law_825 : decode cL_law 825 = .ok (.pop, 1) := edL_law_790.2.2.2.2.2.2.2.2.2.2.2.2.2.2.2.2.2.2.2.2.2.2.2.2.2.2.2.2.2.1
theorem dL_law_826 : decode cL_law 826 = .ok (.aload_n 2, 1) := edL_law_790.2.2.2.2.2.2.2.2.2.2.2.2.2.2.2.2.2.2.2.2.2.2.2.2.2.2.2.2.2.2.1
theorem dL_law_827 : decode cL_law 827 = .ok (.aload_n 0, 1) := edL_law_790.2.2.2.2.2.2.2.2.2.2.2.2.2.2.2.2.2.2.2.2.2.2.2.2.2.2.2.2.2.2.2.1
theorem edL_law_828 : (decode cL_law 828 = .ok (.iload_n 3, 1)) ∧ (decode cL_law 829 = .ok (.iconst 1, 1)) ∧ (decode cL_law 830 = .ok (.iadd, 1)) ∧ (decode cL_law 831 = .ok (.iaload, 1)) ∧ (decode cL_law 832 = .ok (.aload_n 0, 1)) ∧ (decode cL_law 833 = .ok (.iload_n 3, 1)) ∧ (decode cL_law 834 = .ok (.iconst 2, 1)) ∧ (decode cL_law 835 = .ok (.iadd, 1)) ∧ (decode cL_law 836 = .ok (.iaload, 1)) ∧ (decode cL_law 837 = .ok (.aload_n 0, 1)) ∧ (decode cL_law 838 = .ok (.iload_n 3, 1)) ∧ (decode cL_law 839 = .ok (.iconst 3, 1)) ∧ (decode cL_law 840 = .ok (.iadd, 1)) ∧ (decode cL_law 841 = .ok (.iaload, 1)) ∧ (decode cL_law 842 = .ok (.invokevirtual 100, 3)) ∧ (decode cL_law 845 = .ok (.pop, 1)) ∧ (decode cL_law 846 = .ok (.goto 606, 3)) ∧ (decode cL_law 849 = .ok (.aload_n 1, 1)) ∧ (decode cL_law 850 = .ok (.invokevirtual 101, 3)) ∧ (decode cL_law 853 = .ok (.pop, 1)) ∧ (decode cL_law 854 = .ok (.aload_n 2, 1)) ∧ (decode cL_law 855 = .ok (.invokevirtual 104, 3)) ∧ (decode cL_law 858 = .ok (.pop, 1)) ∧ (decode cL_law 859 = .ok (.goto 593, 3)) ∧ (decode cL_law 862 = .ok (.aload_n 1, 1)) ∧ (decode cL_law 863 = .ok (.aload_n 0, 1)) ∧ (decode cL_law 864 = .ok (.iload_n 3, 1)) ∧ (decode cL_law 865 = .ok (.iconst 1, 1)) ∧ (decode cL_law 866 = .ok (.iadd, 1)) ∧ (decode cL_law 867 = .ok (.iaload, 1)) ∧ (decode cL_law 868 = .ok (.invokevirtual 105, 3)) ∧ (decode cL_law 871 = .ok (.pop, 1)) ∧ True := dc_cj [(828, .iload_n 3, 1), (829, .iconst 1, 1), (830, .iadd, 1), (831, .iaload, 1), (832, .aload_n 0, 1), (833, .iload_n 3, 1), (834, .iconst 2, 1), (835, .iadd, 1), (836, .iaload, 1), (837, .aload_n 0, 1), (838, .iload_n 3, 1), (839, .iconst 3, 1), (840, .iadd, 1), (841, .iaload, 1), (842, .invokevirtual 100, 3), (845, .pop, 1), (846, .goto 606, 3), (849, .aload_n 1, 1), (850, .invokevirtual 101, 3), (853, .pop, 1), (854, .aload_n 2, 1), (855, .invokevirtual 104, 3), (858, .pop, 1), (859, .goto 593, 3), (862, .aload_n 1, 1), (863, .aload_n 0, 1), (864, .iload_n 3, 1), (865, .iconst 1, 1), (866, .iadd, 1), (867, .iaload, 1), (868, .invokevirtual 105, 3), (871, .pop, 1)] (by decide +kernel)
theorem dL_law_828 : decode cL_law 828 = .ok (.iload_n 3, 1) := edL_law_828.1
theorem dL_law_829 : decode cL_law 829 = .ok (.iconst 1, 1) := edL_law_828.2.1
theorem dL_law_830 : decode cL_law 830 = .ok (.iadd, 1) := edL_law_828.2.2.1
theorem dL_law_831 : decode cL_law 831 = .ok (.iaload, 1) := edL_law_828.2.2.2.1
theorem dL_law_832 : decode cL_law 832 = .ok (.aload_n 0, 1) := edL_law_828.2.2.2.2.1
theorem dL_law_833 : decode cL_law 833 = .ok (.iload_n 3, 1) := edL_law_828.2.2.2.2.2.1
theorem dL_law_834 : decode cL_law 834 = .ok (.iconst 2, 1) := edL_law_828.2.2.2.2.2.2.1
theorem dL_law_835 : decode cL_law 835 = .ok (.iadd, 1) := edL_law_828.2.2.2.2.2.2.2.1
theorem dL_law_836 : decode cL_law 836 = .ok (.iaload, 1) := edL_law_828.2.2.2.2.2.2.2.2.1
theorem dL_law_837 : decode cL_law 837 = .ok (.aload_n 0, 1) := edL_law_828.2.2.2.2.2.2.2.2.2.1
theorem dL_law_838 : decode cL_law 838 = .ok (.iload_n 3, 1) := edL_law_828.2.2.2.2.2.2.2.2.2.2.1
theorem dL_law_839 : decode cL_law 839 = .ok (.iconst 3, 1) := edL_law_828.2.2.2.2.2.2.2.2.2.2.2.1
theorem dL_law_840 : decode cL_law 840 = .ok (.iadd, 1) := edL_law_828.2.2.2.2.2.2.2.2.2.2.2.2.1
theorem dL_law_841 : decode cL_law 841 = .ok (.iaload, 1) := edL_law_828.2.2.2.2.2.2.2.2.2.2.2.2.2.1
theorem dL_law_842 : decode cL_law 842 = .ok (.invokevirtual 100, 3) := edL_law_828.2.2.2.2.2.2.2.2.2.2.2.2.2.2.1
theorem dL_law_845 : decode cL_law 845 = .ok (.pop, 1) := edL_law_828.2.2.2.2.2.2.2.2.2.2.2.2.2.2.2.1
theorem dL_law_846 : decode cL_law 846 = .ok (.goto 606, 3) := edL_law_828.2.2.2.2.2.2.2.2.2.2.2.2.2.2.2.2.1
theorem dL_law_849 : decode cL_law 849 = .ok (.aload_n 1, 1) := edL_law_828.2.2.2.2.2.2.2.2.2.2.2.2.2.2.2.2.2.1
theorem dL_law_850 : decode cL_law 850 = .ok (.invokevirtual 101, 3) := edL_law_828.2.2.2.2.2.2.2.2.2.2.2.2.2.2.2.2.2.2.1
theorem dL_law_853 : decode cL_law 853 = .ok (.pop, 1) := edL_law_828.2.2.2.2.2.2.2.2.2.2.2.2.2.2.2.2.2.2.2.1
theorem dL_law_854 : decode cL_law 854 = .ok (.aload_n 2, 1) := edL_law_828.2.2.2.2.2.2.2.2.2.2.2.2.2.2.2.2.2.2.2.2.1
theorem dL_law_855 : decode cL_law 855 = .ok (.invokevirtual 104, 3) := edL_law_828.2.2.2.2.2.2.2.2.2.2.2.2.2.2.2.2.2.2.2.2.2.1
theorem dL_law_858 : decode cL_law 858 = .ok (.pop, 1) := edL_law_828.2.2.2.2.2.2.2.2.2.2.2.2.2.2.2.2.2.2.2.2.2.2.1
theorem dL_law_859 : decode cL_law 859 = .ok (.goto 593, 3) := edL_law_828.2.2.2.2.2.2.2.2.2.2.2.2.2.2.2.2.2.2.2.2.2.2.2.1
theorem dL_law_862 : decode cL_law 862 = .ok (.aload_n 1, 1) := edL_law_828.2.2.2.2.2.2.2.2.2.2.2.2.2.2.2.2.2.2.2.2.2.2.2.2.1
theorem dL_law_863 : decode cL_law 863 = .ok (.aload_n 0, 1) := edL_law_828.2.2.2.2.2.2.2.2.2.2.2.2.2.2.2.2.2.2.2.2.2.2.2.2.2.1
theorem dL_law_864 : decode cL_law 864 = .ok (.iload_n 3, 1) := edL_law_828.2.2.2.2.2.2.2.2.2.2.2.2.2.2.2.2.2.2.2.2.2.2.2.2.2.2.1
theorem dL_law_865 : decode cL_law 865 = .ok (.iconst 1, 1) := edL_law_828.2.2.2.2.2.2.2.2.2.2.2.2.2.2.2.2.2.2.2.2.2.2.2.2.2.2.2.1
theorem dL_law_866 : decode cL_law 866 = .ok (.iadd, 1) := edL_law_828.2.2.2.2.2.2.2.2.2.2.2.2.2.2.2.2.2.2.2.2.2.2.2.2.2.2.2.2.1
theorem dL_law_867 : decode cL_law 867 = .ok (.iaload, 1) := edL_law_828.2.2.2.2.2.2.2.2.2.2.2.2.2.2.2.2.2.2.2.2.2.2.2.2.2.2.2.2.2.1
theorem dL_law_868 : decode cL_law 868 = .ok (.invokevirtual 105, 3) := edL_law_828.2.2.2.2.2.2.2.2.2.2.2.2.2.2.2.2.2.2.2.2.2.2.2.2.2.2.2.2.2.2.1
theorem dL_law_871 : decode cL_law 871 = .ok (.pop, 1) := edL_law_828.2.2.2.2.2.2.2.2.2.2.2.2.2.2.2.2.2.2.2.2.2.2.2.2.2.2.2.2.2.2.2.1
theorem edL_law_872 : (decode cL_law 872 = .ok (.aload_n 2, 1)) ∧ (decode cL_law 873 = .ok (.aload_n 0, 1)) ∧ (decode cL_law 874 = .ok (.iload_n 3, 1)) ∧ (decode cL_law 875 = .ok (.iconst 1, 1)) ∧ (decode cL_law 876 = .ok (.iadd, 1)) ∧ (decode cL_law 877 = .ok (.iaload, 1)) ∧ (decode cL_law 878 = .ok (.invokevirtual 108, 3)) ∧ (decode cL_law 881 = .ok (.pop, 1)) ∧ (decode cL_law 882 = .ok (.goto 570, 3)) ∧ (decode cL_law 885 = .ok (.aload_n 1, 1)) ∧ (decode cL_law 886 = .ok (.aload_n 0, 1)) ∧ (decode cL_law 887 = .ok (.iload_n 3, 1)) ∧ (decode cL_law 888 = .ok (.iconst 1, 1)) ∧ (decode cL_law 889 = .ok (.iadd, 1)) ∧ (decode cL_law 890 = .ok (.iaload, 1)) ∧ (decode cL_law 891 = .ok (.aload_n 0, 1)) ∧ (decode cL_law 892 = .ok (.iload_n 3, 1)) ∧ (decode cL_law 893 = .ok (.iconst 2, 1)) ∧ (decode cL_law 894 = .ok (.iadd, 1)) ∧ (decode cL_law 895 = .ok (.iaload, 1)) ∧ (decode cL_law 896 = .ok (.aload_n 0, 1)) ∧ (decode cL_law 897 = .ok (.iload_n 3, 1)) ∧ (decode cL_law 898 = .ok (.iconst 3, 1)) ∧ (decode cL_law 899 = .ok (.iadd, 1)) ∧ (decode cL_law 900 = .ok (.iaload, 1)) ∧ (decode cL_law 901 = .ok (.invokevirtual 109, 3)) ∧ (decode cL_law 904 = .ok (.pop, 1)) ∧ (decode cL_law 905 = .ok (.aload_n 2, 1)) ∧ (decode cL_law 906 = .ok (.aload_n 0, 1)) ∧ (decode cL_law 907 = .ok (.iload_n 3, 1)) ∧ (decode cL_law 908 = .ok (.iconst 1, 1)) ∧ (decode cL_law 909 = .ok (.iadd, 1)) ∧ True := dc_cj [(872, .aload_n 2, 1), (873, .aload_n 0, 1), (874, .iload_n 3, 1), (875, .iconst 1, 1), (876, .iadd, 1), (877, .iaload, 1), (878, .invokevirtual 108, 3), (881, .pop, 1), (882, .goto 570, 3), (885, .aload_n 1, 1), (886, .aload_n 0, 1), (887, .iload_n 3, 1), (888, .iconst 1, 1), (889, .iadd, 1), (890, .iaload, 1), (891, .aload_n 0, 1), (892, .iload_n 3, 1), (893, .iconst 2, 1), (894, .iadd, 1), (895, .iaload, 1), (896, .aload_n 0, 1), (897, .iload_n 3, 1), (898, .iconst 3, 1), (899, .iadd, 1), (900, .iaload, 1), (901, .invokevirtual 109, 3), (904, .pop, 1), (905, .aload_n 2, 1), (906, .aload_n 0, 1), (907, .iload_n 3, 1), (908, .iconst 1, 1), (909, .iadd, 1)] (by decide +kernel)
theorem dL_law_872 : decode cL_law 872 = .ok (.aload_n 2, 1) := edL_law_872.1
theorem dL_law_873 : decode cL_law 873 = .ok (.aload_n 0, 1) := edL_law_872.2.1
theorem dL_law_874 : decode cL_law 874 = .ok (.iload_n 3, 1) := edL_law_872.2.2.1
theorem dL_law_875 : decode cL_law 875 = .ok (.iconst 1, 1) := edL_law_872.2.2.2.1
theorem dL_law_876 : decode cL_law 876 = .ok (.iadd, 1) := edL_law_872.2.2.2.2.1
theorem dL_law_877 : decode cL_law 877 = .ok (.iaload, 1) := edL_law_872.2.2.2.2.2.1
theorem dL_law_878 : decode cL_law 878 = .ok (.invokevirtual 108, 3) := edL_law_872.2.2.2.2.2.2.1
theorem dL_law_881 : decode cL_law 881 = .ok (.pop, 1) := edL_law_872.2.2.2.2.2.2.2.1
theorem dL_law_882 : decode cL_law 882 = .ok (.goto 570, 3) := edL_law_872.2.2.2.2.2.2.2.2.1
theorem dL_law_885 : decode cL_law 885 = .ok (.aload_n 1, 1) := edL_law_872.2.2.2.2.2.2.2.2.2.1
theorem dL_law_886 : decode cL_law 886 = .ok (.aload_n 0, 1) := edL_law_872.2.2.2.2.2.2.2.2.2.2.1
theorem dL_law_887 : decode cL_law 887 = .ok (.iload_n 3, 1) := edL_law_872.2.2.2.2.2.2.2.2.2.2.2.1
theorem dL_law_888 : decode cL_law 888 = .ok (.iconst 1, 1) := edL_law_872.2.2.2.2.2.2.2.2.2.2.2.2.1
theorem dL_law_889 : decode cL_law 889 = .ok (.iadd, 1) := edL_law_872.2.2.2.2.2.2.2.2.2.2.2.2.2.1
theorem dL_law_890 : decode cL_law 890 = .ok (.iaload, 1) := edL_law_872.2.2.2.2.2.2.2.2.2.2.2.2.2.2.1
theorem dL_law_891 : decode cL_law 891 = .ok (.aload_n 0, 1) := edL_law_872.2.2.2.2.2.2.2.2.2.2.2.2.2.2.2.1
theorem dL_law_892 : decode cL_law 892 = .ok (.iload_n 3, 1) := edL_law_872.2.2.2.2.2.2.2.2.2.2.2.2.2.2.2.2.1
theorem dL_law_893 : decode cL_law 893 = .ok (.iconst 2, 1) := edL_law_872.2.2.2.2.2.2.2.2.2.2.2.2.2.2.2.2.2.1
theorem dL_law_894 : decode cL_law 894 = .ok (.iadd, 1) := edL_law_872.2.2.2.2.2.2.2.2.2.2.2.2.2.2.2.2.2.2.1
theorem dL_law_895 : decode cL_law 895 = .ok (.iaload, 1) := edL_law_872.2.2.2.2.2.2.2.2.2.2.2.2.2.2.2.2.2.2.2.1
theorem dL_law_896 : decode cL_law 896 = .ok (.aload_n 0, 1) := edL_law_872.2.2.2.2.2.2.2.2.2.2.2.2.2.2.2.2.2.2.2.2.1
theorem dL_law_897 : decode cL_law 897 = .ok (.iload_n 3, 1) := edL_law_872.2.2.2.2.2.2.2.2.2.2.2.2.2.2.2.2.2.2.2.2.2.1
theorem dL_law_898 : decode cL_law 898 = .ok (.iconst 3, 1) := edL_law_872.2.2.2.2.2.2.2.2.2.2.2.2.2.2.2.2.2.2.2.2.2.2.1
theorem dL_law_899 : decode cL_law 899 = .ok (.iadd, 1) := edL_law_872.2.2.2.2.2.2.2.2.2.2.2.2.2.2.2.2.2.2.2.2.2.2.2.1
theorem dL_law_900 : decode cL_law 900 = .ok (.iaload, 1) := edL_law_872.2.2.2.2.2.2.2.2.2.2.2.2.2.2.2.2.2.2.2.2.2.2.2.2.1
theorem dL_law_901 : decode cL_law 901 = .ok (.invokevirtual 109, 3) := edL_law_872.2.2.2.2.2.2.2.2.2.2.2.2.2.2.2.2.2.2.2.2.2.2.2.2.2.1
theorem dL_law_904 : decode cL_law 904 = .ok (.pop, 1) := edL_law_872.2.2.2.2.2.2.2.2.2.2.2.2.2.2.2.2.2.2.2.2.2.2.2.2.2.2.1
theorem dL_law_905 : decode cL_law 905 = .ok (.aload_n 2, 1) := edL_law_872.2.2.2.2.2.2.2.2.2.2.2.2.2.2.2.2.2.2.2.2.2.2.2.2.2.2.2.1
theorem dL_law_906 : decode cL_law 906 = .ok (.aload_n 0, 1) := edL_law_872.2.2.2.2.2.2.2.2.2.2.2.2.2.2.2.2.2.2.2.2.2.2.2.2.2.2.2.2.1
theorem dL_law_907 : decode cL_law 907 = .ok (.iload_n 3, 1) := edL_law_872.2.2.2.2.2.2.2.2.2.2.2.2.2.2.2.2.2.2.2.2.2.2.2.2.2.2.2.2.2.1
theorem dL_law_908 : decode cL_law 908 = .ok (.iconst 1, 1) := edL_law_872.2.2.2.2.2.2.2.2.2.2.2.2.2.2.2.2.2.2.2.2.2.2.2.2.2.2.2.2.2.2.1
theorem dL_law_909 : decode cL_law 909 = .ok (.iadd, 1) := edL_law_872.2.2.2.2.2.2.2.2.2.2.2.2.2.2.2.2.2.2.2.2.2.2.2.2.2.2.2.2.2.2.2.1
theorem edL_law_910 : (decode cL_law 910 = .ok (.iaload, 1)) ∧ (decode cL_law 911 = .ok (.aload_n 0, 1)) ∧ (decode cL_law 912 = .ok (.iload_n 3, 1)) ∧ (decode cL_law 913 = .ok (.iconst 2, 1)) ∧ (decode cL_law 914 = .ok (.iadd, 1)) ∧ (decode cL_law 915 = .ok (.iaload, 1)) ∧ (decode cL_law 916 = .ok (.aload_n 0, 1)) ∧ (decode cL_law 917 = .ok (.iload_n 3, 1)) ∧ (decode cL_law 918 = .ok (.iconst 3, 1)) ∧ (decode cL_law 919 = .ok (.iadd, 1)) ∧ (decode cL_law 920 = .ok (.iaload, 1)) ∧ (decode cL_law 921 = .ok (.invokevirtual 112, 3)) ∧ (decode cL_law 924 = .ok (.pop, 1)) ∧ (decode cL_law 925 = .ok (.goto 527, 3)) ∧ (decode cL_law 928 = .ok (.aload_n 1, 1)) ∧ (decode cL_law 929 = .ok (.aload_n 0, 1)) ∧ (decode cL_law 930 = .ok (.iload_n 3, 1)) ∧ (decode cL_law 931 = .ok (.iconst 1, 1)) ∧ (decode cL_law 932 = .ok (.iadd, 1)) ∧ (decode cL_law 933 = .ok (.iaload, 1)) ∧ (decode cL_law 934 = .ok (.invokevirtual 113, 3)) ∧ (decode cL_law 937 = .ok (.pop, 1)) ∧ (decode cL_law 938 = .ok (.aload_n 2, 1)) ∧ (decode cL_law 939 = .ok (.aload_n 0, 1)) ∧ (decode cL_law 940 = .ok (.iload_n 3, 1)) ∧ (decode cL_law 941 = .ok (.iconst 1, 1)) ∧ (decode cL_law 942 = .ok (.iadd, 1)) ∧ (decode cL_law 943 = .ok (.iaload, 1)) ∧ (decode cL_law 944 = .ok (.invokevirtual 116, 3)) ∧ (decode cL_law 947 = .ok (.pop, 1)) ∧ (decode cL_law 948 = .ok (.goto 504, 3)) ∧ (decode cL_law 951 = .ok (.aload_n 1, 1)) ∧ True := dc_cj [(910, .iaload, 1), (911, .aload_n 0, 1), (912, .iload_n 3, 1), (913, .iconst 2, 1), (914, .iadd, 1), (915, .iaload, 1), (916, .aload_n 0, 1), (917, .iload_n 3, 1), (918, .iconst 3, 1), (919, .iadd, 1), (920, .iaload, 1), (921, .invokevirtual 112, 3), (924, .pop, 1), (925, .goto 527, 3), (928, .aload_n 1, 1), (929, .aload_n 0, 1), (930, .iload_n 3, 1), (931, .iconst 1, 1), (932, .iadd, 1), (933, .iaload, 1), (934, .invokevirtual 113, 3), (937, .pop, 1), (938, .aload_n 2, 1), (939, .aload_n 0, 1), (940, .iload_n 3, 1), (941, .iconst 1, 1), (942, .iadd, 1), (943, .iaload, 1), (944, .invokevirtual 116, 3), (947, .pop, 1), (948, .goto 504, 3), (951, .aload_n 1, 1)] (by decide +kernel)
theorem dL_law_910 : decode cL_law 910 = .ok (.iaload, 1) := edL_law_910.1
theorem dL_law_911 : decode cL_law 911 = .ok (.aload_n 0, 1) := edL_law_910.2.1
theorem dL_law_912 : decode cL_law 912 = .ok (.iload_n 3, 1) := edL_law_910.2.2.1
theorem dL_law_913 : decode cL_law 913 = .ok (.iconst 2, 1) := edL_law_910.2.2.2.1
theorem dL_law_914 : decode cL_law 914 = .ok (.iadd, 1) := edL_law_910.2.2.2.2.1
theorem dL_law_915 : decode cL_law 915 = .ok (.iaload, 1) := edL_law_910.2.2.2.2.2.1
theorem dL_law_916 : decode cL_law 916 = .ok (.aload_n 0, 1) := edL_law_910.2.2.2.2.2.2.1
theorem dL_law_917 : decode cL_law 917 = .ok (.iload_n 3, 1) := edL_law_910.2.2.2.2.2.2.2.1
theorem dL_law_918 : decode cL_law 918 = .ok (.iconst 3, 1) := edL_law_910.2.2.2.2.2.2.2.2.1
theorem dL_law_919 : decode cL_law 919 = .ok (.iadd, 1) := edL_law_910.2.2.2.2.2.2.2.2.2.1
theorem dL_law_920 : decode cL_law 920 = .ok (.iaload, 1) := edL_law_910.2.2.2.2.2.2.2.2.2.2.1
theorem dL_law_921 : decode cL_law 921 = .ok (.invokevirtual 112, 3) := edL_law_910.2.2.2.2.2.2.2.2.2.2.2.1
theorem dL_law_924 : decode cL_law 924 = .ok (.pop, 1) := edL_law_910.2.2.2.2.2.2.2.2.2.2.2.2.1
theorem dL_law_925 : decode cL_law 925 = .ok (.goto 527, 3) := edL_law_910.2.2.2.2.2.2.2.2.2.2.2.2.2.1
theorem dL_law_928 : decode cL_law 928 = .ok (.aload_n 1, 1) := edL_law_910.2.2.2.2.2.2.2.2.2.2.2.2.2.2.1
theorem dL_law_929 : decode cL_law 929 = .ok (.aload_n 0, 1) := edL_law_910.2.2.2.2.2.2.2.2.2.2.2.2.2.2.2.1
theorem dL_law_930 : decode cL_law 930 = .ok (.iload_n 3, 1) := edL_law_910.2.2.2.2.2.2.2.2.2.2.2.2.2.2.2.2.1
theorem dL_law_931 : decode cL_law 931 = .ok (.iconst 1, 1) := edL_law_910.2.2.2.2.2.2.2.2.2.2.2.2.2.2.2.2.2.1
theorem dL_law_932 : decode cL_law 932 = .ok (.iadd, 1) := edL_law_910.2.2.2.2.2.2.2.2.2.2.2.2.2.2.2.2.2.2.1
theorem dL_law_933 : decode cL_law 933 = .ok (.iaload, 1) := edL_law_910.2.2.2.2.2.2.2.2.2.2.2.2.2.2.2.2.2.2.2.1
theorem dL_law_934 : decode cL_law 934 = .ok (.invokevirtual 113, 3) := edL_law_910.2.2.2.2.2.2.2.2.2.2.2.2.2.2.2.2.2.2.2.2.1
theorem dL_law_937 : decode cL_law 937 = .ok (.pop, 1) := edL_law_910.2.2.2.2.2.2.2.2.2.2.2.2.2.2.2.2.2.2.2.2.2.1
theorem dL_law_938 : decode cL_law 938 = .ok (.aload_n 2, 1) := edL_law_910.2.2.2.2.2.2.2.2.2.2.2.2.2.2.2.2.2.2.2.2.2.2.1
theorem dL_law_939 : decode cL_law 939 = .ok (.aload_n 0, 1) := edL_law_910.2.2.2.2.2.2.2.2.2.2.2.2.2.2.2.2.2.2.2.2.2.2.2.1
theorem dL_law_940 : decode cL_law 940 = .ok (.iload_n 3, 1) := edL_law_910.2.2.2.2.2.2.2.2.2.2.2.2.2.2.2.2.2.2.2.2.2.2.2.2.1
theorem dL_law_941 : decode cL_law 941 = .ok (.iconst 1, 1) := edL_law_910.2.2.2.2.2.2.2.2.2.2.2.2.2.2.2.2.2.2.2.2.2.2.2.2.2.1
theorem dL_law_942 : decode cL_law 942 = .ok (.iadd, 1) := edL_law_910.2.2.2.2.2.2.2.2.2.2.2.2.2.2.2.2.2.2.2.2.2.2.2.2.2.2.1
theorem dL_law_943 : decode cL_law 943 = .ok (.iaload, 1) := edL_law_910.2.2.2.2.2.2.2.2.2.2.2.2.2.2.2.2.2.2.2.2.2.2.2.2.2.2.2.1
theorem dL_law_944 : decode cL_law 944 = .ok (.invokevirtual 116, 3) := edL_law_910.2.2.2.2.2.2.2.2.2.2.2.2.2.2.2.2.2.2.2.2.2.2.2.2.2.2.2.2.1
theorem dL_law_947 : decode cL_law 947 = .ok (.pop, 1) := edL_law_910.2.2.2.2.2.2.2.2.2.2.2.2.2.2.2.2.2.2.2.2.2.2.2.2.2.2.2.2.2.1
theorem dL_law_948 : decode cL_law 948 = .ok (.goto 504, 3) := edL_law_910.2.2.2.2.2.2.2.2.2.2.2.2.2.2.2.2.2.2.2.2.2.2.2.2.2.2.2.2.2.2.1
theorem dL_law_951 : decode cL_law 951 = .ok (.aload_n 1, 1) := edL_law_910.2.2.2.2.2.2.2.2.2.2.2.2.2.2.2.2.2.2.2.2.2.2.2.2.2.2.2.2.2.2.2.1
theorem edL_law_952 : (decode cL_law 952 = .ok (.invokevirtual 117, 3)) ∧ (decode cL_law 955 = .ok (.pop, 1)) ∧ (decode cL_law 956 = .ok (.aload_n 2, 1)) ∧ (decode cL_law 957 = .ok (.invokevirtual 120, 3)) ∧ (decode cL_law 960 = .ok (.pop, 1)) ∧ (decode cL_law 961 = .ok (.goto 491, 3)) ∧ (decode cL_law 964 = .ok (.aload_n 1, 1)) ∧ (decode cL_law 965 = .ok (.aload_n 0, 1)) ∧ (decode cL_law 966 = .ok (.iload_n 3, 1)) ∧ (decode cL_law 967 = .ok (.iconst 1, 1)) ∧ (decode cL_law 968 = .ok (.iadd, 1)) ∧ (decode cL_law 969 = .ok (.iaload, 1)) ∧ (decode cL_law 970 = .ok (.aload_n 0, 1)) ∧ (decode cL_law 971 = .ok (.iload_n 3, 1)) ∧ (decode cL_law 972 = .ok (.iconst 2, 1)) ∧ (decode cL_law 973 = .ok (.iadd, 1)) ∧ (decode cL_law 974 = .ok (.iaload, 1)) ∧ (decode cL_law 975 = .ok (.invokevirtual 121, 3)) ∧ (decode cL_law 978 = .ok (.pop, 1)) ∧ (decode cL_law 979 = .ok (.aload_n 2, 1)) ∧ (decode cL_law 980 = .ok (.aload_n 0, 1)) ∧ (decode cL_law 981 = .ok (.iload_n 3, 1)) ∧ (decode cL_law 982 = .ok (.iconst 1, 1)) ∧ (decode cL_law 983 = .ok (.iadd, 1)) ∧ (decode cL_law 984 = .ok (.iaload, 1)) ∧ (decode cL_law 985 = .ok (.aload_n 0, 1)) ∧ (decode cL_law 986 = .ok (.iload_n 3, 1)) ∧ (decode cL_law 987 = .ok (.iconst 2, 1)) ∧ (decode cL_law 988 = .ok (.iadd, 1)) ∧ (decode cL_law 989 = .ok (.iaload, 1)) ∧ (decode cL_law 990 = .ok (.invokevirtual 124, 3)) ∧ (decode cL_law 993 = .ok (.pop, 1)) ∧ True := dc_cj [(952, .invokevirtual 117, 3), (955, .pop, 1), (956, .aload_n 2, 1), (957, .invokevirtual 120, 3), (960, .pop, 1), (961, .goto 491, 3), (964, .aload_n 1, 1), (965, .aload_n 0, 1), (966, .iload_n 3, 1), (967, .iconst 1, 1), (968, .iadd, 1), (969, .iaload, 1), (970, .aload_n 0, 1), (971, .iload_n 3, 1), (972, .iconst 2, 1), (973, .iadd, 1), (974, .iaload, 1), (975, .invokevirtual 121, 3), (978, .pop, 1), (979, .aload_n 2, 1), (980, .aload_n 0, 1), (981, .iload_n 3, 1), (982, .iconst 1, 1), (983, .iadd, 1), (984, .iaload, 1), (985, .aload_n 0, 1), (986, .iload_n 3, 1), (987, .iconst 2, 1), (988, .iadd, 1), (989, .iaload, 1), (990, .invokevirtual 124, 3), (993, .pop, 1)] (by decide +kernel)
theorem dL_law_952 : decode cL_law 952 = .ok (.invokevirtual 117, 3) := edL_law_952.1
theorem dL_law_955 : decode cL_law 955 = .ok (.pop, 1) := edL_law_952.2.1
theorem dL_law_956 : decode cL_law 956 = .ok (.aload_n 2, 1) := edL_law_952.2.2.1
theorem dL_law_957 : decode cL_law 957 = .ok (.invokevirtual 120, 3) := edL_law_952.2.2.2.1
theorem dL_law_960 : decode cL_law 960 = .ok (.pop, 1) := edL_law_952.2.2.2.2.1
theorem dL_law_961 : decode cL_law 961 = .ok (.goto 491, 3) := edL_law_952.2.2.2.2.2.1
theorem dL_law_964 : decode cL_law 964 = .ok (.aload_n 1, 1) := edL_law_952.2.2.2.2.2.2.1
theorem dL_law_965 : decode cL_law 965 = .ok (.aload_n 0, 1) := edL_law_952.2.2.2.2.2.2.2.1
theorem dL_law_966 : decode cL_law 966 = .ok (.iload_n 3, 1) := edL_law_952.2.2.2.2.2.2.2.2.1
theorem dL_law_967 : decode cL_law 967 = .ok (.iconst 1, 1) := edL_law_952.2.2.2.2.2.2.2.2.2.1
theorem dL_law_968 : decode cL_law 968 = .ok (.iadd, 1) := edL_law_952.2.2.2.2.2.2.2.2.2.2.1
theorem dL_law_969 : decode cL_law 969 = .ok (.iaload, 1) := edL_law_952.2.2.2.2.2.2.2.2.2.2.2.1
theorem dL_law_970 : decode cL_law 970 = .ok (.aload_n 0, 1) := edL_law_952.2.2.2.2.2.2.2.2.2.2.2.2.1
theorem dL_law_971 : decode cL_law 971 = .ok (.iload_n 3, 1) := edL_law_952.2.2.2.2.2.2.2.2.2.2.2.2.2.1
theorem dL_law_972 : decode cL_law 972 = .ok (.iconst 2, 1) := edL_law_952.2.2.2.2.2.2.2.2.2.2.2.2.2.2.1
theorem dL_law_973 : decode cL_law 973 = .ok (.iadd, 1) := edL_law_952.2.2.2.2.2.2.2.2.2.2.2.2.2.2.2.1
theorem dL_law_974 : decode cL_law 974 = .ok (.iaload, 1) := edL_law_952.2.2.2.2.2.2.2.2.2.2.2.2.2.2.2.2.1
theorem dL_law_975 : decode cL_law 975 = .ok (.invokevirtual 121, 3) := edL_law_952.2.2.2.2.2.2.2.2.2.2.2.2.2.2.2.2.2.1
theorem dL_law_978 : decode cL_law 978 = .ok (.pop, 1) := edL_law_952.2.2.2.2.2.2.2.2.2.2.2.2.2.2.2.2.2.2.1
theorem dL_law_979 : decode cL_law 979 = .ok (.aload_n 2, 1) := edL_law_952.2.2.2.2.2.2.2.2.2.2.2.2.2.2.2.2.2.2.2.1
theorem dL_law_980 : decode cL_law 980 = .ok (.aload_n 0, 1) := edL_law_952.2.2.2.2.2.2.2.2.2.2.2.2.2.2.2.2.2.2.2.2.1
theorem dL_law_981 : decode cL_law 981 = .ok (.iload_n 3, 1) := edL_law_952.2.2.2.2.2.2.2.2.2.2.2.2.2.2.2.2.2.2.2.2.2.1
theorem dL_law_982 : decode cL_law 982 = .ok (.iconst 1, 1) := edL_law_952.2.2.2.2.2.2.2.2.2.2.2.2.2.2.2.2.2.2.2.2.2.2.1
theorem dL_law_983 : decode cL_law 983 = .ok (.iadd, 1) := edL_law_952.2.2.2.2.2.2.2.2.2.2.2.2.2.2.2.2.2.2.2.2.2.2.2.1
theorem dL_law_984 : decode cL_law 984 = .ok (.iaload, 1) := edL_law_952.2.2.2.2.2.2.2.2.2.2.2.2.2.2.2.2.2.2.2.2.2.2.2.2.1
theorem dL_law_985 : decode cL_law 985 = .ok (.aload_n 0, 1) := edL_law_952.2.2.2.2.2.2.2.2.2.2.2.2.2.2.2.2.2.2.2.2.2.2.2.2.2.1
theorem dL_law_986 : decode cL_law 986 = .ok (.iload_n 3, 1) := edL_law_952.2.2.2.2.2.2.2.2.2.2.2.2.2.2.2.2.2.2.2.2.2.2.2.2.2.2.1
theorem dL_law_987 : decode cL_law 987 = .ok (.iconst 2, 1) := edL_law_952.2.2.2.2.2.2.2.2.2.2.2.2.2.2.2.2.2.2.2.2.2.2.2.2.2.2.2.1
theorem dL_law_988 : decode cL_law 988 = .ok (.iadd, 1) := edL_law_952.2.2.2.2.2.2.2.2.2.2.2.2.2.2.2.2.2.2.2.2.2.2.2.2.2.2.2.2.1
theorem dL_law_989 : decode cL_law 989 = .ok (.iaload, 1) := edL_law_952.2.2.2.2.2.2.2.2.2.2.2.2.2.2.2.2.2.2.2.2.2.2.2.2.2.2.2.2.2.1
theorem dL_law_990 : decode cL_law 990 = .ok (.invokevirtual 124, 3) := edL_law_952.2.2.2.2.2.2.2.2.2.2.2.2.2.2.2.2.2.2.2.2.2.2.2.2.2.2.2.2.2.2.1
theorem dL_law_993 : decode cL_law 993 = .ok (.pop, 1) := edL_law_952.2.2.2.2.2.2.2.2.2.2.2.2.2.2.2.2.2.2.2.2.2.2.2.2.2.2.2.2.2.2.2.1
theorem edL_law_994 : (decode cL_law 994 = .ok (.goto 458, 3)) ∧ (decode cL_law 997 = .ok (.aload_n 1, 1)) ∧ (decode cL_law 998 = .ok (.aload_n 0, 1)) ∧ (decode cL_law 999 = .ok (.iload_n 3, 1)) ∧ (decode cL_law 1000 = .ok (.iconst 1, 1)) ∧ (decode cL_law 1001 = .ok (.iadd, 1)) ∧ (decode cL_law 1002 = .ok (.iaload, 1)) ∧ (decode cL_law 1003 = .ok (.invokevirtual 125, 3)) ∧ (decode cL_law 1006 = .ok (.pop, 1)) ∧ (decode cL_law 1007 = .ok (.aload_n 2, 1)) ∧ (decode cL_law 1008 = .ok (.aload_n 0, 1)) ∧ (decode cL_law 1009 = .ok (.iload_n 3, 1)) ∧ (decode cL_law 1010 = .ok (.iconst 1, 1)) ∧ (decode cL_law 1011 = .ok (.iadd, 1)) ∧ (decode cL_law 1012 = .ok (.iaload, 1)) ∧ (decode cL_law 1013 = .ok (.invokevirtual 128, 3)) ∧ (decode cL_law 1016 = .ok (.pop, 1)) ∧ (decode cL_law 1017 = .ok (.goto 435, 3)) ∧ (decode cL_law 1020 = .ok (.aload_n 1, 1)) ∧ (decode cL_law 1021 = .ok (.aload_n 0, 1)) ∧ (decode cL_law 1022 = .ok (.iload_n 3, 1)) ∧ (decode cL_law 1023 = .ok (.iconst 1, 1)) ∧ (decode cL_law 1024 = .ok (.iadd, 1)) ∧ (decode cL_law 1025 = .ok (.iaload, 1)) ∧ (decode cL_law 1026 = .ok (.aload_n 0, 1)) ∧ (decode cL_law 1027 = .ok (.iload_n 3, 1)) ∧ (decode cL_law 1028 = .ok (.iconst 2, 1)) ∧ (decode cL_law 1029 = .ok (.iadd, 1)) ∧ (decode cL_law 1030 = .ok (.iaload, 1)) ∧ (decode cL_law 1031 = .ok (.aload_n 0, 1)) ∧ (decode cL_law 1032 = .ok (.iload_n 3, 1)) ∧ (decode cL_law 1033 = .ok (.iconst 3, 1)) ∧ True := dc_cj [(994, .goto 458, 3), (997, .aload_n 1, 1), (998, .aload_n 0, 1), (999, .iload_n 3, 1), (1000, .iconst 1, 1), (1001, .iadd, 1), (1002, .iaload, 1), (1003, .invokevirtual 125, 3), (1006, .pop, 1), (1007, .aload_n 2, 1), (1008, .aload_n 0, 1), (1009, .iload_n 3, 1), (1010, .iconst 1, 1), (1011, .iadd, 1), (1012, .iaload, 1), (1013, .invokevirtual 128, 3), (1016, .pop, 1), (1017, .goto 435, 3), (1020, .aload_n 1, 1), (1021, .aload_n 0, 1), (1022, .iload_n 3, 1), (1023, .iconst 1, 1), (1024, .iadd, 1), (1025, .iaload, 1), (1026, .aload_n 0, 1), (1027, .iload_n 3, 1), (1028, .iconst 2, 1), (1029, .iadd, 1), (1030, .iaload, 1), (1031, .aload_n 0, 1), (1032, .iload_n 3, 1), (1033, .iconst 3, 1)] (by decide +kernel)
theorem dL_law_994 : decode cL_law 994 = .ok (.goto 458, 3) := edL_law_994.1
theorem dL_law_997 : decode cL_law 997 = .ok (.aload_n 1, 1) := edL_law_994.2.1
theorem dL_law_998 : decode cL_law 998 = .ok (.aload_n 0, 1) := edL_law_994.2.2.1
theorem dL_law_999 : decode cL_law 999 = .ok (.iload_n 3, 1) := edL_law_994.2.2.2.1
theorem dL_law_1000 : decode cL_law 1000 = .ok (.iconst 1, 1) := edL_law_994.2.2.2.2.1
theorem dL_law_1001 : decode cL_law 1001 = .ok (.iadd, 1) := edL_law_994.2.2.2.2.2.1
theorem dL_law_1002 : decode cL_law 1002 = .ok (.iaload, 1) := edL_law_994.2.2.2.2.2.2.1
theorem dL_law_1003 : decode cL_law 1003 = .ok (.invokevirtual 125, 3) := edL_law_994.2.2.2.2.2.2.2.1
theorem dL_law_1006 : decode cL_law 1006 = .ok (.pop, 1) := edL_law_994.2.2.2.2.2.2.2.2.1
theorem dL_law_1007 : decode cL_law 1007 = .ok (.aload_n 2, 1) := edL_law_994.2.2.2.2.2.2.2.2.2.1
theorem dL_law_1008 : decode cL_law 1008 = .ok (.aload_n 0, 1) := edL_law_994.2.2.2.2.2.2.2.2.2.2.1
theorem dL_law_1009 : decode cL_law 1009 = .ok (.iload_n 3, 1) := edL_law_994.2.2.2.2.2.2.2.2.2.2.2.1
theorem dL_law_1010 : decode cL_law 1010 = .ok (.iconst 1, 1) := edL_law_994.2.2.2.2.2.2.2.2.2.2.2.2.1
theorem dL_law_1011 : decode cL_law 1011 = .ok (.iadd, 1) := edL_law_994.2.2.2.2.2.2.2.2.2.2.2.2.2.1
theorem dL_law_1012 : decode cL_law 1012 = .ok (.iaload, 1) := edL_law_994.2.2.2.2.2.2.2.2.2.2.2.2.2.2.1
theorem dL_law_1013 : decode cL_law 1013 = .ok (.invokevirtual 128, 3) := edL_law_994.2.2.2.2.2.2.2.2.2.2.2.2.2.2.2.1
theorem dL_law_1016 : decode cL_law 1016 = .ok (.pop, 1) := edL_law_994.2.2.2.2.2.2.2.2.2.2.2.2.2.2.2.2.1
theorem dL_law_1017 : decode cL_law 1017 = .ok (.goto 435, 3) := edL_law_994.2.2.2.2.2.2.2.2.2.2.2.2.2.2.2.2.2.1
theorem dL_law_1020 : decode cL_law 1020 = .ok (.aload_n 1, 1) := edL_law_994.2.2.2.2.2.2.2.2.2.2.2.2.2.2.2.2.2.2.1
theorem dL_law_1021 : decode cL_law 1021 = .ok (.aload_n 0, 1) := edL_law_994.2.2.2.2.2.2.2.2.2.2.2.2.2.2.2.2.2.2.2.1
theorem dL_law_1022 : decode cL_law 1022 = .ok (.iload_n 3, 1) := edL_law_994.2.2.2.2.2.2.2.2.2.2.2.2.2.2.2.2.2.2.2.2.1
theorem dL_law_1023 : decode cL_law 1023 = .ok (.iconst 1, 1) := edL_law_994.2.2.2.2.2.2.2.2.2.2.2.2.2.2.2.2.2.2.2.2.2.1
theorem dL_law_1024 : decode cL_law 1024 = .ok (.iadd, 1) := edL_law_994.2.2.2.2.2.2.2.2.2.2.2.2.2.2.2.2.2.2.2.2.2.2.1
theorem dL_law_1025 : decode cL_law 1025 = .ok (.iaload, 1) := edL_law_994.2.2.2.2.2.2.2.2.2.2.2.2.2.2.2.2.2.2.2.2.2.2.2.1
theorem dL_law_1026 : decode cL_law 1026 = .ok (.aload_n 0, 1) := edL_law_994.2.2.2.2.2.2.2.2.2.2.2.2.2.2.2.2.2.2.2.2.2.2.2.2.1
theorem dL_law_1027 : decode cL_law 1027 = .ok (.iload_n 3, 1) := edL_law_994.2.2.2.2.2.2.2.2.2.2.2.2.2.2.2.2.2.2.2.2.2.2.2.2.2.1
theorem dL_law_1028 : decode cL_law 1028 = .ok (.iconst 2, 1) := edL_law_994.2.2.2.2.2.2.2.2.2.2.2.2.2.2.2.2.2.2.2.2.2.2.2.2.2.2.1
theorem dL_law_1029 : decode cL_law 1029 = .ok (.iadd, 1) := edL_law_994.2.2.2.2.2.2.2.2.2.2.2.2.2.2.2.2.2.2.2.2.2.2.2.2.2.2.2.1
theorem dL_law_1030 : decode cL_law 1030 = .ok (.iaload, 1) := edL_law_994.2.2.2.2.2.2.2.2.2.2.2.2.2.2.2.2.2.2.2.2.2.2.2.2.2.2.2.2.1
theorem dL_law_1031 : decode cL_law 1031 = .ok (.aload_n 0, 1) := edL_law_994.2.2.2.2.2.2.2.2.2.2.2.2.2.2.2.2.2.2.2.2.2.2.2.2.2.2.2.2.2.1
theorem dL_law_1032 : decode cL_law 1032 = .ok (.iload_n 3, 1) := edL_law_994.2.2.2.2.2.2.2.2.2.2.2.2.2.2.2.2.2.2.2.2.2.2.2.2.2.2.2.2.2.2.1
theorem dL_law_1033 : decode cL_law 1033 = .ok (.iconst 3, 1) := edL_law_994.2.2.2.2.2.2.2.2.2.2.2.2.2.2.2.2.2.2.2.2.2.2.2.2.2.2.2.2.2.2.2.1
theorem edL_law_1034 : (decode cL_law 1034 = .ok (.iadd, 1)) ∧ (decode cL_law 1035 = .ok (.iaload, 1)) ∧ (decode cL_law 1036 = .ok (.invokevirtual 129, 3)) ∧ (decode cL_law 1039 = .ok (.pop, 1)) ∧ (decode cL_law 1040 = .ok (.aload_n 2, 1)) ∧ (decode cL_law 1041 = .ok (.aload_n 0, 1)) ∧ (decode cL_law 1042 = .ok (.iload_n 3, 1)) ∧ (decode cL_law 1043 = .ok (.iconst 1, 1)) ∧ (decode cL_law 1044 = .ok (.iadd, 1)) ∧ (decode cL_law 1045 = .ok (.iaload, 1)) ∧ (decode cL_law 1046 = .ok (.aload_n 0, 1)) ∧ (decode cL_law 1047 = .ok (.iload_n 3, 1)) ∧ (decode cL_law 1048 = .ok (.iconst 2, 1)) ∧ (decode cL_law 1049 = .ok (.iadd, 1)) ∧ (decode cL_law 1050 = .ok (.iaload, 1)) ∧ (decode cL_law 1051 = .ok (.aload_n 0, 1)) ∧ (decode cL_law 1052 = .ok (.iload_n 3, 1)) ∧ (decode cL_law 1053 = .ok (.iconst 3, 1)) ∧ (decode cL_law 1054 = .ok (.iadd, 1)) ∧ (decode cL_law 1055 = .ok (.iaload, 1)) ∧ (decode cL_law 1056 = .ok (.invokevirtual 132, 3)) ∧ (decode cL_law 1059 = .ok (.pop, 1)) ∧ (decode cL_law 1060 = .ok (.goto 392, 3)) ∧ (decode cL_law 1063 = .ok (.aload_n 1, 1)) ∧ (decode cL_law 1064 = .ok (.aload_n 0, 1)) ∧ (decode cL_law 1065 = .ok (.iload_n 3, 1)) ∧ (decode cL_law 1066 = .ok (.iconst 1, 1)) ∧ (decode cL_law 1067 = .ok (.iadd, 1)) ∧ (decode cL_law 1068 = .ok (.iaload, 1)) ∧ (decode cL_law 1069 = .ok (.aload_n 0, 1)) ∧ (decode cL_law 1070 = .ok (.iload_n 3, 1)) ∧ (decode cL_law 1071 = .ok (.iconst 2, 1)) ∧ True := dc_cj [(1034, .iadd, 1), (1035, .iaload, 1), (1036, .invokevirtual 129, 3), (1039, .pop, 1), (1040, .aload_n 2, 1), (1041, .aload_n 0, 1), (1042, .iload_n 3, 1), (1043, .iconst 1, 1), (1044, .iadd, 1), (1045, .iaload, 1), (1046, .aload_n 0, 1), (1047, .iload_n 3, 1), (1048, .iconst 2, 1), (1049, .iadd, 1), (1050, .iaload, 1), (1051, .aload_n 0, 1), (1052, .iload_n 3, 1), (1053, .iconst 3, 1), (1054, .iadd, 1), (1055, .iaload, 1), (1056, .invokevirtual 132, 3), (1059, .pop, 1), (1060, .goto 392, 3), (1063, .aload_n 1, 1), (1064, .aload_n 0, 1), (1065, .iload_n 3, 1), (1066, .iconst 1, 1), (1067, .iadd, 1), (1068, .iaload, 1), (1069, .aload_n 0, 1), (1070, .iload_n 3, 1), (1071, .iconst 2, 1)] (by decide +kernel)
theorem dL_law_1034 : decode cL_law 1034 = .ok (.iadd, 1) := edL_law_1034.1
theorem dL_law_1035 : decode cL_law 1035 = .ok (.iaload, 1) := edL_law_1034.2.1
theorem dL_law_1036 : decode cL_law 1036 = .ok (.invokevirtual 129, 3) := edL_law_1034.2.2.1
theorem dL_law_1039 : decode cL_law 1039 = .ok (.pop, 1) := edL_law_1034.2.2.2.1
theorem dL_law_1040 : decode cL_law 1040 = .ok (.aload_n 2, 1) := edL_law_1034.2.2.2.2.1
theorem dL_law_1041 : decode cL_law 1041 = .ok (.aload_n 0, 1) := edL_law_1034.2.2.2.2.2.1
theorem dL_law_1042 : decode cL_law 1042 = .ok (.iload_n 3, 1) := edL_law_1034.2.2.2.2.2.2.1
theorem dL_law_1043 : decode cL_law 1043 = .ok (.iconst 1, 1) := edL_law_1034.2.2.2.2.2.2.2.1
theorem dL_law_1044 : decode cL_law 1044 = .ok (.iadd, 1) := edL_law_1034.2.2.2.2.2.2.2.2.1
theorem dL_law_1045 : decode cL_law 1045 = .ok (.iaload, 1) := edL_law_1034.2.2.2.2.2.2.2.2.2.1
theorem dL_law_1046 : decode cL_law 1046 = .ok (.aload_n 0, 1) := edL_law_1034.2.2.2.2.2.2.2.2.2.2.1
theorem dL_law_1047 : decode cL_law 1047 = .ok (.iload_n 3, 1) := edL_law_1034.2.2.2.2.2.2.2.2.2.2.2.1
theorem dL_law_1048 : decode cL_law 1048 = .ok (.iconst 2, 1) := edL_law_1034.2.2.2.2.2.2.2.2.2.2.2.2.1
theorem dL_law_1049 : decode cL_law 1049 = .ok (.iadd, 1) := edL_law_1034.2.2.2.2.2.2.2.2.2.2.2.2.2.1
theorem dL_law_1050 : decode cL_law 1050 = .ok (.iaload, 1) := edL_law_1034.2.2.2.2.2.2.2.2.2.2.2.2.2.2.1
theorem dL_law_1051 : decode cL_law 1051 = .ok (.aload_n 0, 1) := edL_law_1034.2.2.2.2.2.2.2.2.2.2.2.2.2.2.2.1
theorem dL_law_1052 : decode cL_law 1052 = .ok (.iload_n 3, 1) := edL_law_1034.2.2.2.2.2.2.2.2.2.2.2.2.2.2.2.2.1
theorem dL_law_1053 : decode cL_law 1053 = .ok (.iconst 3, 1) := edL_law_1034.2.2.2.2.2.2.2.2.2.2.2.2.2.2.2.2.2.1
theorem dL_law_1054 : decode cL_law 1054 = .ok (.iadd, 1) := edL_law_1034.2.2.2.2.2.2.2.2.2.2.2.2.2.2.2.2.2.2.1
theorem dL_law_1055 : decode cL_law 1055 = .ok (.iaload, 1) := edL_law_1034.2.2.2.2.2.2.2.2.2.2.2.2.2.2.2.2.2.2.2.1
theorem dL_law_1056 : decode cL_law 1056 = .ok (.invokevirtual 132, 3) := edL_law_1034.2.2.2.2.2.2.2.2.2.2.2.2.2.2.2.2.2.2.2.2.1
theorem dL_law_1059 : decode cL_law 1059 = .ok (.pop, 1) := edL_law_1034.2.2.2.2.2.2.2.2.2.2.2.2.2.2.2.2.2.2.2.2.2.1
theorem dL_law_1060 : decode cL_law 1060 = .ok (.goto 392, 3) := edL_law_1034.2.2.2.2.2.2.2.2.2.2.2.2.2.2.2.2.2.2.2.2.2.2.1
theorem dL_law_1063 : decode cL_law 1063 = .ok (.aload_n 1, 1) := edL_law_1034.2.2.2.2.2.2.2.2.2.2.2.2.2.2.2.2.2.2.2.2.2.2.2.1
theorem dL_law_1064 : decode cL_law 1064 = .ok (.aload_n 0, 1) := edL_law_1034.2.2.2.2.2.2.2.2.2.2.2.2.2.2.2.2.2.2.2.2.2.2.2.2.1
theorem dL_law_1065 : decode cL_law 1065 = .ok (.iload_n 3, 1) := edL_law_1034.2.2.2.2.2.2.2.2.2.2.2.2.2.2.2.2.2.2.2.2.2.2.2.2.2.1
theorem dL_law_1066 : decode cL_law 1066 = .ok (.iconst 1, 1) := edL_law_1034.2.2.2.2.2.2.2.2.2.2.2.2.2.2.2.2.2.2.2.2.2.2.2.2.2.2.1
theorem dL_law_1067 : decode cL_law 1067 = .ok (.iadd, 1) := edL_law_1034.2.2.2.2.2.2.2.2.2.2.2.2.2.2.2.2.2.2.2.2.2.2.2.2.2.2.2.1
theorem dL_law_1068 : decode cL_law 1068 = .ok (.iaload, 1) := edL_law_1034.2.2.2.2.2.2.2.2.2.2.2.2.2.2.2.2.2.2.2.2.2.2.2.2.2.2.2.2.1
theorem dL_law_1069 : decode cL_law 1069 = .ok (.aload_n 0, 1) := edL_law_1034.2.2.2.2.2.2.2.2.2.2.2.2.2.2.2.2.2.2.2.2.2.2.2.2.2.2.2.2.2.1
theorem dL_law_1070 : decode cL_law 1070 = .ok (.iload_n 3, 1) := edL_law_1034.2.2.2.2.2.2.2.2.2.2.2.2.2.2.2.2.2.2.2.2.2.2.2.2.2.2.2.2.2.2.1
theorem dL_law_1071 : decode cL_law 1071 = .ok (.iconst 2, 1) := edL_law_1034.2.2.2.2.2.2.2.2.2.2.2.2.2.2.2.2.2.2.2.2.2.2.2.2.2.2.2.2.2.2.2.1
theorem edL_law_1072 : (decode cL_law 1072 = .ok (.iadd, 1)) ∧ (decode cL_law 1073 = .ok (.iaload, 1)) ∧ (decode cL_law 1074 = .ok (.aload_n 0, 1)) ∧ (decode cL_law 1075 = .ok (.iload_n 3, 1)) ∧ (decode cL_law 1076 = .ok (.iconst 3, 1)) ∧ (decode cL_law 1077 = .ok (.iadd, 1)) ∧ (decode cL_law 1078 = .ok (.iaload, 1)) ∧ (decode cL_law 1079 = .ok (.invokevirtual 133, 3)) ∧ (decode cL_law 1082 = .ok (.pop, 1)) ∧ (decode cL_law 1083 = .ok (.aload_n 2, 1)) ∧ (decode cL_law 1084 = .ok (.aload_n 0, 1)) ∧ (decode cL_law 1085 = .ok (.iload_n 3, 1)) ∧ (decode cL_law 1086 = .ok (.iconst 1, 1)) ∧ (decode cL_law 1087 = .ok (.iadd, 1)) ∧ (decode cL_law 1088 = .ok (.iaload, 1)) ∧ (decode cL_law 1089 = .ok (.aload_n 0, 1)) ∧ (decode cL_law 1090 = .ok (.iload_n 3, 1)) ∧ (decode cL_law 1091 = .ok (.iconst 2, 1)) ∧ (decode cL_law 1092 = .ok (.iadd, 1)) ∧ (decode cL_law 1093 = .ok (.iaload, 1)) ∧ (decode cL_law 1094 = .ok (.aload_n 0, 1)) ∧ (decode cL_law 1095 = .ok (.iload_n 3, 1)) ∧ (decode cL_law 1096 = .ok (.iconst 3, 1)) ∧ (decode cL_law 1097 = .ok (.iadd, 1)) ∧ (decode cL_law 1098 = .ok (.iaload, 1)) ∧ (decode cL_law 1099 = .ok (.invokevirtual 136, 3)) ∧ (decode cL_law 1102 = .ok (.pop, 1)) ∧ (decode cL_law 1103 = .ok (.goto 349, 3)) ∧ (decode cL_law 1106 = .ok (.aload_n 1, 1)) ∧ (decode cL_law 1107 = .ok (.aload_n 0, 1)) ∧ (decode cL_law 1108 = .ok (.iload_n 3, 1)) ∧ (decode cL_law 1109 = .ok (.iconst 1, 1)) ∧ True := dc_cj [(1072, .iadd, 1), (1073, .iaload, 1), (1074, .aload_n 0, 1), (1075, .iload_n 3, 1), (1076, .iconst 3, 1), (1077, .iadd, 1), (1078, .iaload, 1), (1079, .invokevirtual 133, 3), (1082, .pop, 1), (1083, .aload_n 2, 1), (1084, .aload_n 0, 1), (1085, .iload_n 3, 1), (1086, .iconst 1, 1), (1087, .iadd, 1), (1088, .iaload, 1), (1089, .aload_n 0, 1), (1090, .iload_n 3, 1), (1091, .iconst 2, 1), (1092, .iadd, 1), (1093, .iaload, 1), (1094, .aload_n 0, 1), (1095, .iload_n 3, 1), (1096, .iconst 3, 1), (1097, .iadd, 1), (1098, .iaload, 1), (1099, .invokevirtual 136, 3), (1102, .pop, 1), (1103, .goto 349, 3), (1106, .aload_n 1, 1), (1107, .aload_n 0, 1), (1108, .iload_n 3, 1), (1109, .iconst 1, 1)] (by decide +kernel)
theorem dL_law_1072 : decode cL_law 1072 = .ok (.iadd, 1) := edL_law_1072.1
theorem dL_law_1073 : decode cL_law 1073 = .ok (.iaload, 1) := edL_law_1072.2.1
theorem dL_law_1074 : decode cL_law 1074 = .ok (.aload_n 0, 1) := edL_law_1072.2.2.1
theorem dL_law_1075 : decode cL_law 1075 = .ok (.iload_n 3, 1) := edL_law_1072.2.2.2.1
theorem dL_law_1076 : decode cL_law 1076 = .ok (.iconst 3, 1) := edL_law_1072.2.2.2.2.1
theorem dL_law_1077 : decode cL_law 1077 = .ok (.iadd, 1) := edL_law_1072.2.2.2.2.2.1
theorem dL_law_1078 : decode cL_law 1078 = .ok (.iaload, 1) := edL_law_1072.2.2.2.2.2.2.1
theorem dL_law_1079 : decode cL_law 1079 = .ok (.invokevirtual 133, 3) := edL_law_1072.2.2.2.2.2.2.2.1
theorem dL_law_1082 : decode cL_law 1082 = .ok (.pop, 1) := edL_law_1072.2.2.2.2.2.2.2.2.1
theorem dL_law_1083 : decode cL_law 1083 = .ok (.aload_n 2, 1) := edL_law_1072.2.2.2.2.2.2.2.2.2.1
theorem dL_law_1084 : decode cL_law 1084 = .ok (.aload_n 0, 1) := edL_law_1072.2.2.2.2.2.2.2.2.2.2.1
theorem dL_law_1085 : decode cL_law 1085 = .ok (.iload_n 3, 1) := edL_law_1072.2.2.2.2.2.2.2.2.2.2.2.1
theorem dL_law_1086 : decode cL_law 1086 = .ok (.iconst 1, 1) := edL_law_1072.2.2.2.2.2.2.2.2.2.2.2.2.1
theorem dL_law_1087 : decode cL_law 1087 = .ok (.iadd, 1) := edL_law_1072.2.2.2.2.2.2.2.2.2.2.2.2.2.1
theorem dL_law_1088 : decode cL_law 1088 = .ok (.iaload, 1) := edL_law_1072.2.2.2.2.2.2.2.2.2.2.2.2.2.2.1
theorem dL_law_1089 : decode cL_law 1089 = .ok (.aload_n 0, 1) := edL_law_1072.2.2.2.2.2.2.2.2.2.2.2.2.2.2.2.1
theorem dL_law_1090 : decode cL_law 1090 = .ok (.iload_n 3, 1) := edL_law_1072.2.2.2.2.2.2.2.2.2.2.2.2.2.2.2.2.1
theorem dL_law_1091 : decode cL_law 1091 = .ok (.iconst 2, 1) := edL_law_1072.2.2.2.2.2.2.2.2.2.2.2.2.2.2.2.2.2.1
theorem dL_law_1092 : decode cL_law 1092 = .ok (.iadd, 1) := edL_law_1072.2.2.2.2.2.2.2.2.2.2.2.2.2.2.2.2.2.2.1
theorem dL_law_1093 : decode cL_law 1093 = .ok (.iaload, 1) := edL_law_1072.2.2.2.2.2.2.2.2.2.2.2.2.2.2.2.2.2.2.2.1
theorem dL_law_1094 : decode cL_law 1094 = .ok (.aload_n 0, 1) := edL_law_1072.2.2.2.2.2.2.2.2.2.2.2.2.2.2.2.2.2.2.2.2.1
theorem dL_law_1095 : decode cL_law 1095 = .ok (.iload_n 3, 1) := edL_law_1072.2.2.2.2.2.2.2.2.2.2.2.2.2.2.2.2.2.2.2.2.2.1
theorem dL_law_1096 : decode cL_law 1096 = .ok (.iconst 3, 1) := edL_law_1072.2.2.2.2.2.2.2.2.2.2.2.2.2.2.2.2.2.2.2.2.2.2.1
theorem dL_law_1097 : decode cL_law 1097 = .ok (.iadd, 1) := edL_law_1072.2.2.2.2.2.2.2.2.2.2.2.2.2.2.2.2.2.2.2.2.2.2.2.1
theorem dL_law_1098 : decode cL_law 1098 = .ok (.iaload, 1) := edL_law_1072.2.2.2.2.2.2.2.2.2.2.2.2.2.2.2.2.2.2.2.2.2.2.2.2.1
theorem dL_law_1099 : decode cL_law 1099 = .ok (.invokevirtual 136, 3) := edL_law_1072.2.2.2.2.2.2.2.2.2.2.2.2.2.2.2.2.2.2.2.2.2.2.2.2.2.1
theorem dL_law_1102 : decode cL_law 1102 = .ok (.pop, 1) := edL_law_1072.2.2.2.2.2.2.2.2.2.2.2.2.2.2.2.2.2.2.2.2.2.2.2.2.2.2.1
theorem dL_law_1103 : decode cL_law 1103 = .ok (.goto 349, 3) := edL_law_1072.2.2.2.2.2.2.2.2.2.2.2.2.2.2.2.2.2.2.2.2.2.2.2.2.2.2.2.1
theorem dL_law_1106 : decode cL_law 1106 = .ok (.aload_n 1, 1) := edL_law_1072.2.2.2.2.2.2.2.2.2.2.2.2.2.2.2.2.2.2.2.2.2.2.2.2.2.2.2.2.1
theorem dL_law_1107 : decode cL_law 1107 = .ok (.aload_n 0, 1) := edL_law_1072.2.2.2.2.2.2.2.2.2.2.2.2.2.2.2.2.2.2.2.2.2.2.2.2.2.2.2.2.2.1
theorem dL_law_1108 : decode cL_law 1108 = .ok (.iload_n 3, 1) := edL_law_1072.2.2.2.2.2.2.2.2.2.2.2.2.2.2.2.2.2.2.2.2.2.2.2.2.2.2.2.2.2.2.1
theorem dL_law_1109 : decode cL_law 1109 = .ok (.iconst 1, 1) := edL_law_1072.2.2.2.2.2.2.2.2.2.2.2.2.2.2.2.2.2.2.2.2.2.2.2.2.2.2.2.2.2.2.2.1
theorem edL_law_1110 : (decode cL_law 1110 = .ok (.iadd, 1)) ∧ (decode cL_law 1111 = .ok (.iaload, 1)) ∧ (decode cL_law 1112 = .ok (.invokevirtual 137, 3)) ∧ (decode cL_law 1115 = .ok (.pop, 1)) ∧ (decode cL_law 1116 = .ok (.aload_n 2, 1)) ∧ (decode cL_law 1117 = .ok (.aload_n 0, 1)) ∧ (decode cL_law 1118 = .ok (.iload_n 3, 1)) ∧ (decode cL_law 1119 = .ok (.iconst 1, 1)) ∧ (decode cL_law 1120 = .ok (.iadd, 1)) ∧ (decode cL_law 1121 = .ok (.iaload, 1)) ∧ (decode cL_law 1122 = .ok (.invokevirtual 140, 3)) ∧ (decode cL_law 1125 = .ok (.pop, 1)) ∧ (decode cL_law 1126 = .ok (.goto 326, 3)) ∧ (decode cL_law 1129 = .ok (.aload_n 1, 1)) ∧ (decode cL_law 1130 = .ok (.aload_n 0, 1)) ∧ (decode cL_law 1131 = .ok (.iload_n 3, 1)) ∧ (decode cL_law 1132 = .ok (.iconst 1, 1)) ∧ (decode cL_law 1133 = .ok (.iadd, 1)) ∧ (decode cL_law 1134 = .ok (.iaload, 1)) ∧ (decode cL_law 1135 = .ok (.invokevirtual 141, 3)) ∧ (decode cL_law 1138 = .ok (.pop, 1)) ∧ (decode cL_law 1139 = .ok (.aload_n 2, 1)) ∧ (decode cL_law 1140 = .ok (.aload_n 0, 1)) ∧ (decode cL_law 1141 = .ok (.iload_n 3, 1)) ∧ (decode cL_law 1142 = .ok (.iconst 1, 1)) ∧ (decode cL_law 1143 = .ok (.iadd, 1)) ∧ (decode cL_law 1144 = .ok (.iaload, 1)) ∧ (decode cL_law 1145 = .ok (.invokevirtual 144, 3)) ∧ (decode cL_law 1148 = .ok (.pop, 1)) ∧ (decode cL_law 1149 = .ok (.goto 303, 3)) ∧ (decode cL_law 1152 = .ok (.aload_n 1, 1)) ∧ (decode cL_law 1153 = .ok (.aload_n 0, 1)) ∧ True := dc_cj [(1110, .iadd, 1), (1111, .iaload, 1), (1112, .invokevirtual 137, 3), (1115, .pop, 1), (1116, .aload_n 2, 1), (1117, .aload_n 0, 1), (1118, .iload_n 3, 1), (1119, .iconst 1, 1), (1120, .iadd, 1), (1121, .iaload, 1), (1122, .invokevirtual 140, 3), (1125, .pop, 1), (1126, .goto 326, 3), (1129, .aload_n 1, 1), (1130, .aload_n 0, 1), (1131, .iload_n 3, 1), (1132, .iconst 1, 1), (1133, .iadd, 1), (1134, .iaload, 1), (1135, .invokevirtual 141, 3), (1138, .pop, 1), (1139, .aload_n 2, 1), (1140, .aload_n 0, 1), (1141, .iload_n 3, 1), (1142, .iconst 1, 1), (1143, .iadd, 1), (1144, .iaload, 1), (1145, .invokevirtual 144, 3), (1148, .pop, 1), (1149, .goto 303, 3), (1152, .aload_n 1, 1), (1153, .aload_n 0, 1)] (by decide +kernel)
theorem dL_law_1110 : decode cL_law 1110 = .ok (.iadd, 1) := edL_law_1110.1
theorem dL_law_1111 : decode cL_law 1111 = .ok (.iaload, 1) := edL_law_1110.2.1
theorem dL_law_1112 : decode cL_law 1112 = .ok (.invokevirtual 137, 3) := edL_law_1110.2.2.1
theorem dL_law_1115 : decode cL_law 1115 = .ok (.pop, 1) := edL_law_1110.2.2.2.1
theorem dL_law_1116 : decode cL_law 1116 = .ok (.aload_n 2, 1) := edL_law_1110.2.2.2.2.1
theorem dL_law_1117 : decode cL_law 1117 = .ok (.aload_n 0, 1) := edL_law_1110.2.2.2.2.2.1
theorem dL_law_1118 : decode cL_law 1118 = .ok (.iload_n 3, 1) := edL_law_1110.2.2.2.2.2.2.1
theorem dL_law_1119 : decode cL_law 1119 = .ok (.iconst 1, 1) := edL_law_1110.2.2.2.2.2.2.2.1
theorem dL_law_1120 : decode cL_law 1120 = .ok (.iadd, 1) := edL_law_1110.2.2.2.2.2.2.2.2.1
theorem dL_law_1121 : decode cL_law 1121 = .ok (.iaload, 1) := edL_law_1110.2.2.2.2.2.2.2.2.2.1
theorem dL_law_1122 : decode cL_law 1122 = .ok (.invokevirtual 140, 3) := edL_law_1110.2.2.2.2.2.2.2.2.2.2.1
theorem dL_law_1125 : decode cL_law 1125 = .ok (.pop, 1) := edL_law_1110.2.2.2.2.2.2.2.2.2.2.2.1
theorem dL_law_1126 : decode cL_law 1126 = .ok (.goto 326, 3) := edL_law_1110.2.2.2.2.2.2.2.2.2.2.2.2.1
theorem dL_law_1129 : decode cL_law 1129 = .ok (.aload_n 1, 1) := edL_law_1110.2.2.2.2.2.2.2.2.2.2.2.2.2.1
theorem dL_law_1130 : decode cL_law 1130 = .ok (.aload_n 0, 1) := edL_law_1110.2.2.2.2.2.2.2.2.2.2.2.2.2.2.1
theorem dL_law_1131 : decode cL_law 1131 = .ok (.iload_n 3, 1) := edL_law_1110.2.2.2.2.2.2.2.2.2.2.2.2.2.2.2.1
theorem dL_law_1132 : decode cL_law 1132 = .ok (.iconst 1, 1) := edL_law_1110.2.2.2.2.2.2.2.2.2.2.2.2.2.2.2.2.1
theorem dL_law_1133 : decode cL_law 1133 = .ok (.iadd, 1) := edL_law_1110.2.2.2.2.2.2.2.2.2.2.2.2.2.2.2.2.2.1
theorem dL_law_1134 : decode cL_law 1134 = .ok (.iaload, 1) := edL_law_1110.2.2.2.2.2.2.2.2.2.2.2.2.2.2.2.2.2.2.1
theorem dL_law_1135 : decode cL_law 1135 = .ok (.invokevirtual 141, 3) := edL_law_1110.2.2.2.2.2.2.2.2.2.2.2.2.2.2.2.2.2.2.2.1
theorem dL_law_1138 : decode cL_law 1138 = .ok (.pop, 1) := edL_law_1110.2.2.2.2.2.2.2.2.2.2.2.2.2.2.2.2.2.2.2.2.1
theorem dL_law_1139 : decode cL_law 1139 = .ok (.aload_n 2, 1) := edL_law_1110.2.2.2.2.2.2.2.2.2.2.2.2.2.2.2.2.2.2.2.2.2.1
theorem dL_law_1140 : decode cL_law 1140 = .ok (.aload_n 0, 1) := edL_law_1110.2.2.2.2.2.2.2.2.2.2.2.2.2.2.2.2.2.2.2.2.2.2.1
theorem dL_law_1141 : decode cL_law 1141 = .ok (.iload_n 3, 1) := edL_law_1110.2.2.2.2.2.2.2.2.2.2.2.2.2.2.2.2.2.2.2.2.2.2.2.1
theorem dL_law_1142 : decode cL_law 1142 = .ok (.iconst 1, 1) := edL_law_1110.2.2.2.2.2.2.2.2.2.2.2.2.2.2.2.2.2.2.2.2.2.2.2.2.1
theorem dL_law_1143 : decode cL_law 1143 = .ok (.iadd, 1) := edL_law_1110.2.2.2.2.2.2.2.2.2.2.2.2.2.2.2.2.2.2.2.2.2.2.2.2.2.1
theorem dL_law_1144 : decode cL_law 1144 = .ok (.iaload, 1) := edL_law_1110.2.2.2.2.2.2.2.2.2.2.2.2.2.2.2.2.2.2.2.2.2.2.2.2.2.2.1
theorem dL_law_1145 : decode cL_law 1145 = .ok (.invokevirtual 144, 3) := edL_law_1110.2.2.2.2.2.2.2.2.2.2.2.2.2.2.2.2.2.2.2.2.2.2.2.2.2.2.2.1
theorem dL_law_1148 : decode cL_law 1148 = .ok (.pop, 1) := edL_law_1110.2.2.2.2.2.2.2.2.2.2.2.2.2.2.2.2.2.2.2.2.2.2.2.2.2.2.2.2.1
theorem dL_law_1149 : decode cL_law 1149 = .ok (.goto 303, 3) := edL_law_1110.2.2.2.2.2.2.2.2.2.2.2.2.2.2.2.2.2.2.2.2.2.2.2.2.2.2.2.2.2.1
theorem dL_law_1152 : decode cL_law 1152 = .ok (.aload_n 1, 1) := edL_law_1110.2.2.2.2.2.2.2.2.2.2.2.2.2.2.2.2.2.2.2.2.2.2.2.2.2.2.2.2.2.2.1
theorem dL_law_1153 : decode cL_law 1153 = .ok (.aload_n 0, 1) := edL_law_1110.2.2.2.2.2.2.2.2.2.2.2.2.2.2.2.2.2.2.2.2.2.2.2.2.2.2.2.2.2.2.2.1
theorem edL_law_1154 : (decode cL_law 1154 = .ok (.iload_n 3, 1)) ∧ (decode cL_law 1155 = .ok (.iconst 1, 1)) ∧ (decode cL_law 1156 = .ok (.iadd, 1)) ∧ (decode cL_law 1157 = .ok (.iaload, 1)) ∧ (decode cL_law 1158 = .ok (.aload_n 0, 1)) ∧ (decode cL_law 1159 = .ok (.iload_n 3, 1)) ∧ (decode cL_law 1160 = .ok (.iconst 2, 1)) ∧ (decode cL_law 1161 = .ok (.iadd, 1)) ∧ (decode cL_law 1162 = .ok (.iaload, 1)) ∧ (decode cL_law 1163 = .ok (.aload_n 0, 1)) ∧ (decode cL_law 1164 = .ok (.iload_n 3, 1)) ∧ (decode cL_law 1165 = .ok (.iconst 3, 1)) ∧ (decode cL_law 1166 = .ok (.iadd, 1)) ∧ (decode cL_law 1167 = .ok (.iaload, 1)) ∧ (decode cL_law 1168 = .ok (.aload_n 0, 1)) ∧ (decode cL_law 1169 = .ok (.iload_n 3, 1)) ∧ (decode cL_law 1170 = .ok (.iconst 4, 1)) ∧ (decode cL_law 1171 = .ok (.iadd, 1)) ∧ (decode cL_law 1172 = .ok (.iaload, 1)) ∧ (decode cL_law 1173 = .ok (.aload_n 0, 1)) ∧ (decode cL_law 1174 = .ok (.iload_n 3, 1)) ∧ (decode cL_law 1175 = .ok (.iconst 5, 1)) ∧ (decode cL_law 1176 = .ok (.iadd, 1)) ∧ (decode cL_law 1177 = .ok (.iaload, 1)) ∧ (decode cL_law 1178 = .ok (.invokevirtual 145, 3)) ∧ (decode cL_law 1181 = .ok (.pop, 1)) ∧ (decode cL_law 1182 = .ok (.aload_n 2, 1)) ∧ (decode cL_law 1183 = .ok (.aload_n 0, 1)) ∧ (decode cL_law 1184 = .ok (.iload_n 3, 1)) ∧ (decode cL_law 1185 = .ok (.iconst 1, 1)) ∧ (decode cL_law 1186 = .ok (.iadd, 1)) ∧ (decode cL_law 1187 = .ok (.iaload, 1)) ∧ True := dc_cj [(1154, .iload_n 3, 1), (1155, .iconst 1, 1), (1156, .iadd, 1), (1157, .iaload, 1), (1158, .aload_n 0, 1), (1159, .iload_n 3, 1), (1160, .iconst 2, 1), (1161, .iadd, 1), (1162, .iaload, 1), (1163, .aload_n 0, 1), (1164, .iload_n 3, 1), (1165, .iconst 3, 1), (1166, .iadd, 1), (1167, .iaload, 1), (1168, .aload_n 0, 1), (1169, .iload_n 3, 1), (1170, .iconst 4, 1), (1171, .iadd, 1), (1172, .iaload, 1), (1173, .aload_n 0, 1), (1174, .iload_n 3, 1), (1175, .iconst 5, 1), (1176, .iadd, 1), (1177, .iaload, 1), (1178, .invokevirtual 145, 3), (1181, .pop, 1), (1182, .aload_n 2, 1), (1183, .aload_n 0, 1), (1184, .iload_n 3, 1), (1185, .iconst 1, 1), (1186, .iadd, 1), (1187, .iaload, 1)] (by decide +kernel)
theorem dL_law_1154 : decode cL_law 1154 = .ok (.iload_n 3, 1) := edL_law_1154.1
theorem dL_law_1155 : decode cL_law 1155 = .ok (.iconst 1, 1) := edL_law_1154.2.1
theorem dL_law_1156 : decode cL_law 1156 = .ok (.iadd, 1) := edL_law_1154.2.2.1
theorem dL_law_1157 : decode cL_law 1157 = .ok (.iaload, 1) := edL_law_1154.2.2.2.1
theorem dL_law_1158 : decode cL_law 1158 = .ok (.aload_n 0, 1) := edL_law_1154.2.2.2.2.1
theorem dL_law_1159 : decode cL_law 1159 = .ok (.iload_n 3, 1) := edL_law_1154.2.2.2.2.2.1
theorem dL_law_1160 : decode cL_law 1160 = .ok (.iconst 2, 1) := edL_law_1154.2.2.2.2.2.2.1
theorem dL_law_1161 : decode cL_law 1161 = .ok (.iadd, 1) := edL_law_1154.2.2.2.2.2.2.2.1
theorem dL_law_1162 : decode cL_law 1162 = .ok (.iaload, 1) := edL_law_1154.2.2.2.2.2.2.2.2.1
theorem dL_law_1163 : decode cL_law 1163 = .ok (.aload_n 0, 1) := edL_law_1154.2.2.2.2.2.2.2.2.2.1
theorem dL_law_1164 : decode cL_law 1164 = .ok (.iload_n 3, 1) := edL_law_1154.2.2.2.2.2.2.2.2.2.2.1
theorem dL_law_1165 : decode cL_law 1165 = .ok (.iconst 3, 1) := edL_law_1154.2.2.2.2.2.2.2.2.2.2.2.1
theorem dL_law_1166 : decode cL_law 1166 = .ok (.iadd, 1) := edL_law_1154.2.2.2.2.2.2.2.2.2.2.2.2.1
theorem dL_law_1167 : decode cL_law 1167 = .ok (.iaload, 1) := edL_law_1154.2.2.2.2.2.2.2.2.2.2.2.2.2.1
theorem dL_law_1168 : decode cL_law 1168 = .ok (.aload_n 0, 1) := edL_law_1154.2.2.2.2.2.2.2.2.2.2.2.2.2.2.1
theorem dL_law_1169 : decode cL_law 1169 = .ok (.iload_n 3, 1) := edL_law_1154.2.2.2.2.2.2.2.2.2.2.2.2.2.2.2.1
theorem dL_law_1170 : decode cL_law 1170 = .ok (.iconst 4, 1) := edL_law_1154.2.2.2.2.2.2.2.2.2.2.2.2.2.2.2.2.1
theorem dL_law_1171 : decode cL_law 1171 = .ok (.iadd, 1) := edL_law_1154.2.2.2.2.2.2.2.2.2.2.2.2.2.2.2.2.2.1
theorem dL_law_1172 : decode cL_law 1172 = .ok (.iaload, 1) := edL_law_1154.2.2.2.2.2.2.2.2.2.2.2.2.2.2.2.2.2.2.1
theorem dL_law_1173 : decode cL_law 1173 = .ok (.aload_n 0, 1) := edL_law_1154.2.2.2.2.2.2.2.2.2.2.2.2.2.2.2.2.2.2.2.1
theorem dL_law_1174 : decode cL_law 1174 = .ok (.iload_n 3, 1) := edL_law_1154.2.2.2.2.2.2.2.2.2.2.2.2.2.2.2.2.2.2.2.2.1
theorem dL_law_1175 : decode cL_law 1175 = .ok (.iconst 5, 1) := edL_law_1154.2.2.2.2.2.2.2.2.2.2.2.2.2.2.2.2.2.2.2.2.2.1
theorem dL_law_1176 : decode cL_law 1176 = .ok (.iadd, 1) := edL_law_1154.2.2.2.2.2.2.2.2.2.2.2.2.2.2.2.2.2.2.2.2.2.2.1
theorem dL_law_1177 : decode cL_law 1177 = .ok (.iaload, 1) := edL_law_1154.2.2.2.2.2.2.2.2.2.2.2.2.2.2.2.2.2.2.2.2.2.2.2.1
theorem dL_law_1178 : decode cL_law 1178 = .ok (.invokevirtual 145, 3) := edL_law_1154.2.2.2.2.2.2.2.2.2.2.2.2.2.2.2.2.2.2.2.2.2.2.2.2.1
theorem dL_law_1181 : decode cL_law 1181 = .ok (.pop, 1) := edL_law_1154.2.2.2.2.2.2.2.2.2.2.2.2.2.2.2.2.2.2.2.2.2.2.2.2.2.1
theorem dL_law_1182 : decode cL_law 1182 = .ok (.aload_n 2, 1) := edL_law_1154.2.2.2.2.2.2.2.2.2.2.2.2.2.2.2.2.2.2.2.2.2.2.2.2.2.2.1
theorem dL_law_1183 : decode cL_law 1183 = .ok (.aload_n 0, 1) := edL_law_1154.2.2.2.2.2.2.2.2.2.2.2.2.2.2.2.2.2.2.2.2.2.2.2.2.2.2.2.1
theorem dL_law_1184 : decode cL_law 1184 = .ok (.iload_n 3, 1) := edL_law_1154.2.2.2.2.2.2.2.2.2.2.2.2.2.2.2.2.2.2.2.2.2.2.2.2.2.2.2.2.1
theorem dL_law_1185 : decode cL_law 1185 = .ok (.iconst 1, 1) := edL_law_1154.2.2.2.2.2.2.2.2.2.2.2.2.2.2.2.2.2.2.2.2.2.2.2.2.2.2.2.2.2.1
theorem dL_law_1186 : decode cL_law 1186 = .ok (.iadd, 1) := edL_law_1154.2.2.2.2.2.2.2.2.2.2.2.2.2.2.2.2.2.2.2.2.2.2.2.2.2.2.2.2.2.2.1
theorem dL_law_1187 : decode cL_law 1187 = .ok (.iaload, 1) := edL_law_1154.2.2.2.2.2.2.2.2.2.2.2.2.2.2.2.2.2.2.2.2.2.2.2.2.2.2.2.2.2.2.2.1
theorem edL_law_1188 : (decode cL_law 1188 = .ok (.aload_n 0, 1)) ∧ (decode cL_law 1189 = .ok (.iload_n 3, 1)) ∧ (decode cL_law 1190 = .ok (.iconst 2, 1)) ∧ (decode cL_law 1191 = .ok (.iadd, 1)) ∧ (decode cL_law 1192 = .ok (.iaload, 1)) ∧ (decode cL_law 1193 = .ok (.aload_n 0, 1)) ∧ (decode cL_law 1194 = .ok (.iload_n 3, 1)) ∧ (decode cL_law 1195 = .ok (.iconst 3, 1)) ∧ (decode cL_law 1196 = .ok (.iadd, 1)) ∧ (decode cL_law 1197 = .ok (.iaload, 1)) ∧ (decode cL_law 1198 = .ok (.aload_n 0, 1)) ∧ (decode cL_law 1199 = .ok (.iload_n 3, 1)) ∧ (decode cL_law 1200 = .ok (.iconst 4, 1)) ∧ (decode cL_law 1201 = .ok (.iadd, 1)) ∧ (decode cL_law 1202 = .ok (.iaload, 1)) ∧ (decode cL_law 1203 = .ok (.aload_n 0, 1)) ∧ (decode cL_law 1204 = .ok (.iload_n 3, 1)) ∧ (decode cL_law 1205 = .ok (.iconst 5, 1)) ∧ (decode cL_law 1206 = .ok (.iadd, 1)) ∧ (decode cL_law 1207 = .ok (.iaload, 1)) ∧ (decode cL_law 1208 = .ok (.invokevirtual 149, 3)) ∧ (decode cL_law 1211 = .ok (.pop, 1)) ∧ (decode cL_law 1212 = .ok (.goto 240, 3)) ∧ (decode cL_law 1215 = .ok (.aload_n 1, 1)) ∧ (decode cL_law 1216 = .ok (.aload_n 0, 1)) ∧ (decode cL_law 1217 = .ok (.iload_n 3, 1)) ∧ (decode cL_law 1218 = .ok (.iconst 1, 1)) ∧ (decode cL_law 1219 = .ok (.iadd, 1)) ∧ (decode cL_law 1220 = .ok (.iaload, 1)) ∧ (decode cL_law 1221 = .ok (.aload_n 0, 1)) ∧ (decode cL_law 1222 = .ok (.iload_n 3, 1)) ∧ (decode cL_law 1223 = .ok (.iconst 2, 1)) ∧ True := dc_cj [(1188, .aload_n 0, 1), (1189, .iload_n 3, 1), (1190, .iconst 2, 1), (1191, .iadd, 1), (1192, .iaload, 1), (1193, .aload_n 0, 1), (1194, .iload_n 3, 1), (1195, .iconst 3, 1), (1196, .iadd, 1), (1197, .iaload, 1), (1198, .aload_n 0, 1), (1199, .iload_n 3, 1), (1200, .iconst 4, 1), (1201, .iadd, 1), (1202, .iaload, 1), (1203, .aload_n 0, 1), (1204, .iload_n 3, 1), (1205, .iconst 5, 1), (1206, .iadd, 1), (1207, .iaload, 1), (1208, .invokevirtual 149, 3), (1211, .pop, 1), (1212, .goto 240, 3), (1215, .aload_n 1, 1), (1216, .aload_n 0, 1), (1217, .iload_n 3, 1), (1218, .iconst 1, 1), (1219, .iadd, 1), (1220, .iaload, 1), (1221, .aload_n 0, 1), (1222, .iload_n 3, 1), (1223, .iconst 2, 1)] (by decide +kernel)
theorem dL_law_1188 : decode cL_law 1188 = .ok (.aload_n 0, 1) := edL_law_1188.1
theorem dL_law_1189 : decode cL_law 1189 = .ok (.iload_n 3, 1) := edL_law_1188.2.1
theorem dL_law_1190 : decode cL_law 1190 = .ok (.iconst 2, 1) := edL_law_1188.2.2.1
theorem dL_law_1191 : decode cL_law 1191 = .ok (.iadd, 1) := edL_law_1188.2.2.2.1
theorem dL_law_1192 : decode cL_law 1192 = .ok (.iaload, 1) := edL_law_1188.2.2.2.2.1
theorem dL_law_1193 : decode cL_law 1193 = .ok (.aload_n 0, 1) := edL_law_1188.2.2.2.2.2.1
theorem dL_law_1194 : decode cL_law 1194 = .ok (.iload_n 3, 1) := edL_law_1188.2.2.2.2.2.2.1
theorem dL_law_1195 : decode cL_law 1195 = .ok (.iconst 3, 1) := edL_law_1188.2.2.2.2.2.2.2.1
theorem dL_law_1196 : decode cL_law 1196 = .ok (.iadd, 1) := edL_law_1188.2.2.2.2.2.2.2.2.1
theorem dL_law_1197 : decode cL_law 1197 = .ok (.iaload, 1) := edL_law_1188.2.2.2.2.2.2.2.2.2.1
theorem dL_law_1198 : decode cL_law 1198 = .ok (.aload_n 0, 1) := edL_law_1188.2.2.2.2.2.2.2.2.2.2.1
theorem dL_law_1199 : decode cL_law 1199 = .ok (.iload_n 3, 1) := edL_law_1188.2.2.2.2.2.2.2.2.2.2.2.1
theorem dL_law_1200 : decode cL_law 1200 = .ok (.iconst 4, 1) := edL_law_1188.2.2.2.2.2.2.2.2.2.2.2.2.1
theorem dL_law_1201 : decode cL_law 1201 = .ok (.iadd, 1) := edL_law_1188.2.2.2.2.2.2.2.2.2.2.2.2.2.1
theorem dL_law_1202 : decode cL_law 1202 = .ok (.iaload, 1) := edL_law_1188.2.2.2.2.2.2.2.2.2.2.2.2.2.2.1
theorem dL_law_1203 : decode cL_law 1203 = .ok (.aload_n 0, 1) := edL_law_1188.2.2.2.2.2.2.2.2.2.2.2.2.2.2.2.1
theorem dL_law_1204 : decode cL_law 1204 = .ok (.iload_n 3, 1) := edL_law_1188.2.2.2.2.2.2.2.2.2.2.2.2.2.2.2.2.1
theorem dL_law_1205 : decode cL_law 1205 = .ok (.iconst 5, 1) := edL_law_1188.2.2.2.2.2.2.2.2.2.2.2.2.2.2.2.2.2.1
theorem dL_law_1206 : decode cL_law 1206 = .ok (.iadd, 1) := edL_law_1188.2.2.2.2.2.2.2.2.2.2.2.2.2.2.2.2.2.2.1
theorem dL_law_1207 : decode cL_law 1207 = .ok (.iaload, 1) := edL_law_1188.2.2.2.2.2.2.2.2.2.2.2.2.2.2.2.2.2.2.2.1
theorem dL_law_1208 : decode cL_law 1208 = .ok (.invokevirtual 149, 3) := edL_law_1188.2.2.2.2.2.2.2.2.2.2.2.2.2.2.2.2.2.2.2.2.1
theorem dL_law_1211 : decode cL_law 1211 = .ok (.pop, 1) := edL_law_1188.2.2.2.2.2.2.2.2.2.2.2.2.2.2.2.2.2.2.2.2.2.1
theorem dL_law_1212 : decode cL_law 1212 = .ok (.goto 240, 3) := edL_law_1188.2.2.2.2.2.2.2.2.2.2.2.2.2.2.2.2.2.2.2.2.2.2.1
theorem dL_law_1215 : decode cL_law 1215 = .ok (.aload_n 1, 1) := edL_law_1188.2.2.2.2.2.2.2.2.2.2.2.2.2.2.2.2.2.2.2.2.2.2.2.1
theorem dL_law_1216 : decode cL_law 1216 = .ok (.aload_n 0, 1) := edL_law_1188.2.2.2.2.2.2.2.2.2.2.2.2.2.2.2.2.2.2.2.2.2.2.2.2.1
theorem dL_law_1217 : decode cL_law 1217 = .ok (.iload_n 3, 1) := edL_law_1188.2.2.2.2.2.2.2.2.2.2.2.2.2.2.2.2.2.2.2.2.2.2.2.2.2.1
theorem dL_law_1218 : decode cL_law 1218 = .ok (.iconst 1, 1) := edL_law_1188.2.2.2.2.2.2.2.2.2.2.2.2.2.2.2.2.2.2.2.2.2.2.2.2.2.2.1
theorem dL_law_1219 : decode cL_law 1219 = .ok (.iadd, 1) := edL_law_1188.2.2.2.2.2.2.2.2.2.2.2.2.2.2.2.2.2.2.2.2.2.2.2.2.2.2.2.1
theorem dL_law_1220 : decode cL_law 1220 = .ok (.iaload, 1) := edL_law_1188.2.2.2.2.2.2.2.2.2.2.2.2.2.2.2.2.2.2.2.2.2.2.2.2.2.2.2.2.1
theorem dL_law_1221 : decode cL_law 1221 = .ok (.aload_n 0, 1) := edL_law_1188.2.2.2.2.2.2.2.2.2.2.2.2.2.2.2.2.2.2.2.2.2.2.2.2.2.2.2.2.2.1
theorem dL_law_1222 : decode cL_law 1222 = .ok (.iload_n 3, 1) := edL_law_1188.2.2.2.2.2.2.2.2.2.2.2.2.2.2.2.2.2.2.2.2.2.2.2.2.2.2.2.2.2.2.1
theorem dL_law_1223 : decode cL_law 1223 = .ok (.iconst 2, 1) := edL_law_1188.2.2.2.2.2.2.2.2.2.2.2.2.2.2.2.2.2.2.2.2.2.2.2.2.2.2.2.2.2.2.2.1
theorem edL_law_1224 : (decode cL_law 1224 = .ok (.iadd, 1)) ∧ (decode cL_law 1225 = .ok (.iaload, 1)) ∧ (decode cL_law 1226 = .ok (.aload_n 0, 1)) ∧ (decode cL_law 1227 = .ok (.iload_n 3, 1)) ∧ (decode cL_law 1228 = .ok (.iconst 3, 1)) ∧ (decode cL_law 1229 = .ok (.iadd, 1)) ∧ (decode cL_law 1230 = .ok (.iaload, 1)) ∧ (decode cL_law 1231 = .ok (.invokevirtual 150, 3)) ∧ (decode cL_law 1234 = .ok (.pop, 1)) ∧ (decode cL_law 1235 = .ok (.aload_n 2, 1)) ∧ (decode cL_law 1236 = .ok (.aload_n 0, 1)) ∧ (decode cL_law 1237 = .ok (.iload_n 3, 1)) ∧ (decode cL_law 1238 = .ok (.iconst 1, 1)) ∧ (decode cL_law 1239 = .ok (.iadd, 1)) ∧ (decode cL_law 1240 = .ok (.iaload, 1)) ∧ (decode cL_law 1241 = .ok (.aload_n 0, 1)) ∧ (decode cL_law 1242 = .ok (.iload_n 3, 1)) ∧ (decode cL_law 1243 = .ok (.iconst 2, 1)) ∧ (decode cL_law 1244 = .ok (.iadd, 1)) ∧ (decode cL_law 1245 = .ok (.iaload, 1)) ∧ (decode cL_law 1246 = .ok (.aload_n 0, 1)) ∧ (decode cL_law 1247 = .ok (.iload_n 3, 1)) ∧ (decode cL_law 1248 = .ok (.iconst 3, 1)) ∧ (decode cL_law 1249 = .ok (.iadd, 1)) ∧ (decode cL_law 1250 = .ok (.iaload, 1)) ∧ (decode cL_law 1251 = .ok (.invokevirtual 153, 3)) ∧ (decode cL_law 1254 = .ok (.pop, 1)) ∧ (decode cL_law 1255 = .ok (.goto 197, 3)) ∧ (decode cL_law 1258 = .ok (.aload_n 1, 1)) ∧ (decode cL_law 1259 = .ok (.aload_n 0, 1)) ∧ (decode cL_law 1260 = .ok (.iload_n 3, 1)) ∧ (decode cL_law 1261 = .ok (.iconst 1, 1)) ∧ True := dc_cj [(1224, .iadd, 1), (1225, .iaload, 1), (1226, .aload_n 0, 1), (1227, .iload_n 3, 1), (1228, .iconst 3, 1), (1229, .iadd, 1), (1230, .iaload, 1), (1231, .invokevirtual 150, 3), (1234, .pop, 1), (1235, .aload_n 2, 1), (1236, .aload_n 0, 1), (1237, .iload_n 3, 1), (1238, .iconst 1, 1), (1239, .iadd, 1), (1240, .iaload, 1), (1241, .aload_n 0, 1), (1242, .iload_n 3, 1), (1243, .iconst 2, 1), (1244, .iadd, 1), (1245, .iaload, 1), (1246, .aload_n 0, 1), (1247, .iload_n 3, 1), (1248, .iconst 3, 1), (1249, .iadd, 1), (1250, .iaload, 1), (1251, .invokevirtual 153, 3), (1254, .pop, 1), (1255, .goto 197, 3), (1258, .aload_n 1, 1), (1259, .aload_n 0, 1), (1260, .iload_n 3, 1), (1261, .iconst 1, 1)] (by decide +kernel)
theorem dL_law_1224 : decode cL_law 1224 = .ok (.iadd, 1) := edL_law_1224.1
theorem dL_law_1225 : decode cL_law 1225 = .ok (.iaload, 1) := edL_law_1224.2.1
theorem dL_law_1226 : decode cL_law 1226 = .ok (.aload_n 0, 1) := edL_law_1224.2.2.1
theorem dL_law_1227 : decode cL_law 1227 = .ok (.iload_n 3, 1) := edL_law_1224.2.2.2.1
theorem dL_law_1228 : decode cL_law 1228 = .ok (.iconst 3, 1) := edL_law_1224.2.2.2.2.1
theorem dL_law_1229 : decode cL_law 1229 = .ok (.iadd, 1) := edL_law_1224.2.2.2.2.2.1
theorem dL_law_1230 : decode cL_law 1230 = .ok (.iaload, 1) := edL_law_1224.2.2.2.2.2.2.1
theorem dL_law_1231 : decode cL_law 1231 = .ok (.invokevirtual 150, 3) := edL_law_1224.2.2.2.2.2.2.2.1
theorem dL_law_1234 : decode cL_law 1234 = .ok (.pop, 1) := edL_law_1224.2.2.2.2.2.2.2.2.1
theorem dL_law_1235 : decode cL_law 1235 = .ok (.aload_n 2, 1) := edL_law_1224.2.2.2.2.2.2.2.2.2.1
theorem dL_law_1236 : decode cL_law 1236 = .ok (.aload_n 0, 1) := edL_law_1224.2.2.2.2.2.2.2.2.2.2.1
theorem dL_law_1237 : decode cL_law 1237 = .ok (.iload_n 3, 1) := edL_law_1224.2.2.2.2.2.2.2.2.2.2.2.1
theorem dL_law_1238 : decode cL_law 1238 = .ok (.iconst 1, 1) := edL_law_1224.2.2.2.2.2.2.2.2.2.2.2.2.1
theorem dL_law_1239 : decode cL_law 1239 = .ok (.iadd, 1) := edL_law_1224.2.2.2.2.2.2.2.2.2.2.2.2.2.1
theorem dL_law_1240 : decode cL_law 1240 = .ok (.iaload, 1) := edL_law_1224.2.2.2.2.2.2.2.2.2.2.2.2.2.2.1
theorem dL_law_1241 : decode cL_law 1241 = .ok (.aload_n 0, 1) := edL_law_1224.2.2.2.2.2.2.2.2.2.2.2.2.2.2.2.1
theorem dL_law_1242 : decode cL_law 1242 = .ok (.iload_n 3, 1) := edL_law_1224.2.2.2.2.2.2.2.2.2.2.2.2.2.2.2.2.1
theorem dL_law_1243 : decode cL_law 1243 = .ok (.iconst 2, 1) := edL_law_1224.2.2.2.2.2.2.2.2.2.2.2.2.2.2.2.2.2.1
theorem dL_law_1244 : decode cL_law 1244 = .ok (.iadd, 1) := edL_law_1224.2.2.2.2.2.2.2.2.2.2.2.2.2.2.2.2.2.2.1
theorem dL_law_1245 : decode cL_law 1245 = .ok (.iaload, 1) := edL_law_1224.2.2.2.2.2.2.2.2.2.2.2.2.2.2.2.2.2.2.2.1
theorem dL_law_1246 : decode cL_law 1246 = .ok (.aload_n 0, 1) := edL_law_1224.2.2.2.2.2.2.2.2.2.2.2.2.2.2.2.2.2.2.2.2.1
theorem dL_law_1247 : decode cL_law 1247 = .ok (.iload_n 3, 1) := edL_law_1224.2.2.2.2.2.2.2.2.2.2.2.2.2.2.2.2.2.2.2.2.2.1
theorem dL_law_1248 : decode cL_law 1248 = .ok (.iconst 3, 1) := edL_law_1224.2.2.2.2.2.2.2.2.2.2.2.2.2.2.2.2.2.2.2.2.2.2.1
theorem dL_law_1249 : decode cL_law 1249 = .ok (.iadd, 1) := edL_law_1224.2.2.2.2.2.2.2.2.2.2.2.2.2.2.2.2.2.2.2.2.2.2.2.1
theorem dL_law_1250 : decode cL_law 1250 = .ok (.iaload, 1) := edL_law_1224.2.2.2.2.2.2.2.2.2.2.2.2.2.2.2.2.2.2.2.2.2.2.2.2.1
theorem dL_law_1251 : decode cL_law 1251 = .ok (.invokevirtual 153, 3) := edL_law_1224.2.2.2.2.2.2.2.2.2.2.2.2.2.2.2.2.2.2.2.2.2.2.2.2.2.1
theorem dL_law_1254 : decode cL_law 1254 = .ok (.pop, 1) := edL_law_1224.2.2.2.2.2.2.2.2.2.2.2.2.2.2.2.2.2.2.2.2.2.2.2.2.2.2.1
theorem dL_law_1255 : decode cL_law 1255 = .ok (.goto 197, 3) := edL_law_1224.2.2.2.2.2.2.2.2.2.2.2.2.2.2.2.2.2.2.2.2.2.2.2.2.2.2.2.1
theorem dL_law_1258 : decode cL_law 1258 = .ok (.aload_n 1, 1) := edL_law_1224.2.2.2.2.2.2.2.2.2.2.2.2.2.2.2.2.2.2.2.2.2.2.2.2.2.2.2.2.1
theorem dL_law_1259 : decode cL_law 1259 = .ok (.aload_n 0, 1) := edL_law_1224.2.2.2.2.2.2.2.2.2.2.2.2.2.2.2.2.2.2.2.2.2.2.2.2.2.2.2.2.2.1
theorem dL_law_1260 : decode cL_law 1260 = .ok (.iload_n 3, 1) := edL_law_1224.2.2.2.2.2.2.2.2.2.2.2.2.2.2.2.2.2.2.2.2.2.2.2.2.2.2.2.2.2.2.1
theorem dL_law_1261 : decode cL_law 1261 = .ok (.iconst 1, 1) := edL_law_1224.2.2.2.2.2.2.2.2.2.2.2.2.2.2.2.2.2.2.2.2.2.2.2.2.2.2.2.2.2.2.2.1
theorem edL_law_1262 : (decode cL_law 1262 = .ok (.iadd, 1)) ∧ (decode cL_law 1263 = .ok (.iaload, 1)) ∧ (decode cL_law 1264 = .ok (.aload_n 0, 1)) ∧ (decode cL_law 1265 = .ok (.iload_n 3, 1)) ∧ (decode cL_law 1266 = .ok (.iconst 2, 1)) ∧ (decode cL_law 1267 = .ok (.iadd, 1)) ∧ (decode cL_law 1268 = .ok (.iaload, 1)) ∧ (decode cL_law 1269 = .ok (.invokevirtual 154, 3)) ∧ (decode cL_law 1272 = .ok (.pop, 1)) ∧ (decode cL_law 1273 = .ok (.aload_n 2, 1)) ∧ (decode cL_law 1274 = .ok (.aload_n 0, 1)) ∧ (decode cL_law 1275 = .ok (.iload_n 3, 1)) ∧ (decode cL_law 1276 = .ok (.iconst 1, 1)) ∧ (decode cL_law 1277 = .ok (.iadd, 1)) ∧ (decode cL_law 1278 = .ok (.iaload, 1)) ∧ (decode cL_law 1279 = .ok (.aload_n 0, 1)) ∧ (decode cL_law 1280 = .ok (.iload_n 3, 1)) ∧ (decode cL_law 1281 = .ok (.iconst 2, 1)) ∧ (decode cL_law 1282 = .ok (.iadd, 1)) ∧ (decode cL_law 1283 = .ok (.iaload, 1)) ∧ (decode cL_law 1284 = .ok (.invokevirtual 157, 3)) ∧ (decode cL_law 1287 = .ok (.pop, 1)) ∧ (decode cL_law 1288 = .ok (.goto 164, 3)) ∧ (decode cL_law 1291 = .ok (.aload_n 1, 1)) ∧ (decode cL_law 1292 = .ok (.aload_n 0, 1)) ∧ (decode cL_law 1293 = .ok (.iload_n 3, 1)) ∧ (decode cL_law 1294 = .ok (.iconst 1, 1)) ∧ (decode cL_law 1295 = .ok (.iadd, 1)) ∧ (decode cL_law 1296 = .ok (.iaload, 1)) ∧ (decode cL_law 1297 = .ok (.aload_n 0, 1)) ∧ (decode cL_law 1298 = .ok (.iload_n 3, 1)) ∧ (decode cL_law 1299 = .ok (.iconst 2, 1)) ∧ True := dc_cj [(1262, .iadd, 1), (1263, .iaload, 1), (1264, .aload_n 0, 1), (1265, .iload_n 3, 1), (1266, .iconst 2, 1), (1267, .iadd, 1), (1268, .iaload, 1), (1269, .invokevirtual 154, 3), (1272, .pop, 1), (1273, .aload_n 2, 1), (1274, .aload_n 0, 1), (1275, .iload_n 3, 1), (1276, .iconst 1, 1), (1277, .iadd, 1), (1278, .iaload, 1), (1279, .aload_n 0, 1), (1280, .iload_n 3, 1), (1281, .iconst 2, 1), (1282, .iadd, 1), (1283, .iaload, 1), (1284, .invokevirtual 157, 3), (1287, .pop, 1), (1288, .goto 164, 3), (1291, .aload_n 1, 1), (1292, .aload_n 0, 1), (1293, .iload_n 3, 1), (1294, .iconst 1, 1), (1295, .iadd, 1), (1296, .iaload, 1), (1297, .aload_n 0, 1), (1298, .iload_n 3, 1), (1299, .iconst 2, 1)] (by decide +kernel)
theorem dL_law_1262 : decode cL_law 1262 = .ok (.iadd, 1) := edL_law_1262.1
theorem dL_law_1263 : decode cL_law 1263 = .ok (.iaload, 1) := edL_law_1262.2.1
theorem dL_law_1264 : decode cL_law 1264 = .ok (.aload_n 0, 1) := edL_law_1262.2.2.1
theorem dL_law_1265 : decode cL_law 1265 = .ok (.iload_n 3, 1) := edL_law_1262.2.2.2.1
theorem dL_law_1266 : decode cL_law 1266 = .ok (.iconst 2, 1) := edL_law_1262.2.2.2.2.1
theorem dL_law_1267 : decode cL_law 1267 = .ok (.iadd, 1) := edL_law_1262.2.2.2.2.2.1
theorem dL_law_1268 : decode cL_law 1268 = .ok (.iaload, 1) := edL_law_1262.2.2.2.2.2.2.1
theorem dL_law_1269 : decode cL_law 1269 = .ok (.invokevirtual 154, 3) := edL_law_1262.2.2.2.2.2.2.2.1
theorem dL_law_1272 : decode cL_law 1272 = .ok (.pop, 1) := edL_law_1262.2.2.2.2.2.2.2.2.1
theorem dL_law_1273 : decode cL_law 1273 = .ok (.aload_n 2, 1) := edL_law_1262.2.2.2.2.2.2.2.2.2.1
theorem dL_law_1274 : decode cL_law 1274 = .ok (.aload_n 0, 1) := edL_law_1262.2.2.2.2.2.2.2.2.2.2.1
theorem dL_law_1275 : decode cL_law 1275 = .ok (.iload_n 3, 1) := edL_law_1262.2.2.2.2.2.2.2.2.2.2.2.1
theorem dL_law_1276 : decode cL_law 1276 = .ok (.iconst 1, 1) := edL_law_1262.2.2.2.2.2.2.2.2.2.2.2.2.1
theorem dL_law_1277 : decode cL_law 1277 = .ok (.iadd, 1) := edL_law_1262.2.2.2.2.2.2.2.2.2.2.2.2.2.1
theorem dL_law_1278 : decode cL_law 1278 = .ok (.iaload, 1) := edL_law_1262.2.2.2.2.2.2.2.2.2.2.2.2.2.2.1
theorem dL_law_1279 : decode cL_law 1279 = .ok (.aload_n 0, 1) := edL_law_1262.2.2.2.2.2.2.2.2.2.2.2.2.2.2.2.1
theorem dL_law_1280 : decode cL_law 1280 = .ok (.iload_n 3, 1) := edL_law_1262.2.2.2.2.2.2.2.2.2.2.2.2.2.2.2.2.1
theorem dL_law_1281 : decode cL_law 1281 = .ok (.iconst 2, 1) := edL_law_1262.2.2.2.2.2.2.2.2.2.2.2.2.2.2.2.2.2.1
theorem dL_law_1282 : decode cL_law 1282 = .ok (.iadd, 1) := edL_law_1262.2.2.2.2.2.2.2.2.2.2.2.2.2.2.2.2.2.2.1
theorem dL_law_1283 : decode cL_law 1283 = .ok (.iaload, 1) := edL_law_1262.2.2.2.2.2.2.2.2.2.2.2.2.2.2.2.2.2.2.2.1
theorem dL_law_1284 : decode cL_law 1284 = .ok (.invokevirtual 157, 3) := edL_law_1262.2.2.2.2.2.2.2.2.2.2.2.2.2.2.2.2.2.2.2.2.1
theorem dL_law_1287 : decode cL_law 1287 = .ok (.pop, 1) := edL_law_1262.2.2.2.2.2.2.2.2.2.2.2.2.2.2.2.2.2.2.2.2.2.1
theorem dL_law_1288 : decode cL_law 1288 = .ok (.goto 164, 3) := edL_law_1262.2.2.2.2.2.2.2.2.2.2.2.2.2.2.2.2.2.2.2.2.2.2.1
theorem dL_law_1291 : decode cL_law 1291 = .ok (.aload_n 1, 1) := edL_law_1262.2.2.2.2.2.2.2.2.2.2.2.2.2.2.2.2.2.2.2.2.2.2.2.1
theorem dL_law_1292 : decode cL_law 1292 = .ok (.aload_n 0, 1) := edL_law_1262.2.2.2.2.2.2.2.2.2.2.2.2.2.2.2.2.2.2.2.2.2.2.2.2.1
theorem dL_law_1293 : decode cL_law 1293 = .ok (.iload_n 3, 1) := edL_law_1262.2.2.2.2.2.2.2.2.2.2.2.2.2.2.2.2.2.2.2.2.2.2.2.2.2.1
theorem dL_law_1294 : decode cL_law 1294 = .ok (.iconst 1, 1) := edL_law_1262.2.2.2.2.2.2.2.2.2.2.2.2.2.2.2.2.2.2.2.2.2.2.2.2.2.2.1
theorem dL_law_1295 : decode cL_law 1295 = .ok (.iadd, 1) := edL_law_1262.2.2.2.2.2.2.2.2.2.2.2.2.2.2.2.2.2.2.2.2.2.2.2.2.2.2.2.1
theorem dL_law_1296 : decode cL_law 1296 = .ok (.iaload, 1) := edL_law_1262.2.2.2.2.2.2.2.2.2.2.2.2.2.2.2.2.2.2.2.2.2.2.2.2.2.2.2.2.1
theorem dL_law_1297 : decode cL_law 1297 = .ok (.aload_n 0, 1) := edL_law_1262.2.2.2.2.2.2.2.2.2.2.2.2.2.2.2.2.2.2.2.2.2.2.2.2.2.2.2.2.2.1
theorem dL_law_1298 : decode cL_law 1298 = .ok (.iload_n 3, 1) := edL_law_1262.2.2.2.2.2.2.2.2.2.2.2.2.2.2.2.2.2.2.2.2.2.2.2.2.2.2.2.2.2.2.1
theorem dL_law_1299 : decode cL_law 1299 = .ok (.iconst 2, 1) := edL_law_1262.2.2.2.2.2.2.2.2.2.2.2.2.2.2.2.2.2.2.2.2.2.2.2.2.2.2.2.2.2.2.2.1
theorem edL_law_1300 : (decode cL_law 1300 = .ok (.iadd, 1)) ∧ (decode cL_law 1301 = .ok (.iaload, 1)) ∧ (decode cL_law 1302 = .ok (.invokevirtual 158, 3)) ∧ (decode cL_law 1305 = .ok (.pop, 1)) ∧ (decode cL_law 1306 = .ok (.aload_n 2, 1)) ∧ (decode cL_law 1307 = .ok (.aload_n 0, 1)) ∧ (decode cL_law 1308 = .ok (.iload_n 3, 1)) ∧ (decode cL_law 1309 = .ok (.iconst 1, 1)) ∧ (decode cL_law 1310 = .ok (.iadd, 1)) ∧ (decode cL_law 1311 = .ok (.iaload, 1)) ∧ (decode cL_law 1312 = .ok (.aload_n 0, 1)) ∧ (decode cL_law 1313 = .ok (.iload_n 3, 1)) ∧ (decode cL_law 1314 = .ok (.iconst 2, 1)) ∧ (decode cL_law 1315 = .ok (.iadd, 1)) ∧ (decode cL_law 1316 = .ok (.iaload, 1)) ∧ (decode cL_law 1317 = .ok (.invokevirtual 161, 3)) ∧ (decode cL_law 1320 = .ok (.pop, 1)) ∧ (decode cL_law 1321 = .ok (.goto 131, 3)) ∧ (decode cL_law 1324 = .ok (.aload_n 1, 1)) ∧ (decode cL_law 1325 = .ok (.aload_n 0, 1)) ∧ (decode cL_law 1326 = .ok (.iload_n 3, 1)) ∧ (decode cL_law 1327 = .ok (.iconst 1, 1)) ∧ (decode cL_law 1328 = .ok (.iadd, 1)) ∧ (decode cL_law 1329 = .ok (.iaload, 1)) ∧ (decode cL_law 1330 = .ok (.aload_n 0, 1)) ∧ (decode cL_law 1331 = .ok (.iload_n 3, 1)) ∧ (decode cL_law 1332 = .ok (.iconst 2, 1)) ∧ (decode cL_law 1333 = .ok (.iadd, 1)) ∧ (decode cL_law 1334 = .ok (.iaload, 1)) ∧ (decode cL_law 1335 = .ok (.invokevirtual 162, 3)) ∧ (decode cL_law 1338 = .ok (.pop, 1)) ∧ (decode cL_law 1339 = .ok (.aload_n 2, 1)) ∧ True := dc_cj [(1300, .iadd, 1), (1301, .iaload, 1), (1302, .invokevirtual 158, 3), (1305, .pop, 1), (1306, .aload_n 2, 1), (1307, .aload_n 0, 1), (1308, .iload_n 3, 1), (1309, .iconst 1, 1), (1310, .iadd, 1), (1311, .iaload, 1), (1312, .aload_n 0, 1), (1313, .iload_n 3, 1), (1314, .iconst 2, 1), (1315, .iadd, 1), (1316, .iaload, 1), (1317, .invokevirtual 161, 3), (1320, .pop, 1), (1321, .goto 131, 3), (1324, .aload_n 1, 1), (1325, .aload_n 0, 1), (1326, .iload_n 3, 1), (1327, .iconst 1, 1), (1328, .iadd, 1), (1329, .iaload, 1), (1330, .aload_n 0, 1), (1331, .iload_n 3, 1), (1332, .iconst 2, 1), (1333, .iadd, 1), (1334, .iaload, 1), (1335, .invokevirtual 162, 3), (1338, .pop, 1), (1339, .aload_n 2, 1)] (by decide +kernel)
theorem dL_law_1300 : decode cL_law 1300 = .ok (.iadd, 1) := edL_law_1300.1
theorem dL_law_1301 : decode cL_law 1301 = .ok (.iaload, 1) := edL_law_1300.2.1
theorem dL_law_1302 : decode cL_law 1302 = .ok (.invokevirtual 158, 3) := edL_law_1300.2.2.1
theorem dL_law_1305 : decode cL_law 1305 = .ok (.pop, 1) := edL_law_1300.2.2.2.1
theorem dL_law_1306 : decode cL_law 1306 = .ok (.aload_n 2, 1) := edL_law_1300.2.2.2.2.1
theorem dL_law_1307 : decode cL_law 1307 = .ok (.aload_n 0, 1) := edL_law_1300.2.2.2.2.2.1
theorem dL_law_1308 : decode cL_law 1308 = .ok (.iload_n 3, 1) := edL_law_1300.2.2.2.2.2.2.1
theorem dL_law_1309 : decode cL_law 1309 = .ok (.iconst 1, 1) := edL_law_1300.2.2.2.2.2.2.2.1
theorem dL_law_1310 : decode cL_law 1310 = .ok (.iadd, 1) := edL_law_1300.2.2.2.2.2.2.2.2.1
theorem dL_law_1311 : decode cL_law 1311 = .ok (.iaload, 1) := edL_law_1300.2.2.2.2.2.2.2.2.2.1
theorem dL_law_1312 : decode cL_law 1312 = .ok (.aload_n 0, 1) := edL_law_1300.2.2.2.2.2.2.2.2.2.2.1
theorem dL_law_1313 : decode cL_law 1313 = .ok (.iload_n 3, 1) := edL_law_1300.2.2.2.2.2.2.2.2.2.2.2.1
theorem dL_law_1314 : decode cL_law 1314 = .ok (.iconst 2, 1) := edL_law_1300.2.2.2.2.2.2.2.2.2.2.2.2.1
theorem dL_law_1315 : decode cL_law 1315 = .ok (.iadd, 1) := edL_law_1300.2.2.2.2.2.2.2.2.2.2.2.2.2.1
theorem dL_law_1316 : decode cL_law 1316 = .ok (.iaload, 1) := edL_law_1300.2.2.2.2.2.2.2.2.2.2.2.2.2.2.1
theorem dL_law_1317 : decode cL_law 1317 = .ok (.invokevirtual 161, 3) := edL_law_1300.2.2.2.2.2.2.2.2.2.2.2.2.2.2.2.1
theorem dL_law_1320 : decode cL_law 1320 = .ok (.pop, 1) := edL_law_1300.2.2.2.2.2.2.2.2.2.2.2.2.2.2.2.2.1
theorem dL_law_1321 : decode cL_law 1321 = .ok (.goto 131, 3) := edL_law_1300.2.2.2.2.2.2.2.2.2.2.2.2.2.2.2.2.2.1
theorem dL_law_1324 : decode cL_law 1324 = .ok (.aload_n 1, 1) := edL_law_1300.2.2.2.2.2.2.2.2.2.2.2.2.2.2.2.2.2.2.1
theorem dL_law_1325 : decode cL_law 1325 = .ok (.aload_n 0, 1) := edL_law_1300.2.2.2.2.2.2.2.2.2.2.2.2.2.2.2.2.2.2.2.1
theorem dL_law_1326 : decode cL_law 1326 = .ok (.iload_n 3, 1) := edL_law_1300.2.2.2.2.2.2.2.2.2.2.2.2.2.2.2.2.2.2.2.2.1
theorem dL_law_1327 : decode cL_law 1327 = .ok (.iconst 1, 1) := edL_law_1300.2.2.2.2.2.2.2.2.2.2.2.2.2.2.2.2.2.2.2.2.2.1
theorem dL_law_1328 : decode cL_law 1328 = .ok (.iadd, 1) := edL_law_1300.2.2.2.2.2.2.2.2.2.2.2.2.2.2.2.2.2.2.2.2.2.2.1
theorem dL_law_1329 : decode cL_law 1329 = .ok (.iaload, 1) := edL_law_1300.2.2.2.2.2.2.2.2.2.2.2.2.2.2.2.2.2.2.2.2.2.2.2.1
theorem dL_law_1330 : decode cL_law 1330 = .ok (.aload_n 0, 1) := edL_law_1300.2.2.2.2.2.2.2.2.2.2.2.2.2.2.2.2.2.2.2.2.2.2.2.2.1
theorem dL_law_1331 : decode cL_law 1331 = .ok (.iload_n 3, 1) := edL_law_1300.2.2.2.2.2.2.2.2.2.2.2.2.2.2.2.2.2.2.2.2.2.2.2.2.2.1
theorem dL_law_1332 : decode cL_law 1332 = .ok (.iconst 2, 1) := edL_law_1300.2.2.2.2.2.2.2.2.2.2.2.2.2.2.2.2.2.2.2.2.2.2.2.2.2.2.1
theorem dL_law_1333 : decode cL_law 1333 = .ok (.iadd, 1) := edL_law_1300.2.2.2.2.2.2.2.2.2.2.2.2.2.2.2.2.2.2.2.2.2.2.2.2.2.2.2.1
theorem dL_law_1334 : decode cL_law 1334 = .ok (.iaload, 1) := edL_law_1300.2.2.2.2.2.2.2.2.2.2.2.2.2.2.2.2.2.2.2.2.2.2.2.2.2.2.2.2.1
theorem dL_law_1335 : decode cL_law 1335 = .ok (.invokevirtual 162, 3) := edL_law_1300.2.2.2.2.2.2.2.2.2.2.2.2.2.2.2.2.2.2.2.2.2.2.2.2.2.2.2.2.2.1
theorem dL_law_1338 : decode cL_law 1338 = .ok (.pop, 1) := edL_law_1300.2.2.2.2.2.2.2.2.2.2.2.2.2.2.2.2.2.2.2.2.2.2.2.2.2.2.2.2.2.2.1
theorem dL_law_1339 : decode cL_law 1339 = .ok (.aload_n 2, 1) := edL_law_1300.2.2.2.2.2.2.2.2.2.2.2.2.2.2.2.2.2.2.2.2.2.2.2.2.2.2.2.2.2.2.2.1
theorem edL_law_1340 : (decode cL_law 1340 = .ok (.aload_n 0, 1)) ∧ (decode cL_law 1341 = .ok (.iload_n 3, 1)) ∧ (decode cL_law 1342 = .ok (.iconst 1, 1)) ∧ (decode cL_law 1343 = .ok (.iadd, 1)) ∧ (decode cL_law 1344 = .ok (.iaload, 1)) ∧ (decode cL_law 1345 = .ok (.aload_n 0, 1)) ∧ (decode cL_law 1346 = .ok (.iload_n 3, 1)) ∧ (decode cL_law 1347 = .ok (.iconst 2, 1)) ∧ (decode cL_law 1348 = .ok (.iadd, 1)) ∧ (decode cL_law 1349 = .ok (.iaload, 1)) ∧ (decode cL_law 1350 = .ok (.invokevirtual 165, 3)) ∧ (decode cL_law 1353 = .ok (.pop, 1)) ∧ (decode cL_law 1354 = .ok (.goto 98, 3)) ∧ (decode cL_law 1357 = .ok (.aload_n 1, 1)) ∧ (decode cL_law 1358 = .ok (.aload_n 0, 1)) ∧ (decode cL_law 1359 = .ok (.iload_n 3, 1)) ∧ (decode cL_law 1360 = .ok (.iconst 1, 1)) ∧ (decode cL_law 1361 = .ok (.iadd, 1)) ∧ (decode cL_law 1362 = .ok (.iaload, 1)) ∧ (decode cL_law 1363 = .ok (.invokevirtual 166, 3)) ∧ (decode cL_law 1366 = .ok (.pop, 1)) ∧ (decode cL_law 1367 = .ok (.aload_n 2, 1)) ∧ (decode cL_law 1368 = .ok (.aload_n 0, 1)) ∧ (decode cL_law 1369 = .ok (.iload_n 3, 1)) ∧ (decode cL_law 1370 = .ok (.iconst 1, 1)) ∧ (decode cL_law 1371 = .ok (.iadd, 1)) ∧ (decode cL_law 1372 = .ok (.iaload, 1)) ∧ (decode cL_law 1373 = .ok (.invokevirtual 169, 3)) ∧ (decode cL_law 1376 = .ok (.pop, 1)) ∧ (decode cL_law 1377 = .ok (.goto 75, 3)) ∧ (decode cL_law 1380 = .ok (.aload_n 1, 1)) ∧ (decode cL_law 1381 = .ok (.aload_n 0, 1)) ∧ True := dc_cj [(1340, .aload_n 0, 1), (1341, .iload_n 3, 1), (1342, .iconst 1, 1), (1343, .iadd, 1), (1344, .iaload, 1), (1345, .aload_n 0, 1), (1346, .iload_n 3, 1), (1347, .iconst 2, 1), (1348, .iadd, 1), (1349, .iaload, 1), (1350, .invokevirtual 165, 3), (1353, .pop, 1), (1354, .goto 98, 3), (1357, .aload_n 1, 1), (1358, .aload_n 0, 1), (1359, .iload_n 3, 1), (1360, .iconst 1, 1), (1361, .iadd, 1), (1362, .iaload, 1), (1363, .invokevirtual 166, 3), (1366, .pop, 1), (1367, .aload_n 2, 1), (1368, .aload_n 0, 1), (1369, .iload_n 3, 1), (1370, .iconst 1, 1), (1371, .iadd, 1), (1372, .iaload, 1), (1373, .invokevirtual 169, 3), (1376, .pop, 1), (1377, .goto 75, 3), (1380, .aload_n 1, 1), (1381, .aload_n 0, 1)] (by decide +kernel)
theorem dL_law_1340 : decode cL_law 1340 = .ok (.aload_n 0, 1) := edL_law_1340.1
theorem dL_law_1341 : decode cL_law 1341 = .ok (.iload_n 3, 1) := edL_law_1340.2.1
theorem dL_law_1342 : decode cL_law 1342 = .ok (.iconst 1, 1) := edL_law_1340.2.2.1
theorem dL_law_1343 : decode cL_law 1343 = .ok (.iadd, 1) := edL_law_1340.2.2.2.1
theorem dL_law_1344 : decode cL_law 1344 = .ok (.iaload, 1) := edL_law_1340.2.2.2.2.1
theorem dL_law_1345 : decode cL_law 1345 = .ok (.aload_n 0, 1) := edL_law_1340.2.2.2.2.2.1
theorem dL_law_1346 : decode cL_law 1346 = .ok (.iload_n 3, 1) := edL_law_1340.2.2.2.2.2.2.1
theorem dL_law_1347 : decode cL_law 1347 = .ok (.iconst 2, 1) := edL_law_1340.2.2.2.2.2.2.2.1
theorem dL_law_1348 : decode cL_law 1348 = .ok (.iadd, 1) := edL_law_1340.2.2.2.2.2.2.2.2.1
theorem dL_law_1349 : decode cL_law 1349 = .ok (.iaload, 1) := edL_law_1340.2.2.2.2.2.2.2.2.2.1
theorem dL_law_1350 : decode cL_law 1350 = .ok (.invokevirtual 165, 3) := edL_law_1340.2.2.2.2.2.2.2.2.2.2.1
theorem dL_law_1353 : decode cL_law 1353 = .ok (.pop, 1) := edL_law_1340.2.2.2.2.2.2.2.2.2.2.2.1
theorem dL_law_1354 : decode cL_law 1354 = .ok (.goto 98, 3) := edL_law_1340.2.2.2.2.2.2.2.2.2.2.2.2.1
theorem dL_law_1357 : decode cL_law 1357 = .ok (.aload_n 1, 1) := edL_law_1340.2.2.2.2.2.2.2.2.2.2.2.2.2.1
theorem dL_law_1358 : decode cL_law 1358 = .ok (.aload_n 0, 1) := edL_law_1340.2.2.2.2.2.2.2.2.2.2.2.2.2.2.1
theorem dL_law_1359 : decode cL_law 1359 = .ok (.iload_n 3, 1) := edL_law_1340.2.2.2.2.2.2.2.2.2.2.2.2.2.2.2.1
theorem dL_law_1360 : decode cL_law 1360 = .ok (.iconst 1, 1) := edL_law_1340.2.2.2.2.2.2.2.2.2.2.2.2.2.2.2.2.1
theorem dL_law_1361 : decode cL_law 1361 = .ok (.iadd, 1) := edL_law_1340.2.2.2.2.2.2.2.2.2.2.2.2.2.2.2.2.2.1
theorem dL_law_1362 : decode cL_law 1362 = .ok (.iaload, 1) := edL_law_1340.2.2.2.2.2.2.2.2.2.2.2.2.2.2.2.2.2.2.1
theorem dL_law_1363 : decode cL_law 1363 = .ok (.invokevirtual 166, 3) := edL_law_1340.2.2.2.2.2.2.2.2.2.2.2.2.2.2.2.2.2.2.2.1
theorem dL_law_1366 : decode cL_law 1366 = .ok (.pop, 1) := edL_law_1340.2.2.2.2.2.2.2.2.2.2.2.2.2.2.2.2.2.2.2.2.1
theorem dL_law_1367 : decode cL_law 1367 = .ok (.aload_n 2, 1) := edL_law_1340.2.2.2.2.2.2.2.2.2.2.2.2.2.2.2.2.2.2.2.2.2.1
theorem dL_law_1368 : decode cL_law 1368 = .ok (.aload_n 0, 1) := edL_law_1340.2.2.2.2.2.2.2.2.2.2.2.2.2.2.2.2.2.2.2.2.2.2.1
theorem dL_law_1369 : decode cL_law 1369 = .ok (.iload_n 3, 1) := edL_law_1340.2.2.2.2.2.2.2.2.2.2.2.2.2.2.2.2.2.2.2.2.2.2.2.1
theorem dL_law_1370 : decode cL_law 1370 = .ok (.iconst 1, 1) := edL_law_1340.2.2.2.2.2.2.2.2.2.2.2.2.2.2.2.2.2.2.2.2.2.2.2.2.1
theorem dL_law_1371 : decode cL_law 1371 = .ok (.iadd, 1) := edL_law_1340.2.2.2.2.2.2.2.2.2.2.2.2.2.2.2.2.2.2.2.2.2.2.2.2.2.1
theorem dL_law_1372 : decode cL_law 1372 = .ok (.iaload, 1) := edL_law_1340.2.2.2.2.2.2.2.2.2.2.2.2.2.2.2.2.2.2.2.2.2.2.2.2.2.2.1
theorem dL_law_1373 : decode cL_law 1373 = .ok (.invokevirtual 169, 3) := edL_law_1340.2.2.2.2.2.2.2.2.2.2.2.2.2.2.2.2.2.2.2.2.2.2.2.2.2.2.2.1
theorem dL_law_1376 : decode cL_law 1376 = .ok (.pop, 1) := edL_law_1340.2.2.2.2.2.2.2.2.2.2.2.2.2.2.2.2.2.2.2.2.2.2.2.2.2.2.2.2.1
theorem dL_law_1377 : decode cL_law 1377 = .ok (.goto 75, 3) := edL_law_1340.2.2.2.2.2.2.2.2.2.2.2.2.2.2.2.2.2.2.2.2.2.2.2.2.2.2.2.2.2.1
theorem dL_law_1380 : decode cL_law 1380 = .ok (.aload_n 1, 1) := edL_law_1340.2.2.2.2.2.2.2.2.2.2.2.2.2.2.2.2.2.2.2.2.2.2.2.2.2.2.2.2.2.2.1
theorem dL_law_1381 : decode cL_law 1381 = .ok (.aload_n 0, 1) := edL_law_1340.2.2.2.2.2.2.2.2.2.2.2.2.2.2.2.2.2.2.2.2.2.2.2.2.2.2.2.2.2.2.2.1
theorem edL_law_1382 : (decode cL_law 1382 = .ok (.iload_n 3, 1)) ∧ (decode cL_law 1383 = .ok (.iconst 1, 1)) ∧ (decode cL_law 1384 = .ok (.iadd, 1)) ∧ (decode cL_law 1385 = .ok (.iaload, 1)) ∧ (decode cL_law 1386 = .ok (.invokevirtual 170, 3)) ∧ (decode cL_law 1389 = .ok (.pop, 1)) ∧ (decode cL_law 1390 = .ok (.aload_n 2, 1)) ∧ (decode cL_law 1391 = .ok (.aload_n 0, 1)) ∧ (decode cL_law 1392 = .ok (.iload_n 3, 1)) ∧ (decode cL_law 1393 = .ok (.iconst 1, 1)) ∧ (decode cL_law 1394 = .ok (.iadd, 1)) ∧ (decode cL_law 1395 = .ok (.iaload, 1)) ∧ (decode cL_law 1396 = .ok (.invokevirtual 173, 3)) ∧ (decode cL_law 1399 = .ok (.pop, 1)) ∧ (decode cL_law 1400 = .ok (.goto 52, 3)) ∧ (decode cL_law 1403 = .ok (.aload_n 1, 1)) ∧ (decode cL_law 1404 = .ok (.invokevirtual 174, 3)) ∧ (decode cL_law 1407 = .ok (.pop, 1)) ∧ (decode cL_law 1408 = .ok (.aload_n 2, 1)) ∧ (decode cL_law 1409 = .ok (.invokevirtual 177, 3)) ∧ (decode cL_law 1412 = .ok (.pop, 1)) ∧ (decode cL_law 1413 = .ok (.goto 39, 3)) ∧ (decode cL_law 1416 = .ok (.aload_n 1, 1)) ∧ (decode cL_law 1417 = .ok (.invokevirtual 178, 3)) ∧ (decode cL_law 1420 = .ok (.pop, 1)) ∧ (decode cL_law 1421 = .ok (.aload_n 2, 1)) ∧ (decode cL_law 1422 = .ok (.invokevirtual 181, 3)) ∧ (decode cL_law 1425 = .ok (.pop, 1)) ∧ (decode cL_law 1426 = .ok (.goto 26, 3)) ∧ (decode cL_law 1429 = .ok (.aload_n 1, 1)) ∧ (decode cL_law 1430 = .ok (.aload_n 0, 1)) ∧ (decode cL_law 1431 = .ok (.iload_n 3, 1)) ∧ True := dc_cj [(1382, .iload_n 3, 1), (1383, .iconst 1, 1), (1384, .iadd, 1), (1385, .iaload, 1), (1386, .invokevirtual 170, 3), (1389, .pop, 1), (1390, .aload_n 2, 1), (1391, .aload_n 0, 1), (1392, .iload_n 3, 1), (1393, .iconst 1, 1), (1394, .iadd, 1), (1395, .iaload, 1), (1396, .invokevirtual 173, 3), (1399, .pop, 1), (1400, .goto 52, 3), (1403, .aload_n 1, 1), (1404, .invokevirtual 174, 3), (1407, .pop, 1), (1408, .aload_n 2, 1), (1409, .invokevirtual 177, 3), (1412, .pop, 1), (1413, .goto 39, 3), (1416, .aload_n 1, 1), (1417, .invokevirtual 178, 3), (1420, .pop, 1), (1421, .aload_n 2, 1), (1422, .invokevirtual 181, 3), (1425, .pop, 1), (1426, .goto 26, 3), (1429, .aload_n 1, 1), (1430, .aload_n 0, 1), (1431, .iload_n 3, 1)] (by decide +kernel)
theorem dL_law_1382 : decode cL_law 1382 = .ok (.iload_n 3, 1) := edL_law_1382.1
theorem dL_law_1383 : decode cL_law 1383 = .ok (.iconst 1, 1) := edL_law_1382.2.1
theorem dL_law_1384 : decode cL_law 1384 = .ok (.iadd, 1) := edL_law_1382.2.2.1
theorem dL_law_1385 : decode cL_law 1385 = .ok (.iaload, 1) := edL_law_1382.2.2.2.1
theorem dL_law_1386 : decode cL_law 1386 = .ok (.invokevirtual 170, 3) := edL_law_1382.2.2.2.2.1
theorem dL_law_1389 : decode cL_law 1389 = .ok (.pop, 1) := edL_law_1382.2.2.2.2.2.1
theorem dL_law_1390 : decode cL_law 1390 = .ok (.aload_n 2, 1) := edL_law_1382.2.2.2.2.2.2.1
theorem dL_law_1391 : decode cL_law 1391 = .ok (.aload_n 0, 1) := edL_law_1382.2.2.2.2.2.2.2.1
theorem dL_law_1392 : decode cL_law 1392 = .ok (.iload_n 3, 1) := edL_law_1382.2.2.2.2.2.2.2.2.1
theorem dL_law_1393 : decode cL_law 1393 = .ok (.iconst 1, 1) := edL_law_1382.2.2.2.2.2.2.2.2.2.1
theorem dL_law_1394 : decode cL_law 1394 = .ok (.iadd, 1) := edL_law_1382.2.2.2.2.2.2.2.2.2.2.1
theorem dL_law_1395 : decode cL_law 1395 = .ok (.iaload, 1) := edL_law_1382.2.2.2.2.2.2.2.2.2.2.2.1
theorem dL_law_1396 : decode cL_law 1396 = .ok (.invokevirtual 173, 3) := edL_law_1382.2.2.2.2.2.2.2.2.2.2.2.2.1
theorem dL_law_1399 : decode cL_law 1399 = .ok (.pop, 1) := edL_law_1382.2.2.2.2.2.2.2.2.2.2.2.2.2.1
theorem dL_law_1400 : decode cL_law 1400 = .ok (.goto 52, 3) := edL_law_1382.2.2.2.2.2.2.2.2.2.2.2.2.2.2.1
theorem dL_law_1403 : decode cL_law 1403 = .ok (.aload_n 1, 1) := edL_law_1382.2.2.2.2.2.2.2.2.2.2.2.2.2.2.2.1
theorem dL_law_1404 : decode cL_law 1404 = .ok (.invokevirtual 174, 3) := edL_law_1382.2.2.2.2.2.2.2.2.2.2.2.2.2.2.2.2.1
theorem dL_law_1407 : decode cL_law 1407 = .ok (.pop, 1) := edL_law_1382.2.2.2.2.2.2.2.2.2.2.2.2.2.2.2.2.2.1
theorem dL_law_1408 : decode cL_law 1408 = .ok (.aload_n 2, 1) := edL_law_1382.2.2.2.2.2.2.2.2.2.2.2.2.2.2.2.2.2.2.1
theorem dL_law_1409 : decode cL_law 1409 = .ok (.invokevirtual 177, 3) := edL_law_1382.2.2.2.2.2.2.2.2.2.2.2.2.2.2.2.2.2.2.2.1
theorem dL_law_1412 : decode cL_law 1412 = .ok (.pop, 1) := edL_law_1382.2.2.2.2.2.2.2.2.2.2.2.2.2.2.2.2.2.2.2.2.1
theorem dL_law_1413 : decode cL_law 1413 = .ok (.goto 39, 3) := edL_law_1382.2.2.2.2.2.2.2.2.2.2.2.2.2.2.2.2.2.2.2.2.2.1
theorem dL_law_1416 : decode cL_law 1416 = .ok (.aload_n 1, 1) := edL_law_1382.2.2.2.2.2.2.2.2.2.2.2.2.2.2.2.2.2.2.2.2.2.2.1
theorem dL_law_1417 : decode cL_law 1417 = .ok (.invokevirtual 178, 3) := edL_law_1382.2.2.2.2.2.2.2.2.2.2.2.2.2.2.2.2.2.2.2.2.2.2.2.1
theorem dL_law_1420 : decode cL_law 1420 = .ok (.pop, 1) := edL_law_1382.2.2.2.2.2.2.2.2.2.2.2.2.2.2.2.2.2.2.2.2.2.2.2.2.1
theorem dL_law_1421 : decode cL_law 1421 = .ok (.aload_n 2, 1) := edL_law_1382.2.2.2.2.2.2.2.2.2.2.2.2.2.2.2.2.2.2.2.2.2.2.2.2.2.1
theorem dL_law_1422 : decode cL_law 1422 = .ok (.invokevirtual 181, 3) := edL_law_1382.2.2.2.2.2.2.2.2.2.2.2.2.2.2.2.2.2.2.2.2.2.2.2.2.2.2.1
theorem dL_law_1425 : decode cL_law 1425 = .ok (.pop, 1) := edL_law_1382.2.2.2.2.2.2.2.2.2.2.2.2.2.2.2.2.2.2.2.2.2.2.2.2.2.2.2.1
theorem dL_law_1426 : decode cL_law 1426 = .ok (.goto 26, 3) := edL_law_1382.2.2.2.2.2.2.2.2.2.2.2.2.2.2.2.2.2.2.2.2.2.2.2.2.2.2.2.2.1
theorem dL_law_1429 : decode cL_law 1429 = .ok (.aload_n 1, 1) := edL_law_1382.2.2.2.2.2.2.2.2.2.2.2.2.2.2.2.2.2.2.2.2.2.2.2.2.2.2.2.2.2.1
theorem dL_law_1430 : decode cL_law 1430 = .ok (.aload_n 0, 1) := edL_law_1382.2.2.2.2.2.2.2.2.2.2.2.2.2.2.2.2.2.2.2.2.2.2.2.2.2.2.2.2.2.2.1
theorem dL_law_1431 : decode cL_law 1431 = .ok (.iload_n 3, 1) := edL_law_1382.2.2.2.2.2.2.2.2.2.2.2.2.2.2.2.2.2.2.2.2.2.2.2.2.2.2.2.2.2.2.2.1
theorem edL_law_1432 : (decode cL_law 1432 = .ok (.iconst 1, 1)) ∧ (decode cL_law 1433 = .ok (.iadd, 1)) ∧ (decode cL_law 1434 = .ok (.iaload, 1)) ∧ (decode cL_law 1435 = .ok (.invokevirtual 182, 3)) ∧ (decode cL_law 1438 = .ok (.pop, 1)) ∧ (decode cL_law 1439 = .ok (.aload_n 2, 1)) ∧ (decode cL_law 1440 = .ok (.aload_n 0, 1)) ∧ (decode cL_law 1441 = .ok (.iload_n 3, 1)) ∧ (decode cL_law 1442 = .ok (.iconst 1, 1)) ∧ (decode cL_law 1443 = .ok (.iadd, 1)) ∧ (decode cL_law 1444 = .ok (.iaload, 1)) ∧ (decode cL_law 1445 = .ok (.invokevirtual 185, 3)) ∧ (decode cL_law 1448 = .ok (.pop, 1)) ∧ (decode cL_law 1449 = .ok (.goto 3, 3)) ∧ (decode cL_law 1452 = .ok (.iinc 3 6, 3)) ∧ (decode cL_law 1455 = .ok (.goto (-1437), 3)) ∧ (decode cL_law 1458 = .ok (.iconst 1, 1)) ∧ (decode cL_law 1459 = .ok (.ireturn, 1)) ∧ True := dc_cj [(1432, .iconst 1, 1), (1433, .iadd, 1), (1434, .iaload, 1), (1435, .invokevirtual 182, 3), (1438, .pop, 1), (1439, .aload_n 2, 1), (1440, .aload_n 0, 1), (1441, .iload_n 3, 1), (1442, .iconst 1, 1), (1443, .iadd, 1), (1444, .iaload, 1), (1445, .invokevirtual 185, 3), (1448, .pop, 1), (1449, .goto 3, 3), (1452, .iinc 3 6, 3), (1455, .goto (-1437), 3), (1458, .iconst 1, 1), (1459, .ireturn, 1)] (by decide +kernel)
theorem dL_law_1432 : decode cL_law 1432 = .ok (.iconst 1, 1) := edL_law_1432.1
theorem dL_law_1433 : decode cL_law 1433 = .ok (.iadd, 1) := edL_law_1432.2.1
theorem dL_law_1434 : decode cL_law 1434 = .ok (.iaload, 1) := edL_law_1432.2.2.1
theorem dL_law_1435 : decode cL_law 1435 = .ok (.invokevirtual 182, 3) := edL_law_1432.2.2.2.1
theorem dL_law_1438 : decode cL_law 1438 = .ok (.pop, 1) := edL_law_1432.2.2.2.2.1
theorem dL_law_1439 : decode cL_law 1439 = .ok (.aload_n 2, 1) := edL_law_1432.2.2.2.2.2.1
theorem dL_law_1440 : decode cL_law 1440 = .ok (.aload_n 0, 1) := edL_law_1432.2.2.2.2.2.2.1
theorem dL_law_1441 : decode cL_law 1441 = .ok (.iload_n 3, 1) := edL_law_1432.2.2.2.2.2.2.2.1
theorem dL_law_1442 : decode cL_law 1442 = .ok (.iconst 1, 1) := edL_law_1432.2.2.2.2.2.2.2.2.1
theorem dL_law_1443 : decode cL_law 1443 = .ok (.iadd, 1) := edL_law_1432.2.2.2.2.2.2.2.2.2.1
theorem dL_law_1444 : decode cL_law 1444 = .ok (.iaload, 1) := edL_law_1432.2.2.2.2.2.2.2.2.2.2.1
theorem dL_law_1445 : decode cL_law 1445 = .ok (.invokevirtual 185, 3) := edL_law_1432.2.2.2.2.2.2.2.2.2.2.2.1
theorem dL_law_1448 : decode cL_law 1448 = .ok (.pop, 1) := edL_law_1432.2.2.2.2.2.2.2.2.2.2.2.2.1
theorem dL_law_1449 : decode cL_law 1449 = .ok (.goto 3, 3) := edL_law_1432.2.2.2.2.2.2.2.2.2.2.2.2.2.1
theorem dL_law_1452 : decode cL_law 1452 = .ok (.iinc 3 6, 3) := edL_law_1432.2.2.2.2.2.2.2.2.2.2.2.2.2.2.1
theorem dL_law_1455 : decode cL_law 1455 = .ok (.goto (-1437), 3) := edL_law_1432.2.2.2.2.2.2.2.2.2.2.2.2.2.2.2.1
theorem dL_law_1458 : decode cL_law 1458 = .ok (.iconst 1, 1) := edL_law_1432.2.2.2.2.2.2.2.2.2.2.2.2.2.2.2.2.1
theorem dL_law_1459 : decode cL_law 1459 = .ok (.ireturn, 1) := edL_law_1432.2.2.2.2.2.2.2.2.2.2.2.2.2.2.2.2.2.1
