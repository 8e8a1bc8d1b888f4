theorem dX0_init_6 : decode cX0_init 6 = .ok (.newarray .int, 2) := by decide +kernel
theorem dX0_init_30 : decode cX0_init 30 = .ok (.newarray .int, 2) := by decide +kernel
theorem dX0_init_71 : decode cX0_init 71 = .ok (.newarray .int, 2) := by decide +kernel
theorem dX0_init_126 : decode cX0_init 126 = .ok (.newarray .int, 2) := by decide +kernel
theorem dX0_init_134 : decode cX0_init 134 = .ok (.newarray .int, 2) := by decide +kernel
theorem dX0_init_142 : decode cX0_init 142 = .ok (.newarray .int, 2) := by decide +kernel
theorem dX0_init_150 : decode cX0_init 150 = .ok (.newarray .int, 2) := by decide +kernel
theorem dX0_init_158 : decode cX0_init 158 = .ok (.newarray .int, 2) := by decide +kernel
theorem dX0_init_179 : decode cX0_init 179 = .ok (.newarray .int, 2) := by decide +kernel
theorem dX0_init_198 : decode cX0_init 198 = .ok (.newarray .int, 2) := by decide +kernel
theorem dX0_toneOf_35 : decode cX0_toneOf 35 = .ok (.tableswitch 54 1 4 #[29, 39, 29, 43], 29) := by decide +kernel
theorem dX1_init_43 : decode cX1_init 43 = .ok (.newarray .int, 2) := by decide +kernel
theorem dX2_init_17 : decode cX2_init 17 = .ok (.newarray .int, 2) := by decide +kernel
theorem dX4_init_7 : decode cX4_init 7 = .ok (.newarray .int, 2) := by decide +kernel
theorem dX5_init_25 : decode cX5_init 25 = .ok (.newarray .int, 2) := by decide +kernel
theorem dX5_join_1 : decode cX5_join 1 = .ok (.lookupswitch 168 #[(38, 140), (42, 91), (43, 83), (45, 87), (47, 95), (60, 107), (61, 118), (62, 129), (124, 154)], 83) := by decide +kernel
theorem dX6_init_6 : decode cX6_init 6 = .ok (.newarray .int, 2) := by decide +kernel
theorem dX7_init_94 : decode cX7_init 94 = .ok (.newarray .int, 2) := by decide +kernel
theorem dX7_told_15 : decode cX7_told 15 = .ok (.tableswitch 138 0 7 #[45, 55, 65, 75, 85, 95, 104, 116], 45) := by decide +kernel
theorem dX7_table_1 : decode cX7_table 1 = .ok (.tableswitch 123 0 6 #[43, 52, 61, 77, 85, 93, 108], 43) := by decide +kernel
theorem dX7_behind_44 : decode cX7_behind 44 = .ok (.tableswitch 60 0 2 #[28, 36, 44], 28) := by decide +kernel
theorem dX7_count_1 : decode cX7_count 1 = .ok (.tableswitch 120 0 8 #[51, 59, 67, 75, 83, 91, 99, 104, 112], 51) := by decide +kernel
theorem dX7_worthOf_1 : decode cX7_worthOf 1 = .ok (.tableswitch 61 1 5 #[35, 45, 39, 50, 58], 35) := by decide +kernel
theorem dX8_init_8 : decode cX8_init 8 = .ok (.newarray .int, 2) := by decide +kernel
theorem dX8_init_17 : decode cX8_init 17 = .ok (.newarray .int, 2) := by decide +kernel
theorem dX8_init_26 : decode cX8_init 26 = .ok (.newarray .int, 2) := by decide +kernel
theorem dX8_init_38 : decode cX8_init 38 = .ok (.newarray .int, 2) := by decide +kernel
theorem dX8_init_46 : decode cX8_init 46 = .ok (.newarray .int, 2) := by decide +kernel
theorem dX8_init_54 : decode cX8_init 54 = .ok (.newarray .int, 2) := by decide +kernel
theorem dX8_init_62 : decode cX8_init 62 = .ok (.newarray .char, 2) := by decide +kernel
theorem dX8_init_129 : decode cX8_init 129 = .ok (.newarray .int, 2) := by decide +kernel
theorem dX8_init_155 : decode cX8_init 155 = .ok (.newarray .int, 2) := by decide +kernel
theorem dX8_init_163 : decode cX8_init 163 = .ok (.newarray .int, 2) := by decide +kernel
theorem dX8_init_171 : decode cX8_init 171 = .ok (.newarray .boolean, 2) := by decide +kernel
theorem dX8_init_179 : decode cX8_init 179 = .ok (.newarray .int, 2) := by decide +kernel
theorem dX8_init_186 : decode cX8_init 186 = .ok (.newarray .int, 2) := by decide +kernel
theorem dX8_init_193 : decode cX8_init 193 = .ok (.newarray .int, 2) := by decide +kernel
theorem dX8_init_216 : decode cX8_init 216 = .ok (.newarray .int, 2) := by decide +kernel
theorem dX8_init_224 : decode cX8_init 224 = .ok (.newarray .int, 2) := by decide +kernel
theorem dX8_init_231 : decode cX8_init 231 = .ok (.newarray .int, 2) := by decide +kernel
theorem dX8_init_238 : decode cX8_init 238 = .ok (.newarray .int, 2) := by decide +kernel
theorem dX8_init_245 : decode cX8_init 245 = .ok (.newarray .int, 2) := by decide +kernel
theorem dX8_init_253 : decode cX8_init 253 = .ok (.newarray .int, 2) := by decide +kernel
theorem dX8_init_261 : decode cX8_init 261 = .ok (.newarray .int, 2) := by decide +kernel
theorem dX8_init_269 : decode cX8_init 269 = .ok (.newarray .int, 2) := by decide +kernel
theorem dX8_toneOf_82 : decode cX8_toneOf 82 = .ok (.tableswitch 90 1 5 #[34, 45, 49, 75, 88], 34) := by decide +kernel
theorem dX8_pickOf_45 : decode cX8_pickOf 45 = .ok (.tableswitch 45 1 5 #[35, 45, 35, 38, 42], 35) := by decide +kernel
theorem dX8_worthOf_13 : decode cX8_worthOf 13 = .ok (.tableswitch 58 1 5 #[35, 39, 44, 50, 55], 35) := by decide +kernel
theorem dX8_table_1 : decode cX8_table 1 = .ok (.tableswitch 87 0 6 #[43, 43, 49, 62, 67, 75, 81], 43) := by decide +kernel
theorem dX8_nameOf_4 : decode cX8_nameOf 4 = .ok (.lookupswitch 82 #[(0, 28), (1, 60)], 28) := by decide +kernel
theorem dX8_signHere_14 : decode cX8_signHere 14 = .ok (.lookupswitch 108 #[(38, 84), (42, 102), (43, 96), (45, 99), (47, 105), (60, 87), (61, 90), (62, 93), (124, 82)], 82) := by decide +kernel
theorem dX8_two_1 : decode cX8_two 1 = .ok (.tableswitch 120 (-8) (-1) #[116, 112, 108, 97, 86, 75, 61, 47], 47) := by decide +kernel
theorem dX8_count_1 : decode cX8_count 1 = .ok (.tableswitch 99 0 8 #[51, 58, 65, 65, 65, 74, 82, 87, 92], 51) := by decide +kernel
theorem dJ7_copyOf_59c91_15 : decode cJ7_copyOf_59c91 15 = .ok (.newarray .int, 2) := by decide +kernel
theorem dL_law_33 : decode cL_law 33 = .ok (.tableswitch 1419 0 41 #[183, 226, 259, 292, 325, 368, 401, 444, 477, 510, 533, 556, 579, 602, 615, 638, 671, 694, 717, 740, 773, 816, 829, 852, 895, 918, 931, 964, 987, 1030, 1073, 1096, 1119, 1182, 1225, 1258, 1291, 1324, 1347, 1370, 1383, 1396], 183) := by decide +kernel
