theorem am_in (i : Nat) {w : Cond} (h : tables_1[i]? = some w) (hg : goodWord w = true) : w ∈ am_gw := List.mem_filter.mpr ⟨List.mem_append_right _ (List.mem_of_getElem? h), hg⟩
theorem am_inS (i : Nat) {w : Cond} (h : (k2_sels lw_privs)[i]? = some w) (hg : goodWord w = true) : w ∈ am_gw := List.mem_filter.mpr ⟨List.mem_append_left _ (List.mem_of_getElem? h), hg⟩
theorem am_inN (i : Nat) {w : Cond} (h : tables_1[i]? = some w) (hg : am_isN w = true) : w ∈ am_nw := List.mem_filter.mpr ⟨List.mem_append_right _ (List.mem_of_getElem? h), hg⟩
theorem am_inA (ps : List Nat) {ws : List Cond} (h : ws = ps.filterMap (fun i => tables_1[i]?)) (hg : ws.all goodWord = true) : ∀ w ∈ ws, w ∈ am_gw := by
  intro w hw
  have h1 := List.all_eq_true.mp hg w hw
  rw [h] at hw
  obtain ⟨i, -, hi⟩ := List.mem_filterMap.mp hw
  exact am_in i hi h1
theorem am_clX0 : am_cl 0 RX0 TX0 19 tyX0 := ⟨by decide, rfl, am_inA [74, 76, 78, 80, 82, 84, 86, 88, 90, 92, 94, 96, 98, 100, 102, 104, 106, 108, 110] (by decide +kernel) (by decide +kernel), tyX0_ok, nmX0⟩
theorem am_clX1 : am_cl 1 RX1 TX1 11 tyX1 := ⟨by decide, rfl, am_inA [164, 166, 168, 170, 172, 174, 176, 178, 180, 182, 184] (by decide +kernel) (by decide +kernel), tyX1_ok, nmX1⟩
theorem am_clX2 : am_cl 2 RX2 TX2 3 tyX2 := ⟨by decide, rfl, am_inA [202, 204, 206] (by decide +kernel) (by decide +kernel), tyX2_ok, nmX2⟩
theorem am_clX3 : am_cl 3 RX3 TX3 5 tyX3 := ⟨by decide, rfl, am_inA [226, 228, 230, 232, 234] (by decide +kernel) (by decide +kernel), tyX3_ok, nmX3⟩
theorem am_clX4 : am_cl 4 RX4 TX4 2 tyX4 := ⟨by decide, rfl, am_inA [147, 149] (by decide +kernel) (by decide +kernel), tyX4_ok, nmX4⟩
theorem am_clX5 : am_cl 5 RX5 TX5 4 tyX5 := ⟨by decide, rfl, am_inA [774, 776, 778, 780] (by decide +kernel) (by decide +kernel), tyX5_ok, nmX5⟩
theorem am_clX6 : am_cl 6 RX6 TX6 3 tyX6 := ⟨by decide, rfl, am_inA [123, 125, 127] (by decide +kernel) (by decide +kernel), tyX6_ok, nmX6⟩
theorem am_clX7 : am_cl 7 RX7 TX7 11 tyX7 := ⟨by decide, rfl, am_inA [248, 250, 252, 254, 256, 258, 260, 262, 264, 266, 268] (by decide +kernel) (by decide +kernel), tyX7_ok, nmX7⟩
theorem am_clX8 : am_cl 8 RX8 TX8 36 tyX8 := ⟨by decide, rfl, am_inA [919, 921, 923, 925, 927, 929, 931, 933, 935, 937, 939, 941, 943, 945, 947, 949, 951, 953, 955, 957, 959, 961, 963, 965, 967, 969, 971, 973, 975, 977, 979, 981, 983, 985, 987, 989] (by decide +kernel) (by decide +kernel), tyX8_ok, nmX8⟩
set_option maxRecDepth 100000 in
theorem kf_X7_10 : am_fl RX7 10 7 0 (.object "DuelLetters$Quarrel") true := ⟨RX7, TX7, 11, tyX7, am_clX7, by decide, rfl, rfl, rfl, am_in 237 rfl rfl⟩
set_option maxRecDepth 100000 in
theorem kf_X7_16 : am_fl RX7 16 7 1 (.object "DuelLetters$Quarrel") true := ⟨RX7, TX7, 11, tyX7, am_clX7, by decide, rfl, rfl, rfl, am_in 238 rfl rfl⟩
set_option maxRecDepth 100000 in
theorem kf_X7_19 : am_fl RX7 19 7 2 (.object "DuelLetters$Quarrel") true := ⟨RX7, TX7, 11, tyX7, am_clX7, by decide, rfl, rfl, rfl, am_in 239 rfl rfl⟩
set_option maxRecDepth 100000 in
theorem kf_X7_22 : am_fl RX7 22 7 3 (.boolean) false := ⟨RX7, TX7, 11, tyX7, am_clX7, by decide, rfl, rfl, rfl, am_in 240 rfl rfl⟩
set_option maxRecDepth 100000 in
theorem kf_X7_29 : am_fl RX7 29 7 4 (.object "DuelLetters$Ways") true := ⟨RX7, TX7, 11, tyX7, am_clX7, by decide, rfl, rfl, rfl, am_in 241 rfl rfl⟩
set_option maxRecDepth 100000 in
theorem kf_X7_36 : am_fl RX7 36 7 5 (.object "DuelLetters$Reader") true := ⟨RX7, TX7, 11, tyX7, am_clX7, by decide, rfl, rfl, rfl, am_in 242 rfl rfl⟩
set_option maxRecDepth 100000 in
theorem kf_X7_40 : am_fl RX7 40 1 0 (.object "DuelLetters$Tape") true := ⟨RX1, TX1, 11, tyX1, am_clX1, by decide, rfl, rfl, rfl, am_in 153 rfl rfl⟩
set_option maxRecDepth 100000 in
theorem kf_X7_44 : am_fl RX7 44 7 6 (.object "DuelLetters$Tape") true := ⟨RX7, TX7, 11, tyX7, am_clX7, by decide, rfl, rfl, rfl, am_in 243 rfl rfl⟩
set_option maxRecDepth 100000 in
theorem kf_X7_47 : am_fl RX7 47 7 7 (.array (.object "DuelLetters$Row")) true := ⟨RX7, TX7, 11, tyX7, am_clX7, by decide, rfl, rfl, rfl, am_in 244 rfl rfl⟩
set_option maxRecDepth 100000 in
theorem kf_X7_53 : am_fl RX7 53 7 8 (.array (.object "DuelLetters$Slot")) true := ⟨RX7, TX7, 11, tyX7, am_clX7, by decide, rfl, rfl, rfl, am_in 245 rfl rfl⟩
set_option maxRecDepth 100000 in
theorem kf_X7_57 : am_fl RX7 57 7 9 (.array .int) true := ⟨RX7, TX7, 11, tyX7, am_clX7, by decide, rfl, rfl, rfl, am_in 246 rfl rfl⟩
set_option maxRecDepth 100000 in
theorem kf_X7_61 : am_fl RX7 61 7 10 (.int) false := ⟨RX7, TX7, 11, tyX7, am_clX7, by decide, rfl, rfl, rfl, am_in 247 rfl rfl⟩
theorem kf_X7_79 : am_fl RX7 79 0 9 (.int) false := ⟨RX0, TX0, 19, tyX0, am_clX0, by decide, rfl, rfl, rfl, am_in 56 rfl rfl⟩
theorem kf_X7_90 : am_fl RX7 90 0 10 (.array .int) true := ⟨RX0, TX0, 19, tyX0, am_clX0, by decide, rfl, rfl, rfl, am_in 58 rfl rfl⟩
theorem kf_X7_93 : am_fl RX7 93 0 11 (.array .int) true := ⟨RX0, TX0, 19, tyX0, am_clX0, by decide, rfl, rfl, rfl, am_in 60 rfl rfl⟩
theorem kf_X7_96 : am_fl RX7 96 0 12 (.array .int) true := ⟨RX0, TX0, 19, tyX0, am_clX0, by decide, rfl, rfl, rfl, am_in 62 rfl rfl⟩
theorem kf_X7_99 : am_fl RX7 99 0 13 (.array .int) true := ⟨RX0, TX0, 19, tyX0, am_clX0, by decide, rfl, rfl, rfl, am_in 64 rfl rfl⟩
theorem kf_X7_102 : am_fl RX7 102 0 14 (.array .int) true := ⟨RX0, TX0, 19, tyX0, am_clX0, by decide, rfl, rfl, rfl, am_in 66 rfl rfl⟩
theorem kf_X7_127 : am_fl RX7 127 0 0 (.array .int) true := ⟨RX0, TX0, 19, tyX0, am_clX0, by decide, rfl, rfl, rfl, am_in 35 rfl rfl⟩
theorem kf_X7_130 : am_fl RX7 130 0 1 (.array .int) true := ⟨RX0, TX0, 19, tyX0, am_clX0, by decide, rfl, rfl, rfl, am_in 39 rfl rfl⟩
theorem kf_X7_136 : am_fl RX7 136 0 2 (.array .int) true := ⟨RX0, TX0, 19, tyX0, am_clX0, by decide, rfl, rfl, rfl, am_in 42 rfl rfl⟩
theorem kf_X7_139 : am_fl RX7 139 0 3 (.int) false := ⟨RX0, TX0, 19, tyX0, am_clX0, by decide, rfl, rfl, rfl, am_in 44 rfl rfl⟩
theorem kf_X7_142 : am_fl RX7 142 0 4 (.int) false := ⟨RX0, TX0, 19, tyX0, am_clX0, by decide, rfl, rfl, rfl, am_in 46 rfl rfl⟩
theorem kf_X7_145 : am_fl RX7 145 0 5 (.int) false := ⟨RX0, TX0, 19, tyX0, am_clX0, by decide, rfl, rfl, rfl, am_in 48 rfl rfl⟩
theorem kf_X7_157 : am_fl RX7 157 0 8 (.int) false := ⟨RX0, TX0, 19, tyX0, am_clX0, by decide, rfl, rfl, rfl, am_in 54 rfl rfl⟩
theorem kf_X7_160 : am_fl RX7 160 0 7 (.int) false := ⟨RX0, TX0, 19, tyX0, am_clX0, by decide, rfl, rfl, rfl, am_in 52 rfl rfl⟩
theorem kf_X7_176 : am_fl RX7 176 0 6 (.int) false := ⟨RX0, TX0, 19, tyX0, am_clX0, by decide, rfl, rfl, rfl, am_in 50 rfl rfl⟩
set_option maxRecDepth 100000 in
theorem kf_X7_218 : am_fl RX7 218 2 2 (.array .int) true := ⟨RX2, TX2, 3, tyX2, am_clX2, by decide, rfl, rfl, rfl, am_in 201 rfl rfl⟩
set_option maxRecDepth 100000 in
theorem kf_X7_234 : am_fl RX7 234 4 1 (.int) false := ⟨RX4, TX4, 2, tyX4, am_clX4, by decide, rfl, rfl, rfl, am_in 146 rfl rfl⟩
theorem kf_X7_246 : am_fl RX7 246 0 16 (.int) false := ⟨RX0, TX0, 19, tyX0, am_clX0, by decide, rfl, rfl, rfl, am_in 70 rfl rfl⟩
theorem kf_X7_257 : am_fl RX7 257 0 15 (.array (.object "DuelLetters$Text")) true := ⟨RX0, TX0, 19, tyX0, am_clX0, by decide, rfl, rfl, rfl, am_in 68 rfl rfl⟩
set_option maxRecDepth 100000 in
theorem kf_X7_261 : am_fl RX7 261 5 0 (.int) true := ⟨RX5, TX5, 4, tyX5, am_clX5, by decide, rfl, rfl, rfl, am_in 769 rfl rfl⟩
set_option maxRecDepth 100000 in
theorem kf_X7_264 : am_fl RX7 264 5 1 (.int) true := ⟨RX5, TX5, 4, tyX5, am_clX5, by decide, rfl, rfl, rfl, am_in 771 rfl rfl⟩
theorem kf_X7_267 : am_fl RX7 267 0 17 (.array .int) true := ⟨RX0, TX0, 19, tyX0, am_clX0, by decide, rfl, rfl, rfl, am_in 72 rfl rfl⟩
set_option maxRecDepth 100000 in
theorem kf_X7_279 : am_fl RX7 279 2 0 (.int) false := ⟨RX2, TX2, 3, tyX2, am_clX2, by decide, rfl, rfl, rfl, am_in 197 rfl rfl⟩
set_option maxRecDepth 100000 in
theorem kf_X7_287 : am_fl RX7 287 2 1 (.int) false := ⟨RX2, TX2, 3, tyX2, am_clX2, by decide, rfl, rfl, rfl, am_in 199 rfl rfl⟩
set_option maxRecDepth 100000 in
theorem kf_X7_302 : am_fl RX7 302 3 0 (.int) false := ⟨RX3, TX3, 5, tyX3, am_clX3, by decide, rfl, rfl, rfl, am_in 217 rfl rfl⟩
set_option maxRecDepth 100000 in
theorem kf_X7_305 : am_fl RX7 305 3 1 (.int) false := ⟨RX3, TX3, 5, tyX3, am_clX3, by decide, rfl, rfl, rfl, am_in 219 rfl rfl⟩
set_option maxRecDepth 100000 in
theorem kf_X7_308 : am_fl RX7 308 3 2 (.int) false := ⟨RX3, TX3, 5, tyX3, am_clX3, by decide, rfl, rfl, rfl, am_in 221 rfl rfl⟩
set_option maxRecDepth 100000 in
theorem kf_X7_311 : am_fl RX7 311 3 4 (.object "DuelLetters$Row") true := ⟨RX3, TX3, 5, tyX3, am_clX3, by decide, rfl, rfl, rfl, am_in 225 rfl rfl⟩
set_option maxRecDepth 100000 in
theorem kf_X7_318 : am_fl RX7 318 3 3 (.int) false := ⟨RX3, TX3, 5, tyX3, am_clX3, by decide, rfl, rfl, rfl, am_in 223 rfl rfl⟩
set_option maxRecDepth 100000 in
theorem ks_X7_322 : Cond.fieldLink RX7 322 RX7 "ABOVE" "[I" ∈ am_gw := am_in 349 rfl rfl
theorem kf_X0_9 : am_fl RX0 9 0 0 (.array .int) true := ⟨RX0, TX0, 19, tyX0, am_clX0, by decide, rfl, rfl, rfl, am_in 34 rfl rfl⟩
theorem kf_X0_15 : am_fl RX0 15 0 1 (.array .int) true := ⟨RX0, TX0, 19, tyX0, am_clX0, by decide, rfl, rfl, rfl, am_in 37 rfl rfl⟩
theorem kf_X0_18 : am_fl RX0 18 0 2 (.array .int) true := ⟨RX0, TX0, 19, tyX0, am_clX0, by decide, rfl, rfl, rfl, am_in 40 rfl rfl⟩
theorem kf_X0_21 : am_fl RX0 21 0 3 (.int) false := ⟨RX0, TX0, 19, tyX0, am_clX0, by decide, rfl, rfl, rfl, am_in 43 rfl rfl⟩
theorem kf_X0_25 : am_fl RX0 25 0 4 (.int) false := ⟨RX0, TX0, 19, tyX0, am_clX0, by decide, rfl, rfl, rfl, am_in 45 rfl rfl⟩
theorem kf_X0_28 : am_fl RX0 28 0 5 (.int) false := ⟨RX0, TX0, 19, tyX0, am_clX0, by decide, rfl, rfl, rfl, am_in 47 rfl rfl⟩
theorem kf_X0_31 : am_fl RX0 31 0 6 (.int) false := ⟨RX0, TX0, 19, tyX0, am_clX0, by decide, rfl, rfl, rfl, am_in 49 rfl rfl⟩
theorem kf_X0_34 : am_fl RX0 34 0 7 (.int) false := ⟨RX0, TX0, 19, tyX0, am_clX0, by decide, rfl, rfl, rfl, am_in 51 rfl rfl⟩
theorem kf_X0_37 : am_fl RX0 37 0 8 (.int) false := ⟨RX0, TX0, 19, tyX0, am_clX0, by decide, rfl, rfl, rfl, am_in 53 rfl rfl⟩
theorem kf_X0_40 : am_fl RX0 40 0 9 (.int) false := ⟨RX0, TX0, 19, tyX0, am_clX0, by decide, rfl, rfl, rfl, am_in 55 rfl rfl⟩
theorem kf_X0_43 : am_fl RX0 43 0 10 (.array .int) true := ⟨RX0, TX0, 19, tyX0, am_clX0, by decide, rfl, rfl, rfl, am_in 57 rfl rfl⟩
theorem kf_X0_46 : am_fl RX0 46 0 11 (.array .int) true := ⟨RX0, TX0, 19, tyX0, am_clX0, by decide, rfl, rfl, rfl, am_in 59 rfl rfl⟩
theorem kf_X0_49 : am_fl RX0 49 0 12 (.array .int) true := ⟨RX0, TX0, 19, tyX0, am_clX0, by decide, rfl, rfl, rfl, am_in 61 rfl rfl⟩
theorem kf_X0_52 : am_fl RX0 52 0 13 (.array .int) true := ⟨RX0, TX0, 19, tyX0, am_clX0, by decide, rfl, rfl, rfl, am_in 63 rfl rfl⟩
theorem kf_X0_55 : am_fl RX0 55 0 14 (.array .int) true := ⟨RX0, TX0, 19, tyX0, am_clX0, by decide, rfl, rfl, rfl, am_in 65 rfl rfl⟩
theorem kf_X0_60 : am_fl RX0 60 0 15 (.array (.object "DuelLetters$Text")) true := ⟨RX0, TX0, 19, tyX0, am_clX0, by decide, rfl, rfl, rfl, am_in 67 rfl rfl⟩
theorem kf_X0_64 : am_fl RX0 64 0 16 (.int) false := ⟨RX0, TX0, 19, tyX0, am_clX0, by decide, rfl, rfl, rfl, am_in 69 rfl rfl⟩
theorem kf_X0_67 : am_fl RX0 67 0 17 (.array .int) true := ⟨RX0, TX0, 19, tyX0, am_clX0, by decide, rfl, rfl, rfl, am_in 71 rfl rfl⟩
theorem kf_X0_70 : am_fl RX0 70 0 18 (.array .int) true := ⟨RX0, TX0, 19, tyX0, am_clX0, by decide, rfl, rfl, rfl, am_in 73 rfl rfl⟩
set_option maxRecDepth 100000 in
theorem kf_X0_83 : am_fl RX0 83 5 0 (.int) true := ⟨RX5, TX5, 4, tyX5, am_clX5, by decide, rfl, rfl, rfl, am_in 768 rfl rfl⟩
set_option maxRecDepth 100000 in
theorem kf_X1_12 : am_fl RX1 12 1 0 (.object "DuelLetters$Tape") true := ⟨RX1, TX1, 11, tyX1, am_clX1, by decide, rfl, rfl, rfl, am_in 152 rfl rfl⟩
set_option maxRecDepth 100000 in
theorem kf_X1_18 : am_fl RX1 18 1 1 (.int) false := ⟨RX1, TX1, 11, tyX1, am_clX1, by decide, rfl, rfl, rfl, am_in 154 rfl rfl⟩
set_option maxRecDepth 100000 in
theorem kf_X1_22 : am_fl RX1 22 1 2 (.int) false := ⟨RX1, TX1, 11, tyX1, am_clX1, by decide, rfl, rfl, rfl, am_in 155 rfl rfl⟩
set_option maxRecDepth 100000 in
theorem kf_X1_25 : am_fl RX1 25 1 3 (.int) false := ⟨RX1, TX1, 11, tyX1, am_clX1, by decide, rfl, rfl, rfl, am_in 156 rfl rfl⟩
set_option maxRecDepth 100000 in
theorem kf_X1_28 : am_fl RX1 28 1 4 (.int) false := ⟨RX1, TX1, 11, tyX1, am_clX1, by decide, rfl, rfl, rfl, am_in 157 rfl rfl⟩
set_option maxRecDepth 100000 in
theorem kf_X1_31 : am_fl RX1 31 1 5 (.int) false := ⟨RX1, TX1, 11, tyX1, am_clX1, by decide, rfl, rfl, rfl, am_in 158 rfl rfl⟩
set_option maxRecDepth 100000 in
theorem kf_X1_34 : am_fl RX1 34 1 6 (.array .int) true := ⟨RX1, TX1, 11, tyX1, am_clX1, by decide, rfl, rfl, rfl, am_in 159 rfl rfl⟩
set_option maxRecDepth 100000 in
theorem kf_X1_38 : am_fl RX1 38 1 7 (.int) false := ⟨RX1, TX1, 11, tyX1, am_clX1, by decide, rfl, rfl, rfl, am_in 160 rfl rfl⟩
set_option maxRecDepth 100000 in
theorem kf_X1_41 : am_fl RX1 41 1 8 (.int) false := ⟨RX1, TX1, 11, tyX1, am_clX1, by decide, rfl, rfl, rfl, am_in 161 rfl rfl⟩
set_option maxRecDepth 100000 in
theorem kf_X1_44 : am_fl RX1 44 1 9 (.int) false := ⟨RX1, TX1, 11, tyX1, am_clX1, by decide, rfl, rfl, rfl, am_in 162 rfl rfl⟩
set_option maxRecDepth 100000 in
theorem kf_X1_47 : am_fl RX1 47 1 10 (.int) false := ⟨RX1, TX1, 11, tyX1, am_clX1, by decide, rfl, rfl, rfl, am_in 163 rfl rfl⟩
set_option maxRecDepth 100000 in
theorem kf_X1_73 : am_fl RX1 73 4 1 (.int) false := ⟨RX4, TX4, 2, tyX4, am_clX4, by decide, rfl, rfl, rfl, am_in 145 rfl rfl⟩
set_option maxRecDepth 100000 in
theorem kf_X1_76 : am_fl RX1 76 4 0 (.array .int) true := ⟨RX4, TX4, 2, tyX4, am_clX4, by decide, rfl, rfl, rfl, am_in 143 rfl rfl⟩
set_option maxRecDepth 100000 in
theorem kf_X2_9 : am_fl RX2 9 2 0 (.int) false := ⟨RX2, TX2, 3, tyX2, am_clX2, by decide, rfl, rfl, rfl, am_in 196 rfl rfl⟩
set_option maxRecDepth 100000 in
theorem kf_X2_15 : am_fl RX2 15 2 1 (.int) false := ⟨RX2, TX2, 3, tyX2, am_clX2, by decide, rfl, rfl, rfl, am_in 198 rfl rfl⟩
set_option maxRecDepth 100000 in
theorem kf_X2_18 : am_fl RX2 18 2 2 (.array .int) true := ⟨RX2, TX2, 3, tyX2, am_clX2, by decide, rfl, rfl, rfl, am_in 200 rfl rfl⟩
set_option maxRecDepth 100000 in
theorem kf_X3_9 : am_fl RX3 9 3 0 (.int) false := ⟨RX3, TX3, 5, tyX3, am_clX3, by decide, rfl, rfl, rfl, am_in 216 rfl rfl⟩
set_option maxRecDepth 100000 in
theorem kf_X3_15 : am_fl RX3 15 3 1 (.int) false := ⟨RX3, TX3, 5, tyX3, am_clX3, by decide, rfl, rfl, rfl, am_in 218 rfl rfl⟩
set_option maxRecDepth 100000 in
theorem kf_X3_18 : am_fl RX3 18 3 2 (.int) false := ⟨RX3, TX3, 5, tyX3, am_clX3, by decide, rfl, rfl, rfl, am_in 220 rfl rfl⟩
set_option maxRecDepth 100000 in
theorem kf_X3_21 : am_fl RX3 21 3 3 (.int) false := ⟨RX3, TX3, 5, tyX3, am_clX3, by decide, rfl, rfl, rfl, am_in 222 rfl rfl⟩
set_option maxRecDepth 100000 in
theorem kf_X3_27 : am_fl RX3 27 3 4 (.object "DuelLetters$Row") true := ⟨RX3, TX3, 5, tyX3, am_clX3, by decide, rfl, rfl, rfl, am_in 224 rfl rfl⟩
set_option maxRecDepth 100000 in
theorem kf_X4_9 : am_fl RX4 9 4 0 (.array .int) true := ⟨RX4, TX4, 2, tyX4, am_clX4, by decide, rfl, rfl, rfl, am_in 142 rfl rfl⟩
set_option maxRecDepth 100000 in
theorem kf_X4_15 : am_fl RX4 15 4 1 (.int) false := ⟨RX4, TX4, 2, tyX4, am_clX4, by decide, rfl, rfl, rfl, am_in 144 rfl rfl⟩
set_option maxRecDepth 100000 in
theorem kf_X5_7 : am_fl RX5 7 5 0 (.int) true := ⟨RX5, TX5, 4, tyX5, am_clX5, by decide, rfl, rfl, rfl, am_in 767 rfl rfl⟩
set_option maxRecDepth 100000 in
theorem kf_X5_13 : am_fl RX5 13 5 1 (.int) true := ⟨RX5, TX5, 4, tyX5, am_clX5, by decide, rfl, rfl, rfl, am_in 770 rfl rfl⟩
set_option maxRecDepth 100000 in
theorem kf_X5_16 : am_fl RX5 16 5 2 (.array .int) true := ⟨RX5, TX5, 4, tyX5, am_clX5, by decide, rfl, rfl, rfl, am_in 772 rfl rfl⟩
set_option maxRecDepth 100000 in
theorem kf_X5_26 : am_fl RX5 26 5 3 (.array .int) true := ⟨RX5, TX5, 4, tyX5, am_clX5, by decide, rfl, rfl, rfl, am_in 773 rfl rfl⟩
set_option maxRecDepth 100000 in
theorem kf_X6_9 : am_fl RX6 9 6 0 (.array .int) true := ⟨RX6, TX6, 3, tyX6, am_clX6, by decide, rfl, rfl, rfl, am_in 120 rfl rfl⟩
set_option maxRecDepth 100000 in
theorem kf_X6_15 : am_fl RX6 15 6 1 (.int) false := ⟨RX6, TX6, 3, tyX6, am_clX6, by decide, rfl, rfl, rfl, am_in 121 rfl rfl⟩
set_option maxRecDepth 100000 in
theorem kf_X6_19 : am_fl RX6 19 6 2 (.int) false := ⟨RX6, TX6, 3, tyX6, am_clX6, by decide, rfl, rfl, rfl, am_in 122 rfl rfl⟩
theorem kf_X6_36 : am_fl RX6 36 0 1 (.array .int) true := ⟨RX0, TX0, 19, tyX0, am_clX0, by decide, rfl, rfl, rfl, am_in 38 rfl rfl⟩
theorem kf_X6_45 : am_fl RX6 45 0 2 (.array .int) true := ⟨RX0, TX0, 19, tyX0, am_clX0, by decide, rfl, rfl, rfl, am_in 41 rfl rfl⟩
theorem kf_X6_53 : am_fl RX6 53 0 0 (.array .int) true := ⟨RX0, TX0, 19, tyX0, am_clX0, by decide, rfl, rfl, rfl, am_in 36 rfl rfl⟩
set_option maxRecDepth 100000 in
theorem kf_X8_9 : am_fl RX8 9 8 0 (.array .int) true := ⟨RX8, TX8, 36, tyX8, am_clX8, by decide, rfl, rfl, rfl, am_in 883 rfl rfl⟩
set_option maxRecDepth 100000 in
theorem kf_X8_13 : am_fl RX8 13 8 1 (.array .int) true := ⟨RX8, TX8, 36, tyX8, am_clX8, by decide, rfl, rfl, rfl, am_in 884 rfl rfl⟩
set_option maxRecDepth 100000 in
theorem kf_X8_16 : am_fl RX8 16 8 2 (.array .int) true := ⟨RX8, TX8, 36, tyX8, am_clX8, by decide, rfl, rfl, rfl, am_in 885 rfl rfl⟩
set_option maxRecDepth 100000 in
theorem kf_X8_19 : am_fl RX8 19 8 4 (.int) false := ⟨RX8, TX8, 36, tyX8, am_clX8, by decide, rfl, rfl, rfl, am_in 887 rfl rfl⟩
set_option maxRecDepth 100000 in
theorem kf_X8_23 : am_fl RX8 23 8 5 (.array .int) true := ⟨RX8, TX8, 36, tyX8, am_clX8, by decide, rfl, rfl, rfl, am_in 888 rfl rfl⟩
set_option maxRecDepth 100000 in
theorem kf_X8_26 : am_fl RX8 26 8 7 (.array .int) true := ⟨RX8, TX8, 36, tyX8, am_clX8, by decide, rfl, rfl, rfl, am_in 890 rfl rfl⟩
set_option maxRecDepth 100000 in
theorem kf_X8_29 : am_fl RX8 29 8 8 (.array .int) true := ⟨RX8, TX8, 36, tyX8, am_clX8, by decide, rfl, rfl, rfl, am_in 891 rfl rfl⟩
set_option maxRecDepth 100000 in
theorem kf_X8_32 : am_fl RX8 32 8 16 (.array .char) true := ⟨RX8, TX8, 36, tyX8, am_clX8, by decide, rfl, rfl, rfl, am_in 899 rfl rfl⟩
set_option maxRecDepth 100000 in
theorem kf_X8_36 : am_fl RX8 36 8 17 (.array .int) true := ⟨RX8, TX8, 36, tyX8, am_clX8, by decide, rfl, rfl, rfl, am_in 900 rfl rfl⟩
set_option maxRecDepth 100000 in
theorem kf_X8_39 : am_fl RX8 39 8 18 (.array .int) true := ⟨RX8, TX8, 36, tyX8, am_clX8, by decide, rfl, rfl, rfl, am_in 901 rfl rfl⟩
set_option maxRecDepth 100000 in
theorem kf_X8_42 : am_fl RX8 42 8 21 (.array .int) true := ⟨RX8, TX8, 36, tyX8, am_clX8, by decide, rfl, rfl, rfl, am_in 904 rfl rfl⟩
set_option maxRecDepth 100000 in
theorem kf_X8_45 : am_fl RX8 45 8 23 (.array .boolean) true := ⟨RX8, TX8, 36, tyX8, am_clX8, by decide, rfl, rfl, rfl, am_in 906 rfl rfl⟩
set_option maxRecDepth 100000 in
theorem kf_X8_49 : am_fl RX8 49 8 24 (.array .int) true := ⟨RX8, TX8, 36, tyX8, am_clX8, by decide, rfl, rfl, rfl, am_in 907 rfl rfl⟩
set_option maxRecDepth 100000 in
theorem kf_X8_52 : am_fl RX8 52 8 25 (.array .int) true := ⟨RX8, TX8, 36, tyX8, am_clX8, by decide, rfl, rfl, rfl, am_in 908 rfl rfl⟩
set_option maxRecDepth 100000 in
theorem kf_X8_55 : am_fl RX8 55 8 26 (.array .int) true := ⟨RX8, TX8, 36, tyX8, am_clX8, by decide, rfl, rfl, rfl, am_in 909 rfl rfl⟩
set_option maxRecDepth 100000 in
theorem kf_X8_58 : am_fl RX8 58 8 27 (.array .int) true := ⟨RX8, TX8, 36, tyX8, am_clX8, by decide, rfl, rfl, rfl, am_in 910 rfl rfl⟩
set_option maxRecDepth 100000 in
theorem kf_X8_61 : am_fl RX8 61 8 28 (.array .int) true := ⟨RX8, TX8, 36, tyX8, am_clX8, by decide, rfl, rfl, rfl, am_in 911 rfl rfl⟩
set_option maxRecDepth 100000 in
theorem kf_X8_64 : am_fl RX8 64 8 29 (.array .int) true := ⟨RX8, TX8, 36, tyX8, am_clX8, by decide, rfl, rfl, rfl, am_in 912 rfl rfl⟩
set_option maxRecDepth 100000 in
theorem kf_X8_67 : am_fl RX8 67 8 30 (.array .int) true := ⟨RX8, TX8, 36, tyX8, am_clX8, by decide, rfl, rfl, rfl, am_in 913 rfl rfl⟩
set_option maxRecDepth 100000 in
theorem kf_X8_70 : am_fl RX8 70 8 31 (.array .int) true := ⟨RX8, TX8, 36, tyX8, am_clX8, by decide, rfl, rfl, rfl, am_in 914 rfl rfl⟩
set_option maxRecDepth 100000 in
theorem kf_X8_73 : am_fl RX8 73 8 32 (.array .int) true := ⟨RX8, TX8, 36, tyX8, am_clX8, by decide, rfl, rfl, rfl, am_in 915 rfl rfl⟩
set_option maxRecDepth 100000 in
theorem kf_X8_76 : am_fl RX8 76 8 33 (.array .int) true := ⟨RX8, TX8, 36, tyX8, am_clX8, by decide, rfl, rfl, rfl, am_in 916 rfl rfl⟩
set_option maxRecDepth 100000 in
theorem kf_X8_79 : am_fl RX8 79 8 34 (.array .int) true := ⟨RX8, TX8, 36, tyX8, am_clX8, by decide, rfl, rfl, rfl, am_in 917 rfl rfl⟩
set_option maxRecDepth 100000 in
theorem kf_X8_146 : am_fl RX8 146 8 6 (.int) false := ⟨RX8, TX8, 36, tyX8, am_clX8, by decide, rfl, rfl, rfl, am_in 889 rfl rfl⟩
set_option maxRecDepth 100000 in
theorem kf_X8_192 : am_fl RX8 192 8 9 (.int) false := ⟨RX8, TX8, 36, tyX8, am_clX8, by decide, rfl, rfl, rfl, am_in 892 rfl rfl⟩
set_option maxRecDepth 100000 in
theorem kf_X8_195 : am_fl RX8 195 8 10 (.int) false := ⟨RX8, TX8, 36, tyX8, am_clX8, by decide, rfl, rfl, rfl, am_in 893 rfl rfl⟩
set_option maxRecDepth 100000 in
theorem kf_X8_198 : am_fl RX8 198 8 11 (.int) false := ⟨RX8, TX8, 36, tyX8, am_clX8, by decide, rfl, rfl, rfl, am_in 894 rfl rfl⟩
set_option maxRecDepth 100000 in
theorem kf_X8_201 : am_fl RX8 201 8 14 (.int) false := ⟨RX8, TX8, 36, tyX8, am_clX8, by decide, rfl, rfl, rfl, am_in 897 rfl rfl⟩
set_option maxRecDepth 100000 in
theorem kf_X8_204 : am_fl RX8 204 8 12 (.int) false := ⟨RX8, TX8, 36, tyX8, am_clX8, by decide, rfl, rfl, rfl, am_in 895 rfl rfl⟩
set_option maxRecDepth 100000 in
theorem kf_X8_210 : am_fl RX8 210 8 13 (.int) false := ⟨RX8, TX8, 36, tyX8, am_clX8, by decide, rfl, rfl, rfl, am_in 896 rfl rfl⟩
set_option maxRecDepth 100000 in
theorem kf_X8_216 : am_fl RX8 216 8 15 (.int) false := ⟨RX8, TX8, 36, tyX8, am_clX8, by decide, rfl, rfl, rfl, am_in 898 rfl rfl⟩
set_option maxRecDepth 100000 in
theorem kf_X8_222 : am_fl RX8 222 8 22 (.int) false := ⟨RX8, TX8, 36, tyX8, am_clX8, by decide, rfl, rfl, rfl, am_in 905 rfl rfl⟩
set_option maxRecDepth 100000 in
theorem kf_X8_228 : am_fl RX8 228 8 19 (.int) false := ⟨RX8, TX8, 36, tyX8, am_clX8, by decide, rfl, rfl, rfl, am_in 902 rfl rfl⟩
set_option maxRecDepth 100000 in
theorem kf_X8_234 : am_fl RX8 234 8 20 (.int) false := ⟨RX8, TX8, 36, tyX8, am_clX8, by decide, rfl, rfl, rfl, am_in 903 rfl rfl⟩
set_option maxRecDepth 100000 in
theorem kf_X8_266 : am_fl RX8 266 8 35 (.int) false := ⟨RX8, TX8, 36, tyX8, am_clX8, by decide, rfl, rfl, rfl, am_in 918 rfl rfl⟩
set_option maxRecDepth 100000 in
theorem kf_X8_269 : am_fl RX8 269 8 3 (.boolean) false := ⟨RX8, TX8, 36, tyX8, am_clX8, by decide, rfl, rfl, rfl, am_in 886 rfl rfl⟩
set_option maxRecDepth 100000 in
theorem ks_J0_9 : Cond.fieldLink RJ0 9 "java/lang/String" "value" "[B" ∈ am_gw := am_in 1340 rfl rfl
set_option maxRecDepth 100000 in
theorem ks_J0_15 : Cond.fieldLink RJ0 15 "java/lang/String" "coder" "B" ∈ am_gw := am_in 1341 rfl rfl
set_option maxRecDepth 100000 in
theorem ks_J0_38 : Cond.fieldLink RJ0 38 "java/lang/String" "COMPACT_STRINGS" "Z" ∈ am_gw := am_in 592 rfl rfl
set_option maxRecDepth 100000 in
theorem ks_J0_1053 : Cond.fieldLink RJ0 1053 "jdk/internal/util/Preconditions" "SIOOBE_FORMATTER" "Ljava/util/function/BiFunction;" ∈ am_gw := am_in 608 rfl rfl
set_option maxRecDepth 100000 in
theorem ks_J2_44 : Cond.fieldLink RJ2 44 "java/lang/StringUTF16" "$assertionsDisabled" "Z" ∈ am_gw := am_in 626 rfl rfl
set_option maxRecDepth 100000 in
theorem ks_J2_59 : Cond.fieldLink RJ2 59 "java/lang/StringUTF16" "HI_BYTE_SHIFT" "I" ∈ am_gw := am_in 628 rfl rfl
set_option maxRecDepth 100000 in
theorem ks_J2_63 : Cond.fieldLink RJ2 63 "java/lang/StringUTF16" "LO_BYTE_SHIFT" "I" ∈ am_gw := am_in 630 rfl rfl
set_option maxRecDepth 100000 in
theorem kc_X7_78 : Cond.constant RX7 78 (-1000000001) ∈ am_gw := am_in 284 rfl rfl
set_option maxRecDepth 100000 in
theorem kc_X7_82 : Cond.constant RX7 82 (-1000000003) ∈ am_gw := am_in 285 rfl rfl
set_option maxRecDepth 100000 in
theorem kc_X7_123 : Cond.constant RX7 123 (-1000000012) ∈ am_gw := am_in 351 rfl rfl
set_option maxRecDepth 100000 in
theorem kc_X7_200 : Cond.constant RX7 200 (-1000000005) ∈ am_gw := am_in 338 rfl rfl
set_option maxRecDepth 100000 in
theorem kc_X7_210 : Cond.constant RX7 210 (-1000000011) ∈ am_gw := am_in 522 rfl rfl
set_option maxRecDepth 100000 in
theorem kc_X7_274 : Cond.constant RX7 274 (-1000000014) ∈ am_gw := am_in 805 rfl rfl
set_option maxRecDepth 100000 in
theorem kc_X7_278 : Cond.constant RX7 278 (-1000000013) ∈ am_gw := am_in 811 rfl rfl
set_option maxRecDepth 100000 in
theorem kc_X7_282 : Cond.constant RX7 282 (-99999) ∈ am_gw := am_in 812 rfl rfl
set_option maxRecDepth 100000 in
theorem kc_X7_283 : Cond.constant RX7 283 (99999) ∈ am_gw := am_in 813 rfl rfl
set_option maxRecDepth 100000 in
theorem kc_X7_321 : Cond.constant RX7 321 (-1000000002) ∈ am_gw := am_in 856 rfl rfl
set_option maxRecDepth 100000 in
theorem kc_X0_86 : Cond.constant RX0 86 (1103515245) ∈ am_gw := am_in 388 rfl rfl
set_option maxRecDepth 100000 in
theorem kc_X2_42 : Cond.constant RX2 42 (-1000000005) ∈ am_gw := am_in 536 rfl rfl
set_option maxRecDepth 100000 in
theorem kc_X8_82 : Cond.constant RX8 82 (-1000000005) ∈ am_gw := am_in 1052 rfl rfl
set_option maxRecDepth 100000 in
theorem kc_X8_91 : Cond.constant RX8 91 (-1000000001) ∈ am_gw := am_in 1001 rfl rfl
set_option maxRecDepth 100000 in
theorem kc_X8_92 : Cond.constant RX8 92 (-1000000003) ∈ am_gw := am_in 1002 rfl rfl
set_option maxRecDepth 100000 in
theorem kc_X8_134 : Cond.constant RX8 134 (-1000000012) ∈ am_gw := am_in 1064 rfl rfl
set_option maxRecDepth 100000 in
theorem kc_X8_138 : Cond.constant RX8 138 (1103515245) ∈ am_gw := am_in 1101 rfl rfl
set_option maxRecDepth 100000 in
theorem kc_X8_187 : Cond.constant RX8 187 (-1000000011) ∈ am_gw := am_in 1197 rfl rfl
set_option maxRecDepth 100000 in
theorem kc_X8_258 : Cond.constant RX8 258 (-1000000014) ∈ am_gw := am_in 1277 rfl rfl
set_option maxRecDepth 100000 in
theorem kc_X8_259 : Cond.constant RX8 259 (-1000000013) ∈ am_gw := am_in 1282 rfl rfl
set_option maxRecDepth 100000 in
theorem kc_X8_260 : Cond.constant RX8 260 (-99999) ∈ am_gw := am_in 1283 rfl rfl
set_option maxRecDepth 100000 in
theorem kc_X8_261 : Cond.constant RX8 261 (99999) ∈ am_gw := am_in 1284 rfl rfl
set_option maxRecDepth 100000 in
theorem kc_X8_265 : Cond.constant RX8 265 (-1000000002) ∈ am_gw := am_in 1316 rfl rfl
set_option maxRecDepth 100000 in
theorem kc_J11_76 : Cond.constant RJ11 76 (56320) ∈ am_gw := am_in 735 rfl rfl
set_option maxRecDepth 100000 in
theorem kc_J11_110 : Cond.constant RJ11 110 (55232) ∈ am_gw := am_in 731 rfl rfl
set_option maxRecDepth 100000 in
theorem kc_J2_227 : Cond.constant RJ2 227 (65536) ∈ am_gw := am_in 706 rfl rfl
set_option maxRecDepth 100000 in
theorem ka_int : Cond.arrayClass .int ∈ am_gw := am_in 113 rfl rfl
set_option maxRecDepth 100000 in
theorem ka_byte : Cond.arrayClass .byte ∈ am_gw := am_in 783 rfl rfl
set_option maxRecDepth 100000 in
theorem ka_char : Cond.arrayClass .char ∈ am_gw := am_in 992 rfl rfl
set_option maxRecDepth 100000 in
theorem ka_boolean : Cond.arrayClass .boolean ∈ am_gw := am_in 993 rfl rfl
theorem kl_X7_7 : Cond.classLink RX7 7 RX0 ∈ am_gw := am_in 26 rfl rfl
theorem kn_X7_7 : am_nwf RX7 7 0 [.null, .null, .null, .int 0, .int 0, .int 0, .int 0, .int 0, .int 0, .int 0, .null, .null, .null, .null, .null, .null, .int 0, .null, .null] := ⟨RX0, TX0, 19, tyX0, am_clX0, kl_X7_7, am_in 27 rfl rfl, am_in 2 rfl rfl, rfl, by decide +kernel, by simp⟩
set_option maxRecDepth 100000 in
theorem kl_X7_26 : Cond.classLink RX7 26 RX6 ∈ am_gw := am_in 114 rfl rfl
set_option maxRecDepth 100000 in
theorem kn_X7_26 : am_nwf RX7 26 6 [.null, .int 0, .int 0] := ⟨RX6, TX6, 3, tyX6, am_clX6, kl_X7_26, am_in 115 rfl rfl, am_in 3 rfl rfl, rfl, by decide +kernel, by simp⟩
set_option maxRecDepth 100000 in
theorem kl_X7_33 : Cond.classLink RX7 33 RX1 ∈ am_gw := am_in 130 rfl rfl
set_option maxRecDepth 100000 in
theorem kn_X7_33 : am_nwf RX7 33 1 [.null, .int 0, .int 0, .int 0, .int 0, .int 0, .null, .int 0, .int 0, .int 0, .int 0] := ⟨RX1, TX1, 11, tyX1, am_clX1, kl_X7_33, am_in 131 rfl rfl, am_in 4 rfl rfl, rfl, by decide +kernel, by simp⟩
set_option maxRecDepth 100000 in
theorem kl_X7_45 : Cond.classLink RX7 45 RX2 ∈ am_gw := am_in 187 rfl rfl
set_option maxRecDepth 100000 in
theorem kn_X7_45 : am_nwf RX7 45 2 [.int 0, .int 0, .null] := ⟨RX2, TX2, 3, tyX2, am_clX2, kl_X7_45, am_in 191 rfl rfl, am_in 6 rfl rfl, rfl, by decide +kernel, by simp⟩
set_option maxRecDepth 100000 in
theorem kl_X7_51 : Cond.classLink RX7 51 RX3 ∈ am_gw := am_in 189 rfl rfl
set_option maxRecDepth 100000 in
theorem kn_X7_51 : am_nwf RX7 51 3 [.int 0, .int 0, .int 0, .int 0, .null] := ⟨RX3, TX3, 5, tyX3, am_clX3, kl_X7_51, am_in 209 rfl rfl, am_in 7 rfl rfl, rfl, by decide +kernel, by simp⟩
theorem kl_X0_58 : Cond.classLink RX0 58 RX5 ∈ am_gw := am_in 32 rfl rfl
set_option maxRecDepth 100000 in
theorem kn_X0_58 : am_nwf RX0 58 5 [.int 0, .int 0, .null, .null] := ⟨RX5, TX5, 4, tyX5, am_clX5, kl_X0_58, am_in 749 rfl rfl, am_in 9 rfl rfl, rfl, by decide +kernel, by simp⟩
set_option maxRecDepth 100000 in
theorem kl_X1_9 : Cond.classLink RX1 9 RX4 ∈ am_gw := am_in 136 rfl rfl
set_option maxRecDepth 100000 in
theorem kn_X1_9 : am_nwf RX1 9 4 [.null, .int 0] := ⟨RX4, TX4, 2, tyX4, am_clX4, kl_X1_9, am_in 137 rfl rfl, am_in 5 rfl rfl, rfl, by decide +kernel, by simp⟩
set_option maxRecDepth 100000 in
theorem kl_X1_62 : Cond.classLink RX1 62 RX5 ∈ am_gw := am_in 748 rfl rfl
set_option maxRecDepth 100000 in
theorem kn_X1_62 : am_nwf RX1 62 5 [.int 0, .int 0, .null, .null] := ⟨RX5, TX5, 4, tyX5, am_clX5, kl_X1_62, am_in 749 rfl rfl, am_in 9 rfl rfl, rfl, by decide +kernel, by simp⟩
set_option maxRecDepth 100000 in
theorem kl_X3_24 : Cond.classLink RX3 24 RX2 ∈ am_gw := am_in 214 rfl rfl
set_option maxRecDepth 100000 in
theorem kn_X3_24 : am_nwf RX3 24 2 [.int 0, .int 0, .null] := ⟨RX2, TX2, 3, tyX2, am_clX2, kl_X3_24, am_in 191 rfl rfl, am_in 6 rfl rfl, rfl, by decide +kernel, by simp⟩
theorem kl_L_7 : Cond.classLink RL 7 RX7 ∈ am_gw := am_in 18 rfl rfl
theorem kn_L_7 : am_nwf RL 7 7 [.null, .null, .null, .int 0, .null, .null, .null, .null, .null, .null, .int 0] := ⟨RX7, TX7, 11, tyX7, am_clX7, kl_L_7, am_in 19 rfl rfl, am_in 1 rfl rfl, rfl, by decide +kernel, by simp⟩
set_option maxRecDepth 100000 in
theorem kl_L_10 : Cond.classLink RL 10 RX8 ∈ am_gw := am_in 877 rfl rfl
set_option maxRecDepth 100000 in
theorem kn_L_10 : am_nwf RL 10 8 [.null, .null, .null, .int 0, .int 0, .null, .int 0, .null, .null, .int 0, .int 0, .int 0, .int 0, .int 0, .int 0, .int 0, .null, .null, .null, .int 0, .int 0, .null, .int 0, .null, .null, .null, .null, .null, .null, .null, .null, .null, .null, .null, .null, .int 0] := ⟨RX8, TX8, 36, tyX8, am_clX8, kl_L_10, am_in 878 rfl rfl, am_in 8 rfl rfl, rfl, by decide +kernel, by simp⟩
abbrev mX0_init : am_MD := (yX0_init, cX0_init, 1, none)
theorem km_X0_init : am_mf mX0_init 0 := ⟨by decide +kernel, by decide, am_in 2 rfl rfl, am_in 30 rfl rfl, by decide +kernel, by decide +kernel, by decide +kernel⟩
abbrev mX0_becomes : am_MD := (yX0_becomes, cX0_becomes, 3, none)
set_option maxRecDepth 100000 in
theorem km_X0_becomes : am_mf mX0_becomes 1 := ⟨by decide +kernel, by decide, am_in 2 rfl rfl, am_in 486 rfl rfl, by decide +kernel, by decide +kernel, by decide +kernel⟩
abbrev mX0_isFriend : am_MD := (yX0_isFriend, cX0_isFriend, 2, some (.boolean))
set_option maxRecDepth 100000 in
theorem km_X0_isFriend : am_mf mX0_isFriend 1 := ⟨by decide +kernel, by decide, am_in 2 rfl rfl, am_in 297 rfl rfl, by decide +kernel, by decide +kernel, by decide +kernel⟩
abbrev mX0_addFriend : am_MD := (yX0_addFriend, cX0_addFriend, 4, none)
set_option maxRecDepth 100000 in
theorem km_X0_addFriend : am_mf mX0_addFriend 3 := ⟨by decide +kernel, by decide, am_in 2 rfl rfl, am_in 289 rfl rfl, by decide +kernel, by decide +kernel, by decide +kernel⟩
abbrev mX0_addText : am_MD := (yX0_addText, cX0_addText, 2, none)
set_option maxRecDepth 100000 in
theorem km_X0_addText : am_mf mX0_addText 1 := ⟨by decide +kernel, by decide, am_in 2 rfl rfl, am_in 787 rfl rfl, by decide +kernel, by decide +kernel, by decide +kernel⟩
abbrev mX0_textFor : am_MD := (yX0_textFor, cX0_textFor, 3, some ((.object "DuelLetters$Text")))
set_option maxRecDepth 100000 in
theorem km_X0_textFor : am_mf mX0_textFor 1 := ⟨by decide +kernel, by decide, am_in 2 rfl rfl, am_in 310 rfl rfl, by decide +kernel, by decide +kernel, by decide +kernel⟩
abbrev mX0_draw : am_MD := (yX0_draw, cX0_draw, 1, some (.int))
set_option maxRecDepth 100000 in
theorem km_X0_draw : am_mf mX0_draw 0 := ⟨by decide +kernel, by decide, am_in 2 rfl rfl, am_in 387 rfl rfl, by decide +kernel, by decide +kernel, by decide +kernel⟩
abbrev mX0_hasOf : am_MD := (yX0_hasOf, cX0_hasOf, 5, some (.int))
set_option maxRecDepth 100000 in
theorem km_X0_hasOf : am_mf mX0_hasOf 1 := ⟨by decide +kernel, by decide, am_in 2 rfl rfl, am_in 408 rfl rfl, by decide +kernel, by decide +kernel, by decide +kernel⟩
abbrev mX0_isPeace : am_MD := (yX0_isPeace, cX0_isPeace, 1, some (.boolean))
set_option maxRecDepth 100000 in
theorem km_X0_isPeace : am_mf mX0_isPeace 0 := ⟨by decide +kernel, by decide, am_in 2 rfl rfl, am_in 404 rfl rfl, by decide +kernel, by decide +kernel, by decide +kernel⟩
abbrev mX0_isDuel : am_MD := (yX0_isDuel, cX0_isDuel, 1, some (.boolean))
set_option maxRecDepth 100000 in
theorem km_X0_isDuel : am_mf mX0_isDuel 0 := ⟨by decide +kernel, by decide, am_in 2 rfl rfl, am_in 412 rfl rfl, by decide +kernel, by decide +kernel, by decide +kernel⟩
abbrev mX0_standsAsNumber : am_MD := (yX0_standsAsNumber, cX0_standsAsNumber, 3, some (.int))
set_option maxRecDepth 100000 in
theorem km_X0_standsAsNumber : am_mf mX0_standsAsNumber 0 := ⟨by decide +kernel, by decide, am_in 2 rfl rfl, am_in 433 rfl rfl, by decide +kernel, by decide +kernel, by decide +kernel⟩
abbrev mX0_sumOverFriends : am_MD := (yX0_sumOverFriends, cX0_sumOverFriends, 4, some (.int))
set_option maxRecDepth 100000 in
theorem km_X0_sumOverFriends : am_mf mX0_sumOverFriends 1 := ⟨by decide +kernel, by decide, am_in 2 rfl rfl, am_in 437 rfl rfl, by decide +kernel, by decide +kernel, by decide +kernel⟩
abbrev mX0_toneOf : am_MD := (yX0_toneOf, cX0_toneOf, 4, some (.int))
set_option maxRecDepth 100000 in
theorem km_X0_toneOf : am_mf mX0_toneOf 1 := ⟨by decide +kernel, by decide, am_in 2 rfl rfl, am_in 302 rfl rfl, by decide +kernel, by decide +kernel, by decide +kernel⟩
abbrev mX0_plainTone : am_MD := (yX0_plainTone, cX0_plainTone, 3, some (.int))
set_option maxRecDepth 100000 in
theorem km_X0_plainTone : am_mf mX0_plainTone 1 := ⟨by decide +kernel, by decide, am_in 2 rfl rfl, am_in 306 rfl rfl, by decide +kernel, by decide +kernel, by decide +kernel⟩
abbrev mX0_termYielded : am_MD := (yX0_termYielded, cX0_termYielded, 12, some (.int))
set_option maxRecDepth 100000 in
theorem km_X0_termYielded : am_mf mX0_termYielded 1 := ⟨by decide +kernel, by decide, am_in 2 rfl rfl, am_in 331 rfl rfl, by decide +kernel, by decide +kernel, by decide +kernel⟩
abbrev mX0_runPosts : am_MD := (yX0_runPosts, cX0_runPosts, 5, some (.int))
set_option maxRecDepth 100000 in
theorem km_X0_runPosts : am_mf mX0_runPosts 2 := ⟨by decide +kernel, by decide, am_in 2 rfl rfl, am_in 400 rfl rfl, by decide +kernel, by decide +kernel, by decide +kernel⟩
abbrev mX0_writeLetters : am_MD := (yX0_writeLetters, cX0_writeLetters, 6, some (.int))
set_option maxRecDepth 100000 in
theorem km_X0_writeLetters : am_mf mX0_writeLetters 1 := ⟨by decide +kernel, by decide, am_in 2 rfl rfl, am_in 416 rfl rfl, by decide +kernel, by decide +kernel, by decide +kernel⟩
abbrev mX1_init : am_MD := (yX1_init, cX1_init, 1, none)
set_option maxRecDepth 100000 in
theorem km_X1_init : am_mf mX1_init 0 := ⟨by decide +kernel, by decide, am_in 4 rfl rfl, am_in 134 rfl rfl, by decide +kernel, by decide +kernel, by decide +kernel⟩
abbrev mX1_findFault : am_MD := (yX1_findFault, cX1_findFault, 1, some (.int))
set_option maxRecDepth 100000 in
theorem km_X1_findFault : am_mf mX1_findFault 0 := ⟨by decide +kernel, by decide, am_in 4 rfl rfl, am_in 567 rfl rfl, by decide +kernel, by decide +kernel, by decide +kernel⟩
abbrev mX1_makeText : am_MD := (yX1_makeText, cX1_makeText, 1, some ((.object "DuelLetters$Text")))
set_option maxRecDepth 100000 in
theorem km_X1_makeText : am_mf mX1_makeText 0 := ⟨by decide +kernel, by decide, am_in 4 rfl rfl, am_in 747 rfl rfl, by decide +kernel, by decide +kernel, by decide +kernel⟩
abbrev mX1_fail : am_MD := (yX1_fail, cX1_fail, 1, none)
set_option maxRecDepth 100000 in
theorem km_X1_fail : am_mf mX1_fail 0 := ⟨by decide +kernel, by decide, am_in 4 rfl rfl, am_in 637 rfl rfl, by decide +kernel, by decide +kernel, by decide +kernel⟩
abbrev mX1_advance : am_MD := (yX1_advance, cX1_advance, 4, none)
set_option maxRecDepth 100000 in
theorem km_X1_advance : am_mf mX1_advance 0 := ⟨by decide +kernel, by decide, am_in 4 rfl rfl, am_in 571 rfl rfl, by decide +kernel, by decide +kernel, by decide +kernel⟩
abbrev mX1_sortOf : am_MD := (yX1_sortOf, cX1_sortOf, 1, some (.int))
set_option maxRecDepth 100000 in
theorem km_X1_sortOf : am_mf mX1_sortOf 1 := ⟨by decide +kernel, by decide, am_in 4 rfl rfl, am_in 574 rfl rfl, by decide +kernel, by decide +kernel, by decide +kernel⟩
abbrev mX1_isSign : am_MD := (yX1_isSign, cX1_isSign, 2, some (.boolean))
set_option maxRecDepth 100000 in
theorem km_X1_isSign : am_mf mX1_isSign 1 := ⟨by decide +kernel, by decide, am_in 4 rfl rfl, am_in 739 rfl rfl, by decide +kernel, by decide +kernel, by decide +kernel⟩
abbrev mX1_isWord : am_MD := (yX1_isWord, cX1_isWord, 3, some (.boolean))
set_option maxRecDepth 100000 in
theorem km_X1_isWord : am_mf mX1_isWord 1 := ⟨by decide +kernel, by decide, am_in 4 rfl rfl, am_in 583 rfl rfl, by decide +kernel, by decide +kernel, by decide +kernel⟩
abbrev mX1_readKey : am_MD := (yX1_readKey, cX1_readKey, 1, none)
set_option maxRecDepth 100000 in
theorem km_X1_readKey : am_mf mX1_readKey 0 := ⟨by decide +kernel, by decide, am_in 4 rfl rfl, am_in 578 rfl rfl, by decide +kernel, by decide +kernel, by decide +kernel⟩
abbrev mX1_readOr : am_MD := (yX1_readOr, cX1_readOr, 2, none)
set_option maxRecDepth 100000 in
theorem km_X1_readOr : am_mf mX1_readOr 0 := ⟨by decide +kernel, by decide, am_in 4 rfl rfl, am_in 641 rfl rfl, by decide +kernel, by decide +kernel, by decide +kernel⟩
abbrev mX1_readAnd : am_MD := (yX1_readAnd, cX1_readAnd, 2, none)
set_option maxRecDepth 100000 in
theorem km_X1_readAnd : am_mf mX1_readAnd 0 := ⟨by decide +kernel, by decide, am_in 4 rfl rfl, am_in 645 rfl rfl, by decide +kernel, by decide +kernel, by decide +kernel⟩
abbrev mX1_readTest : am_MD := (yX1_readTest, cX1_readTest, 2, none)
set_option maxRecDepth 100000 in
theorem km_X1_readTest : am_mf mX1_readTest 0 := ⟨by decide +kernel, by decide, am_in 4 rfl rfl, am_in 649 rfl rfl, by decide +kernel, by decide +kernel, by decide +kernel⟩
abbrev mX1_readSum : am_MD := (yX1_readSum, cX1_readSum, 3, none)
set_option maxRecDepth 100000 in
theorem km_X1_readSum : am_mf mX1_readSum 0 := ⟨by decide +kernel, by decide, am_in 4 rfl rfl, am_in 653 rfl rfl, by decide +kernel, by decide +kernel, by decide +kernel⟩
abbrev mX1_readProduct : am_MD := (yX1_readProduct, cX1_readProduct, 3, none)
set_option maxRecDepth 100000 in
theorem km_X1_readProduct : am_mf mX1_readProduct 0 := ⟨by decide +kernel, by decide, am_in 4 rfl rfl, am_in 657 rfl rfl, by decide +kernel, by decide +kernel, by decide +kernel⟩
abbrev mX1_readPiece : am_MD := (yX1_readPiece, cX1_readPiece, 1, none)
set_option maxRecDepth 100000 in
theorem km_X1_readPiece : am_mf mX1_readPiece 0 := ⟨by decide +kernel, by decide, am_in 4 rfl rfl, am_in 661 rfl rfl, by decide +kernel, by decide +kernel, by decide +kernel⟩
abbrev mX1_closeBracket : am_MD := (yX1_closeBracket, cX1_closeBracket, 1, none)
set_option maxRecDepth 100000 in
theorem km_X1_closeBracket : am_mf mX1_closeBracket 0 := ⟨by decide +kernel, by decide, am_in 4 rfl rfl, am_in 743 rfl rfl, by decide +kernel, by decide +kernel, by decide +kernel⟩
abbrev mX1_numberRead : am_MD := (yX1_numberRead, cX1_numberRead, 3, some (.int))
set_option maxRecDepth 100000 in
theorem km_X1_numberRead : am_mf mX1_numberRead 0 := ⟨by decide +kernel, by decide, am_in 4 rfl rfl, am_in 665 rfl rfl, by decide +kernel, by decide +kernel, by decide +kernel⟩
abbrev mX1_nameRead : am_MD := (yX1_nameRead, cX1_nameRead, 2, some (.int))
set_option maxRecDepth 100000 in
theorem km_X1_nameRead : am_mf mX1_nameRead 0 := ⟨by decide +kernel, by decide, am_in 4 rfl rfl, am_in 677 rfl rfl, by decide +kernel, by decide +kernel, by decide +kernel⟩
abbrev mX1_emitOperand : am_MD := (yX1_emitOperand, cX1_emitOperand, 2, none)
set_option maxRecDepth 100000 in
theorem km_X1_emitOperand : am_mf mX1_emitOperand 1 := ⟨by decide +kernel, by decide, am_in 4 rfl rfl, am_in 669 rfl rfl, by decide +kernel, by decide +kernel, by decide +kernel⟩
abbrev mX1_emit : am_MD := (yX1_emit, cX1_emit, 2, none)
set_option maxRecDepth 100000 in
theorem km_X1_emit : am_mf mX1_emit 1 := ⟨by decide +kernel, by decide, am_in 4 rfl rfl, am_in 673 rfl rfl, by decide +kernel, by decide +kernel, by decide +kernel⟩
abbrev mX2_init : am_MD := (yX2_init, cX2_init, 1, none)
set_option maxRecDepth 100000 in
theorem km_X2_init : am_mf mX2_init 0 := ⟨by decide +kernel, by decide, am_in 6 rfl rfl, am_in 194 rfl rfl, by decide +kernel, by decide +kernel, by decide +kernel⟩
abbrev mX2_renew : am_MD := (yX2_renew, cX2_renew, 3, none)
set_option maxRecDepth 100000 in
theorem km_X2_renew : am_mf mX2_renew 2 := ⟨by decide +kernel, by decide, am_in 6 rfl rfl, am_in 803 rfl rfl, by decide +kernel, by decide +kernel, by decide +kernel⟩
abbrev mX2_becomes : am_MD := (yX2_becomes, cX2_becomes, 2, none)
set_option maxRecDepth 100000 in
theorem km_X2_becomes : am_mf mX2_becomes 1 := ⟨by decide +kernel, by decide, am_in 6 rfl rfl, am_in 842 rfl rfl, by decide +kernel, by decide +kernel, by decide +kernel⟩
abbrev mX2_isMissing : am_MD := (yX2_isMissing, cX2_isMissing, 1, some (.boolean))
set_option maxRecDepth 100000 in
theorem km_X2_isMissing : am_mf mX2_isMissing 0 := ⟨by decide +kernel, by decide, am_in 6 rfl rfl, am_in 521 rfl rfl, by decide +kernel, by decide +kernel, by decide +kernel⟩
abbrev mX2_isPlace : am_MD := (yX2_isPlace, cX2_isPlace, 2, some (.boolean))
set_option maxRecDepth 100000 in
theorem km_X2_isPlace : am_mf mX2_isPlace 1 := ⟨by decide +kernel, by decide, am_in 6 rfl rfl, am_in 534 rfl rfl, by decide +kernel, by decide +kernel, by decide +kernel⟩
abbrev mX2_isNumber : am_MD := (yX2_isNumber, cX2_isNumber, 2, some (.boolean))
set_option maxRecDepth 100000 in
theorem km_X2_isNumber : am_mf mX2_isNumber 1 := ⟨by decide +kernel, by decide, am_in 6 rfl rfl, am_in 530 rfl rfl, by decide +kernel, by decide +kernel, by decide +kernel⟩
abbrev mX2_hasPlaces : am_MD := (yX2_hasPlaces, cX2_hasPlaces, 3, some (.boolean))
set_option maxRecDepth 100000 in
theorem km_X2_hasPlaces : am_mf mX2_hasPlaces 2 := ⟨by decide +kernel, by decide, am_in 6 rfl rfl, am_in 830 rfl rfl, by decide +kernel, by decide +kernel, by decide +kernel⟩
abbrev mX3_init : am_MD := (yX3_init, cX3_init, 1, none)
set_option maxRecDepth 100000 in
theorem km_X3_init : am_mf mX3_init 0 := ⟨by decide +kernel, by decide, am_in 7 rfl rfl, am_in 212 rfl rfl, by decide +kernel, by decide +kernel, by decide +kernel⟩
abbrev mX4_init : am_MD := (yX4_init, cX4_init, 1, none)
set_option maxRecDepth 100000 in
theorem km_X4_init : am_mf mX4_init 0 := ⟨by decide +kernel, by decide, am_in 5 rfl rfl, am_in 140 rfl rfl, by decide +kernel, by decide +kernel, by decide +kernel⟩
abbrev mX4_addBytesOf : am_MD := (yX4_addBytesOf, cX4_addBytesOf, 3, none)
set_option maxRecDepth 100000 in
theorem km_X4_addBytesOf : am_mf mX4_addBytesOf 1 := ⟨by decide +kernel, by decide, am_in 5 rfl rfl, am_in 555 rfl rfl, by decide +kernel, by decide +kernel, by decide +kernel⟩
abbrev mX5_init : am_MD := (yX5_init, cX5_init, 4, none)
set_option maxRecDepth 100000 in
theorem km_X5_init : am_mf mX5_init 3 := ⟨by decide +kernel, by decide, am_in 9 rfl rfl, am_in 764 rfl rfl, by decide +kernel, by decide +kernel, by decide +kernel⟩
abbrev mX5_workOut : am_MD := (yX5_workOut, cX5_workOut, 7, some (.int))
set_option maxRecDepth 100000 in
theorem km_X5_workOut : am_mf mX5_workOut 3 := ⟨by decide +kernel, by decide, am_in 9 rfl rfl, am_in 314 rfl rfl, by decide +kernel, by decide +kernel, by decide +kernel⟩
abbrev mX5_join : am_MD := (yX5_join, cX5_join, 3, some (.int))
set_option maxRecDepth 100000 in
theorem km_X5_join : am_mf mX5_join 3 := ⟨by decide +kernel, by decide, am_in 9 rfl rfl, am_in 317 rfl rfl, by decide +kernel, by decide +kernel, by decide +kernel⟩
abbrev mX6_init : am_MD := (yX6_init, cX6_init, 1, none)
set_option maxRecDepth 100000 in
theorem km_X6_init : am_mf mX6_init 0 := ⟨by decide +kernel, by decide, am_in 3 rfl rfl, am_in 118 rfl rfl, by decide +kernel, by decide +kernel, by decide +kernel⟩
abbrev mX6_countTaken : am_MD := (yX6_countTaken, cX6_countTaken, 4, some (.int))
set_option maxRecDepth 100000 in
theorem km_X6_countTaken : am_mf mX6_countTaken 1 := ⟨by decide +kernel, by decide, am_in 3 rfl rfl, am_in 445 rfl rfl, by decide +kernel, by decide +kernel, by decide +kernel⟩
abbrev mX6_fairest : am_MD := (yX6_fairest, cX6_fairest, 6, some (.int))
set_option maxRecDepth 100000 in
theorem km_X6_fairest : am_mf mX6_fairest 1 := ⟨by decide +kernel, by decide, am_in 3 rfl rfl, am_in 467 rfl rfl, by decide +kernel, by decide +kernel, by decide +kernel⟩
abbrev mX6_nearest : am_MD := (yX6_nearest, cX6_nearest, 6, some (.int))
set_option maxRecDepth 100000 in
theorem km_X6_nearest : am_mf mX6_nearest 1 := ⟨by decide +kernel, by decide, am_in 3 rfl rfl, am_in 471 rfl rfl, by decide +kernel, by decide +kernel, by decide +kernel⟩
abbrev mX6_start : am_MD := (yX6_start, cX6_start, 3, none)
set_option maxRecDepth 100000 in
theorem km_X6_start : am_mf mX6_start 1 := ⟨by decide +kernel, by decide, am_in 3 rfl rfl, am_in 449 rfl rfl, by decide +kernel, by decide +kernel, by decide +kernel⟩
abbrev mX6_step : am_MD := (yX6_step, cX6_step, 5, none)
set_option maxRecDepth 100000 in
theorem km_X6_step : am_mf mX6_step 1 := ⟨by decide +kernel, by decide, am_in 3 rfl rfl, am_in 459 rfl rfl, by decide +kernel, by decide +kernel, by decide +kernel⟩
abbrev mX6_spare : am_MD := (yX6_spare, cX6_spare, 2, some (.int))
set_option maxRecDepth 100000 in
theorem km_X6_spare : am_mf mX6_spare 1 := ⟨by decide +kernel, by decide, am_in 3 rfl rfl, am_in 454 rfl rfl, by decide +kernel, by decide +kernel, by decide +kernel⟩
abbrev mX6_distanceTo : am_MD := (yX6_distanceTo, cX6_distanceTo, 4, some (.int))
set_option maxRecDepth 100000 in
theorem km_X6_distanceTo : am_mf mX6_distanceTo 1 := ⟨by decide +kernel, by decide, am_in 3 rfl rfl, am_in 475 rfl rfl, by decide +kernel, by decide +kernel, by decide +kernel⟩
abbrev mX7_init : am_MD := (yX7_init, cX7_init, 2, none)
theorem km_X7_init : am_mf mX7_init 0 := ⟨by decide +kernel, by decide, am_in 1 rfl rfl, am_in 22 rfl rfl, by decide +kernel, by decide +kernel, by decide +kernel⟩
abbrev mX7_friend : am_MD := (yX7_friend, cX7_friend, 4, some (.int))
set_option maxRecDepth 100000 in
theorem km_X7_friend : am_mf mX7_friend 3 := ⟨by decide +kernel, by decide, am_in 1 rfl rfl, am_in 274 rfl rfl, by decide +kernel, by decide +kernel, by decide +kernel⟩
abbrev mX7_told : am_MD := (yX7_told, cX7_told, 3, some (.int))
set_option maxRecDepth 100000 in
theorem km_X7_told : am_mf mX7_told 2 := ⟨by decide +kernel, by decide, am_in 1 rfl rfl, am_in 293 rfl rfl, by decide +kernel, by decide +kernel, by decide +kernel⟩
abbrev mX7_as : am_MD := (yX7_as, cX7_as, 3, some (.int))
set_option maxRecDepth 100000 in
theorem km_X7_as : am_mf mX7_as 2 := ⟨by decide +kernel, by decide, am_in 1 rfl rfl, am_in 345 rfl rfl, by decide +kernel, by decide +kernel, by decide +kernel⟩
abbrev mX7_turns : am_MD := (yX7_turns, cX7_turns, 4, some (.int))
set_option maxRecDepth 100000 in
theorem km_X7_turns : am_mf mX7_turns 2 := ⟨by decide +kernel, by decide, am_in 1 rfl rfl, am_in 355 rfl rfl, by decide +kernel, by decide +kernel, by decide +kernel⟩
abbrev mX7_set : am_MD := (yX7_set, cX7_set, 5, some (.int))
set_option maxRecDepth 100000 in
theorem km_X7_set : am_mf mX7_set 3 := ⟨by decide +kernel, by decide, am_in 1 rfl rfl, am_in 359 rfl rfl, by decide +kernel, by decide +kernel, by decide +kernel⟩
abbrev mX7_stand : am_MD := (yX7_stand, cX7_stand, 4, some (.int))
set_option maxRecDepth 100000 in
theorem km_X7_stand : am_mf mX7_stand 2 := ⟨by decide +kernel, by decide, am_in 1 rfl rfl, am_in 363 rfl rfl, by decide +kernel, by decide +kernel, by decide +kernel⟩
abbrev mX7_care : am_MD := (yX7_care, cX7_care, 5, some (.int))
set_option maxRecDepth 100000 in
theorem km_X7_care : am_mf mX7_care 3 := ⟨by decide +kernel, by decide, am_in 1 rfl rfl, am_in 370 rfl rfl, by decide +kernel, by decide +kernel, by decide +kernel⟩
abbrev mX7_honour : am_MD := (yX7_honour, cX7_honour, 4, some (.int))
set_option maxRecDepth 100000 in
theorem km_X7_honour : am_mf mX7_honour 2 := ⟨by decide +kernel, by decide, am_in 1 rfl rfl, am_in 375 rfl rfl, by decide +kernel, by decide +kernel, by decide +kernel⟩
abbrev mX7_rule : am_MD := (yX7_rule, cX7_rule, 4, some (.int))
set_option maxRecDepth 100000 in
theorem km_X7_rule : am_mf mX7_rule 2 := ⟨by decide +kernel, by decide, am_in 1 rfl rfl, am_in 379 rfl rfl, by decide +kernel, by decide +kernel, by decide +kernel⟩
abbrev mX7_deal : am_MD := (yX7_deal, cX7_deal, 7, some (.int))
set_option maxRecDepth 100000 in
theorem km_X7_deal : am_mf mX7_deal 1 := ⟨by decide +kernel, by decide, am_in 1 rfl rfl, am_in 383 rfl rfl, by decide +kernel, by decide +kernel, by decide +kernel⟩
abbrev mX7_seed : am_MD := (yX7_seed, cX7_seed, 3, some (.int))
set_option maxRecDepth 100000 in
theorem km_X7_seed : am_mf mX7_seed 1 := ⟨by decide +kernel, by decide, am_in 1 rfl rfl, am_in 392 rfl rfl, by decide +kernel, by decide +kernel, by decide +kernel⟩
abbrev mX7_posts : am_MD := (yX7_posts, cX7_posts, 2, some (.int))
set_option maxRecDepth 100000 in
theorem km_X7_posts : am_mf mX7_posts 1 := ⟨by decide +kernel, by decide, am_in 1 rfl rfl, am_in 396 rfl rfl, by decide +kernel, by decide +kernel, by decide +kernel⟩
abbrev mX7_table : am_MD := (yX7_table, cX7_table, 2, some (.int))
set_option maxRecDepth 100000 in
theorem km_X7_table : am_mf mX7_table 1 := ⟨by decide +kernel, by decide, am_in 1 rfl rfl, am_in 427 rfl rfl, by decide +kernel, by decide +kernel, by decide +kernel⟩
abbrev mX7_taken : am_MD := (yX7_taken, cX7_taken, 1, some (.int))
set_option maxRecDepth 100000 in
theorem km_X7_taken : am_mf mX7_taken 0 := ⟨by decide +kernel, by decide, am_in 1 rfl rfl, am_in 441 rfl rfl, by decide +kernel, by decide +kernel, by decide +kernel⟩
abbrev mX7_terms : am_MD := (yX7_terms, cX7_terms, 2, some (.int))
set_option maxRecDepth 100000 in
theorem km_X7_terms : am_mf mX7_terms 1 := ⟨by decide +kernel, by decide, am_in 1 rfl rfl, am_in 463 rfl rfl, by decide +kernel, by decide +kernel, by decide +kernel⟩
abbrev mX7_behind : am_MD := (yX7_behind, cX7_behind, 3, some (.int))
set_option maxRecDepth 100000 in
theorem km_X7_behind : am_mf mX7_behind 2 := ⟨by decide +kernel, by decide, am_in 1 rfl rfl, am_in 482 rfl rfl, by decide +kernel, by decide +kernel, by decide +kernel⟩
abbrev mX7_ends : am_MD := (yX7_ends, cX7_ends, 3, some (.int))
set_option maxRecDepth 100000 in
theorem km_X7_ends : am_mf mX7_ends 1 := ⟨by decide +kernel, by decide, am_in 1 rfl rfl, am_in 493 rfl rfl, by decide +kernel, by decide +kernel, by decide +kernel⟩
abbrev mX7_held : am_MD := (yX7_held, cX7_held, 4, some (.int))
set_option maxRecDepth 100000 in
theorem km_X7_held : am_mf mX7_held 1 := ⟨by decide +kernel, by decide, am_in 1 rfl rfl, am_in 498 rfl rfl, by decide +kernel, by decide +kernel, by decide +kernel⟩
abbrev mX7_peaceWithout : am_MD := (yX7_peaceWithout, cX7_peaceWithout, 3, some (.boolean))
set_option maxRecDepth 100000 in
theorem km_X7_peaceWithout : am_mf mX7_peaceWithout 2 := ⟨by decide +kernel, by decide, am_in 1 rfl rfl, am_in 502 rfl rfl, by decide +kernel, by decide +kernel, by decide +kernel⟩
abbrev mX7_cool : am_MD := (yX7_cool, cX7_cool, 3, some (.int))
set_option maxRecDepth 100000 in
theorem km_X7_cool : am_mf mX7_cool 1 := ⟨by decide +kernel, by decide, am_in 1 rfl rfl, am_in 506 rfl rfl, by decide +kernel, by decide +kernel, by decide +kernel⟩
abbrev mX7_bought : am_MD := (yX7_bought, cX7_bought, 7, some (.int))
set_option maxRecDepth 100000 in
theorem km_X7_bought : am_mf mX7_bought 2 := ⟨by decide +kernel, by decide, am_in 1 rfl rfl, am_in 510 rfl rfl, by decide +kernel, by decide +kernel, by decide +kernel⟩
abbrev mX7_cared : am_MD := (yX7_cared, cX7_cared, 9, some (.int))
set_option maxRecDepth 100000 in
theorem km_X7_cared : am_mf mX7_cared 3 := ⟨by decide +kernel, by decide, am_in 1 rfl rfl, am_in 514 rfl rfl, by decide +kernel, by decide +kernel, by decide +kernel⟩
abbrev mX7_differenceFrom : am_MD := (yX7_differenceFrom, cX7_differenceFrom, 4, some (.int))
set_option maxRecDepth 100000 in
theorem km_X7_differenceFrom : am_mf mX7_differenceFrom 1 := ⟨by decide +kernel, by decide, am_in 1 rfl rfl, am_in 526 rfl rfl, by decide +kernel, by decide +kernel, by decide +kernel⟩
abbrev mX7_fee : am_MD := (yX7_fee, cX7_fee, 2, some (.int))
set_option maxRecDepth 100000 in
theorem km_X7_fee : am_mf mX7_fee 0 := ⟨by decide +kernel, by decide, am_in 1 rfl rfl, am_in 541 rfl rfl, by decide +kernel, by decide +kernel, by decide +kernel⟩
abbrev mX7_fine : am_MD := (yX7_fine, cX7_fine, 4, some (.int))
set_option maxRecDepth 100000 in
theorem km_X7_fine : am_mf mX7_fine 1 := ⟨by decide +kernel, by decide, am_in 1 rfl rfl, am_in 547 rfl rfl, by decide +kernel, by decide +kernel, by decide +kernel⟩
abbrev mX7_feed : am_MD := (yX7_feed, cX7_feed, 4, some (.int))
set_option maxRecDepth 100000 in
theorem km_X7_feed : am_mf mX7_feed 3 := ⟨by decide +kernel, by decide, am_in 1 rfl rfl, am_in 551 rfl rfl, by decide +kernel, by decide +kernel, by decide +kernel⟩
abbrev mX7_trim : am_MD := (yX7_trim, cX7_trim, 2, some (.int))
set_option maxRecDepth 100000 in
theorem km_X7_trim : am_mf mX7_trim 1 := ⟨by decide +kernel, by decide, am_in 1 rfl rfl, am_in 559 rfl rfl, by decide +kernel, by decide +kernel, by decide +kernel⟩
abbrev mX7_text : am_MD := (yX7_text, cX7_text, 2, some (.int))
set_option maxRecDepth 100000 in
theorem km_X7_text : am_mf mX7_text 0 := ⟨by decide +kernel, by decide, am_in 1 rfl rfl, am_in 563 rfl rfl, by decide +kernel, by decide +kernel, by decide +kernel⟩
abbrev mX7_textTold : am_MD := (yX7_textTold, cX7_textTold, 4, some (.int))
set_option maxRecDepth 100000 in
theorem km_X7_textTold : am_mf mX7_textTold 2 := ⟨by decide +kernel, by decide, am_in 1 rfl rfl, am_in 791 rfl rfl, by decide +kernel, by decide +kernel, by decide +kernel⟩
abbrev mX7_why : am_MD := (yX7_why, cX7_why, 2, some (.int))
set_option maxRecDepth 100000 in
theorem km_X7_why : am_mf mX7_why 1 := ⟨by decide +kernel, by decide, am_in 1 rfl rfl, am_in 795 rfl rfl, by decide +kernel, by decide +kernel, by decide +kernel⟩
abbrev mX7_sheet : am_MD := (yX7_sheet, cX7_sheet, 4, some (.int))
set_option maxRecDepth 100000 in
theorem km_X7_sheet : am_mf mX7_sheet 3 := ⟨by decide +kernel, by decide, am_in 1 rfl rfl, am_in 799 rfl rfl, by decide +kernel, by decide +kernel, by decide +kernel⟩
abbrev mX7_mark : am_MD := (yX7_mark, cX7_mark, 5, some (.int))
set_option maxRecDepth 100000 in
theorem km_X7_mark : am_mf mX7_mark 3 := ⟨by decide +kernel, by decide, am_in 1 rfl rfl, am_in 809 rfl rfl, by decide +kernel, by decide +kernel, by decide +kernel⟩
abbrev mX7_pour : am_MD := (yX7_pour, cX7_pour, 6, some (.int))
set_option maxRecDepth 100000 in
theorem km_X7_pour : am_mf mX7_pour 1 := ⟨by decide +kernel, by decide, am_in 1 rfl rfl, am_in 817 rfl rfl, by decide +kernel, by decide +kernel, by decide +kernel⟩
abbrev mX7_reads : am_MD := (yX7_reads, cX7_reads, 4, some (.int))
set_option maxRecDepth 100000 in
theorem km_X7_reads : am_mf mX7_reads 1 := ⟨by decide +kernel, by decide, am_in 1 rfl rfl, am_in 822 rfl rfl, by decide +kernel, by decide +kernel, by decide +kernel⟩
abbrev mX7_copy : am_MD := (yX7_copy, cX7_copy, 8, some (.int))
set_option maxRecDepth 100000 in
theorem km_X7_copy : am_mf mX7_copy 5 := ⟨by decide +kernel, by decide, am_in 1 rfl rfl, am_in 826 rfl rfl, by decide +kernel, by decide +kernel, by decide +kernel⟩
abbrev mX7_lay : am_MD := (yX7_lay, cX7_lay, 6, some (.int))
set_option maxRecDepth 100000 in
theorem km_X7_lay : am_mf mX7_lay 3 := ⟨by decide +kernel, by decide, am_in 1 rfl rfl, am_in 835 rfl rfl, by decide +kernel, by decide +kernel, by decide +kernel⟩
abbrev mX7_ask : am_MD := (yX7_ask, cX7_ask, 4, some (.int))
set_option maxRecDepth 100000 in
theorem km_X7_ask : am_mf mX7_ask 2 := ⟨by decide +kernel, by decide, am_in 1 rfl rfl, am_in 847 rfl rfl, by decide +kernel, by decide +kernel, by decide +kernel⟩
abbrev mX7_item : am_MD := (yX7_item, cX7_item, 4, some (.int))
set_option maxRecDepth 100000 in
theorem km_X7_item : am_mf mX7_item 2 := ⟨by decide +kernel, by decide, am_in 1 rfl rfl, am_in 851 rfl rfl, by decide +kernel, by decide +kernel, by decide +kernel⟩
abbrev mX7_rest : am_MD := (yX7_rest, cX7_rest, 4, some (.int))
set_option maxRecDepth 100000 in
theorem km_X7_rest : am_mf mX7_rest 2 := ⟨by decide +kernel, by decide, am_in 1 rfl rfl, am_in 855 rfl rfl, by decide +kernel, by decide +kernel, by decide +kernel⟩
abbrev mX7_tell : am_MD := (yX7_tell, cX7_tell, 2, some (.int))
set_option maxRecDepth 100000 in
theorem km_X7_tell : am_mf mX7_tell 1 := ⟨by decide +kernel, by decide, am_in 1 rfl rfl, am_in 860 rfl rfl, by decide +kernel, by decide +kernel, by decide +kernel⟩
abbrev mX7_check : am_MD := (yX7_check, cX7_check, 6, some (.int))
set_option maxRecDepth 100000 in
theorem km_X7_check : am_mf mX7_check 1 := ⟨by decide +kernel, by decide, am_in 1 rfl rfl, am_in 864 rfl rfl, by decide +kernel, by decide +kernel, by decide +kernel⟩
abbrev mX7_keep : am_MD := (yX7_keep, cX7_keep, 1, some (.int))
set_option maxRecDepth 100000 in
theorem km_X7_keep : am_mf mX7_keep 0 := ⟨by decide +kernel, by decide, am_in 1 rfl rfl, am_in 868 rfl rfl, by decide +kernel, by decide +kernel, by decide +kernel⟩
abbrev mX7_back : am_MD := (yX7_back, cX7_back, 1, some (.int))
set_option maxRecDepth 100000 in
theorem km_X7_back : am_mf mX7_back 0 := ⟨by decide +kernel, by decide, am_in 1 rfl rfl, am_in 872 rfl rfl, by decide +kernel, by decide +kernel, by decide +kernel⟩
abbrev mX7_count : am_MD := (yX7_count, cX7_count, 2, some (.int))
set_option maxRecDepth 100000 in
theorem km_X7_count : am_mf mX7_count 1 := ⟨by decide +kernel, by decide, am_in 1 rfl rfl, am_in 876 rfl rfl, by decide +kernel, by decide +kernel, by decide +kernel⟩
abbrev mX7_within : am_MD := (yX7_within, cX7_within, 3, some (.boolean))
set_option maxRecDepth 100000 in
theorem km_X7_within : am_mf mX7_within 3 := ⟨by decide +kernel, by decide, am_in 1 rfl rfl, am_in 280 rfl rfl, by decide +kernel, by decide +kernel, by decide +kernel⟩
abbrev mX7_heldWithin : am_MD := (yX7_heldWithin, cX7_heldWithin, 2, some (.int))
set_option maxRecDepth 100000 in
theorem km_X7_heldWithin : am_mf mX7_heldWithin 2 := ⟨by decide +kernel, by decide, am_in 1 rfl rfl, am_in 320 rfl rfl, by decide +kernel, by decide +kernel, by decide +kernel⟩
abbrev mX7_isSide : am_MD := (yX7_isSide, cX7_isSide, 1, some (.boolean))
set_option maxRecDepth 100000 in
theorem km_X7_isSide : am_mf mX7_isSide 1 := ⟨by decide +kernel, by decide, am_in 1 rfl rfl, am_in 283 rfl rfl, by decide +kernel, by decide +kernel, by decide +kernel⟩
abbrev mX7_isTerm : am_MD := (yX7_isTerm, cX7_isTerm, 1, some (.boolean))
set_option maxRecDepth 100000 in
theorem km_X7_isTerm : am_mf mX7_isTerm 1 := ⟨by decide +kernel, by decide, am_in 1 rfl rfl, am_in 366 rfl rfl, by decide +kernel, by decide +kernel, by decide +kernel⟩
abbrev mX7_isKind : am_MD := (yX7_isKind, cX7_isKind, 1, some (.boolean))
set_option maxRecDepth 100000 in
theorem km_X7_isKind : am_mf mX7_isKind 1 := ⟨by decide +kernel, by decide, am_in 1 rfl rfl, am_in 277 rfl rfl, by decide +kernel, by decide +kernel, by decide +kernel⟩
abbrev mX7_isSheet : am_MD := (yX7_isSheet, cX7_isSheet, 1, some (.boolean))
set_option maxRecDepth 100000 in
theorem km_X7_isSheet : am_mf mX7_isSheet 1 := ⟨by decide +kernel, by decide, am_in 1 rfl rfl, am_in 517 rfl rfl, by decide +kernel, by decide +kernel, by decide +kernel⟩
abbrev mX7_isSlot : am_MD := (yX7_isSlot, cX7_isSlot, 1, some (.boolean))
set_option maxRecDepth 100000 in
theorem km_X7_isSlot : am_mf mX7_isSlot 1 := ⟨by decide +kernel, by decide, am_in 1 rfl rfl, am_in 838 rfl rfl, by decide +kernel, by decide +kernel, by decide +kernel⟩
abbrev mX7_carePlace : am_MD := (yX7_carePlace, cX7_carePlace, 2, some (.int))
set_option maxRecDepth 100000 in
theorem km_X7_carePlace : am_mf mX7_carePlace 2 := ⟨by decide +kernel, by decide, am_in 1 rfl rfl, am_in 334 rfl rfl, by decide +kernel, by decide +kernel, by decide +kernel⟩
abbrev mX7_orNone : am_MD := (yX7_orNone, cX7_orNone, 1, some (.int))
set_option maxRecDepth 100000 in
theorem km_X7_orNone : am_mf mX7_orNone 1 := ⟨by decide +kernel, by decide, am_in 1 rfl rfl, am_in 337 rfl rfl, by decide +kernel, by decide +kernel, by decide +kernel⟩
abbrev mX7_isUnder : am_MD := (yX7_isUnder, cX7_isUnder, 4, some (.boolean))
set_option maxRecDepth 100000 in
theorem km_X7_isUnder : am_mf mX7_isUnder 2 := ⟨by decide +kernel, by decide, am_in 1 rfl rfl, am_in 348 rfl rfl, by decide +kernel, by decide +kernel, by decide +kernel⟩
abbrev mX7_worthOf : am_MD := (yX7_worthOf, cX7_worthOf, 2, some (.int))
set_option maxRecDepth 100000 in
theorem km_X7_worthOf : am_mf mX7_worthOf 2 := ⟨by decide +kernel, by decide, am_in 1 rfl rfl, am_in 341 rfl rfl, by decide +kernel, by decide +kernel, by decide +kernel⟩
abbrev mX8_init : am_MD := (yX8_init, cX8_init, 2, none)
set_option maxRecDepth 100000 in
theorem km_X8_init : am_mf mX8_init 0 := ⟨by decide +kernel, by decide, am_in 8 rfl rfl, am_in 881 rfl rfl, by decide +kernel, by decide +kernel, by decide +kernel⟩
abbrev mX8_in : am_MD := (yX8_in, cX8_in, 3, some (.boolean))
set_option maxRecDepth 100000 in
theorem km_X8_in : am_mf mX8_in 3 := ⟨by decide +kernel, by decide, am_in 8 rfl rfl, am_in 1000 rfl rfl, by decide +kernel, by decide +kernel, by decide +kernel⟩
abbrev mX8_within : am_MD := (yX8_within, cX8_within, 3, some (.int))
set_option maxRecDepth 100000 in
theorem km_X8_within : am_mf mX8_within 3 := ⟨by decide +kernel, by decide, am_in 8 rfl rfl, am_in 1040 rfl rfl, by decide +kernel, by decide +kernel, by decide +kernel⟩
abbrev mX8_copyAll : am_MD := (yX8_copyAll, cX8_copyAll, 3, none)
set_option maxRecDepth 100000 in
theorem km_X8_copyAll : am_mf mX8_copyAll 2 := ⟨by decide +kernel, by decide, am_in 8 rfl rfl, am_in 1327 rfl rfl, by decide +kernel, by decide +kernel, by decide +kernel⟩
abbrev mX8_told0 : am_MD := (yX8_told0, cX8_told0, 1, some (.int))
set_option maxRecDepth 100000 in
theorem km_X8_told0 : am_mf mX8_told0 1 := ⟨by decide +kernel, by decide, am_in 8 rfl rfl, am_in 1051 rfl rfl, by decide +kernel, by decide +kernel, by decide +kernel⟩
abbrev mX8_isFriend : am_MD := (yX8_isFriend, cX8_isFriend, 2, some (.boolean))
set_option maxRecDepth 100000 in
theorem km_X8_isFriend : am_mf mX8_isFriend 1 := ⟨by decide +kernel, by decide, am_in 8 rfl rfl, am_in 1018 rfl rfl, by decide +kernel, by decide +kernel, by decide +kernel⟩
abbrev mX8_of : am_MD := (yX8_of, cX8_of, 3, some (.int))
set_option maxRecDepth 100000 in
theorem km_X8_of : am_mf mX8_of 2 := ⟨by decide +kernel, by decide, am_in 8 rfl rfl, am_in 1022 rfl rfl, by decide +kernel, by decide +kernel, by decide +kernel⟩
abbrev mX8_put : am_MD := (yX8_put, cX8_put, 4, none)
set_option maxRecDepth 100000 in
theorem km_X8_put : am_mf mX8_put 3 := ⟨by decide +kernel, by decide, am_in 8 rfl rfl, am_in 1010 rfl rfl, by decide +kernel, by decide +kernel, by decide +kernel⟩
abbrev mX8_becomes : am_MD := (yX8_becomes, cX8_becomes, 4, some (.int))
set_option maxRecDepth 100000 in
theorem km_X8_becomes : am_mf mX8_becomes 2 := ⟨by decide +kernel, by decide, am_in 8 rfl rfl, am_in 1072 rfl rfl, by decide +kernel, by decide +kernel, by decide +kernel⟩
abbrev mX8_comes : am_MD := (yX8_comes, cX8_comes, 5, some (.int))
set_option maxRecDepth 100000 in
theorem km_X8_comes : am_mf mX8_comes 3 := ⟨by decide +kernel, by decide, am_in 8 rfl rfl, am_in 1006 rfl rfl, by decide +kernel, by decide +kernel, by decide +kernel⟩
abbrev mX8_friend : am_MD := (yX8_friend, cX8_friend, 4, some (.int))
set_option maxRecDepth 100000 in
theorem km_X8_friend : am_mf mX8_friend 3 := ⟨by decide +kernel, by decide, am_in 8 rfl rfl, am_in 997 rfl rfl, by decide +kernel, by decide +kernel, by decide +kernel⟩
abbrev mX8_toneOf : am_MD := (yX8_toneOf, cX8_toneOf, 4, some (.int))
set_option maxRecDepth 100000 in
theorem km_X8_toneOf : am_mf mX8_toneOf 1 := ⟨by decide +kernel, by decide, am_in 8 rfl rfl, am_in 1026 rfl rfl, by decide +kernel, by decide +kernel, by decide +kernel⟩
abbrev mX8_pickOf : am_MD := (yX8_pickOf, cX8_pickOf, 5, some (.int))
set_option maxRecDepth 100000 in
theorem km_X8_pickOf : am_mf mX8_pickOf 2 := ⟨by decide +kernel, by decide, am_in 8 rfl rfl, am_in 1048 rfl rfl, by decide +kernel, by decide +kernel, by decide +kernel⟩
abbrev mX8_termOf : am_MD := (yX8_termOf, cX8_termOf, 5, some (.int))
set_option maxRecDepth 100000 in
theorem km_X8_termOf : am_mf mX8_termOf 1 := ⟨by decide +kernel, by decide, am_in 8 rfl rfl, am_in 1044 rfl rfl, by decide +kernel, by decide +kernel, by decide +kernel⟩
abbrev mX8_worthOf : am_MD := (yX8_worthOf, cX8_worthOf, 3, some (.int))
set_option maxRecDepth 100000 in
theorem km_X8_worthOf : am_mf mX8_worthOf 1 := ⟨by decide +kernel, by decide, am_in 8 rfl rfl, am_in 1056 rfl rfl, by decide +kernel, by decide +kernel, by decide +kernel⟩
abbrev mX8_told : am_MD := (yX8_told, cX8_told, 3, some (.int))
set_option maxRecDepth 100000 in
theorem km_X8_told : am_mf mX8_told 2 := ⟨by decide +kernel, by decide, am_in 8 rfl rfl, am_in 1014 rfl rfl, by decide +kernel, by decide +kernel, by decide +kernel⟩
abbrev mX8_isUnder : am_MD := (yX8_isUnder, cX8_isUnder, 2, some (.boolean))
set_option maxRecDepth 100000 in
theorem km_X8_isUnder : am_mf mX8_isUnder 2 := ⟨by decide +kernel, by decide, am_in 8 rfl rfl, am_in 1063 rfl rfl, by decide +kernel, by decide +kernel, by decide +kernel⟩
abbrev mX8_as : am_MD := (yX8_as, cX8_as, 3, some (.int))
set_option maxRecDepth 100000 in
theorem km_X8_as : am_mf mX8_as 2 := ⟨by decide +kernel, by decide, am_in 8 rfl rfl, am_in 1060 rfl rfl, by decide +kernel, by decide +kernel, by decide +kernel⟩
abbrev mX8_turns : am_MD := (yX8_turns, cX8_turns, 3, some (.int))
set_option maxRecDepth 100000 in
theorem km_X8_turns : am_mf mX8_turns 2 := ⟨by decide +kernel, by decide, am_in 8 rfl rfl, am_in 1068 rfl rfl, by decide +kernel, by decide +kernel, by decide +kernel⟩
abbrev mX8_set : am_MD := (yX8_set, cX8_set, 4, some (.int))
set_option maxRecDepth 100000 in
theorem km_X8_set : am_mf mX8_set 3 := ⟨by decide +kernel, by decide, am_in 8 rfl rfl, am_in 1076 rfl rfl, by decide +kernel, by decide +kernel, by decide +kernel⟩
abbrev mX8_stand : am_MD := (yX8_stand, cX8_stand, 3, some (.int))
set_option maxRecDepth 100000 in
theorem km_X8_stand : am_mf mX8_stand 2 := ⟨by decide +kernel, by decide, am_in 8 rfl rfl, am_in 1080 rfl rfl, by decide +kernel, by decide +kernel, by decide +kernel⟩
abbrev mX8_care : am_MD := (yX8_care, cX8_care, 4, some (.int))
set_option maxRecDepth 100000 in
theorem km_X8_care : am_mf mX8_care 3 := ⟨by decide +kernel, by decide, am_in 8 rfl rfl, am_in 1084 rfl rfl, by decide +kernel, by decide +kernel, by decide +kernel⟩
abbrev mX8_honour : am_MD := (yX8_honour, cX8_honour, 3, some (.int))
set_option maxRecDepth 100000 in
theorem km_X8_honour : am_mf mX8_honour 2 := ⟨by decide +kernel, by decide, am_in 8 rfl rfl, am_in 1088 rfl rfl, by decide +kernel, by decide +kernel, by decide +kernel⟩
abbrev mX8_rule : am_MD := (yX8_rule, cX8_rule, 3, some (.int))
set_option maxRecDepth 100000 in
theorem km_X8_rule : am_mf mX8_rule 2 := ⟨by decide +kernel, by decide, am_in 8 rfl rfl, am_in 1092 rfl rfl, by decide +kernel, by decide +kernel, by decide +kernel⟩
abbrev mX8_draw : am_MD := (yX8_draw, cX8_draw, 1, some (.int))
set_option maxRecDepth 100000 in
theorem km_X8_draw : am_mf mX8_draw 0 := ⟨by decide +kernel, by decide, am_in 8 rfl rfl, am_in 1100 rfl rfl, by decide +kernel, by decide +kernel, by decide +kernel⟩
abbrev mX8_deal : am_MD := (yX8_deal, cX8_deal, 6, some (.int))
set_option maxRecDepth 100000 in
theorem km_X8_deal : am_mf mX8_deal 1 := ⟨by decide +kernel, by decide, am_in 8 rfl rfl, am_in 1096 rfl rfl, by decide +kernel, by decide +kernel, by decide +kernel⟩
abbrev mX8_seed : am_MD := (yX8_seed, cX8_seed, 2, some (.int))
set_option maxRecDepth 100000 in
theorem km_X8_seed : am_mf mX8_seed 1 := ⟨by decide +kernel, by decide, am_in 8 rfl rfl, am_in 1105 rfl rfl, by decide +kernel, by decide +kernel, by decide +kernel⟩
abbrev mX8_has : am_MD := (yX8_has, cX8_has, 5, some (.int))
set_option maxRecDepth 100000 in
theorem km_X8_has : am_mf mX8_has 1 := ⟨by decide +kernel, by decide, am_in 8 rfl rfl, am_in 1129 rfl rfl, by decide +kernel, by decide +kernel, by decide +kernel⟩
abbrev mX8_isPeace : am_MD := (yX8_isPeace, cX8_isPeace, 1, some (.boolean))
set_option maxRecDepth 100000 in
theorem km_X8_isPeace : am_mf mX8_isPeace 0 := ⟨by decide +kernel, by decide, am_in 8 rfl rfl, am_in 1125 rfl rfl, by decide +kernel, by decide +kernel, by decide +kernel⟩
abbrev mX8_letter : am_MD := (yX8_letter, cX8_letter, 3, none)
set_option maxRecDepth 100000 in
theorem km_X8_letter : am_mf mX8_letter 1 := ⟨by decide +kernel, by decide, am_in 8 rfl rfl, am_in 1133 rfl rfl, by decide +kernel, by decide +kernel, by decide +kernel⟩
abbrev mX8_post : am_MD := (yX8_post, cX8_post, 2, none)
set_option maxRecDepth 100000 in
theorem km_X8_post : am_mf mX8_post 0 := ⟨by decide +kernel, by decide, am_in 8 rfl rfl, am_in 1121 rfl rfl, by decide +kernel, by decide +kernel, by decide +kernel⟩
abbrev mX8_goesOn : am_MD := (yX8_goesOn, cX8_goesOn, 3, none)
set_option maxRecDepth 100000 in
theorem km_X8_goesOn : am_mf mX8_goesOn 1 := ⟨by decide +kernel, by decide, am_in 8 rfl rfl, am_in 1117 rfl rfl, by decide +kernel, by decide +kernel, by decide +kernel⟩
abbrev mX8_sumOf : am_MD := (yX8_sumOf, cX8_sumOf, 4, some (.int))
set_option maxRecDepth 100000 in
theorem km_X8_sumOf : am_mf mX8_sumOf 1 := ⟨by decide +kernel, by decide, am_in 8 rfl rfl, am_in 1113 rfl rfl, by decide +kernel, by decide +kernel, by decide +kernel⟩
abbrev mX8_posts : am_MD := (yX8_posts, cX8_posts, 3, some (.int))
set_option maxRecDepth 100000 in
theorem km_X8_posts : am_mf mX8_posts 1 := ⟨by decide +kernel, by decide, am_in 8 rfl rfl, am_in 1109 rfl rfl, by decide +kernel, by decide +kernel, by decide +kernel⟩
abbrev mX8_stands : am_MD := (yX8_stands, cX8_stands, 3, some (.int))
set_option maxRecDepth 100000 in
theorem km_X8_stands : am_mf mX8_stands 0 := ⟨by decide +kernel, by decide, am_in 8 rfl rfl, am_in 1141 rfl rfl, by decide +kernel, by decide +kernel, by decide +kernel⟩
abbrev mX8_table : am_MD := (yX8_table, cX8_table, 2, some (.int))
set_option maxRecDepth 100000 in
theorem km_X8_table : am_mf mX8_table 1 := ⟨by decide +kernel, by decide, am_in 8 rfl rfl, am_in 1137 rfl rfl, by decide +kernel, by decide +kernel, by decide +kernel⟩
abbrev mX8_thinks : am_MD := (yX8_thinks, cX8_thinks, 2, none)
set_option maxRecDepth 100000 in
theorem km_X8_thinks : am_mf mX8_thinks 0 := ⟨by decide +kernel, by decide, am_in 8 rfl rfl, am_in 1149 rfl rfl, by decide +kernel, by decide +kernel, by decide +kernel⟩
abbrev mX8_putsBack : am_MD := (yX8_putsBack, cX8_putsBack, 2, none)
set_option maxRecDepth 100000 in
theorem km_X8_putsBack : am_mf mX8_putsBack 0 := ⟨by decide +kernel, by decide, am_in 8 rfl rfl, am_in 1157 rfl rfl, by decide +kernel, by decide +kernel, by decide +kernel⟩
abbrev mX8_standAs : am_MD := (yX8_standAs, cX8_standAs, 4, none)
set_option maxRecDepth 100000 in
theorem km_X8_standAs : am_mf mX8_standAs 1 := ⟨by decide +kernel, by decide, am_in 8 rfl rfl, am_in 1153 rfl rfl, by decide +kernel, by decide +kernel, by decide +kernel⟩
abbrev mX8_taken : am_MD := (yX8_taken, cX8_taken, 3, some (.int))
set_option maxRecDepth 100000 in
theorem km_X8_taken : am_mf mX8_taken 0 := ⟨by decide +kernel, by decide, am_in 8 rfl rfl, am_in 1145 rfl rfl, by decide +kernel, by decide +kernel, by decide +kernel⟩
abbrev mX8_wellBy : am_MD := (yX8_wellBy, cX8_wellBy, 5, some (.int))
set_option maxRecDepth 100000 in
theorem km_X8_wellBy : am_mf mX8_wellBy 1 := ⟨by decide +kernel, by decide, am_in 8 rfl rfl, am_in 1165 rfl rfl, by decide +kernel, by decide +kernel, by decide +kernel⟩
abbrev mX8_terms : am_MD := (yX8_terms, cX8_terms, 6, some (.int))
set_option maxRecDepth 100000 in
theorem km_X8_terms : am_mf mX8_terms 1 := ⟨by decide +kernel, by decide, am_in 8 rfl rfl, am_in 1161 rfl rfl, by decide +kernel, by decide +kernel, by decide +kernel⟩
abbrev mX8_behind : am_MD := (yX8_behind, cX8_behind, 4, some (.int))
set_option maxRecDepth 100000 in
theorem km_X8_behind : am_mf mX8_behind 2 := ⟨by decide +kernel, by decide, am_in 8 rfl rfl, am_in 1169 rfl rfl, by decide +kernel, by decide +kernel, by decide +kernel⟩
abbrev mX8_ends : am_MD := (yX8_ends, cX8_ends, 4, some (.int))
set_option maxRecDepth 100000 in
theorem km_X8_ends : am_mf mX8_ends 1 := ⟨by decide +kernel, by decide, am_in 8 rfl rfl, am_in 1173 rfl rfl, by decide +kernel, by decide +kernel, by decide +kernel⟩
abbrev mX8_endsWell : am_MD := (yX8_endsWell, cX8_endsWell, 3, some (.boolean))
set_option maxRecDepth 100000 in
theorem km_X8_endsWell : am_mf mX8_endsWell 1 := ⟨by decide +kernel, by decide, am_in 8 rfl rfl, am_in 1181 rfl rfl, by decide +kernel, by decide +kernel, by decide +kernel⟩
abbrev mX8_held : am_MD := (yX8_held, cX8_held, 5, some (.int))
set_option maxRecDepth 100000 in
theorem km_X8_held : am_mf mX8_held 1 := ⟨by decide +kernel, by decide, am_in 8 rfl rfl, am_in 1177 rfl rfl, by decide +kernel, by decide +kernel, by decide +kernel⟩
abbrev mX8_cool : am_MD := (yX8_cool, cX8_cool, 4, some (.int))
set_option maxRecDepth 100000 in
theorem km_X8_cool : am_mf mX8_cool 1 := ⟨by decide +kernel, by decide, am_in 8 rfl rfl, am_in 1185 rfl rfl, by decide +kernel, by decide +kernel, by decide +kernel⟩
abbrev mX8_bought : am_MD := (yX8_bought, cX8_bought, 7, some (.int))
set_option maxRecDepth 100000 in
theorem km_X8_bought : am_mf mX8_bought 2 := ⟨by decide +kernel, by decide, am_in 8 rfl rfl, am_in 1189 rfl rfl, by decide +kernel, by decide +kernel, by decide +kernel⟩
abbrev mX8_offBy : am_MD := (yX8_offBy, cX8_offBy, 10, some (.long))
set_option maxRecDepth 100000 in
theorem km_X8_offBy : am_mf mX8_offBy 3 := ⟨by decide +kernel, by decide, am_in 8 rfl rfl, am_in 1201 rfl rfl, by decide +kernel, by decide +kernel, by decide +kernel⟩
abbrev mX8_cared : am_MD := (yX8_cared, cX8_cared, 10, some (.int))
set_option maxRecDepth 100000 in
theorem km_X8_cared : am_mf mX8_cared 3 := ⟨by decide +kernel, by decide, am_in 8 rfl rfl, am_in 1193 rfl rfl, by decide +kernel, by decide +kernel, by decide +kernel⟩
abbrev mX8_fee : am_MD := (yX8_fee, cX8_fee, 2, some (.int))
set_option maxRecDepth 100000 in
theorem km_X8_fee : am_mf mX8_fee 0 := ⟨by decide +kernel, by decide, am_in 8 rfl rfl, am_in 1205 rfl rfl, by decide +kernel, by decide +kernel, by decide +kernel⟩
abbrev mX8_fine : am_MD := (yX8_fine, cX8_fine, 3, some (.int))
set_option maxRecDepth 100000 in
theorem km_X8_fine : am_mf mX8_fine 1 := ⟨by decide +kernel, by decide, am_in 8 rfl rfl, am_in 1209 rfl rfl, by decide +kernel, by decide +kernel, by decide +kernel⟩
abbrev mX8_feed : am_MD := (yX8_feed, cX8_feed, 6, some (.int))
set_option maxRecDepth 100000 in
theorem km_X8_feed : am_mf mX8_feed 3 := ⟨by decide +kernel, by decide, am_in 8 rfl rfl, am_in 1213 rfl rfl, by decide +kernel, by decide +kernel, by decide +kernel⟩
abbrev mX8_trim : am_MD := (yX8_trim, cX8_trim, 2, some (.int))
set_option maxRecDepth 100000 in
theorem km_X8_trim : am_mf mX8_trim 1 := ⟨by decide +kernel, by decide, am_in 8 rfl rfl, am_in 1217 rfl rfl, by decide +kernel, by decide +kernel, by decide +kernel⟩
abbrev mX8_isLetter : am_MD := (yX8_isLetter, cX8_isLetter, 2, some (.boolean))
set_option maxRecDepth 100000 in
theorem km_X8_isLetter : am_mf mX8_isLetter 1 := ⟨by decide +kernel, by decide, am_in 8 rfl rfl, am_in 1229 rfl rfl, by decide +kernel, by decide +kernel, by decide +kernel⟩
abbrev mX8_isFigure : am_MD := (yX8_isFigure, cX8_isFigure, 2, some (.boolean))
set_option maxRecDepth 100000 in
theorem km_X8_isFigure : am_mf mX8_isFigure 1 := ⟨by decide +kernel, by decide, am_in 8 rfl rfl, am_in 1233 rfl rfl, by decide +kernel, by decide +kernel, by decide +kernel⟩
abbrev mX8_go : am_MD := (yX8_go, cX8_go, 2, none)
set_option maxRecDepth 100000 in
theorem km_X8_go : am_mf mX8_go 0 := ⟨by decide +kernel, by decide, am_in 8 rfl rfl, am_in 1225 rfl rfl, by decide +kernel, by decide +kernel, by decide +kernel⟩
abbrev mX8_takesKey : am_MD := (yX8_takesKey, cX8_takesKey, 5, some (.boolean))
set_option maxRecDepth 100000 in
theorem km_X8_takesKey : am_mf mX8_takesKey 0 := ⟨by decide +kernel, by decide, am_in 8 rfl rfl, am_in 1237 rfl rfl, by decide +kernel, by decide +kernel, by decide +kernel⟩
abbrev mX8_nameOf : am_MD := (yX8_nameOf, cX8_nameOf, 2, some (.int))
set_option maxRecDepth 100000 in
theorem km_X8_nameOf : am_mf mX8_nameOf 1 := ⟨by decide +kernel, by decide, am_in 8 rfl rfl, am_in 1249 rfl rfl, by decide +kernel, by decide +kernel, by decide +kernel⟩
abbrev mX8_rank : am_MD := (yX8_rank, cX8_rank, 1, some (.int))
set_option maxRecDepth 100000 in
theorem km_X8_rank : am_mf mX8_rank 1 := ⟨by decide +kernel, by decide, am_in 8 rfl rfl, am_in 1256 rfl rfl, by decide +kernel, by decide +kernel, by decide +kernel⟩
abbrev mX8_settle : am_MD := (yX8_settle, cX8_settle, 2, none)
set_option maxRecDepth 100000 in
theorem km_X8_settle : am_mf mX8_settle 1 := ⟨by decide +kernel, by decide, am_in 8 rfl rfl, am_in 1253 rfl rfl, by decide +kernel, by decide +kernel, by decide +kernel⟩
abbrev mX8_signHere : am_MD := (yX8_signHere, cX8_signHere, 1, some (.int))
set_option maxRecDepth 100000 in
theorem km_X8_signHere : am_mf mX8_signHere 0 := ⟨by decide +kernel, by decide, am_in 8 rfl rfl, am_in 1264 rfl rfl, by decide +kernel, by decide +kernel, by decide +kernel⟩
abbrev mX8_takesPart : am_MD := (yX8_takesPart, cX8_takesPart, 2, some (.boolean))
set_option maxRecDepth 100000 in
theorem km_X8_takesPart : am_mf mX8_takesPart 0 := ⟨by decide +kernel, by decide, am_in 8 rfl rfl, am_in 1245 rfl rfl, by decide +kernel, by decide +kernel, by decide +kernel⟩
abbrev mX8_takesE : am_MD := (yX8_takesE, cX8_takesE, 5, some (.boolean))
set_option maxRecDepth 100000 in
theorem km_X8_takesE : am_mf mX8_takesE 0 := ⟨by decide +kernel, by decide, am_in 8 rfl rfl, am_in 1241 rfl rfl, by decide +kernel, by decide +kernel, by decide +kernel⟩
abbrev mX8_notsOpen : am_MD := (yX8_notsOpen, cX8_notsOpen, 3, some (.int))
set_option maxRecDepth 100000 in
theorem km_X8_notsOpen : am_mf mX8_notsOpen 0 := ⟨by decide +kernel, by decide, am_in 8 rfl rfl, am_in 1260 rfl rfl, by decide +kernel, by decide +kernel, by decide +kernel⟩
abbrev mX8_text : am_MD := (yX8_text, cX8_text, 4, some (.int))
set_option maxRecDepth 100000 in
theorem km_X8_text : am_mf mX8_text 0 := ⟨by decide +kernel, by decide, am_in 8 rfl rfl, am_in 1221 rfl rfl, by decide +kernel, by decide +kernel, by decide +kernel⟩
abbrev mX8_textTold : am_MD := (yX8_textTold, cX8_textTold, 3, some (.int))
set_option maxRecDepth 100000 in
theorem km_X8_textTold : am_mf mX8_textTold 2 := ⟨by decide +kernel, by decide, am_in 8 rfl rfl, am_in 1268 rfl rfl, by decide +kernel, by decide +kernel, by decide +kernel⟩
abbrev mX8_counts : am_MD := (yX8_counts, cX8_counts, 3, some (.int))
set_option maxRecDepth 100000 in
theorem km_X8_counts : am_mf mX8_counts 1 := ⟨by decide +kernel, by decide, am_in 8 rfl rfl, am_in 1030 rfl rfl, by decide +kernel, by decide +kernel, by decide +kernel⟩
abbrev mX8_why : am_MD := (yX8_why, cX8_why, 3, some (.int))
set_option maxRecDepth 100000 in
theorem km_X8_why : am_mf mX8_why 1 := ⟨by decide +kernel, by decide, am_in 8 rfl rfl, am_in 1272 rfl rfl, by decide +kernel, by decide +kernel, by decide +kernel⟩
abbrev mX8_two : am_MD := (yX8_two, cX8_two, 3, some (.int))
set_option maxRecDepth 100000 in
theorem km_X8_two : am_mf mX8_two 3 := ⟨by decide +kernel, by decide, am_in 8 rfl rfl, am_in 1037 rfl rfl, by decide +kernel, by decide +kernel, by decide +kernel⟩
abbrev mX8_worksOut : am_MD := (yX8_worksOut, cX8_worksOut, 6, some (.int))
set_option maxRecDepth 100000 in
theorem km_X8_worksOut : am_mf mX8_worksOut 1 := ⟨by decide +kernel, by decide, am_in 8 rfl rfl, am_in 1034 rfl rfl, by decide +kernel, by decide +kernel, by decide +kernel⟩
abbrev mX8_isSheet : am_MD := (yX8_isSheet, cX8_isSheet, 1, some (.boolean))
set_option maxRecDepth 100000 in
theorem km_X8_isSheet : am_mf mX8_isSheet 1 := ⟨by decide +kernel, by decide, am_in 8 rfl rfl, am_in 1196 rfl rfl, by decide +kernel, by decide +kernel, by decide +kernel⟩
abbrev mX8_isSlot : am_MD := (yX8_isSlot, cX8_isSlot, 1, some (.boolean))
set_option maxRecDepth 100000 in
theorem km_X8_isSlot : am_mf mX8_isSlot 1 := ⟨by decide +kernel, by decide, am_in 8 rfl rfl, am_in 1303 rfl rfl, by decide +kernel, by decide +kernel, by decide +kernel⟩
abbrev mX8_sheet : am_MD := (yX8_sheet, cX8_sheet, 5, some (.int))
set_option maxRecDepth 100000 in
theorem km_X8_sheet : am_mf mX8_sheet 3 := ⟨by decide +kernel, by decide, am_in 8 rfl rfl, am_in 1276 rfl rfl, by decide +kernel, by decide +kernel, by decide +kernel⟩
abbrev mX8_mark : am_MD := (yX8_mark, cX8_mark, 4, some (.int))
set_option maxRecDepth 100000 in
theorem km_X8_mark : am_mf mX8_mark 3 := ⟨by decide +kernel, by decide, am_in 8 rfl rfl, am_in 1281 rfl rfl, by decide +kernel, by decide +kernel, by decide +kernel⟩
abbrev mX8_pour : am_MD := (yX8_pour, cX8_pour, 6, some (.int))
set_option maxRecDepth 100000 in
theorem km_X8_pour : am_mf mX8_pour 1 := ⟨by decide +kernel, by decide, am_in 8 rfl rfl, am_in 1288 rfl rfl, by decide +kernel, by decide +kernel, by decide +kernel⟩
abbrev mX8_reads : am_MD := (yX8_reads, cX8_reads, 3, some (.int))
set_option maxRecDepth 100000 in
theorem km_X8_reads : am_mf mX8_reads 1 := ⟨by decide +kernel, by decide, am_in 8 rfl rfl, am_in 1292 rfl rfl, by decide +kernel, by decide +kernel, by decide +kernel⟩
abbrev mX8_copy : am_MD := (yX8_copy, cX8_copy, 7, some (.int))
set_option maxRecDepth 100000 in
theorem km_X8_copy : am_mf mX8_copy 5 := ⟨by decide +kernel, by decide, am_in 8 rfl rfl, am_in 1296 rfl rfl, by decide +kernel, by decide +kernel, by decide +kernel⟩
abbrev mX8_lay : am_MD := (yX8_lay, cX8_lay, 6, some (.int))
set_option maxRecDepth 100000 in
theorem km_X8_lay : am_mf mX8_lay 3 := ⟨by decide +kernel, by decide, am_in 8 rfl rfl, am_in 1300 rfl rfl, by decide +kernel, by decide +kernel, by decide +kernel⟩
abbrev mX8_ask : am_MD := (yX8_ask, cX8_ask, 3, some (.int))
set_option maxRecDepth 100000 in
theorem km_X8_ask : am_mf mX8_ask 2 := ⟨by decide +kernel, by decide, am_in 8 rfl rfl, am_in 1307 rfl rfl, by decide +kernel, by decide +kernel, by decide +kernel⟩
abbrev mX8_item : am_MD := (yX8_item, cX8_item, 4, some (.int))
set_option maxRecDepth 100000 in
theorem km_X8_item : am_mf mX8_item 2 := ⟨by decide +kernel, by decide, am_in 8 rfl rfl, am_in 1311 rfl rfl, by decide +kernel, by decide +kernel, by decide +kernel⟩
abbrev mX8_rest : am_MD := (yX8_rest, cX8_rest, 3, some (.int))
set_option maxRecDepth 100000 in
theorem km_X8_rest : am_mf mX8_rest 2 := ⟨by decide +kernel, by decide, am_in 8 rfl rfl, am_in 1315 rfl rfl, by decide +kernel, by decide +kernel, by decide +kernel⟩
abbrev mX8_tell : am_MD := (yX8_tell, cX8_tell, 2, some (.int))
set_option maxRecDepth 100000 in
theorem km_X8_tell : am_mf mX8_tell 1 := ⟨by decide +kernel, by decide, am_in 8 rfl rfl, am_in 1320 rfl rfl, by decide +kernel, by decide +kernel, by decide +kernel⟩
abbrev mX8_check : am_MD := (yX8_check, cX8_check, 6, some (.int))
set_option maxRecDepth 100000 in
theorem km_X8_check : am_mf mX8_check 1 := ⟨by decide +kernel, by decide, am_in 8 rfl rfl, am_in 1324 rfl rfl, by decide +kernel, by decide +kernel, by decide +kernel⟩
abbrev mX8_keep : am_MD := (yX8_keep, cX8_keep, 1, some (.int))
set_option maxRecDepth 100000 in
theorem km_X8_keep : am_mf mX8_keep 0 := ⟨by decide +kernel, by decide, am_in 8 rfl rfl, am_in 1331 rfl rfl, by decide +kernel, by decide +kernel, by decide +kernel⟩
abbrev mX8_back : am_MD := (yX8_back, cX8_back, 1, some (.int))
set_option maxRecDepth 100000 in
theorem km_X8_back : am_mf mX8_back 0 := ⟨by decide +kernel, by decide, am_in 8 rfl rfl, am_in 1335 rfl rfl, by decide +kernel, by decide +kernel, by decide +kernel⟩
abbrev mX8_count : am_MD := (yX8_count, cX8_count, 2, some (.int))
set_option maxRecDepth 100000 in
theorem km_X8_count : am_mf mX8_count 1 := ⟨by decide +kernel, by decide, am_in 8 rfl rfl, am_in 1339 rfl rfl, by decide +kernel, by decide +kernel, by decide +kernel⟩
abbrev mJ11_isValidCodePoint_9a6ad : am_MD := (yJ11_isValidCodePoint_9a6ad, cJ11_isValidCodePoint_9a6ad, 2, some (.boolean))
set_option maxRecDepth 100000 in
theorem km_J11_isValidCodePoint_9a6ad : am_mf mJ11_isValidCodePoint_9a6ad 1 := ⟨by decide +kernel, by decide, am_in 17 rfl rfl, am_in 727 rfl rfl, by decide +kernel, by decide +kernel, by decide +kernel⟩
abbrev mJ11_highSurrogate_5068e : am_MD := (yJ11_highSurrogate_5068e, cJ11_highSurrogate_5068e, 1, some (.char))
set_option maxRecDepth 100000 in
theorem km_J11_highSurrogate_5068e : am_mf mJ11_highSurrogate_5068e 1 := ⟨by decide +kernel, by decide, am_in 17 rfl rfl, am_in 730 rfl rfl, by decide +kernel, by decide +kernel, by decide +kernel⟩
abbrev mJ11_lowSurrogate_5068e : am_MD := (yJ11_lowSurrogate_5068e, cJ11_lowSurrogate_5068e, 1, some (.char))
set_option maxRecDepth 100000 in
theorem km_J11_lowSurrogate_5068e : am_mf mJ11_lowSurrogate_5068e 1 := ⟨by decide +kernel, by decide, am_in 17 rfl rfl, am_in 734 rfl rfl, by decide +kernel, by decide +kernel, by decide +kernel⟩
abbrev mJ0_length_8abf5 : am_MD := (yJ0_length_8abf5, cJ0_length_8abf5, 1, some (.int))
set_option maxRecDepth 100000 in
theorem km_J0_length_8abf5 : am_mf mJ0_length_8abf5 0 := ⟨by decide +kernel, by decide, am_in 13 rfl rfl, am_in 587 rfl rfl, by decide +kernel, by decide +kernel, by decide +kernel⟩
abbrev mJ0_charAt_5068e : am_MD := (yJ0_charAt_5068e, cJ0_charAt_5068e, 2, some (.char))
set_option maxRecDepth 100000 in
theorem km_J0_charAt_5068e : am_mf mJ0_charAt_5068e 1 := ⟨by decide +kernel, by decide, am_in 13 rfl rfl, am_in 597 rfl rfl, by decide +kernel, by decide +kernel, by decide +kernel⟩
abbrev mJ0_indexOf_0f7a4 : am_MD := (yJ0_indexOf_0f7a4, cJ0_indexOf_0f7a4, 2, some (.int))
set_option maxRecDepth 100000 in
theorem km_J0_indexOf_0f7a4 : am_mf mJ0_indexOf_0f7a4 1 := ⟨by decide +kernel, by decide, am_in 13 rfl rfl, am_in 684 rfl rfl, by decide +kernel, by decide +kernel, by decide +kernel⟩
abbrev mJ0_indexOf_7cf53 : am_MD := (yJ0_indexOf_7cf53, cJ0_indexOf_7cf53, 3, some (.int))
set_option maxRecDepth 100000 in
theorem km_J0_indexOf_7cf53 : am_mf mJ0_indexOf_7cf53 2 := ⟨by decide +kernel, by decide, am_in 13 rfl rfl, am_in 688 rfl rfl, by decide +kernel, by decide +kernel, by decide +kernel⟩
abbrev mJ0_coder_7d493 : am_MD := (yJ0_coder_7d493, cJ0_coder_7d493, 1, some (.byte))
set_option maxRecDepth 100000 in
theorem km_J0_coder_7d493 : am_mf mJ0_coder_7d493 0 := ⟨by decide +kernel, by decide, am_in 13 rfl rfl, am_in 591 rfl rfl, by decide +kernel, by decide +kernel, by decide +kernel⟩
abbrev mJ0_isLatin1_aae02 : am_MD := (yJ0_isLatin1_aae02, cJ0_isLatin1_aae02, 1, some (.boolean))
set_option maxRecDepth 100000 in
theorem km_J0_isLatin1_aae02 : am_mf mJ0_isLatin1_aae02 0 := ⟨by decide +kernel, by decide, am_in 13 rfl rfl, am_in 601 rfl rfl, by decide +kernel, by decide +kernel, by decide +kernel⟩
abbrev mJ0_checkIndex_df160 : am_MD := (yJ0_checkIndex_df160, cJ0_checkIndex_df160, 2, none)
set_option maxRecDepth 100000 in
theorem km_J0_checkIndex_df160 : am_mf mJ0_checkIndex_df160 2 := ⟨by decide +kernel, by decide, am_in 13 rfl rfl, am_in 607 rfl rfl, by decide +kernel, by decide +kernel, by decide +kernel⟩
abbrev mJ0_checkBoundsBeginEnd_23922 : am_MD := (yJ0_checkBoundsBeginEnd_23922, cJ0_checkBoundsBeginEnd_23922, 3, none)
set_option maxRecDepth 100000 in
theorem km_J0_checkBoundsBeginEnd_23922 : am_mf mJ0_checkBoundsBeginEnd_23922 3 := ⟨by decide +kernel, by decide, am_in 13 rfl rfl, am_in 715 rfl rfl, by decide +kernel, by decide +kernel, by decide +kernel⟩
abbrev mJ1_charAt_3b067 : am_MD := (yJ1_charAt_3b067, cJ1_charAt_3b067, 2, some (.char))
set_option maxRecDepth 100000 in
theorem km_J1_charAt_3b067 : am_mf mJ1_charAt_3b067 2 := ⟨by decide +kernel, by decide, am_in 14 rfl rfl, am_in 604 rfl rfl, by decide +kernel, by decide +kernel, by decide +kernel⟩
abbrev mJ1_canEncode_9a6ad : am_MD := (yJ1_canEncode_9a6ad, cJ1_canEncode_9a6ad, 1, some (.boolean))
set_option maxRecDepth 100000 in
theorem km_J1_canEncode_9a6ad : am_mf mJ1_canEncode_9a6ad 1 := ⟨by decide +kernel, by decide, am_in 14 rfl rfl, am_in 695 rfl rfl, by decide +kernel, by decide +kernel, by decide +kernel⟩
abbrev mJ1_indexOf_4cfef : am_MD := (yJ1_indexOf_4cfef, cJ1_indexOf_4cfef, 4, some (.int))
set_option maxRecDepth 100000 in
theorem km_J1_indexOf_4cfef : am_mf mJ1_indexOf_4cfef 4 := ⟨by decide +kernel, by decide, am_in 14 rfl rfl, am_in 692 rfl rfl, by decide +kernel, by decide +kernel, by decide +kernel⟩
abbrev mJ1_indexOfChar_4cfef : am_MD := (yJ1_indexOfChar_4cfef, cJ1_indexOfChar_4cfef, 6, some (.int))
set_option maxRecDepth 100000 in
theorem km_J1_indexOfChar_4cfef : am_mf mJ1_indexOfChar_4cfef 4 := ⟨by decide +kernel, by decide, am_in 14 rfl rfl, am_in 700 rfl rfl, by decide +kernel, by decide +kernel, by decide +kernel⟩
abbrev mJ2_getChar_3b067 : am_MD := (yJ2_getChar_3b067, cJ2_getChar_3b067, 2, some (.char))
set_option maxRecDepth 100000 in
theorem km_J2_getChar_3b067 : am_mf mJ2_getChar_3b067 2 := ⟨by decide +kernel, by decide, am_in 16 rfl rfl, am_in 625 rfl rfl, by decide +kernel, by decide +kernel, by decide +kernel⟩
abbrev mJ2_length_9d52b : am_MD := (yJ2_length_9d52b, cJ2_length_9d52b, 1, some (.int))
set_option maxRecDepth 100000 in
theorem km_J2_length_9d52b : am_mf mJ2_length_9d52b 1 := ⟨by decide +kernel, by decide, am_in 16 rfl rfl, am_in 621 rfl rfl, by decide +kernel, by decide +kernel, by decide +kernel⟩
abbrev mJ2_indexOf_4cfef : am_MD := (yJ2_indexOf_4cfef, cJ2_indexOf_4cfef, 4, some (.int))
set_option maxRecDepth 100000 in
theorem km_J2_indexOf_4cfef : am_mf mJ2_indexOf_4cfef 4 := ⟨by decide +kernel, by decide, am_in 16 rfl rfl, am_in 703 rfl rfl, by decide +kernel, by decide +kernel, by decide +kernel⟩
abbrev mJ2_indexOfChar_4cfef : am_MD := (yJ2_indexOfChar_4cfef, cJ2_indexOfChar_4cfef, 4, some (.int))
set_option maxRecDepth 100000 in
theorem km_J2_indexOfChar_4cfef : am_mf mJ2_indexOfChar_4cfef 4 := ⟨by decide +kernel, by decide, am_in 16 rfl rfl, am_in 709 rfl rfl, by decide +kernel, by decide +kernel, by decide +kernel⟩
abbrev mJ2_indexOfCharUnsafe_4cfef : am_MD := (yJ2_indexOfCharUnsafe_4cfef, cJ2_indexOfCharUnsafe_4cfef, 5, some (.int))
set_option maxRecDepth 100000 in
theorem km_J2_indexOfCharUnsafe_4cfef : am_mf mJ2_indexOfCharUnsafe_4cfef 4 := ⟨by decide +kernel, by decide, am_in 16 rfl rfl, am_in 721 rfl rfl, by decide +kernel, by decide +kernel, by decide +kernel⟩
abbrev mJ2_indexOfSupplementary_4cfef : am_MD := (yJ2_indexOfSupplementary_4cfef, cJ2_indexOfSupplementary_4cfef, 7, some (.int))
set_option maxRecDepth 100000 in
theorem km_J2_indexOfSupplementary_4cfef : am_mf mJ2_indexOfSupplementary_4cfef 4 := ⟨by decide +kernel, by decide, am_in 16 rfl rfl, am_in 724 rfl rfl, by decide +kernel, by decide +kernel, by decide +kernel⟩
abbrev mJ2_charAt_3b067 : am_MD := (yJ2_charAt_3b067, cJ2_charAt_3b067, 2, some (.char))
set_option maxRecDepth 100000 in
theorem km_J2_charAt_3b067 : am_mf mJ2_charAt_3b067 2 := ⟨by decide +kernel, by decide, am_in 16 rfl rfl, am_in 615 rfl rfl, by decide +kernel, by decide +kernel, by decide +kernel⟩
abbrev mJ2_checkIndex_2214a : am_MD := (yJ2_checkIndex_2214a, cJ2_checkIndex_2214a, 2, none)
set_option maxRecDepth 100000 in
theorem km_J2_checkIndex_2214a : am_mf mJ2_checkIndex_2214a 2 := ⟨by decide +kernel, by decide, am_in 16 rfl rfl, am_in 618 rfl rfl, by decide +kernel, by decide +kernel, by decide +kernel⟩
abbrev mJ2_checkBoundsBeginEnd_d044e : am_MD := (yJ2_checkBoundsBeginEnd_d044e, cJ2_checkBoundsBeginEnd_d044e, 3, none)
set_option maxRecDepth 100000 in
theorem km_J2_checkBoundsBeginEnd_d044e : am_mf mJ2_checkBoundsBeginEnd_d044e 3 := ⟨by decide +kernel, by decide, am_in 16 rfl rfl, am_in 712 rfl rfl, by decide +kernel, by decide +kernel, by decide +kernel⟩
abbrev mJ7_fill_53178 : am_MD := (yJ7_fill_53178, cJ7_fill_53178, 4, none)
set_option maxRecDepth 100000 in
theorem km_J7_fill_53178 : am_mf mJ7_fill_53178 2 := ⟨by decide +kernel, by decide, am_in 11 rfl rfl, am_in 419 rfl rfl, by decide +kernel, by decide +kernel, by decide +kernel⟩
abbrev mJ7_copyOf_59c91 : am_MD := (yJ7_copyOf_59c91, cJ7_copyOf_59c91, 3, some ((.array .int)))
set_option maxRecDepth 100000 in
theorem km_J7_copyOf_59c91 : am_mf mJ7_copyOf_59c91 2 := ⟨by decide +kernel, by decide, am_in 11 rfl rfl, am_in 752 rfl rfl, by decide +kernel, by decide +kernel, by decide +kernel⟩
abbrev mJ3_checkIndex_8e157 : am_MD := (yJ3_checkIndex_8e157, cJ3_checkIndex_8e157, 3, some (.int))
set_option maxRecDepth 100000 in
theorem km_J3_checkIndex_8e157 : am_mf mJ3_checkIndex_8e157 3 := ⟨by decide +kernel, by decide, am_in 15 rfl rfl, am_in 612 rfl rfl, by decide +kernel, by decide +kernel, by decide +kernel⟩
abbrev mJ3_checkFromToIndex_8c36e : am_MD := (yJ3_checkFromToIndex_8c36e, cJ3_checkFromToIndex_8c36e, 4, some (.int))
set_option maxRecDepth 100000 in
theorem km_J3_checkFromToIndex_8c36e : am_mf mJ3_checkFromToIndex_8c36e 4 := ⟨by decide +kernel, by decide, am_in 15 rfl rfl, am_in 718 rfl rfl, by decide +kernel, by decide +kernel, by decide +kernel⟩
theorem ko_X7_1 : Cond.methodLink RX7 1 Lib.objectInit ∈ am_gw := am_in 23 rfl rfl
set_option maxRecDepth 100000 in
theorem kk_X7_67 : Cond.methodLink RX7 67 mX7_isKind.1 ∈ am_gw ∧ Cond.static mX7_isKind.1 ∈ am_gw := ⟨am_in 275 rfl rfl, am_in 276 rfl rfl⟩
set_option maxRecDepth 100000 in
theorem kk_X7_71 : Cond.methodLink RX7 71 mX7_isSide.1 ∈ am_gw ∧ Cond.static mX7_isSide.1 ∈ am_gw := ⟨am_in 281 rfl rfl, am_in 282 rfl rfl⟩
set_option maxRecDepth 100000 in
theorem kk_X7_74 : Cond.methodLink RX7 74 mX7_within.1 ∈ am_gw ∧ Cond.static mX7_within.1 ∈ am_gw := ⟨am_in 278 rfl rfl, am_in 279 rfl rfl⟩
set_option maxRecDepth 100000 in
theorem kk_X7_83 : Cond.methodLink RX7 83 mX0_addFriend.1 ∈ am_gw ∧ Cond.instanceMethod mX0_addFriend.1 ∈ am_gw ∧ Cond.selects mX0_addFriend.1.cls mX0_addFriend.1 mX0_addFriend.1 ∈ am_gw := ⟨am_in 286 rfl rfl, am_in 287 rfl rfl, am_in 288 rfl rfl⟩
set_option maxRecDepth 100000 in
theorem kk_X7_87 : Cond.methodLink RX7 87 mX0_isFriend.1 ∈ am_gw ∧ Cond.instanceMethod mX0_isFriend.1 ∈ am_gw ∧ Cond.selects mX0_isFriend.1.cls mX0_isFriend.1 mX0_isFriend.1 ∈ am_gw := ⟨am_in 294 rfl rfl, am_in 295 rfl rfl, am_in 296 rfl rfl⟩
set_option maxRecDepth 100000 in
theorem kk_X7_105 : Cond.methodLink RX7 105 mX0_toneOf.1 ∈ am_gw ∧ Cond.instanceMethod mX0_toneOf.1 ∈ am_gw ∧ Cond.selects mX0_toneOf.1.cls mX0_toneOf.1 mX0_toneOf.1 ∈ am_gw := ⟨am_in 299 rfl rfl, am_in 300 rfl rfl, am_in 301 rfl rfl⟩
set_option maxRecDepth 100000 in
theorem kk_X7_109 : Cond.methodLink RX7 109 mX0_termYielded.1 ∈ am_gw ∧ Cond.instanceMethod mX0_termYielded.1 ∈ am_gw ∧ Cond.selects mX0_termYielded.1.cls mX0_termYielded.1 mX0_termYielded.1 ∈ am_gw := ⟨am_in 328 rfl rfl, am_in 329 rfl rfl, am_in 330 rfl rfl⟩
set_option maxRecDepth 100000 in
theorem kk_X7_112 : Cond.methodLink RX7 112 mX7_orNone.1 ∈ am_gw ∧ Cond.static mX7_orNone.1 ∈ am_gw := ⟨am_in 335 rfl rfl, am_in 336 rfl rfl⟩
set_option maxRecDepth 100000 in
theorem kk_X7_115 : Cond.methodLink RX7 115 mX7_worthOf.1 ∈ am_gw ∧ Cond.static mX7_worthOf.1 ∈ am_gw := ⟨am_in 339 rfl rfl, am_in 340 rfl rfl⟩
set_option maxRecDepth 100000 in
theorem kk_X7_119 : Cond.methodLink RX7 119 mX7_isUnder.1 ∈ am_gw ∧ Cond.static mX7_isUnder.1 ∈ am_gw := ⟨am_in 346 rfl rfl, am_in 347 rfl rfl⟩
set_option maxRecDepth 100000 in
theorem kk_X7_124 : Cond.methodLink RX7 124 mX7_isTerm.1 ∈ am_gw ∧ Cond.static mX7_isTerm.1 ∈ am_gw := ⟨am_in 364 rfl rfl, am_in 365 rfl rfl⟩
set_option maxRecDepth 100000 in
theorem kk_X7_133 : Cond.methodLink RX7 133 mX7_carePlace.1 ∈ am_gw ∧ Cond.static mX7_carePlace.1 ∈ am_gw := ⟨am_in 371 rfl rfl, am_in 333 rfl rfl⟩
set_option maxRecDepth 100000 in
theorem kmm_X7_148 : Cond.methodLink RX7 148 Lib.Math.min.name ∈ am_gw := am_in 321 rfl rfl
set_option maxRecDepth 100000 in
theorem kk_X7_153 : Cond.methodLink RX7 153 mX0_draw.1 ∈ am_gw ∧ Cond.instanceMethod mX0_draw.1 ∈ am_gw ∧ Cond.selects mX0_draw.1.cls mX0_draw.1 mX0_draw.1 ∈ am_gw := ⟨am_in 384 rfl rfl, am_in 385 rfl rfl, am_in 386 rfl rfl⟩
set_option maxRecDepth 100000 in
theorem kk_X7_163 : Cond.methodLink RX7 163 mX0_runPosts.1 ∈ am_gw ∧ Cond.instanceMethod mX0_runPosts.1 ∈ am_gw ∧ Cond.selects mX0_runPosts.1.cls mX0_runPosts.1 mX0_runPosts.1 ∈ am_gw := ⟨am_in 397 rfl rfl, am_in 398 rfl rfl, am_in 399 rfl rfl⟩
set_option maxRecDepth 100000 in
theorem kk_X7_166 : Cond.methodLink RX7 166 mX0_hasOf.1 ∈ am_gw ∧ Cond.instanceMethod mX0_hasOf.1 ∈ am_gw ∧ Cond.selects mX0_hasOf.1.cls mX0_hasOf.1 mX0_hasOf.1 ∈ am_gw := ⟨am_in 428 rfl rfl, am_in 406 rfl rfl, am_in 407 rfl rfl⟩
set_option maxRecDepth 100000 in
theorem kk_X7_169 : Cond.methodLink RX7 169 mX0_isPeace.1 ∈ am_gw ∧ Cond.instanceMethod mX0_isPeace.1 ∈ am_gw ∧ Cond.selects mX0_isPeace.1.cls mX0_isPeace.1 mX0_isPeace.1 ∈ am_gw := ⟨am_in 429 rfl rfl, am_in 402 rfl rfl, am_in 403 rfl rfl⟩
set_option maxRecDepth 100000 in
theorem kk_X7_173 : Cond.methodLink RX7 173 mX0_standsAsNumber.1 ∈ am_gw ∧ Cond.instanceMethod mX0_standsAsNumber.1 ∈ am_gw ∧ Cond.selects mX0_standsAsNumber.1.cls mX0_standsAsNumber.1 mX0_standsAsNumber.1 ∈ am_gw := ⟨am_in 430 rfl rfl, am_in 431 rfl rfl, am_in 432 rfl rfl⟩
set_option maxRecDepth 100000 in
theorem kk_X7_179 : Cond.methodLink RX7 179 mX0_sumOverFriends.1 ∈ am_gw ∧ Cond.instanceMethod mX0_sumOverFriends.1 ∈ am_gw ∧ Cond.selects mX0_sumOverFriends.1.cls mX0_sumOverFriends.1 mX0_sumOverFriends.1 ∈ am_gw := ⟨am_in 434 rfl rfl, am_in 435 rfl rfl, am_in 436 rfl rfl⟩
set_option maxRecDepth 100000 in
theorem kk_X7_183 : Cond.methodLink RX7 183 mX6_countTaken.1 ∈ am_gw ∧ Cond.instanceMethod mX6_countTaken.1 ∈ am_gw ∧ Cond.selects mX6_countTaken.1.cls mX6_countTaken.1 mX6_countTaken.1 ∈ am_gw := ⟨am_in 442 rfl rfl, am_in 443 rfl rfl, am_in 444 rfl rfl⟩
set_option maxRecDepth 100000 in
theorem kk_X7_187 : Cond.methodLink RX7 187 mX6_fairest.1 ∈ am_gw ∧ Cond.instanceMethod mX6_fairest.1 ∈ am_gw ∧ Cond.selects mX6_fairest.1.cls mX6_fairest.1 mX6_fairest.1 ∈ am_gw := ⟨am_in 464 rfl rfl, am_in 465 rfl rfl, am_in 466 rfl rfl⟩
set_option maxRecDepth 100000 in
theorem kk_X7_190 : Cond.methodLink RX7 190 mX6_nearest.1 ∈ am_gw ∧ Cond.instanceMethod mX6_nearest.1 ∈ am_gw ∧ Cond.selects mX6_nearest.1.cls mX6_nearest.1 mX6_nearest.1 ∈ am_gw := ⟨am_in 468 rfl rfl, am_in 469 rfl rfl, am_in 470 rfl rfl⟩
set_option maxRecDepth 100000 in
theorem kk_X7_193 : Cond.methodLink RX7 193 mX0_becomes.1 ∈ am_gw ∧ Cond.instanceMethod mX0_becomes.1 ∈ am_gw ∧ Cond.selects mX0_becomes.1.cls mX0_becomes.1 mX0_becomes.1 ∈ am_gw := ⟨am_in 483 rfl rfl, am_in 484 rfl rfl, am_in 485 rfl rfl⟩
set_option maxRecDepth 100000 in
theorem kk_X7_197 : Cond.methodLink RX7 197 mX0_isDuel.1 ∈ am_gw ∧ Cond.instanceMethod mX0_isDuel.1 ∈ am_gw ∧ Cond.selects mX0_isDuel.1.cls mX0_isDuel.1 mX0_isDuel.1 ∈ am_gw := ⟨am_in 494 rfl rfl, am_in 410 rfl rfl, am_in 411 rfl rfl⟩
set_option maxRecDepth 100000 in
theorem kk_X7_201 : Cond.methodLink RX7 201 mX7_peaceWithout.1 ∈ am_gw ∧ Cond.instanceMethod mX7_peaceWithout.1 ∈ am_gw ∧ Cond.selects mX7_peaceWithout.1.cls mX7_peaceWithout.1 mX7_peaceWithout.1 ∈ am_gw := ⟨am_in 499 rfl rfl, am_in 501 rfl rfl, am_inS 6 rfl rfl⟩
set_option maxRecDepth 100000 in
theorem kk_X7_204 : Cond.methodLink RX7 204 mX7_isSheet.1 ∈ am_gw ∧ Cond.static mX7_isSheet.1 ∈ am_gw := ⟨am_in 515 rfl rfl, am_in 516 rfl rfl⟩
set_option maxRecDepth 100000 in
theorem kk_X7_207 : Cond.methodLink RX7 207 mX2_isMissing.1 ∈ am_gw ∧ Cond.instanceMethod mX2_isMissing.1 ∈ am_gw ∧ Cond.selects mX2_isMissing.1.cls mX2_isMissing.1 mX2_isMissing.1 ∈ am_gw := ⟨am_in 518 rfl rfl, am_in 519 rfl rfl, am_in 520 rfl rfl⟩
set_option maxRecDepth 100000 in
theorem kk_X7_211 : Cond.methodLink RX7 211 mX7_differenceFrom.1 ∈ am_gw ∧ Cond.instanceMethod mX7_differenceFrom.1 ∈ am_gw ∧ Cond.selects mX7_differenceFrom.1.cls mX7_differenceFrom.1 mX7_differenceFrom.1 ∈ am_gw := ⟨am_in 523 rfl rfl, am_in 525 rfl rfl, am_inS 7 rfl rfl⟩
set_option maxRecDepth 100000 in
theorem kk_X7_215 : Cond.methodLink RX7 215 mX2_isNumber.1 ∈ am_gw ∧ Cond.instanceMethod mX2_isNumber.1 ∈ am_gw ∧ Cond.selects mX2_isNumber.1.cls mX2_isNumber.1 mX2_isNumber.1 ∈ am_gw := ⟨am_in 527 rfl rfl, am_in 528 rfl rfl, am_in 529 rfl rfl⟩
set_option maxRecDepth 100000 in
theorem kmm_X7_221 : Cond.methodLink RX7 221 Lib.Math.abs.name ∈ am_gw := am_in 537 rfl rfl
set_option maxRecDepth 100000 in
theorem kk_X7_224 : Cond.methodLink RX7 224 mX0_textFor.1 ∈ am_gw ∧ Cond.instanceMethod mX0_textFor.1 ∈ am_gw ∧ Cond.selects mX0_textFor.1.cls mX0_textFor.1 mX0_textFor.1 ∈ am_gw := ⟨am_in 542 rfl rfl, am_in 308 rfl rfl, am_in 309 rfl rfl⟩
set_option maxRecDepth 100000 in
theorem kk_X7_228 : Cond.methodLink RX7 228 mX5_workOut.1 ∈ am_gw ∧ Cond.instanceMethod mX5_workOut.1 ∈ am_gw ∧ Cond.selects mX5_workOut.1.cls mX5_workOut.1 mX5_workOut.1 ∈ am_gw := ⟨am_in 543 rfl rfl, am_in 312 rfl rfl, am_in 313 rfl rfl⟩
set_option maxRecDepth 100000 in
theorem kk_X7_239 : Cond.methodLink RX7 239 mX4_addBytesOf.1 ∈ am_gw ∧ Cond.instanceMethod mX4_addBytesOf.1 ∈ am_gw ∧ Cond.selects mX4_addBytesOf.1.cls mX4_addBytesOf.1 mX4_addBytesOf.1 ∈ am_gw := ⟨am_in 552 rfl rfl, am_in 553 rfl rfl, am_in 554 rfl rfl⟩
set_option maxRecDepth 100000 in
theorem kk_X7_243 : Cond.methodLink RX7 243 mX1_findFault.1 ∈ am_gw ∧ Cond.instanceMethod mX1_findFault.1 ∈ am_gw ∧ Cond.selects mX1_findFault.1.cls mX1_findFault.1 mX1_findFault.1 ∈ am_gw := ⟨am_in 564 rfl rfl, am_in 565 rfl rfl, am_in 566 rfl rfl⟩
set_option maxRecDepth 100000 in
theorem kk_X7_249 : Cond.methodLink RX7 249 mX1_makeText.1 ∈ am_gw ∧ Cond.instanceMethod mX1_makeText.1 ∈ am_gw ∧ Cond.selects mX1_makeText.1.cls mX1_makeText.1 mX1_makeText.1 ∈ am_gw := ⟨am_in 744 rfl rfl, am_in 745 rfl rfl, am_in 746 rfl rfl⟩
set_option maxRecDepth 100000 in
theorem kk_X7_253 : Cond.methodLink RX7 253 mX0_addText.1 ∈ am_gw ∧ Cond.instanceMethod mX0_addText.1 ∈ am_gw ∧ Cond.selects mX0_addText.1.cls mX0_addText.1 mX0_addText.1 ∈ am_gw := ⟨am_in 784 rfl rfl, am_in 785 rfl rfl, am_in 786 rfl rfl⟩
set_option maxRecDepth 100000 in
theorem kk_X7_270 : Cond.methodLink RX7 270 mX2_renew.1 ∈ am_gw ∧ Cond.instanceMethod mX2_renew.1 ∈ am_gw ∧ Cond.selects mX2_renew.1.cls mX2_renew.1 mX2_renew.1 ∈ am_gw := ⟨am_in 800 rfl rfl, am_in 801 rfl rfl, am_in 802 rfl rfl⟩
set_option maxRecDepth 100000 in
theorem kk_X7_275 : Cond.methodLink RX7 275 mX2_isPlace.1 ∈ am_gw ∧ Cond.instanceMethod mX2_isPlace.1 ∈ am_gw ∧ Cond.selects mX2_isPlace.1.cls mX2_isPlace.1 mX2_isPlace.1 ∈ am_gw := ⟨am_in 810 rfl rfl, am_in 532 rfl rfl, am_in 533 rfl rfl⟩
set_option maxRecDepth 100000 in
theorem kk_X7_284 : Cond.methodLink RX7 284 mX7_heldWithin.1 ∈ am_gw ∧ Cond.static mX7_heldWithin.1 ∈ am_gw := ⟨am_in 818 rfl rfl, am_in 319 rfl rfl⟩
set_option maxRecDepth 100000 in
theorem kk_X7_290 : Cond.methodLink RX7 290 mX2_hasPlaces.1 ∈ am_gw ∧ Cond.instanceMethod mX2_hasPlaces.1 ∈ am_gw ∧ Cond.selects mX2_hasPlaces.1.cls mX2_hasPlaces.1 mX2_hasPlaces.1 ∈ am_gw := ⟨am_in 827 rfl rfl, am_in 828 rfl rfl, am_in 829 rfl rfl⟩
set_option maxRecDepth 100000 in
theorem kac_X7_293 : Cond.methodLink RX7 293 arraycopyName ∈ am_gw := am_in 831 rfl rfl
set_option maxRecDepth 100000 in
theorem kk_X7_299 : Cond.methodLink RX7 299 mX7_isSlot.1 ∈ am_gw ∧ Cond.static mX7_isSlot.1 ∈ am_gw := ⟨am_in 836 rfl rfl, am_in 837 rfl rfl⟩
set_option maxRecDepth 100000 in
theorem kk_X7_315 : Cond.methodLink RX7 315 mX2_becomes.1 ∈ am_gw ∧ Cond.instanceMethod mX2_becomes.1 ∈ am_gw ∧ Cond.selects mX2_becomes.1.cls mX2_becomes.1 mX2_becomes.1 ∈ am_gw := ⟨am_in 839 rfl rfl, am_in 840 rfl rfl, am_in 841 rfl rfl⟩
theorem ko_X0_3 : Cond.methodLink RX0 3 Lib.objectInit ∈ am_gw := am_in 31 rfl rfl
set_option maxRecDepth 100000 in
theorem kac_X0_73 : Cond.methodLink RX0 73 arraycopyName ∈ am_gw := am_in 487 rfl rfl
set_option maxRecDepth 100000 in
theorem kk_X0_91 : Cond.methodLink RX0 91 mX0_hasOf.1 ∈ am_gw ∧ Cond.instanceMethod mX0_hasOf.1 ∈ am_gw ∧ Cond.selects mX0_hasOf.1.cls mX0_hasOf.1 mX0_hasOf.1 ∈ am_gw := ⟨am_in 405 rfl rfl, am_in 406 rfl rfl, am_in 407 rfl rfl⟩
set_option maxRecDepth 100000 in
theorem kk_X0_95 : Cond.methodLink RX0 95 mX0_plainTone.1 ∈ am_gw ∧ Cond.instanceMethod mX0_plainTone.1 ∈ am_gw ∧ Cond.selects mX0_plainTone.1.cls mX0_plainTone.1 mX0_plainTone.1 ∈ am_gw := ⟨am_in 303 rfl rfl, am_in 305 rfl rfl, am_inS 0 rfl rfl⟩
set_option maxRecDepth 100000 in
theorem kmm_X0_98 : Cond.methodLink RX0 98 Lib.Math.min.name ∈ am_gw := am_in 324 rfl rfl
set_option maxRecDepth 100000 in
theorem kmm_X0_103 : Cond.methodLink RX0 103 Lib.Math.max.name ∈ am_gw := am_in 325 rfl rfl
set_option maxRecDepth 100000 in
theorem kk_X0_106 : Cond.methodLink RX0 106 mX0_textFor.1 ∈ am_gw ∧ Cond.instanceMethod mX0_textFor.1 ∈ am_gw ∧ Cond.selects mX0_textFor.1.cls mX0_textFor.1 mX0_textFor.1 ∈ am_gw := ⟨am_in 307 rfl rfl, am_in 308 rfl rfl, am_in 309 rfl rfl⟩
set_option maxRecDepth 100000 in
theorem kk_X0_110 : Cond.methodLink RX0 110 mX5_workOut.1 ∈ am_gw ∧ Cond.instanceMethod mX5_workOut.1 ∈ am_gw ∧ Cond.selects mX5_workOut.1.cls mX5_workOut.1 mX5_workOut.1 ∈ am_gw := ⟨am_in 311 rfl rfl, am_in 312 rfl rfl, am_in 313 rfl rfl⟩
set_option maxRecDepth 100000 in
theorem kk_X0_117 : Cond.methodLink RX0 117 mX0_isPeace.1 ∈ am_gw ∧ Cond.instanceMethod mX0_isPeace.1 ∈ am_gw ∧ Cond.selects mX0_isPeace.1.cls mX0_isPeace.1 mX0_isPeace.1 ∈ am_gw := ⟨am_in 401 rfl rfl, am_in 402 rfl rfl, am_in 403 rfl rfl⟩
set_option maxRecDepth 100000 in
theorem kk_X0_121 : Cond.methodLink RX0 121 mX0_isDuel.1 ∈ am_gw ∧ Cond.instanceMethod mX0_isDuel.1 ∈ am_gw ∧ Cond.selects mX0_isDuel.1.cls mX0_isDuel.1 mX0_isDuel.1 ∈ am_gw := ⟨am_in 409 rfl rfl, am_in 410 rfl rfl, am_in 411 rfl rfl⟩
set_option maxRecDepth 100000 in
theorem kk_X0_124 : Cond.methodLink RX0 124 mX0_writeLetters.1 ∈ am_gw ∧ Cond.instanceMethod mX0_writeLetters.1 ∈ am_gw ∧ Cond.selects mX0_writeLetters.1.cls mX0_writeLetters.1 mX0_writeLetters.1 ∈ am_gw := ⟨am_in 413 rfl rfl, am_in 415 rfl rfl, am_inS 1 rfl rfl⟩
set_option maxRecDepth 100000 in
theorem kk_X0_127 : Cond.methodLink RX0 127 mJ7_fill_53178.1 ∈ am_gw ∧ Cond.static mJ7_fill_53178.1 ∈ am_gw := ⟨am_in 417 rfl rfl, am_in 418 rfl rfl⟩
set_option maxRecDepth 100000 in
theorem kk_X0_133 : Cond.methodLink RX0 133 mX0_draw.1 ∈ am_gw ∧ Cond.instanceMethod mX0_draw.1 ∈ am_gw ∧ Cond.selects mX0_draw.1.cls mX0_draw.1 mX0_draw.1 ∈ am_gw := ⟨am_in 420 rfl rfl, am_in 385 rfl rfl, am_in 386 rfl rfl⟩
set_option maxRecDepth 100000 in
theorem kk_X0_137 : Cond.methodLink RX0 137 mX0_toneOf.1 ∈ am_gw ∧ Cond.instanceMethod mX0_toneOf.1 ∈ am_gw ∧ Cond.selects mX0_toneOf.1.cls mX0_toneOf.1 mX0_toneOf.1 ∈ am_gw := ⟨am_in 421 rfl rfl, am_in 300 rfl rfl, am_in 301 rfl rfl⟩
set_option maxRecDepth 100000 in
theorem kk_X0_140 : Cond.methodLink RX0 140 mX0_termYielded.1 ∈ am_gw ∧ Cond.instanceMethod mX0_termYielded.1 ∈ am_gw ∧ Cond.selects mX0_termYielded.1.cls mX0_termYielded.1 mX0_termYielded.1 ∈ am_gw := ⟨am_in 422 rfl rfl, am_in 329 rfl rfl, am_in 330 rfl rfl⟩
set_option maxRecDepth 100000 in
theorem ko_X1_3 : Cond.methodLink RX1 3 Lib.objectInit ∈ am_gw := am_in 135 rfl rfl
set_option maxRecDepth 100000 in
theorem kk_X1_50 : Cond.methodLink RX1 50 mX1_advance.1 ∈ am_gw ∧ Cond.instanceMethod mX1_advance.1 ∈ am_gw ∧ Cond.selects mX1_advance.1.cls mX1_advance.1 mX1_advance.1 ∈ am_gw := ⟨am_in 568 rfl rfl, am_in 570 rfl rfl, am_inS 8 rfl rfl⟩
set_option maxRecDepth 100000 in
theorem kk_X1_53 : Cond.methodLink RX1 53 mX1_readKey.1 ∈ am_gw ∧ Cond.instanceMethod mX1_readKey.1 ∈ am_gw ∧ Cond.selects mX1_readKey.1.cls mX1_readKey.1 mX1_readKey.1 ∈ am_gw := ⟨am_in 575 rfl rfl, am_in 577 rfl rfl, am_inS 9 rfl rfl⟩
set_option maxRecDepth 100000 in
theorem kk_X1_56 : Cond.methodLink RX1 56 mX1_readOr.1 ∈ am_gw ∧ Cond.instanceMethod mX1_readOr.1 ∈ am_gw ∧ Cond.selects mX1_readOr.1.cls mX1_readOr.1 mX1_readOr.1 ∈ am_gw := ⟨am_in 638 rfl rfl, am_in 640 rfl rfl, am_inS 12 rfl rfl⟩
set_option maxRecDepth 100000 in
theorem kk_X1_59 : Cond.methodLink RX1 59 mX1_fail.1 ∈ am_gw ∧ Cond.instanceMethod mX1_fail.1 ∈ am_gw ∧ Cond.selects mX1_fail.1.cls mX1_fail.1 mX1_fail.1 ∈ am_gw := ⟨am_in 634 rfl rfl, am_in 636 rfl rfl, am_inS 11 rfl rfl⟩
set_option maxRecDepth 100000 in
theorem kk_X1_64 : Cond.methodLink RX1 64 mJ7_copyOf_59c91.1 ∈ am_gw ∧ Cond.static mJ7_copyOf_59c91.1 ∈ am_gw := ⟨am_in 750 rfl rfl, am_in 751 rfl rfl⟩
set_option maxRecDepth 100000 in
theorem kk_X1_70 : Cond.methodLink RX1 70 mX5_init.1 ∈ am_gw ∧ Cond.instanceMethod mX5_init.1 ∈ am_gw ∧ mX5_init.1.name = "<init>" ∧ True := ⟨am_in 762 rfl rfl, am_in 763 rfl rfl, rfl, trivial⟩
set_option maxRecDepth 100000 in
theorem kk_X1_79 : Cond.methodLink RX1 79 mX1_sortOf.1 ∈ am_gw ∧ Cond.static mX1_sortOf.1 ∈ am_gw := ⟨am_in 572 rfl rfl, am_in 573 rfl rfl⟩
set_option maxRecDepth 100000 in
theorem kk_X1_83 : Cond.methodLink RX1 83 mJ0_length_8abf5.1 ∈ am_gw ∧ Cond.instanceMethod mJ0_length_8abf5.1 ∈ am_gw ∧ Cond.selects mJ0_length_8abf5.1.cls mJ0_length_8abf5.1 mJ0_length_8abf5.1 ∈ am_gw := ⟨am_in 584 rfl rfl, am_in 585 rfl rfl, am_in 586 rfl rfl⟩
set_option maxRecDepth 100000 in
theorem kk_X1_88 : Cond.methodLink RX1 88 mJ0_charAt_5068e.1 ∈ am_gw ∧ Cond.instanceMethod mJ0_charAt_5068e.1 ∈ am_gw ∧ Cond.selects mJ0_charAt_5068e.1.cls mJ0_charAt_5068e.1 mJ0_charAt_5068e.1 ∈ am_gw := ⟨am_in 594 rfl rfl, am_in 595 rfl rfl, am_in 596 rfl rfl⟩
set_option maxRecDepth 100000 in
theorem kk_X1_94 : Cond.methodLink RX1 94 mX1_isWord.1 ∈ am_gw ∧ Cond.instanceMethod mX1_isWord.1 ∈ am_gw ∧ Cond.selects mX1_isWord.1.cls mX1_isWord.1 mX1_isWord.1 ∈ am_gw := ⟨am_in 580 rfl rfl, am_in 582 rfl rfl, am_inS 10 rfl rfl⟩
set_option maxRecDepth 100000 in
theorem kk_X1_102 : Cond.methodLink RX1 102 mX1_readAnd.1 ∈ am_gw ∧ Cond.instanceMethod mX1_readAnd.1 ∈ am_gw ∧ Cond.selects mX1_readAnd.1.cls mX1_readAnd.1 mX1_readAnd.1 ∈ am_gw := ⟨am_in 642 rfl rfl, am_in 644 rfl rfl, am_inS 13 rfl rfl⟩
set_option maxRecDepth 100000 in
theorem kk_X1_105 : Cond.methodLink RX1 105 mX1_isSign.1 ∈ am_gw ∧ Cond.instanceMethod mX1_isSign.1 ∈ am_gw ∧ Cond.selects mX1_isSign.1.cls mX1_isSign.1 mX1_isSign.1 ∈ am_gw := ⟨am_in 736 rfl rfl, am_in 738 rfl rfl, am_inS 22 rfl rfl⟩
set_option maxRecDepth 100000 in
theorem kk_X1_109 : Cond.methodLink RX1 109 mX1_emit.1 ∈ am_gw ∧ Cond.instanceMethod mX1_emit.1 ∈ am_gw ∧ Cond.selects mX1_emit.1.cls mX1_emit.1 mX1_emit.1 ∈ am_gw := ⟨am_in 670 rfl rfl, am_in 672 rfl rfl, am_inS 20 rfl rfl⟩
set_option maxRecDepth 100000 in
theorem kk_X1_113 : Cond.methodLink RX1 113 mX1_readTest.1 ∈ am_gw ∧ Cond.instanceMethod mX1_readTest.1 ∈ am_gw ∧ Cond.selects mX1_readTest.1.cls mX1_readTest.1 mX1_readTest.1 ∈ am_gw := ⟨am_in 646 rfl rfl, am_in 648 rfl rfl, am_inS 14 rfl rfl⟩
set_option maxRecDepth 100000 in
theorem kk_X1_116 : Cond.methodLink RX1 116 mX1_readSum.1 ∈ am_gw ∧ Cond.instanceMethod mX1_readSum.1 ∈ am_gw ∧ Cond.selects mX1_readSum.1.cls mX1_readSum.1 mX1_readSum.1 ∈ am_gw := ⟨am_in 650 rfl rfl, am_in 652 rfl rfl, am_inS 15 rfl rfl⟩
set_option maxRecDepth 100000 in
theorem kk_X1_119 : Cond.methodLink RX1 119 mX1_readProduct.1 ∈ am_gw ∧ Cond.instanceMethod mX1_readProduct.1 ∈ am_gw ∧ Cond.selects mX1_readProduct.1.cls mX1_readProduct.1 mX1_readProduct.1 ∈ am_gw := ⟨am_in 654 rfl rfl, am_in 656 rfl rfl, am_inS 16 rfl rfl⟩
set_option maxRecDepth 100000 in
theorem kk_X1_122 : Cond.methodLink RX1 122 mX1_readPiece.1 ∈ am_gw ∧ Cond.instanceMethod mX1_readPiece.1 ∈ am_gw ∧ Cond.selects mX1_readPiece.1.cls mX1_readPiece.1 mX1_readPiece.1 ∈ am_gw := ⟨am_in 658 rfl rfl, am_in 660 rfl rfl, am_inS 17 rfl rfl⟩
set_option maxRecDepth 100000 in
theorem kk_X1_125 : Cond.methodLink RX1 125 mX1_numberRead.1 ∈ am_gw ∧ Cond.instanceMethod mX1_numberRead.1 ∈ am_gw ∧ Cond.selects mX1_numberRead.1.cls mX1_numberRead.1 mX1_numberRead.1 ∈ am_gw := ⟨am_in 662 rfl rfl, am_in 664 rfl rfl, am_inS 18 rfl rfl⟩
set_option maxRecDepth 100000 in
theorem kk_X1_128 : Cond.methodLink RX1 128 mX1_emitOperand.1 ∈ am_gw ∧ Cond.instanceMethod mX1_emitOperand.1 ∈ am_gw ∧ Cond.selects mX1_emitOperand.1.cls mX1_emitOperand.1 mX1_emitOperand.1 ∈ am_gw := ⟨am_in 666 rfl rfl, am_in 668 rfl rfl, am_inS 19 rfl rfl⟩
set_option maxRecDepth 100000 in
theorem kk_X1_131 : Cond.methodLink RX1 131 mX1_nameRead.1 ∈ am_gw ∧ Cond.instanceMethod mX1_nameRead.1 ∈ am_gw ∧ Cond.selects mX1_nameRead.1.cls mX1_nameRead.1 mX1_nameRead.1 ∈ am_gw := ⟨am_in 674 rfl rfl, am_in 676 rfl rfl, am_inS 21 rfl rfl⟩
set_option maxRecDepth 100000 in
theorem kk_X1_134 : Cond.methodLink RX1 134 mX1_closeBracket.1 ∈ am_gw ∧ Cond.instanceMethod mX1_closeBracket.1 ∈ am_gw ∧ Cond.selects mX1_closeBracket.1.cls mX1_closeBracket.1 mX1_closeBracket.1 ∈ am_gw := ⟨am_in 740 rfl rfl, am_in 742 rfl rfl, am_inS 23 rfl rfl⟩
set_option maxRecDepth 100000 in
theorem kk_X1_143 : Cond.methodLink RX1 143 mJ0_indexOf_0f7a4.1 ∈ am_gw ∧ Cond.instanceMethod mJ0_indexOf_0f7a4.1 ∈ am_gw ∧ Cond.selects mJ0_indexOf_0f7a4.1.cls mJ0_indexOf_0f7a4.1 mJ0_indexOf_0f7a4.1 ∈ am_gw := ⟨am_in 681 rfl rfl, am_in 682 rfl rfl, am_in 683 rfl rfl⟩
set_option maxRecDepth 100000 in
theorem ko_X2_3 : Cond.methodLink RX2 3 Lib.objectInit ∈ am_gw := am_in 195 rfl rfl
set_option maxRecDepth 100000 in
theorem kk_X2_22 : Cond.methodLink RX2 22 mJ7_fill_53178.1 ∈ am_gw ∧ Cond.static mJ7_fill_53178.1 ∈ am_gw := ⟨am_in 804 rfl rfl, am_in 418 rfl rfl⟩
set_option maxRecDepth 100000 in
theorem kac_X2_28 : Cond.methodLink RX2 28 arraycopyName ∈ am_gw := am_in 843 rfl rfl
set_option maxRecDepth 100000 in
theorem kk_X2_38 : Cond.methodLink RX2 38 mX2_isPlace.1 ∈ am_gw ∧ Cond.instanceMethod mX2_isPlace.1 ∈ am_gw ∧ Cond.selects mX2_isPlace.1.cls mX2_isPlace.1 mX2_isPlace.1 ∈ am_gw := ⟨am_in 531 rfl rfl, am_in 532 rfl rfl, am_in 533 rfl rfl⟩
set_option maxRecDepth 100000 in
theorem ko_X3_3 : Cond.methodLink RX3 3 Lib.objectInit ∈ am_gw := am_in 213 rfl rfl
set_option maxRecDepth 100000 in
theorem ko_X4_3 : Cond.methodLink RX4 3 Lib.objectInit ∈ am_gw := am_in 141 rfl rfl
set_option maxRecDepth 100000 in
theorem ko_X5_1 : Cond.methodLink RX5 1 Lib.objectInit ∈ am_gw := am_in 765 rfl rfl
set_option maxRecDepth 100000 in
theorem kmm_X5_20 : Cond.methodLink RX5 20 Lib.Math.max.name ∈ am_gw := am_in 766 rfl rfl
set_option maxRecDepth 100000 in
theorem kk_X5_29 : Cond.methodLink RX5 29 mX5_join.1 ∈ am_gw ∧ Cond.static mX5_join.1 ∈ am_gw := ⟨am_in 315 rfl rfl, am_in 316 rfl rfl⟩
set_option maxRecDepth 100000 in
theorem ko_X6_3 : Cond.methodLink RX6 3 Lib.objectInit ∈ am_gw := am_in 119 rfl rfl
set_option maxRecDepth 100000 in
theorem kk_X6_22 : Cond.methodLink RX6 22 mX6_start.1 ∈ am_gw ∧ Cond.instanceMethod mX6_start.1 ∈ am_gw ∧ Cond.selects mX6_start.1.cls mX6_start.1 mX6_start.1 ∈ am_gw := ⟨am_in 446 rfl rfl, am_in 448 rfl rfl, am_inS 2 rfl rfl⟩
set_option maxRecDepth 100000 in
theorem kk_X6_26 : Cond.methodLink RX6 26 mX6_spare.1 ∈ am_gw ∧ Cond.instanceMethod mX6_spare.1 ∈ am_gw ∧ Cond.selects mX6_spare.1.cls mX6_spare.1 mX6_spare.1 ∈ am_gw := ⟨am_in 451 rfl rfl, am_in 453 rfl rfl, am_inS 3 rfl rfl⟩
set_option maxRecDepth 100000 in
theorem kk_X6_30 : Cond.methodLink RX6 30 mX6_step.1 ∈ am_gw ∧ Cond.instanceMethod mX6_step.1 ∈ am_gw ∧ Cond.selects mX6_step.1.cls mX6_step.1 mX6_step.1 ∈ am_gw := ⟨am_in 456 rfl rfl, am_in 458 rfl rfl, am_inS 4 rfl rfl⟩
set_option maxRecDepth 100000 in
theorem kk_X6_33 : Cond.methodLink RX6 33 mX6_distanceTo.1 ∈ am_gw ∧ Cond.instanceMethod mX6_distanceTo.1 ∈ am_gw ∧ Cond.selects mX6_distanceTo.1.cls mX6_distanceTo.1 mX6_distanceTo.1 ∈ am_gw := ⟨am_in 472 rfl rfl, am_in 474 rfl rfl, am_inS 5 rfl rfl⟩
set_option maxRecDepth 100000 in
theorem kmm_X6_48 : Cond.methodLink RX6 48 Lib.Math.min.name ∈ am_gw := am_in 455 rfl rfl
set_option maxRecDepth 100000 in
theorem kmm_X6_56 : Cond.methodLink RX6 56 Lib.Math.abs.name ∈ am_gw := am_in 476 rfl rfl
theorem kk_L_9 : Cond.methodLink RL 9 mX7_init.1 ∈ am_gw ∧ Cond.instanceMethod mX7_init.1 ∈ am_gw ∧ mX7_init.1.name = "<init>" ∧ True := ⟨am_in 20 rfl rfl, am_in 21 rfl rfl, rfl, trivial⟩
set_option maxRecDepth 100000 in
theorem kk_L_12 : Cond.methodLink RL 12 mX8_init.1 ∈ am_gw ∧ Cond.instanceMethod mX8_init.1 ∈ am_gw ∧ mX8_init.1.name = "<init>" ∧ True := ⟨am_in 879 rfl rfl, am_in 880 rfl rfl, rfl, trivial⟩
set_option maxRecDepth 100000 in
theorem kk_L_13 : Cond.methodLink RL 13 mX7_friend.1 ∈ am_gw ∧ Cond.instanceMethod mX7_friend.1 ∈ am_gw ∧ Cond.selects mX7_friend.1.cls mX7_friend.1 mX7_friend.1 ∈ am_gw := ⟨am_in 271 rfl rfl, am_in 272 rfl rfl, am_in 273 rfl rfl⟩
set_option maxRecDepth 100000 in
theorem kk_L_17 : Cond.methodLink RL 17 mX8_friend.1 ∈ am_gw ∧ Cond.instanceMethod mX8_friend.1 ∈ am_gw ∧ Cond.selects mX8_friend.1.cls mX8_friend.1 mX8_friend.1 ∈ am_gw := ⟨am_in 994 rfl rfl, am_in 995 rfl rfl, am_in 996 rfl rfl⟩
set_option maxRecDepth 100000 in
theorem kk_L_18 : Cond.methodLink RL 18 mX7_told.1 ∈ am_gw ∧ Cond.instanceMethod mX7_told.1 ∈ am_gw ∧ Cond.selects mX7_told.1.cls mX7_told.1 mX7_told.1 ∈ am_gw := ⟨am_in 290 rfl rfl, am_in 291 rfl rfl, am_in 292 rfl rfl⟩
set_option maxRecDepth 100000 in
theorem kk_L_22 : Cond.methodLink RL 22 mX8_told.1 ∈ am_gw ∧ Cond.instanceMethod mX8_told.1 ∈ am_gw ∧ Cond.selects mX8_told.1.cls mX8_told.1 mX8_told.1 ∈ am_gw := ⟨am_in 1011 rfl rfl, am_in 1012 rfl rfl, am_in 1013 rfl rfl⟩
set_option maxRecDepth 100000 in
theorem kk_L_23 : Cond.methodLink RL 23 mX7_as.1 ∈ am_gw ∧ Cond.instanceMethod mX7_as.1 ∈ am_gw ∧ Cond.selects mX7_as.1.cls mX7_as.1 mX7_as.1 ∈ am_gw := ⟨am_in 342 rfl rfl, am_in 343 rfl rfl, am_in 344 rfl rfl⟩
set_option maxRecDepth 100000 in
theorem kk_L_26 : Cond.methodLink RL 26 mX8_as.1 ∈ am_gw ∧ Cond.instanceMethod mX8_as.1 ∈ am_gw ∧ Cond.selects mX8_as.1.cls mX8_as.1 mX8_as.1 ∈ am_gw := ⟨am_in 1057 rfl rfl, am_in 1058 rfl rfl, am_in 1059 rfl rfl⟩
set_option maxRecDepth 100000 in
theorem kk_L_27 : Cond.methodLink RL 27 mX7_turns.1 ∈ am_gw ∧ Cond.instanceMethod mX7_turns.1 ∈ am_gw ∧ Cond.selects mX7_turns.1.cls mX7_turns.1 mX7_turns.1 ∈ am_gw := ⟨am_in 352 rfl rfl, am_in 353 rfl rfl, am_in 354 rfl rfl⟩
set_option maxRecDepth 100000 in
theorem kk_L_30 : Cond.methodLink RL 30 mX8_turns.1 ∈ am_gw ∧ Cond.instanceMethod mX8_turns.1 ∈ am_gw ∧ Cond.selects mX8_turns.1.cls mX8_turns.1 mX8_turns.1 ∈ am_gw := ⟨am_in 1065 rfl rfl, am_in 1066 rfl rfl, am_in 1067 rfl rfl⟩
set_option maxRecDepth 100000 in
theorem kk_L_31 : Cond.methodLink RL 31 mX7_set.1 ∈ am_gw ∧ Cond.instanceMethod mX7_set.1 ∈ am_gw ∧ Cond.selects mX7_set.1.cls mX7_set.1 mX7_set.1 ∈ am_gw := ⟨am_in 356 rfl rfl, am_in 357 rfl rfl, am_in 358 rfl rfl⟩
set_option maxRecDepth 100000 in
theorem kk_L_34 : Cond.methodLink RL 34 mX8_set.1 ∈ am_gw ∧ Cond.instanceMethod mX8_set.1 ∈ am_gw ∧ Cond.selects mX8_set.1.cls mX8_set.1 mX8_set.1 ∈ am_gw := ⟨am_in 1073 rfl rfl, am_in 1074 rfl rfl, am_in 1075 rfl rfl⟩
set_option maxRecDepth 100000 in
theorem kk_L_35 : Cond.methodLink RL 35 mX7_stand.1 ∈ am_gw ∧ Cond.instanceMethod mX7_stand.1 ∈ am_gw ∧ Cond.selects mX7_stand.1.cls mX7_stand.1 mX7_stand.1 ∈ am_gw := ⟨am_in 360 rfl rfl, am_in 361 rfl rfl, am_in 362 rfl rfl⟩
set_option maxRecDepth 100000 in
theorem kk_L_38 : Cond.methodLink RL 38 mX8_stand.1 ∈ am_gw ∧ Cond.instanceMethod mX8_stand.1 ∈ am_gw ∧ Cond.selects mX8_stand.1.cls mX8_stand.1 mX8_stand.1 ∈ am_gw := ⟨am_in 1077 rfl rfl, am_in 1078 rfl rfl, am_in 1079 rfl rfl⟩
set_option maxRecDepth 100000 in
theorem kk_L_39 : Cond.methodLink RL 39 mX7_care.1 ∈ am_gw ∧ Cond.instanceMethod mX7_care.1 ∈ am_gw ∧ Cond.selects mX7_care.1.cls mX7_care.1 mX7_care.1 ∈ am_gw := ⟨am_in 367 rfl rfl, am_in 368 rfl rfl, am_in 369 rfl rfl⟩
set_option maxRecDepth 100000 in
theorem kk_L_42 : Cond.methodLink RL 42 mX8_care.1 ∈ am_gw ∧ Cond.instanceMethod mX8_care.1 ∈ am_gw ∧ Cond.selects mX8_care.1.cls mX8_care.1 mX8_care.1 ∈ am_gw := ⟨am_in 1081 rfl rfl, am_in 1082 rfl rfl, am_in 1083 rfl rfl⟩
set_option maxRecDepth 100000 in
theorem kk_L_43 : Cond.methodLink RL 43 mX7_honour.1 ∈ am_gw ∧ Cond.instanceMethod mX7_honour.1 ∈ am_gw ∧ Cond.selects mX7_honour.1.cls mX7_honour.1 mX7_honour.1 ∈ am_gw := ⟨am_in 372 rfl rfl, am_in 373 rfl rfl, am_in 374 rfl rfl⟩
set_option maxRecDepth 100000 in
theorem kk_L_46 : Cond.methodLink RL 46 mX8_honour.1 ∈ am_gw ∧ Cond.instanceMethod mX8_honour.1 ∈ am_gw ∧ Cond.selects mX8_honour.1.cls mX8_honour.1 mX8_honour.1 ∈ am_gw := ⟨am_in 1085 rfl rfl, am_in 1086 rfl rfl, am_in 1087 rfl rfl⟩
set_option maxRecDepth 100000 in
theorem kk_L_47 : Cond.methodLink RL 47 mX7_rule.1 ∈ am_gw ∧ Cond.instanceMethod mX7_rule.1 ∈ am_gw ∧ Cond.selects mX7_rule.1.cls mX7_rule.1 mX7_rule.1 ∈ am_gw := ⟨am_in 376 rfl rfl, am_in 377 rfl rfl, am_in 378 rfl rfl⟩
set_option maxRecDepth 100000 in
theorem kk_L_50 : Cond.methodLink RL 50 mX8_rule.1 ∈ am_gw ∧ Cond.instanceMethod mX8_rule.1 ∈ am_gw ∧ Cond.selects mX8_rule.1.cls mX8_rule.1 mX8_rule.1 ∈ am_gw := ⟨am_in 1089 rfl rfl, am_in 1090 rfl rfl, am_in 1091 rfl rfl⟩
set_option maxRecDepth 100000 in
theorem kk_L_51 : Cond.methodLink RL 51 mX7_deal.1 ∈ am_gw ∧ Cond.instanceMethod mX7_deal.1 ∈ am_gw ∧ Cond.selects mX7_deal.1.cls mX7_deal.1 mX7_deal.1 ∈ am_gw := ⟨am_in 380 rfl rfl, am_in 381 rfl rfl, am_in 382 rfl rfl⟩
set_option maxRecDepth 100000 in
theorem kk_L_55 : Cond.methodLink RL 55 mX8_deal.1 ∈ am_gw ∧ Cond.instanceMethod mX8_deal.1 ∈ am_gw ∧ Cond.selects mX8_deal.1.cls mX8_deal.1 mX8_deal.1 ∈ am_gw := ⟨am_in 1093 rfl rfl, am_in 1094 rfl rfl, am_in 1095 rfl rfl⟩
set_option maxRecDepth 100000 in
theorem kk_L_56 : Cond.methodLink RL 56 mX7_seed.1 ∈ am_gw ∧ Cond.instanceMethod mX7_seed.1 ∈ am_gw ∧ Cond.selects mX7_seed.1.cls mX7_seed.1 mX7_seed.1 ∈ am_gw := ⟨am_in 389 rfl rfl, am_in 390 rfl rfl, am_in 391 rfl rfl⟩
set_option maxRecDepth 100000 in
theorem kk_L_59 : Cond.methodLink RL 59 mX8_seed.1 ∈ am_gw ∧ Cond.instanceMethod mX8_seed.1 ∈ am_gw ∧ Cond.selects mX8_seed.1.cls mX8_seed.1 mX8_seed.1 ∈ am_gw := ⟨am_in 1102 rfl rfl, am_in 1103 rfl rfl, am_in 1104 rfl rfl⟩
set_option maxRecDepth 100000 in
theorem kk_L_60 : Cond.methodLink RL 60 mX7_posts.1 ∈ am_gw ∧ Cond.instanceMethod mX7_posts.1 ∈ am_gw ∧ Cond.selects mX7_posts.1.cls mX7_posts.1 mX7_posts.1 ∈ am_gw := ⟨am_in 393 rfl rfl, am_in 394 rfl rfl, am_in 395 rfl rfl⟩
set_option maxRecDepth 100000 in
theorem kk_L_63 : Cond.methodLink RL 63 mX8_posts.1 ∈ am_gw ∧ Cond.instanceMethod mX8_posts.1 ∈ am_gw ∧ Cond.selects mX8_posts.1.cls mX8_posts.1 mX8_posts.1 ∈ am_gw := ⟨am_in 1106 rfl rfl, am_in 1107 rfl rfl, am_in 1108 rfl rfl⟩
set_option maxRecDepth 100000 in
theorem kk_L_64 : Cond.methodLink RL 64 mX7_table.1 ∈ am_gw ∧ Cond.instanceMethod mX7_table.1 ∈ am_gw ∧ Cond.selects mX7_table.1.cls mX7_table.1 mX7_table.1 ∈ am_gw := ⟨am_in 424 rfl rfl, am_in 425 rfl rfl, am_in 426 rfl rfl⟩
set_option maxRecDepth 100000 in
theorem kk_L_67 : Cond.methodLink RL 67 mX8_table.1 ∈ am_gw ∧ Cond.instanceMethod mX8_table.1 ∈ am_gw ∧ Cond.selects mX8_table.1.cls mX8_table.1 mX8_table.1 ∈ am_gw := ⟨am_in 1134 rfl rfl, am_in 1135 rfl rfl, am_in 1136 rfl rfl⟩
set_option maxRecDepth 100000 in
theorem kk_L_68 : Cond.methodLink RL 68 mX7_taken.1 ∈ am_gw ∧ Cond.instanceMethod mX7_taken.1 ∈ am_gw ∧ Cond.selects mX7_taken.1.cls mX7_taken.1 mX7_taken.1 ∈ am_gw := ⟨am_in 438 rfl rfl, am_in 439 rfl rfl, am_in 440 rfl rfl⟩
set_option maxRecDepth 100000 in
theorem kk_L_72 : Cond.methodLink RL 72 mX8_taken.1 ∈ am_gw ∧ Cond.instanceMethod mX8_taken.1 ∈ am_gw ∧ Cond.selects mX8_taken.1.cls mX8_taken.1 mX8_taken.1 ∈ am_gw := ⟨am_in 1142 rfl rfl, am_in 1143 rfl rfl, am_in 1144 rfl rfl⟩
set_option maxRecDepth 100000 in
theorem kk_L_73 : Cond.methodLink RL 73 mX7_terms.1 ∈ am_gw ∧ Cond.instanceMethod mX7_terms.1 ∈ am_gw ∧ Cond.selects mX7_terms.1.cls mX7_terms.1 mX7_terms.1 ∈ am_gw := ⟨am_in 460 rfl rfl, am_in 461 rfl rfl, am_in 462 rfl rfl⟩
set_option maxRecDepth 100000 in
theorem kk_L_76 : Cond.methodLink RL 76 mX8_terms.1 ∈ am_gw ∧ Cond.instanceMethod mX8_terms.1 ∈ am_gw ∧ Cond.selects mX8_terms.1.cls mX8_terms.1 mX8_terms.1 ∈ am_gw := ⟨am_in 1158 rfl rfl, am_in 1159 rfl rfl, am_in 1160 rfl rfl⟩
set_option maxRecDepth 100000 in
theorem kk_L_77 : Cond.methodLink RL 77 mX7_behind.1 ∈ am_gw ∧ Cond.instanceMethod mX7_behind.1 ∈ am_gw ∧ Cond.selects mX7_behind.1.cls mX7_behind.1 mX7_behind.1 ∈ am_gw := ⟨am_in 479 rfl rfl, am_in 480 rfl rfl, am_in 481 rfl rfl⟩
set_option maxRecDepth 100000 in
theorem kk_L_80 : Cond.methodLink RL 80 mX8_behind.1 ∈ am_gw ∧ Cond.instanceMethod mX8_behind.1 ∈ am_gw ∧ Cond.selects mX8_behind.1.cls mX8_behind.1 mX8_behind.1 ∈ am_gw := ⟨am_in 1166 rfl rfl, am_in 1167 rfl rfl, am_in 1168 rfl rfl⟩
set_option maxRecDepth 100000 in
theorem kk_L_81 : Cond.methodLink RL 81 mX7_ends.1 ∈ am_gw ∧ Cond.instanceMethod mX7_ends.1 ∈ am_gw ∧ Cond.selects mX7_ends.1.cls mX7_ends.1 mX7_ends.1 ∈ am_gw := ⟨am_in 490 rfl rfl, am_in 491 rfl rfl, am_in 492 rfl rfl⟩
set_option maxRecDepth 100000 in
theorem kk_L_84 : Cond.methodLink RL 84 mX8_ends.1 ∈ am_gw ∧ Cond.instanceMethod mX8_ends.1 ∈ am_gw ∧ Cond.selects mX8_ends.1.cls mX8_ends.1 mX8_ends.1 ∈ am_gw := ⟨am_in 1170 rfl rfl, am_in 1171 rfl rfl, am_in 1172 rfl rfl⟩
set_option maxRecDepth 100000 in
theorem kk_L_85 : Cond.methodLink RL 85 mX7_held.1 ∈ am_gw ∧ Cond.instanceMethod mX7_held.1 ∈ am_gw ∧ Cond.selects mX7_held.1.cls mX7_held.1 mX7_held.1 ∈ am_gw := ⟨am_in 495 rfl rfl, am_in 496 rfl rfl, am_in 497 rfl rfl⟩
set_option maxRecDepth 100000 in
theorem kk_L_88 : Cond.methodLink RL 88 mX8_held.1 ∈ am_gw ∧ Cond.instanceMethod mX8_held.1 ∈ am_gw ∧ Cond.selects mX8_held.1.cls mX8_held.1 mX8_held.1 ∈ am_gw := ⟨am_in 1174 rfl rfl, am_in 1175 rfl rfl, am_in 1176 rfl rfl⟩
set_option maxRecDepth 100000 in
theorem kk_L_89 : Cond.methodLink RL 89 mX7_cool.1 ∈ am_gw ∧ Cond.instanceMethod mX7_cool.1 ∈ am_gw ∧ Cond.selects mX7_cool.1.cls mX7_cool.1 mX7_cool.1 ∈ am_gw := ⟨am_in 503 rfl rfl, am_in 504 rfl rfl, am_in 505 rfl rfl⟩
set_option maxRecDepth 100000 in
theorem kk_L_92 : Cond.methodLink RL 92 mX8_cool.1 ∈ am_gw ∧ Cond.instanceMethod mX8_cool.1 ∈ am_gw ∧ Cond.selects mX8_cool.1.cls mX8_cool.1 mX8_cool.1 ∈ am_gw := ⟨am_in 1182 rfl rfl, am_in 1183 rfl rfl, am_in 1184 rfl rfl⟩
set_option maxRecDepth 100000 in
theorem kk_L_93 : Cond.methodLink RL 93 mX7_bought.1 ∈ am_gw ∧ Cond.instanceMethod mX7_bought.1 ∈ am_gw ∧ Cond.selects mX7_bought.1.cls mX7_bought.1 mX7_bought.1 ∈ am_gw := ⟨am_in 507 rfl rfl, am_in 508 rfl rfl, am_in 509 rfl rfl⟩
set_option maxRecDepth 100000 in
theorem kk_L_96 : Cond.methodLink RL 96 mX8_bought.1 ∈ am_gw ∧ Cond.instanceMethod mX8_bought.1 ∈ am_gw ∧ Cond.selects mX8_bought.1.cls mX8_bought.1 mX8_bought.1 ∈ am_gw := ⟨am_in 1186 rfl rfl, am_in 1187 rfl rfl, am_in 1188 rfl rfl⟩
set_option maxRecDepth 100000 in
theorem kk_L_97 : Cond.methodLink RL 97 mX7_cared.1 ∈ am_gw ∧ Cond.instanceMethod mX7_cared.1 ∈ am_gw ∧ Cond.selects mX7_cared.1.cls mX7_cared.1 mX7_cared.1 ∈ am_gw := ⟨am_in 511 rfl rfl, am_in 512 rfl rfl, am_in 513 rfl rfl⟩
set_option maxRecDepth 100000 in
theorem kk_L_100 : Cond.methodLink RL 100 mX8_cared.1 ∈ am_gw ∧ Cond.instanceMethod mX8_cared.1 ∈ am_gw ∧ Cond.selects mX8_cared.1.cls mX8_cared.1 mX8_cared.1 ∈ am_gw := ⟨am_in 1190 rfl rfl, am_in 1191 rfl rfl, am_in 1192 rfl rfl⟩
set_option maxRecDepth 100000 in
theorem kk_L_101 : Cond.methodLink RL 101 mX7_fee.1 ∈ am_gw ∧ Cond.instanceMethod mX7_fee.1 ∈ am_gw ∧ Cond.selects mX7_fee.1.cls mX7_fee.1 mX7_fee.1 ∈ am_gw := ⟨am_in 538 rfl rfl, am_in 539 rfl rfl, am_in 540 rfl rfl⟩
set_option maxRecDepth 100000 in
theorem kk_L_104 : Cond.methodLink RL 104 mX8_fee.1 ∈ am_gw ∧ Cond.instanceMethod mX8_fee.1 ∈ am_gw ∧ Cond.selects mX8_fee.1.cls mX8_fee.1 mX8_fee.1 ∈ am_gw := ⟨am_in 1202 rfl rfl, am_in 1203 rfl rfl, am_in 1204 rfl rfl⟩
set_option maxRecDepth 100000 in
theorem kk_L_105 : Cond.methodLink RL 105 mX7_fine.1 ∈ am_gw ∧ Cond.instanceMethod mX7_fine.1 ∈ am_gw ∧ Cond.selects mX7_fine.1.cls mX7_fine.1 mX7_fine.1 ∈ am_gw := ⟨am_in 544 rfl rfl, am_in 545 rfl rfl, am_in 546 rfl rfl⟩
set_option maxRecDepth 100000 in
theorem kk_L_108 : Cond.methodLink RL 108 mX8_fine.1 ∈ am_gw ∧ Cond.instanceMethod mX8_fine.1 ∈ am_gw ∧ Cond.selects mX8_fine.1.cls mX8_fine.1 mX8_fine.1 ∈ am_gw := ⟨am_in 1206 rfl rfl, am_in 1207 rfl rfl, am_in 1208 rfl rfl⟩
set_option maxRecDepth 100000 in
theorem kk_L_109 : Cond.methodLink RL 109 mX7_feed.1 ∈ am_gw ∧ Cond.instanceMethod mX7_feed.1 ∈ am_gw ∧ Cond.selects mX7_feed.1.cls mX7_feed.1 mX7_feed.1 ∈ am_gw := ⟨am_in 548 rfl rfl, am_in 549 rfl rfl, am_in 550 rfl rfl⟩
set_option maxRecDepth 100000 in
theorem kk_L_112 : Cond.methodLink RL 112 mX8_feed.1 ∈ am_gw ∧ Cond.instanceMethod mX8_feed.1 ∈ am_gw ∧ Cond.selects mX8_feed.1.cls mX8_feed.1 mX8_feed.1 ∈ am_gw := ⟨am_in 1210 rfl rfl, am_in 1211 rfl rfl, am_in 1212 rfl rfl⟩
set_option maxRecDepth 100000 in
theorem kk_L_113 : Cond.methodLink RL 113 mX7_trim.1 ∈ am_gw ∧ Cond.instanceMethod mX7_trim.1 ∈ am_gw ∧ Cond.selects mX7_trim.1.cls mX7_trim.1 mX7_trim.1 ∈ am_gw := ⟨am_in 556 rfl rfl, am_in 557 rfl rfl, am_in 558 rfl rfl⟩
set_option maxRecDepth 100000 in
theorem kk_L_116 : Cond.methodLink RL 116 mX8_trim.1 ∈ am_gw ∧ Cond.instanceMethod mX8_trim.1 ∈ am_gw ∧ Cond.selects mX8_trim.1.cls mX8_trim.1 mX8_trim.1 ∈ am_gw := ⟨am_in 1214 rfl rfl, am_in 1215 rfl rfl, am_in 1216 rfl rfl⟩
set_option maxRecDepth 100000 in
theorem kk_L_117 : Cond.methodLink RL 117 mX7_text.1 ∈ am_gw ∧ Cond.instanceMethod mX7_text.1 ∈ am_gw ∧ Cond.selects mX7_text.1.cls mX7_text.1 mX7_text.1 ∈ am_gw := ⟨am_in 560 rfl rfl, am_in 561 rfl rfl, am_in 562 rfl rfl⟩
set_option maxRecDepth 100000 in
theorem kk_L_120 : Cond.methodLink RL 120 mX8_text.1 ∈ am_gw ∧ Cond.instanceMethod mX8_text.1 ∈ am_gw ∧ Cond.selects mX8_text.1.cls mX8_text.1 mX8_text.1 ∈ am_gw := ⟨am_in 1218 rfl rfl, am_in 1219 rfl rfl, am_in 1220 rfl rfl⟩
set_option maxRecDepth 100000 in
theorem kk_L_121 : Cond.methodLink RL 121 mX7_textTold.1 ∈ am_gw ∧ Cond.instanceMethod mX7_textTold.1 ∈ am_gw ∧ Cond.selects mX7_textTold.1.cls mX7_textTold.1 mX7_textTold.1 ∈ am_gw := ⟨am_in 788 rfl rfl, am_in 789 rfl rfl, am_in 790 rfl rfl⟩
set_option maxRecDepth 100000 in
theorem kk_L_124 : Cond.methodLink RL 124 mX8_textTold.1 ∈ am_gw ∧ Cond.instanceMethod mX8_textTold.1 ∈ am_gw ∧ Cond.selects mX8_textTold.1.cls mX8_textTold.1 mX8_textTold.1 ∈ am_gw := ⟨am_in 1265 rfl rfl, am_in 1266 rfl rfl, am_in 1267 rfl rfl⟩
set_option maxRecDepth 100000 in
theorem kk_L_125 : Cond.methodLink RL 125 mX7_why.1 ∈ am_gw ∧ Cond.instanceMethod mX7_why.1 ∈ am_gw ∧ Cond.selects mX7_why.1.cls mX7_why.1 mX7_why.1 ∈ am_gw := ⟨am_in 792 rfl rfl, am_in 793 rfl rfl, am_in 794 rfl rfl⟩
set_option maxRecDepth 100000 in
theorem kk_L_128 : Cond.methodLink RL 128 mX8_why.1 ∈ am_gw ∧ Cond.instanceMethod mX8_why.1 ∈ am_gw ∧ Cond.selects mX8_why.1.cls mX8_why.1 mX8_why.1 ∈ am_gw := ⟨am_in 1269 rfl rfl, am_in 1270 rfl rfl, am_in 1271 rfl rfl⟩
set_option maxRecDepth 100000 in
theorem kk_L_129 : Cond.methodLink RL 129 mX7_sheet.1 ∈ am_gw ∧ Cond.instanceMethod mX7_sheet.1 ∈ am_gw ∧ Cond.selects mX7_sheet.1.cls mX7_sheet.1 mX7_sheet.1 ∈ am_gw := ⟨am_in 796 rfl rfl, am_in 797 rfl rfl, am_in 798 rfl rfl⟩
set_option maxRecDepth 100000 in
theorem kk_L_132 : Cond.methodLink RL 132 mX8_sheet.1 ∈ am_gw ∧ Cond.instanceMethod mX8_sheet.1 ∈ am_gw ∧ Cond.selects mX8_sheet.1.cls mX8_sheet.1 mX8_sheet.1 ∈ am_gw := ⟨am_in 1273 rfl rfl, am_in 1274 rfl rfl, am_in 1275 rfl rfl⟩
set_option maxRecDepth 100000 in
theorem kk_L_133 : Cond.methodLink RL 133 mX7_mark.1 ∈ am_gw ∧ Cond.instanceMethod mX7_mark.1 ∈ am_gw ∧ Cond.selects mX7_mark.1.cls mX7_mark.1 mX7_mark.1 ∈ am_gw := ⟨am_in 806 rfl rfl, am_in 807 rfl rfl, am_in 808 rfl rfl⟩
set_option maxRecDepth 100000 in
theorem kk_L_136 : Cond.methodLink RL 136 mX8_mark.1 ∈ am_gw ∧ Cond.instanceMethod mX8_mark.1 ∈ am_gw ∧ Cond.selects mX8_mark.1.cls mX8_mark.1 mX8_mark.1 ∈ am_gw := ⟨am_in 1278 rfl rfl, am_in 1279 rfl rfl, am_in 1280 rfl rfl⟩
set_option maxRecDepth 100000 in
theorem kk_L_137 : Cond.methodLink RL 137 mX7_pour.1 ∈ am_gw ∧ Cond.instanceMethod mX7_pour.1 ∈ am_gw ∧ Cond.selects mX7_pour.1.cls mX7_pour.1 mX7_pour.1 ∈ am_gw := ⟨am_in 814 rfl rfl, am_in 815 rfl rfl, am_in 816 rfl rfl⟩
set_option maxRecDepth 100000 in
theorem kk_L_140 : Cond.methodLink RL 140 mX8_pour.1 ∈ am_gw ∧ Cond.instanceMethod mX8_pour.1 ∈ am_gw ∧ Cond.selects mX8_pour.1.cls mX8_pour.1 mX8_pour.1 ∈ am_gw := ⟨am_in 1285 rfl rfl, am_in 1286 rfl rfl, am_in 1287 rfl rfl⟩
set_option maxRecDepth 100000 in
theorem kk_L_141 : Cond.methodLink RL 141 mX7_reads.1 ∈ am_gw ∧ Cond.instanceMethod mX7_reads.1 ∈ am_gw ∧ Cond.selects mX7_reads.1.cls mX7_reads.1 mX7_reads.1 ∈ am_gw := ⟨am_in 819 rfl rfl, am_in 820 rfl rfl, am_in 821 rfl rfl⟩
set_option maxRecDepth 100000 in
theorem kk_L_144 : Cond.methodLink RL 144 mX8_reads.1 ∈ am_gw ∧ Cond.instanceMethod mX8_reads.1 ∈ am_gw ∧ Cond.selects mX8_reads.1.cls mX8_reads.1 mX8_reads.1 ∈ am_gw := ⟨am_in 1289 rfl rfl, am_in 1290 rfl rfl, am_in 1291 rfl rfl⟩
set_option maxRecDepth 100000 in
theorem kk_L_145 : Cond.methodLink RL 145 mX7_copy.1 ∈ am_gw ∧ Cond.instanceMethod mX7_copy.1 ∈ am_gw ∧ Cond.selects mX7_copy.1.cls mX7_copy.1 mX7_copy.1 ∈ am_gw := ⟨am_in 823 rfl rfl, am_in 824 rfl rfl, am_in 825 rfl rfl⟩
set_option maxRecDepth 100000 in
theorem kk_L_149 : Cond.methodLink RL 149 mX8_copy.1 ∈ am_gw ∧ Cond.instanceMethod mX8_copy.1 ∈ am_gw ∧ Cond.selects mX8_copy.1.cls mX8_copy.1 mX8_copy.1 ∈ am_gw := ⟨am_in 1293 rfl rfl, am_in 1294 rfl rfl, am_in 1295 rfl rfl⟩
set_option maxRecDepth 100000 in
theorem kk_L_150 : Cond.methodLink RL 150 mX7_lay.1 ∈ am_gw ∧ Cond.instanceMethod mX7_lay.1 ∈ am_gw ∧ Cond.selects mX7_lay.1.cls mX7_lay.1 mX7_lay.1 ∈ am_gw := ⟨am_in 832 rfl rfl, am_in 833 rfl rfl, am_in 834 rfl rfl⟩
set_option maxRecDepth 100000 in
theorem kk_L_153 : Cond.methodLink RL 153 mX8_lay.1 ∈ am_gw ∧ Cond.instanceMethod mX8_lay.1 ∈ am_gw ∧ Cond.selects mX8_lay.1.cls mX8_lay.1 mX8_lay.1 ∈ am_gw := ⟨am_in 1297 rfl rfl, am_in 1298 rfl rfl, am_in 1299 rfl rfl⟩
set_option maxRecDepth 100000 in
theorem kk_L_154 : Cond.methodLink RL 154 mX7_ask.1 ∈ am_gw ∧ Cond.instanceMethod mX7_ask.1 ∈ am_gw ∧ Cond.selects mX7_ask.1.cls mX7_ask.1 mX7_ask.1 ∈ am_gw := ⟨am_in 844 rfl rfl, am_in 845 rfl rfl, am_in 846 rfl rfl⟩
set_option maxRecDepth 100000 in
theorem kk_L_157 : Cond.methodLink RL 157 mX8_ask.1 ∈ am_gw ∧ Cond.instanceMethod mX8_ask.1 ∈ am_gw ∧ Cond.selects mX8_ask.1.cls mX8_ask.1 mX8_ask.1 ∈ am_gw := ⟨am_in 1304 rfl rfl, am_in 1305 rfl rfl, am_in 1306 rfl rfl⟩
set_option maxRecDepth 100000 in
theorem kk_L_158 : Cond.methodLink RL 158 mX7_item.1 ∈ am_gw ∧ Cond.instanceMethod mX7_item.1 ∈ am_gw ∧ Cond.selects mX7_item.1.cls mX7_item.1 mX7_item.1 ∈ am_gw := ⟨am_in 848 rfl rfl, am_in 849 rfl rfl, am_in 850 rfl rfl⟩
set_option maxRecDepth 100000 in
theorem kk_L_161 : Cond.methodLink RL 161 mX8_item.1 ∈ am_gw ∧ Cond.instanceMethod mX8_item.1 ∈ am_gw ∧ Cond.selects mX8_item.1.cls mX8_item.1 mX8_item.1 ∈ am_gw := ⟨am_in 1308 rfl rfl, am_in 1309 rfl rfl, am_in 1310 rfl rfl⟩
set_option maxRecDepth 100000 in
theorem kk_L_162 : Cond.methodLink RL 162 mX7_rest.1 ∈ am_gw ∧ Cond.instanceMethod mX7_rest.1 ∈ am_gw ∧ Cond.selects mX7_rest.1.cls mX7_rest.1 mX7_rest.1 ∈ am_gw := ⟨am_in 852 rfl rfl, am_in 853 rfl rfl, am_in 854 rfl rfl⟩
set_option maxRecDepth 100000 in
theorem kk_L_165 : Cond.methodLink RL 165 mX8_rest.1 ∈ am_gw ∧ Cond.instanceMethod mX8_rest.1 ∈ am_gw ∧ Cond.selects mX8_rest.1.cls mX8_rest.1 mX8_rest.1 ∈ am_gw := ⟨am_in 1312 rfl rfl, am_in 1313 rfl rfl, am_in 1314 rfl rfl⟩
set_option maxRecDepth 100000 in
theorem kk_L_166 : Cond.methodLink RL 166 mX7_tell.1 ∈ am_gw ∧ Cond.instanceMethod mX7_tell.1 ∈ am_gw ∧ Cond.selects mX7_tell.1.cls mX7_tell.1 mX7_tell.1 ∈ am_gw := ⟨am_in 857 rfl rfl, am_in 858 rfl rfl, am_in 859 rfl rfl⟩
set_option maxRecDepth 100000 in
theorem kk_L_169 : Cond.methodLink RL 169 mX8_tell.1 ∈ am_gw ∧ Cond.instanceMethod mX8_tell.1 ∈ am_gw ∧ Cond.selects mX8_tell.1.cls mX8_tell.1 mX8_tell.1 ∈ am_gw := ⟨am_in 1317 rfl rfl, am_in 1318 rfl rfl, am_in 1319 rfl rfl⟩
set_option maxRecDepth 100000 in
theorem kk_L_170 : Cond.methodLink RL 170 mX7_check.1 ∈ am_gw ∧ Cond.instanceMethod mX7_check.1 ∈ am_gw ∧ Cond.selects mX7_check.1.cls mX7_check.1 mX7_check.1 ∈ am_gw := ⟨am_in 861 rfl rfl, am_in 862 rfl rfl, am_in 863 rfl rfl⟩
set_option maxRecDepth 100000 in
theorem kk_L_173 : Cond.methodLink RL 173 mX8_check.1 ∈ am_gw ∧ Cond.instanceMethod mX8_check.1 ∈ am_gw ∧ Cond.selects mX8_check.1.cls mX8_check.1 mX8_check.1 ∈ am_gw := ⟨am_in 1321 rfl rfl, am_in 1322 rfl rfl, am_in 1323 rfl rfl⟩
set_option maxRecDepth 100000 in
theorem kk_L_174 : Cond.methodLink RL 174 mX7_keep.1 ∈ am_gw ∧ Cond.instanceMethod mX7_keep.1 ∈ am_gw ∧ Cond.selects mX7_keep.1.cls mX7_keep.1 mX7_keep.1 ∈ am_gw := ⟨am_in 865 rfl rfl, am_in 866 rfl rfl, am_in 867 rfl rfl⟩
set_option maxRecDepth 100000 in
theorem kk_L_177 : Cond.methodLink RL 177 mX8_keep.1 ∈ am_gw ∧ Cond.instanceMethod mX8_keep.1 ∈ am_gw ∧ Cond.selects mX8_keep.1.cls mX8_keep.1 mX8_keep.1 ∈ am_gw := ⟨am_in 1328 rfl rfl, am_in 1329 rfl rfl, am_in 1330 rfl rfl⟩
set_option maxRecDepth 100000 in
theorem kk_L_178 : Cond.methodLink RL 178 mX7_back.1 ∈ am_gw ∧ Cond.instanceMethod mX7_back.1 ∈ am_gw ∧ Cond.selects mX7_back.1.cls mX7_back.1 mX7_back.1 ∈ am_gw := ⟨am_in 869 rfl rfl, am_in 870 rfl rfl, am_in 871 rfl rfl⟩
set_option maxRecDepth 100000 in
theorem kk_L_181 : Cond.methodLink RL 181 mX8_back.1 ∈ am_gw ∧ Cond.instanceMethod mX8_back.1 ∈ am_gw ∧ Cond.selects mX8_back.1.cls mX8_back.1 mX8_back.1 ∈ am_gw := ⟨am_in 1332 rfl rfl, am_in 1333 rfl rfl, am_in 1334 rfl rfl⟩
set_option maxRecDepth 100000 in
theorem kk_L_182 : Cond.methodLink RL 182 mX7_count.1 ∈ am_gw ∧ Cond.instanceMethod mX7_count.1 ∈ am_gw ∧ Cond.selects mX7_count.1.cls mX7_count.1 mX7_count.1 ∈ am_gw := ⟨am_in 873 rfl rfl, am_in 874 rfl rfl, am_in 875 rfl rfl⟩
set_option maxRecDepth 100000 in
theorem kk_L_185 : Cond.methodLink RL 185 mX8_count.1 ∈ am_gw ∧ Cond.instanceMethod mX8_count.1 ∈ am_gw ∧ Cond.selects mX8_count.1.cls mX8_count.1 mX8_count.1 ∈ am_gw := ⟨am_in 1336 rfl rfl, am_in 1337 rfl rfl, am_in 1338 rfl rfl⟩
set_option maxRecDepth 100000 in
theorem ko_X8_1 : Cond.methodLink RX8 1 Lib.objectInit ∈ am_gw := am_in 882 rfl rfl
set_option maxRecDepth 100000 in
theorem kk_X8_83 : Cond.methodLink RX8 83 mX8_in.1 ∈ am_gw ∧ Cond.static mX8_in.1 ∈ am_gw := ⟨am_in 998 rfl rfl, am_in 999 rfl rfl⟩
set_option maxRecDepth 100000 in
theorem kk_X8_87 : Cond.methodLink RX8 87 mX8_put.1 ∈ am_gw ∧ Cond.instanceMethod mX8_put.1 ∈ am_gw ∧ Cond.selects mX8_put.1.cls mX8_put.1 mX8_put.1 ∈ am_gw := ⟨am_in 1007 rfl rfl, am_in 1009 rfl rfl, am_inS 25 rfl rfl⟩
set_option maxRecDepth 100000 in
theorem kk_X8_93 : Cond.methodLink RX8 93 mX8_comes.1 ∈ am_gw ∧ Cond.instanceMethod mX8_comes.1 ∈ am_gw ∧ Cond.selects mX8_comes.1.cls mX8_comes.1 mX8_comes.1 ∈ am_gw := ⟨am_in 1003 rfl rfl, am_in 1005 rfl rfl, am_inS 24 rfl rfl⟩
set_option maxRecDepth 100000 in
theorem kk_X8_97 : Cond.methodLink RX8 97 mX8_counts.1 ∈ am_gw ∧ Cond.instanceMethod mX8_counts.1 ∈ am_gw ∧ Cond.selects mX8_counts.1.cls mX8_counts.1 mX8_counts.1 ∈ am_gw := ⟨am_in 1027 rfl rfl, am_in 1029 rfl rfl, am_inS 29 rfl rfl⟩
set_option maxRecDepth 100000 in
theorem kk_X8_101 : Cond.methodLink RX8 101 mX8_of.1 ∈ am_gw ∧ Cond.instanceMethod mX8_of.1 ∈ am_gw ∧ Cond.selects mX8_of.1.cls mX8_of.1 mX8_of.1 ∈ am_gw := ⟨am_in 1019 rfl rfl, am_in 1021 rfl rfl, am_inS 27 rfl rfl⟩
set_option maxRecDepth 100000 in
theorem kk_X8_105 : Cond.methodLink RX8 105 mX8_worksOut.1 ∈ am_gw ∧ Cond.instanceMethod mX8_worksOut.1 ∈ am_gw ∧ Cond.selects mX8_worksOut.1.cls mX8_worksOut.1 mX8_worksOut.1 ∈ am_gw := ⟨am_in 1031 rfl rfl, am_in 1033 rfl rfl, am_inS 30 rfl rfl⟩
set_option maxRecDepth 100000 in
theorem kk_X8_108 : Cond.methodLink RX8 108 mX8_within.1 ∈ am_gw ∧ Cond.static mX8_within.1 ∈ am_gw := ⟨am_in 1038 rfl rfl, am_in 1039 rfl rfl⟩
set_option maxRecDepth 100000 in
theorem kk_X8_111 : Cond.methodLink RX8 111 mX8_pickOf.1 ∈ am_gw ∧ Cond.instanceMethod mX8_pickOf.1 ∈ am_gw ∧ Cond.selects mX8_pickOf.1.cls mX8_pickOf.1 mX8_pickOf.1 ∈ am_gw := ⟨am_in 1045 rfl rfl, am_in 1047 rfl rfl, am_inS 32 rfl rfl⟩
set_option maxRecDepth 100000 in
theorem kk_X8_114 : Cond.methodLink RX8 114 mX8_isFriend.1 ∈ am_gw ∧ Cond.instanceMethod mX8_isFriend.1 ∈ am_gw ∧ Cond.selects mX8_isFriend.1.cls mX8_isFriend.1 mX8_isFriend.1 ∈ am_gw := ⟨am_in 1015 rfl rfl, am_in 1017 rfl rfl, am_inS 26 rfl rfl⟩
set_option maxRecDepth 100000 in
theorem kk_X8_118 : Cond.methodLink RX8 118 mX8_toneOf.1 ∈ am_gw ∧ Cond.instanceMethod mX8_toneOf.1 ∈ am_gw ∧ Cond.selects mX8_toneOf.1.cls mX8_toneOf.1 mX8_toneOf.1 ∈ am_gw := ⟨am_in 1023 rfl rfl, am_in 1025 rfl rfl, am_inS 28 rfl rfl⟩
set_option maxRecDepth 100000 in
theorem kk_X8_121 : Cond.methodLink RX8 121 mX8_termOf.1 ∈ am_gw ∧ Cond.instanceMethod mX8_termOf.1 ∈ am_gw ∧ Cond.selects mX8_termOf.1.cls mX8_termOf.1 mX8_termOf.1 ∈ am_gw := ⟨am_in 1041 rfl rfl, am_in 1043 rfl rfl, am_inS 31 rfl rfl⟩
set_option maxRecDepth 100000 in
theorem kk_X8_124 : Cond.methodLink RX8 124 mX8_told0.1 ∈ am_gw ∧ Cond.static mX8_told0.1 ∈ am_gw := ⟨am_in 1049 rfl rfl, am_in 1050 rfl rfl⟩
set_option maxRecDepth 100000 in
theorem kk_X8_127 : Cond.methodLink RX8 127 mX8_worthOf.1 ∈ am_gw ∧ Cond.instanceMethod mX8_worthOf.1 ∈ am_gw ∧ Cond.selects mX8_worthOf.1.cls mX8_worthOf.1 mX8_worthOf.1 ∈ am_gw := ⟨am_in 1053 rfl rfl, am_in 1055 rfl rfl, am_inS 33 rfl rfl⟩
set_option maxRecDepth 100000 in
theorem kk_X8_130 : Cond.methodLink RX8 130 mX8_isUnder.1 ∈ am_gw ∧ Cond.static mX8_isUnder.1 ∈ am_gw := ⟨am_in 1061 rfl rfl, am_in 1062 rfl rfl⟩
set_option maxRecDepth 100000 in
theorem kk_X8_135 : Cond.methodLink RX8 135 mX8_becomes.1 ∈ am_gw ∧ Cond.instanceMethod mX8_becomes.1 ∈ am_gw ∧ Cond.selects mX8_becomes.1.cls mX8_becomes.1 mX8_becomes.1 ∈ am_gw := ⟨am_in 1069 rfl rfl, am_in 1071 rfl rfl, am_inS 34 rfl rfl⟩
set_option maxRecDepth 100000 in
theorem kk_X8_139 : Cond.methodLink RX8 139 mX8_draw.1 ∈ am_gw ∧ Cond.instanceMethod mX8_draw.1 ∈ am_gw ∧ Cond.selects mX8_draw.1.cls mX8_draw.1 mX8_draw.1 ∈ am_gw := ⟨am_in 1097 rfl rfl, am_in 1099 rfl rfl, am_inS 35 rfl rfl⟩
set_option maxRecDepth 100000 in
theorem kk_X8_143 : Cond.methodLink RX8 143 mX8_has.1 ∈ am_gw ∧ Cond.instanceMethod mX8_has.1 ∈ am_gw ∧ Cond.selects mX8_has.1.cls mX8_has.1 mX8_has.1 ∈ am_gw := ⟨am_in 1126 rfl rfl, am_in 1128 rfl rfl, am_inS 40 rfl rfl⟩
set_option maxRecDepth 100000 in
theorem kk_X8_149 : Cond.methodLink RX8 149 mX8_isPeace.1 ∈ am_gw ∧ Cond.instanceMethod mX8_isPeace.1 ∈ am_gw ∧ Cond.selects mX8_isPeace.1.cls mX8_isPeace.1 mX8_isPeace.1 ∈ am_gw := ⟨am_in 1122 rfl rfl, am_in 1124 rfl rfl, am_inS 39 rfl rfl⟩
set_option maxRecDepth 100000 in
theorem kk_X8_153 : Cond.methodLink RX8 153 mX8_letter.1 ∈ am_gw ∧ Cond.instanceMethod mX8_letter.1 ∈ am_gw ∧ Cond.selects mX8_letter.1.cls mX8_letter.1 mX8_letter.1 ∈ am_gw := ⟨am_in 1130 rfl rfl, am_in 1132 rfl rfl, am_inS 41 rfl rfl⟩
set_option maxRecDepth 100000 in
theorem kk_X8_157 : Cond.methodLink RX8 157 mX8_post.1 ∈ am_gw ∧ Cond.instanceMethod mX8_post.1 ∈ am_gw ∧ Cond.selects mX8_post.1.cls mX8_post.1 mX8_post.1 ∈ am_gw := ⟨am_in 1118 rfl rfl, am_in 1120 rfl rfl, am_inS 38 rfl rfl⟩
set_option maxRecDepth 100000 in
theorem kk_X8_160 : Cond.methodLink RX8 160 mX8_sumOf.1 ∈ am_gw ∧ Cond.instanceMethod mX8_sumOf.1 ∈ am_gw ∧ Cond.selects mX8_sumOf.1.cls mX8_sumOf.1 mX8_sumOf.1 ∈ am_gw := ⟨am_in 1110 rfl rfl, am_in 1112 rfl rfl, am_inS 36 rfl rfl⟩
set_option maxRecDepth 100000 in
theorem kk_X8_163 : Cond.methodLink RX8 163 mX8_goesOn.1 ∈ am_gw ∧ Cond.instanceMethod mX8_goesOn.1 ∈ am_gw ∧ Cond.selects mX8_goesOn.1.cls mX8_goesOn.1 mX8_goesOn.1 ∈ am_gw := ⟨am_in 1114 rfl rfl, am_in 1116 rfl rfl, am_inS 37 rfl rfl⟩
set_option maxRecDepth 100000 in
theorem kk_X8_166 : Cond.methodLink RX8 166 mX8_stands.1 ∈ am_gw ∧ Cond.instanceMethod mX8_stands.1 ∈ am_gw ∧ Cond.selects mX8_stands.1.cls mX8_stands.1 mX8_stands.1 ∈ am_gw := ⟨am_in 1138 rfl rfl, am_in 1140 rfl rfl, am_inS 42 rfl rfl⟩
set_option maxRecDepth 100000 in
theorem kk_X8_169 : Cond.methodLink RX8 169 mX8_thinks.1 ∈ am_gw ∧ Cond.instanceMethod mX8_thinks.1 ∈ am_gw ∧ Cond.selects mX8_thinks.1.cls mX8_thinks.1 mX8_thinks.1 ∈ am_gw := ⟨am_in 1146 rfl rfl, am_in 1148 rfl rfl, am_inS 43 rfl rfl⟩
set_option maxRecDepth 100000 in
theorem kk_X8_172 : Cond.methodLink RX8 172 mX8_standAs.1 ∈ am_gw ∧ Cond.instanceMethod mX8_standAs.1 ∈ am_gw ∧ Cond.selects mX8_standAs.1.cls mX8_standAs.1 mX8_standAs.1 ∈ am_gw := ⟨am_in 1150 rfl rfl, am_in 1152 rfl rfl, am_inS 44 rfl rfl⟩
set_option maxRecDepth 100000 in
theorem kk_X8_175 : Cond.methodLink RX8 175 mX8_putsBack.1 ∈ am_gw ∧ Cond.instanceMethod mX8_putsBack.1 ∈ am_gw ∧ Cond.selects mX8_putsBack.1.cls mX8_putsBack.1 mX8_putsBack.1 ∈ am_gw := ⟨am_in 1154 rfl rfl, am_in 1156 rfl rfl, am_inS 45 rfl rfl⟩
set_option maxRecDepth 100000 in
theorem kk_X8_178 : Cond.methodLink RX8 178 mX8_wellBy.1 ∈ am_gw ∧ Cond.instanceMethod mX8_wellBy.1 ∈ am_gw ∧ Cond.selects mX8_wellBy.1.cls mX8_wellBy.1 mX8_wellBy.1 ∈ am_gw := ⟨am_in 1162 rfl rfl, am_in 1164 rfl rfl, am_inS 46 rfl rfl⟩
set_option maxRecDepth 100000 in
theorem kk_X8_181 : Cond.methodLink RX8 181 mX8_endsWell.1 ∈ am_gw ∧ Cond.instanceMethod mX8_endsWell.1 ∈ am_gw ∧ Cond.selects mX8_endsWell.1.cls mX8_endsWell.1 mX8_endsWell.1 ∈ am_gw := ⟨am_in 1178 rfl rfl, am_in 1180 rfl rfl, am_inS 47 rfl rfl⟩
set_option maxRecDepth 100000 in
theorem kk_X8_184 : Cond.methodLink RX8 184 mX8_isSheet.1 ∈ am_gw ∧ Cond.static mX8_isSheet.1 ∈ am_gw := ⟨am_in 1194 rfl rfl, am_in 1195 rfl rfl⟩
set_option maxRecDepth 100000 in
theorem kk_X8_188 : Cond.methodLink RX8 188 mX8_offBy.1 ∈ am_gw ∧ Cond.instanceMethod mX8_offBy.1 ∈ am_gw ∧ Cond.selects mX8_offBy.1.cls mX8_offBy.1 mX8_offBy.1 ∈ am_gw := ⟨am_in 1198 rfl rfl, am_in 1200 rfl rfl, am_inS 48 rfl rfl⟩
set_option maxRecDepth 100000 in
theorem kk_X8_207 : Cond.methodLink RX8 207 mX8_isLetter.1 ∈ am_gw ∧ Cond.instanceMethod mX8_isLetter.1 ∈ am_gw ∧ Cond.selects mX8_isLetter.1.cls mX8_isLetter.1 mX8_isLetter.1 ∈ am_gw := ⟨am_in 1226 rfl rfl, am_in 1228 rfl rfl, am_inS 50 rfl rfl⟩
set_option maxRecDepth 100000 in
theorem kk_X8_213 : Cond.methodLink RX8 213 mX8_isFigure.1 ∈ am_gw ∧ Cond.instanceMethod mX8_isFigure.1 ∈ am_gw ∧ Cond.selects mX8_isFigure.1.cls mX8_isFigure.1 mX8_isFigure.1 ∈ am_gw := ⟨am_in 1230 rfl rfl, am_in 1232 rfl rfl, am_inS 51 rfl rfl⟩
set_option maxRecDepth 100000 in
theorem kk_X8_219 : Cond.methodLink RX8 219 mX8_go.1 ∈ am_gw ∧ Cond.instanceMethod mX8_go.1 ∈ am_gw ∧ Cond.selects mX8_go.1.cls mX8_go.1 mX8_go.1 ∈ am_gw := ⟨am_in 1222 rfl rfl, am_in 1224 rfl rfl, am_inS 49 rfl rfl⟩
set_option maxRecDepth 100000 in
theorem kk_X8_225 : Cond.methodLink RX8 225 mX8_rank.1 ∈ am_gw ∧ Cond.static mX8_rank.1 ∈ am_gw := ⟨am_in 1254 rfl rfl, am_in 1255 rfl rfl⟩
set_option maxRecDepth 100000 in
theorem kk_X8_231 : Cond.methodLink RX8 231 mX8_nameOf.1 ∈ am_gw ∧ Cond.instanceMethod mX8_nameOf.1 ∈ am_gw ∧ Cond.selects mX8_nameOf.1.cls mX8_nameOf.1 mX8_nameOf.1 ∈ am_gw := ⟨am_in 1246 rfl rfl, am_in 1248 rfl rfl, am_inS 55 rfl rfl⟩
set_option maxRecDepth 100000 in
theorem kk_X8_237 : Cond.methodLink RX8 237 mX8_settle.1 ∈ am_gw ∧ Cond.instanceMethod mX8_settle.1 ∈ am_gw ∧ Cond.selects mX8_settle.1.cls mX8_settle.1 mX8_settle.1 ∈ am_gw := ⟨am_in 1250 rfl rfl, am_in 1252 rfl rfl, am_inS 56 rfl rfl⟩
set_option maxRecDepth 100000 in
theorem kk_X8_240 : Cond.methodLink RX8 240 mX8_takesPart.1 ∈ am_gw ∧ Cond.instanceMethod mX8_takesPart.1 ∈ am_gw ∧ Cond.selects mX8_takesPart.1.cls mX8_takesPart.1 mX8_takesPart.1 ∈ am_gw := ⟨am_in 1242 rfl rfl, am_in 1244 rfl rfl, am_inS 54 rfl rfl⟩
set_option maxRecDepth 100000 in
theorem kk_X8_243 : Cond.methodLink RX8 243 mX8_notsOpen.1 ∈ am_gw ∧ Cond.instanceMethod mX8_notsOpen.1 ∈ am_gw ∧ Cond.selects mX8_notsOpen.1.cls mX8_notsOpen.1 mX8_notsOpen.1 ∈ am_gw := ⟨am_in 1257 rfl rfl, am_in 1259 rfl rfl, am_inS 57 rfl rfl⟩
set_option maxRecDepth 100000 in
theorem kk_X8_246 : Cond.methodLink RX8 246 mX8_signHere.1 ∈ am_gw ∧ Cond.instanceMethod mX8_signHere.1 ∈ am_gw ∧ Cond.selects mX8_signHere.1.cls mX8_signHere.1 mX8_signHere.1 ∈ am_gw := ⟨am_in 1261 rfl rfl, am_in 1263 rfl rfl, am_inS 58 rfl rfl⟩
set_option maxRecDepth 100000 in
theorem kk_X8_249 : Cond.methodLink RX8 249 mX8_takesKey.1 ∈ am_gw ∧ Cond.instanceMethod mX8_takesKey.1 ∈ am_gw ∧ Cond.selects mX8_takesKey.1.cls mX8_takesKey.1 mX8_takesKey.1 ∈ am_gw := ⟨am_in 1234 rfl rfl, am_in 1236 rfl rfl, am_inS 52 rfl rfl⟩
set_option maxRecDepth 100000 in
theorem kk_X8_252 : Cond.methodLink RX8 252 mX8_takesE.1 ∈ am_gw ∧ Cond.instanceMethod mX8_takesE.1 ∈ am_gw ∧ Cond.selects mX8_takesE.1.cls mX8_takesE.1 mX8_takesE.1 ∈ am_gw := ⟨am_in 1238 rfl rfl, am_in 1240 rfl rfl, am_inS 53 rfl rfl⟩
set_option maxRecDepth 100000 in
theorem kk_X8_255 : Cond.methodLink RX8 255 mX8_two.1 ∈ am_gw ∧ Cond.static mX8_two.1 ∈ am_gw := ⟨am_in 1035 rfl rfl, am_in 1036 rfl rfl⟩
set_option maxRecDepth 100000 in
theorem kk_X8_262 : Cond.methodLink RX8 262 mX8_isSlot.1 ∈ am_gw ∧ Cond.static mX8_isSlot.1 ∈ am_gw := ⟨am_in 1301 rfl rfl, am_in 1302 rfl rfl⟩
set_option maxRecDepth 100000 in
theorem kk_X8_273 : Cond.methodLink RX8 273 mX8_copyAll.1 ∈ am_gw ∧ Cond.static mX8_copyAll.1 ∈ am_gw := ⟨am_in 1325 rfl rfl, am_in 1326 rfl rfl⟩
set_option maxRecDepth 100000 in
theorem kk_J0_335 : Cond.methodLink RJ0 335 mJ0_coder_7d493.1 ∈ am_gw ∧ Cond.instanceMethod mJ0_coder_7d493.1 ∈ am_gw ∧ Cond.selects mJ0_coder_7d493.1.cls mJ0_coder_7d493.1 mJ0_coder_7d493.1 ∈ am_gw := ⟨am_in 588 rfl rfl, am_in 589 rfl rfl, am_in 590 rfl rfl⟩
set_option maxRecDepth 100000 in
theorem kk_J0_492 : Cond.methodLink RJ0 492 mJ0_isLatin1_aae02.1 ∈ am_gw ∧ Cond.instanceMethod mJ0_isLatin1_aae02.1 ∈ am_gw ∧ Cond.selects mJ0_isLatin1_aae02.1.cls mJ0_isLatin1_aae02.1 mJ0_isLatin1_aae02.1 ∈ am_gw := ⟨am_in 598 rfl rfl, am_in 599 rfl rfl, am_in 600 rfl rfl⟩
set_option maxRecDepth 100000 in
theorem kk_J0_495 : Cond.methodLink RJ0 495 mJ1_charAt_3b067.1 ∈ am_gw ∧ Cond.static mJ1_charAt_3b067.1 ∈ am_gw := ⟨am_in 602 rfl rfl, am_in 603 rfl rfl⟩
set_option maxRecDepth 100000 in
theorem kk_J0_498 : Cond.methodLink RJ0 498 mJ2_charAt_3b067.1 ∈ am_gw ∧ Cond.static mJ2_charAt_3b067.1 ∈ am_gw := ⟨am_in 613 rfl rfl, am_in 614 rfl rfl⟩
set_option maxRecDepth 100000 in
theorem kk_J0_505 : Cond.methodLink RJ0 505 mJ0_length_8abf5.1 ∈ am_gw ∧ Cond.instanceMethod mJ0_length_8abf5.1 ∈ am_gw ∧ Cond.selects mJ0_length_8abf5.1.cls mJ0_length_8abf5.1 mJ0_length_8abf5.1 ∈ am_gw := ⟨am_in 689 rfl rfl, am_in 585 rfl rfl, am_in 586 rfl rfl⟩
set_option maxRecDepth 100000 in
theorem kk_J0_633 : Cond.methodLink RJ0 633 mJ0_indexOf_7cf53.1 ∈ am_gw ∧ Cond.instanceMethod mJ0_indexOf_7cf53.1 ∈ am_gw ∧ Cond.selects mJ0_indexOf_7cf53.1.cls mJ0_indexOf_7cf53.1 mJ0_indexOf_7cf53.1 ∈ am_gw := ⟨am_in 685 rfl rfl, am_in 686 rfl rfl, am_in 687 rfl rfl⟩
set_option maxRecDepth 100000 in
theorem kk_J0_637 : Cond.methodLink RJ0 637 mJ1_indexOf_4cfef.1 ∈ am_gw ∧ Cond.static mJ1_indexOf_4cfef.1 ∈ am_gw := ⟨am_in 690 rfl rfl, am_in 691 rfl rfl⟩
set_option maxRecDepth 100000 in
theorem kk_J0_640 : Cond.methodLink RJ0 640 mJ2_indexOf_4cfef.1 ∈ am_gw ∧ Cond.static mJ2_indexOf_4cfef.1 ∈ am_gw := ⟨am_in 701 rfl rfl, am_in 702 rfl rfl⟩
set_option maxRecDepth 100000 in
theorem kk_J0_1059 : Cond.methodLink RJ0 1059 mJ3_checkIndex_8e157.1 ∈ am_gw ∧ Cond.static mJ3_checkIndex_8e157.1 ∈ am_gw := ⟨am_in 610 rfl rfl, am_in 611 rfl rfl⟩
set_option maxRecDepth 100000 in
theorem kk_J0_1062 : Cond.methodLink RJ0 1062 mJ3_checkFromToIndex_8c36e.1 ∈ am_gw ∧ Cond.static mJ3_checkFromToIndex_8c36e.1 ∈ am_gw := ⟨am_in 716 rfl rfl, am_in 717 rfl rfl⟩
set_option maxRecDepth 100000 in
theorem kk_J1_9 : Cond.methodLink RJ1 9 mJ0_checkIndex_df160.1 ∈ am_gw ∧ Cond.static mJ0_checkIndex_df160.1 ∈ am_gw := ⟨am_in 605 rfl rfl, am_in 606 rfl rfl⟩
set_option maxRecDepth 100000 in
theorem kmm_J1_38 : Cond.methodLink RJ1 38 Lib.Math.min.name ∈ am_gw := am_in 697 rfl rfl
set_option maxRecDepth 100000 in
theorem kk_J1_88 : Cond.methodLink RJ1 88 mJ1_canEncode_9a6ad.1 ∈ am_gw ∧ Cond.static mJ1_canEncode_9a6ad.1 ∈ am_gw := ⟨am_in 693 rfl rfl, am_in 694 rfl rfl⟩
set_option maxRecDepth 100000 in
theorem kmm_J1_92 : Cond.methodLink RJ1 92 Lib.Math.max.name ∈ am_gw := am_in 696 rfl rfl
set_option maxRecDepth 100000 in
theorem kk_J1_95 : Cond.methodLink RJ1 95 mJ1_indexOfChar_4cfef.1 ∈ am_gw ∧ Cond.static mJ1_indexOfChar_4cfef.1 ∈ am_gw := ⟨am_in 698 rfl rfl, am_in 699 rfl rfl⟩
set_option maxRecDepth 100000 in
theorem kk_J2_48 : Cond.methodLink RJ2 48 mJ2_length_9d52b.1 ∈ am_gw ∧ Cond.static mJ2_length_9d52b.1 ∈ am_gw := ⟨am_in 619 rfl rfl, am_in 620 rfl rfl⟩
set_option maxRecDepth 100000 in
theorem kk_J2_67 : Cond.methodLink RJ2 67 mJ2_checkIndex_2214a.1 ∈ am_gw ∧ Cond.static mJ2_checkIndex_2214a.1 ∈ am_gw := ⟨am_in 616 rfl rfl, am_in 617 rfl rfl⟩
set_option maxRecDepth 100000 in
theorem kk_J2_71 : Cond.methodLink RJ2 71 mJ2_getChar_3b067.1 ∈ am_gw ∧ Cond.static mJ2_getChar_3b067.1 ∈ am_gw := ⟨am_in 623 rfl rfl, am_in 624 rfl rfl⟩
set_option maxRecDepth 100000 in
theorem kk_J2_96 : Cond.methodLink RJ2 96 mJ2_checkBoundsBeginEnd_d044e.1 ∈ am_gw ∧ Cond.static mJ2_checkBoundsBeginEnd_d044e.1 ∈ am_gw := ⟨am_in 710 rfl rfl, am_in 711 rfl rfl⟩
set_option maxRecDepth 100000 in
theorem kk_J2_157 : Cond.methodLink RJ2 157 mJ11_highSurrogate_5068e.1 ∈ am_gw ∧ Cond.static mJ11_highSurrogate_5068e.1 ∈ am_gw := ⟨am_in 728 rfl rfl, am_in 729 rfl rfl⟩
set_option maxRecDepth 100000 in
theorem kk_J2_161 : Cond.methodLink RJ2 161 mJ11_lowSurrogate_5068e.1 ∈ am_gw ∧ Cond.static mJ11_lowSurrogate_5068e.1 ∈ am_gw := ⟨am_in 732 rfl rfl, am_in 733 rfl rfl⟩
set_option maxRecDepth 100000 in
theorem kk_J2_164 : Cond.methodLink RJ2 164 mJ11_isValidCodePoint_9a6ad.1 ∈ am_gw ∧ Cond.static mJ11_isValidCodePoint_9a6ad.1 ∈ am_gw := ⟨am_in 725 rfl rfl, am_in 726 rfl rfl⟩
set_option maxRecDepth 100000 in
theorem kmm_J2_183 : Cond.methodLink RJ2 183 Lib.Math.min.name ∈ am_gw := am_in 705 rfl rfl
set_option maxRecDepth 100000 in
theorem kmm_J2_224 : Cond.methodLink RJ2 224 Lib.Math.max.name ∈ am_gw := am_in 704 rfl rfl
set_option maxRecDepth 100000 in
theorem kk_J2_228 : Cond.methodLink RJ2 228 mJ2_indexOfChar_4cfef.1 ∈ am_gw ∧ Cond.static mJ2_indexOfChar_4cfef.1 ∈ am_gw := ⟨am_in 707 rfl rfl, am_in 708 rfl rfl⟩
set_option maxRecDepth 100000 in
theorem kk_J2_232 : Cond.methodLink RJ2 232 mJ2_indexOfSupplementary_4cfef.1 ∈ am_gw ∧ Cond.static mJ2_indexOfSupplementary_4cfef.1 ∈ am_gw := ⟨am_in 722 rfl rfl, am_in 723 rfl rfl⟩
set_option maxRecDepth 100000 in
theorem kk_J2_241 : Cond.methodLink RJ2 241 mJ0_checkBoundsBeginEnd_23922.1 ∈ am_gw ∧ Cond.static mJ0_checkBoundsBeginEnd_23922.1 ∈ am_gw := ⟨am_in 713 rfl rfl, am_in 714 rfl rfl⟩
set_option maxRecDepth 100000 in
theorem kk_J2_244 : Cond.methodLink RJ2 244 mJ2_indexOfCharUnsafe_4cfef.1 ∈ am_gw ∧ Cond.static mJ2_indexOfCharUnsafe_4cfef.1 ∈ am_gw := ⟨am_in 719 rfl rfl, am_in 720 rfl rfl⟩
set_option maxRecDepth 100000 in
theorem kk_J2_414 : Cond.methodLink RJ2 414 mJ0_checkIndex_df160.1 ∈ am_gw ∧ Cond.static mJ0_checkIndex_df160.1 ∈ am_gw := ⟨am_in 622 rfl rfl, am_in 606 rfl rfl⟩
set_option maxRecDepth 100000 in
theorem kac_J7_150 : Cond.methodLink RJ7 150 arraycopyName ∈ am_gw := am_in 761 rfl rfl
set_option maxRecDepth 100000 in
theorem kmm_J7_304 : Cond.methodLink RJ7 304 Lib.Math.min.name ∈ am_gw := am_in 760 rfl rfl
theorem kk_X7_9 : (∃ host, Cond.methodLinkNest RX7 9 mX0_init.1 host ∈ am_nw) ∧ Cond.instanceMethod mX0_init.1 ∈ am_gw ∧ mX0_init.1.name = "<init>" ∧ True := ⟨⟨"DuelLetters", am_inN 28 rfl rfl⟩, am_in 29 rfl rfl, rfl, trivial⟩
set_option maxRecDepth 100000 in
theorem kk_X7_28 : (∃ host, Cond.methodLinkNest RX7 28 mX6_init.1 host ∈ am_nw) ∧ Cond.instanceMethod mX6_init.1 ∈ am_gw ∧ mX6_init.1.name = "<init>" ∧ True := ⟨⟨"DuelLetters", am_inN 116 rfl rfl⟩, am_in 117 rfl rfl, rfl, trivial⟩
set_option maxRecDepth 100000 in
theorem kk_X7_35 : (∃ host, Cond.methodLinkNest RX7 35 mX1_init.1 host ∈ am_nw) ∧ Cond.instanceMethod mX1_init.1 ∈ am_gw ∧ mX1_init.1.name = "<init>" ∧ True := ⟨⟨"DuelLetters", am_inN 132 rfl rfl⟩, am_in 133 rfl rfl, rfl, trivial⟩
set_option maxRecDepth 100000 in
theorem kk_X7_65 : (∃ host, Cond.methodLinkNest RX7 65 mX2_init.1 host ∈ am_nw) ∧ Cond.instanceMethod mX2_init.1 ∈ am_gw ∧ mX2_init.1.name = "<init>" ∧ True := ⟨⟨"DuelLetters", am_inN 192 rfl rfl⟩, am_in 193 rfl rfl, rfl, trivial⟩
set_option maxRecDepth 100000 in
theorem kk_X7_66 : (∃ host, Cond.methodLinkNest RX7 66 mX3_init.1 host ∈ am_nw) ∧ Cond.instanceMethod mX3_init.1 ∈ am_gw ∧ mX3_init.1.name = "<init>" ∧ True := ⟨⟨"DuelLetters", am_inN 210 rfl rfl⟩, am_in 211 rfl rfl, rfl, trivial⟩
set_option maxRecDepth 100000 in
theorem kk_X0_79 : (∃ host, Cond.methodLinkNest RX0 79 mX7_within.1 host ∈ am_nw) ∧ Cond.static mX7_within.1 ∈ am_gw := ⟨⟨"DuelLetters", am_inN 298 rfl rfl⟩, am_in 279 rfl rfl⟩
set_option maxRecDepth 100000 in
theorem kk_X0_87 : (∃ host, Cond.methodLinkNest RX0 87 mX7_carePlace.1 host ∈ am_nw) ∧ Cond.static mX7_carePlace.1 ∈ am_gw := ⟨⟨"DuelLetters", am_inN 332 rfl rfl⟩, am_in 333 rfl rfl⟩
set_option maxRecDepth 100000 in
theorem kk_X0_114 : (∃ host, Cond.methodLinkNest RX0 114 mX7_heldWithin.1 host ∈ am_nw) ∧ Cond.static mX7_heldWithin.1 ∈ am_gw := ⟨⟨"DuelLetters", am_inN 318 rfl rfl⟩, am_in 319 rfl rfl⟩
set_option maxRecDepth 100000 in
theorem kk_X0_143 : (∃ host, Cond.methodLinkNest RX0 143 mX7_isTerm.1 host ∈ am_nw) ∧ Cond.static mX7_isTerm.1 ∈ am_gw := ⟨⟨"DuelLetters", am_inN 423 rfl rfl⟩, am_in 365 rfl rfl⟩
set_option maxRecDepth 100000 in
theorem kk_X1_11 : (∃ host, Cond.methodLinkNest RX1 11 mX4_init.1 host ∈ am_nw) ∧ Cond.instanceMethod mX4_init.1 ∈ am_gw ∧ mX4_init.1.name = "<init>" ∧ True := ⟨⟨"DuelLetters", am_inN 138 rfl rfl⟩, am_in 139 rfl rfl, rfl, trivial⟩
set_option maxRecDepth 100000 in
theorem kk_X2_34 : (∃ host, Cond.methodLinkNest RX2 34 mX7_within.1 host ∈ am_nw) ∧ Cond.static mX7_within.1 ∈ am_gw := ⟨⟨"DuelLetters", am_inN 535 rfl rfl⟩, am_in 279 rfl rfl⟩
set_option maxRecDepth 100000 in
theorem kk_X3_26 : (∃ host, Cond.methodLinkNest RX3 26 mX2_init.1 host ∈ am_nw) ∧ Cond.instanceMethod mX2_init.1 ∈ am_gw ∧ mX2_init.1.name = "<init>" ∧ True := ⟨⟨"DuelLetters", am_inN 215 rfl rfl⟩, am_in 193 rfl rfl, rfl, trivial⟩
set_option maxRecDepth 100000 in
theorem kk_X6_41 : (∃ host, Cond.methodLinkNest RX6 41 mX7_carePlace.1 host ∈ am_nw) ∧ Cond.static mX7_carePlace.1 ∈ am_gw := ⟨⟨"DuelLetters", am_inN 450 rfl rfl⟩, am_in 333 rfl rfl⟩
theorem ko_i : Cond.instanceMethod Lib.objectInit ∈ am_gw := am_in 24 rfl rfl
theorem ko_c : Cond.code Lib.objectInit ⟨#[0xb1]⟩ 1 none ∈ am_gw := am_in 25 rfl rfl
set_option maxRecDepth 100000 in
theorem kmx_min : Cond.static Lib.Math.min.name ∈ am_gw ∧ Cond.initialized "java/lang/Math" ∈ am_gw ∧ Cond.code Lib.Math.min.name Lib.Math.min.code 2 (some .int) ∈ am_gw := ⟨am_in 322 rfl rfl, am_in 10 rfl rfl, am_in 323 rfl rfl⟩
set_option maxRecDepth 100000 in
theorem kmx_max : Cond.static Lib.Math.max.name ∈ am_gw ∧ Cond.initialized "java/lang/Math" ∈ am_gw ∧ Cond.code Lib.Math.max.name Lib.Math.max.code 2 (some .int) ∈ am_gw := ⟨am_in 326 rfl rfl, am_in 10 rfl rfl, am_in 327 rfl rfl⟩
set_option maxRecDepth 100000 in
theorem kmx_abs : Cond.static Lib.Math.abs.name ∈ am_gw ∧ Cond.initialized "java/lang/Math" ∈ am_gw ∧ Cond.code Lib.Math.abs.name Lib.Math.abs.code 1 (some .int) ∈ am_gw := ⟨am_in 477 rfl rfl, am_in 10 rfl rfl, am_in 478 rfl rfl⟩
set_option maxRecDepth 100000 in
theorem kac_x : Cond.native arraycopyName ∈ am_gw ∧ Cond.static arraycopyName ∈ am_gw ∧ Cond.initialized "java/lang/System" ∈ am_gw := ⟨am_in 489 rfl rfl, am_in 488 rfl rfl, am_in 12 rfl rfl⟩
abbrev mLaw : am_MD := (x, code, 4, some .boolean)
