def dc_ok (c : ByteArray) : List (Nat × Instr × Nat) → Bool
  | [] => true
  | q :: R => decide (decode c q.1 = .ok q.2) && dc_ok c R
def dc_P (c : ByteArray) : List (Nat × Instr × Nat) → Prop
  | [] => True
  | q :: R => decode c q.1 = .ok q.2 ∧ dc_P c R
theorem dc_cj {c : ByteArray} : ∀ (L : List (Nat × Instr × Nat)), dc_ok c L = true → dc_P c L
  | [], _ => trivial
  | q :: R, h => by
    have h2 : (decide (decode c q.1 = .ok q.2) && dc_ok c R) = true := h
    rw [Bool.and_eq_true] at h2
    exact ⟨of_decide_eq_true h2.1, dc_cj R h2.2⟩
theorem edX0_init_0 : (decode cX0_init 0 = .ok (.aload_n 0, 1)) ∧ (decode cX0_init 1 = .ok (.invokespecial 3, 3)) ∧ (decode cX0_init 4 = .ok (.aload_n 0, 1)) ∧ (decode cX0_init 5 = .ok (.iconst 4, 1)) ∧ (decode cX0_init 6 = .ok (.newarray .int, 2)) ∧ (decode cX0_init 8 = .ok (.dup, 1)) ∧ (decode cX0_init 9 = .ok (.iconst 0, 1)) ∧ (decode cX0_init 10 = .ok (.iconst 5, 1)) ∧ (decode cX0_init 11 = .ok (.iastore, 1)) ∧ (decode cX0_init 12 = .ok (.dup, 1)) ∧ (decode cX0_init 13 = .ok (.iconst 1, 1)) ∧ (decode cX0_init 14 = .ok (.iconst 5, 1)) ∧ (decode cX0_init 15 = .ok (.iastore, 1)) ∧ (decode cX0_init 16 = .ok (.dup, 1)) ∧ (decode cX0_init 17 = .ok (.iconst 2, 1)) ∧ (decode cX0_init 18 = .ok (.iconst 5, 1)) ∧ (decode cX0_init 19 = .ok (.iastore, 1)) ∧ (decode cX0_init 20 = .ok (.dup, 1)) ∧ (decode cX0_init 21 = .ok (.iconst 3, 1)) ∧ (decode cX0_init 22 = .ok (.iconst 5, 1)) ∧ (decode cX0_init 23 = .ok (.iastore, 1)) ∧ (decode cX0_init 24 = .ok (.putfield 9, 3)) ∧ (decode cX0_init 27 = .ok (.aload_n 0, 1)) ∧ (decode cX0_init 28 = .ok (.bipush 8, 2)) ∧ (decode cX0_init 30 = .ok (.newarray .int, 2)) ∧ (decode cX0_init 32 = .ok (.dup, 1)) ∧ (decode cX0_init 33 = .ok (.iconst 0, 1)) ∧ (decode cX0_init 34 = .ok (.iconst 1, 1)) ∧ (decode cX0_init 35 = .ok (.iastore, 1)) ∧ (decode cX0_init 36 = .ok (.dup, 1)) ∧ (decode cX0_init 37 = .ok (.iconst 1, 1)) ∧ (decode cX0_init 38 = .ok (.iconst 1, 1)) ∧ True := dc_cj [(0, .aload_n 0, 1), (1, .invokespecial 3, 3), (4, .aload_n 0, 1), (5, .iconst 4, 1), (6, .newarray .int, 2), (8, .dup, 1), (9, .iconst 0, 1), (10, .iconst 5, 1), (11, .iastore, 1), (12, .dup, 1), (13, .iconst 1, 1), (14, .iconst 5, 1), (15, .iastore, 1), (16, .dup, 1), (17, .iconst 2, 1), (18, .iconst 5, 1), (19, .iastore, 1), (20, .dup, 1), (21, .iconst 3, 1), (22, .iconst 5, 1), (23, .iastore, 1), (24, .putfield 9, 3), (27, .aload_n 0, 1), (28, .bipush 8, 2), (30, .newarray .int, 2), (32, .dup, 1), (33, .iconst 0, 1), (34, .iconst 1, 1), (35, .iastore, 1), (36, .dup, 1), (37, .iconst 1, 1), (38, .iconst 1, 1)] (by decide +kernel)
theorem dX0_init_0 : decode cX0_init 0 = .ok (.aload_n 0, 1) := edX0_init_0.1
theorem dX0_init_1 : decode cX0_init 1 = .ok (.invokespecial 3, 3) := edX0_init_0.2.1
theorem dX0_init_4 : decode cX0_init 4 = .ok (.aload_n 0, 1) := edX0_init_0.2.2.1
theorem dX0_init_5 : decode cX0_init 5 = .ok (.iconst 4, 1) := edX0_init_0.2.2.2.1
theorem dX0_init_6 : decode cX0_init 6 = .ok (.newarray .int, 2) := edX0_init_0.2.2.2.2.1
theorem dX0_init_8 : decode cX0_init 8 = .ok (.dup, 1) := edX0_init_0.2.2.2.2.2.1
theorem dX0_init_9 : decode cX0_init 9 = .ok (.iconst 0, 1) := edX0_init_0.2.2.2.2.2.2.1
theorem dX0_init_10 : decode cX0_init 10 = .ok (.iconst 5, 1) := edX0_init_0.2.2.2.2.2.2.2.1
theorem dX0_init_11 : decode cX0_init 11 = .ok (.iastore, 1) := edX0_init_0.2.2.2.2.2.2.2.2.1
theorem dX0_init_12 : decode cX0_init 12 = .ok (.dup, 1) := edX0_init_0.2.2.2.2.2.2.2.2.2.1
theorem dX0_init_13 : decode cX0_init 13 = .ok (.iconst 1, 1) := edX0_init_0.2.2.2.2.2.2.2.2.2.2.1
theorem dX0_init_14 : decode cX0_init 14 = .ok (.iconst 5, 1) := edX0_init_0.2.2.2.2.2.2.2.2.2.2.2.1
theorem dX0_init_15 : decode cX0_init 15 = .ok (.iastore, 1) := edX0_init_0.2.2.2.2.2.2.2.2.2.2.2.2.1
theorem dX0_init_16 : decode cX0_init 16 = .ok (.dup, 1) := edX0_init_0.2.2.2.2.2.2.2.2.2.2.2.2.2.1
theorem dX0_init_17 : decode cX0_init 17 = .ok (.iconst 2, 1) := edX0_init_0.2.2.2.2.2.2.2.2.2.2.2.2.2.2.1
theorem dX0_init_18 : decode cX0_init 18 = .ok (.iconst 5, 1) := edX0_init_0.2.2.2.2.2.2.2.2.2.2.2.2.2.2.2.1
theorem dX0_init_19 : decode cX0_init 19 = .ok (.iastore, 1) := edX0_init_0.2.2.2.2.2.2.2.2.2.2.2.2.2.2.2.2.1
theorem dX0_init_20 : decode cX0_init 20 = .ok (.dup, 1) := edX0_init_0.2.2.2.2.2.2.2.2.2.2.2.2.2.2.2.2.2.1
theorem dX0_init_21 : decode cX0_init 21 = .ok (.iconst 3, 1) := edX0_init_0.2.2.2.2.2.2.2.2.2.2.2.2.2.2.2.2.2.2.1
theorem dX0_init_22 : decode cX0_init 22 = .ok (.iconst 5, 1) := edX0_init_0.2.2.2.2.2.2.2.2.2.2.2.2.2.2.2.2.2.2.2.1
theorem dX0_init_23 : decode cX0_init 23 = .ok (.iastore, 1) := edX0_init_0.2.2.2.2.2.2.2.2.2.2.2.2.2.2.2.2.2.2.2.2.1
theorem dX0_init_24 : decode cX0_init 24 = .ok (.putfield 9, 3) := edX0_init_0.2.2.2.2.2.2.2.2.2.2.2.2.2.2.2.2.2.2.2.2.2.1
theorem dX0_init_27 : decode cX0_init 27 = .ok (.aload_n 0, 1) := edX0_init_0.2.2.2.2.2.2.2.2.2.2.2.2.2.2.2.2.2.2.2.2.2.2.1
theorem dX0_init_28 : decode cX0_init 28 = .ok (.bipush 8, 2) := edX0_init_0.2.2.2.2.2.2.2.2.2.2.2.2.2.2.2.2.2.2.2.2.2.2.2.1
theorem dX0_init_30 : decode cX0_init 30 = .ok (.newarray .int, 2) := edX0_init_0.2.2.2.2.2.2.2.2.2.2.2.2.2.2.2.2.2.2.2.2.2.2.2.2.1
theorem dX0_init_32 : decode cX0_init 32 = .ok (.dup, 1) := edX0_init_0.2.2.2.2.2.2.2.2.2.2.2.2.2.2.2.2.2.2.2.2.2.2.2.2.2.1
theorem dX0_init_33 : decode cX0_init 33 = .ok (.iconst 0, 1) := edX0_init_0.2.2.2.2.2.2.2.2.2.2.2.2.2.2.2.2.2.2.2.2.2.2.2.2.2.2.1
theorem dX0_init_34 : decode cX0_init 34 = .ok (.iconst 1, 1) := edX0_init_0.2.2.2.2.2.2.2.2.2.2.2.2.2.2.2.2.2.2.2.2.2.2.2.2.2.2.2.1
theorem dX0_init_35 : decode cX0_init 35 = .ok (.iastore, 1) := edX0_init_0.2.2.2.2.2.2.2.2.2.2.2.2.2.2.2.2.2.2.2.2.2.2.2.2.2.2.2.2.1
theorem dX0_init_36 : decode cX0_init 36 = .ok (.dup, 1) := edX0_init_0.2.2.2.2.2.2.2.2.2.2.2.2.2.2.2.2.2.2.2.2.2.2.2.2.2.2.2.2.2.1
theorem dX0_init_37 : decode cX0_init 37 = .ok (.iconst 1, 1) := edX0_init_0.2.2.2.2.2.2.2.2.2.2.2.2.2.2.2.2.2.2.2.2.2.2.2.2.2.2.2.2.2.2.1
theorem dX0_init_38 : decode cX0_init 38 = .ok (.iconst 1, 1) := edX0_init_0.2.2.2.2.2.2.2.2.2.2.2.2.2.2.2.2.2.2.2.2.2.2.2.2.2.2.2.2.2.2.2.1
theorem edX0_init_39 : (decode cX0_init 39 = .ok (.iastore, 1)) ∧ (decode cX0_init 40 = .ok (.dup, 1)) ∧ (decode cX0_init 41 = .ok (.iconst 2, 1)) ∧ (decode cX0_init 42 = .ok (.iconst 1, 1)) ∧ (decode cX0_init 43 = .ok (.iastore, 1)) ∧ (decode cX0_init 44 = .ok (.dup, 1)) ∧ (decode cX0_init 45 = .ok (.iconst 3, 1)) ∧ (decode cX0_init 46 = .ok (.iconst 1, 1)) ∧ (decode cX0_init 47 = .ok (.iastore, 1)) ∧ (decode cX0_init 48 = .ok (.dup, 1)) ∧ (decode cX0_init 49 = .ok (.iconst 4, 1)) ∧ (decode cX0_init 50 = .ok (.iconst 1, 1)) ∧ (decode cX0_init 51 = .ok (.iastore, 1)) ∧ (decode cX0_init 52 = .ok (.dup, 1)) ∧ (decode cX0_init 53 = .ok (.iconst 5, 1)) ∧ (decode cX0_init 54 = .ok (.iconst 1, 1)) ∧ (decode cX0_init 55 = .ok (.iastore, 1)) ∧ (decode cX0_init 56 = .ok (.dup, 1)) ∧ (decode cX0_init 57 = .ok (.bipush 6, 2)) ∧ (decode cX0_init 59 = .ok (.iconst 1, 1)) ∧ (decode cX0_init 60 = .ok (.iastore, 1)) ∧ (decode cX0_init 61 = .ok (.dup, 1)) ∧ (decode cX0_init 62 = .ok (.bipush 7, 2)) ∧ (decode cX0_init 64 = .ok (.iconst 1, 1)) ∧ (decode cX0_init 65 = .ok (.iastore, 1)) ∧ (decode cX0_init 66 = .ok (.putfield 15, 3)) ∧ (decode cX0_init 69 = .ok (.aload_n 0, 1)) ∧ (decode cX0_init 70 = .ok (.iconst 2, 1)) ∧ (decode cX0_init 71 = .ok (.newarray .int, 2)) ∧ (decode cX0_init 73 = .ok (.dup, 1)) ∧ (decode cX0_init 74 = .ok (.iconst 0, 1)) ∧ (decode cX0_init 75 = .ok (.bipush 20, 2)) ∧ True := dc_cj [(39, .iastore, 1), (40, .dup, 1), (41, .iconst 2, 1), (42, .iconst 1, 1), (43, .iastore, 1), (44, .dup, 1), (45, .iconst 3, 1), (46, .iconst 1, 1), (47, .iastore, 1), (48, .dup, 1), (49, .iconst 4, 1), (50, .iconst 1, 1), (51, .iastore, 1), (52, .dup, 1), (53, .iconst 5, 1), (54, .iconst 1, 1), (55, .iastore, 1), (56, .dup, 1), (57, .bipush 6, 2), (59, .iconst 1, 1), (60, .iastore, 1), (61, .dup, 1), (62, .bipush 7, 2), (64, .iconst 1, 1), (65, .iastore, 1), (66, .putfield 15, 3), (69, .aload_n 0, 1), (70, .iconst 2, 1), (71, .newarray .int, 2), (73, .dup, 1), (74, .iconst 0, 1), (75, .bipush 20, 2)] (by decide +kernel)
theorem dX0_init_39 : decode cX0_init 39 = .ok (.iastore, 1) := edX0_init_39.1
theorem dX0_init_40 : decode cX0_init 40 = .ok (.dup, 1) := edX0_init_39.2.1
theorem dX0_init_41 : decode cX0_init 41 = .ok (.iconst 2, 1) := edX0_init_39.2.2.1
theorem dX0_init_42 : decode cX0_init 42 = .ok (.iconst 1, 1) := edX0_init_39.2.2.2.1
theorem dX0_init_43 : decode cX0_init 43 = .ok (.iastore, 1) := edX0_init_39.2.2.2.2.1
theorem dX0_init_44 : decode cX0_init 44 = .ok (.dup, 1) := edX0_init_39.2.2.2.2.2.1
theorem dX0_init_45 : decode cX0_init 45 = .ok (.iconst 3, 1) := edX0_init_39.2.2.2.2.2.2.1
theorem dX0_init_46 : decode cX0_init 46 = .ok (.iconst 1, 1) := edX0_init_39.2.2.2.2.2.2.2.1
theorem dX0_init_47 : decode cX0_init 47 = .ok (.iastore, 1) := edX0_init_39.2.2.2.2.2.2.2.2.1
theorem dX0_init_48 : decode cX0_init 48 = .ok (.dup, 1) := edX0_init_39.2.2.2.2.2.2.2.2.2.1
theorem dX0_init_49 : decode cX0_init 49 = .ok (.iconst 4, 1) := edX0_init_39.2.2.2.2.2.2.2.2.2.2.1
theorem dX0_init_50 : decode cX0_init 50 = .ok (.iconst 1, 1) := edX0_init_39.2.2.2.2.2.2.2.2.2.2.2.1
theorem dX0_init_51 : decode cX0_init 51 = .ok (.iastore, 1) := edX0_init_39.2.2.2.2.2.2.2.2.2.2.2.2.1
theorem dX0_init_52 : decode cX0_init 52 = .ok (.dup, 1) := edX0_init_39.2.2.2.2.2.2.2.2.2.2.2.2.2.1
theorem dX0_init_53 : decode cX0_init 53 = .ok (.iconst 5, 1) := edX0_init_39.2.2.2.2.2.2.2.2.2.2.2.2.2.2.1
theorem dX0_init_54 : decode cX0_init 54 = .ok (.iconst 1, 1) := edX0_init_39.2.2.2.2.2.2.2.2.2.2.2.2.2.2.2.1
theorem dX0_init_55 : decode cX0_init 55 = .ok (.iastore, 1) := edX0_init_39.2.2.2.2.2.2.2.2.2.2.2.2.2.2.2.2.1
theorem dX0_init_56 : decode cX0_init 56 = .ok (.dup, 1) := edX0_init_39.2.2.2.2.2.2.2.2.2.2.2.2.2.2.2.2.2.1
theorem dX0_init_57 : decode cX0_init 57 = .ok (.bipush 6, 2) := edX0_init_39.2.2.2.2.2.2.2.2.2.2.2.2.2.2.2.2.2.2.1
theorem dX0_init_59 : decode cX0_init 59 = .ok (.iconst 1, 1) := edX0_init_39.2.2.2.2.2.2.2.2.2.2.2.2.2.2.2.2.2.2.2.1
theorem dX0_init_60 : decode cX0_init 60 = .ok (.iastore, 1) := edX0_init_39.2.2.2.2.2.2.2.2.2.2.2.2.2.2.2.2.2.2.2.2.1
theorem dX0_init_61 : decode cX0_init 61 = .ok (.dup, 1) := edX0_init_39.2.2.2.2.2.2.2.2.2.2.2.2.2.2.2.2.2.2.2.2.2.1
theorem dX0_init_62 : decode cX0_init 62 = .ok (.bipush 7, 2) := edX0_init_39.2.2.2.2.2.2.2.2.2.2.2.2.2.2.2.2.2.2.2.2.2.2.1
theorem dX0_init_64 : decode cX0_init 64 = .ok (.iconst 1, 1) := edX0_init_39.2.2.2.2.2.2.2.2.2.2.2.2.2.2.2.2.2.2.2.2.2.2.2.1
theorem dX0_init_65 : decode cX0_init 65 = .ok (.iastore, 1) := edX0_init_39.2.2.2.2.2.2.2.2.2.2.2.2.2.2.2.2.2.2.2.2.2.2.2.2.1
theorem dX0_init_66 : decode cX0_init 66 = .ok (.putfield 15, 3) := edX0_init_39.2.2.2.2.2.2.2.2.2.2.2.2.2.2.2.2.2.2.2.2.2.2.2.2.2.1
theorem dX0_init_69 : decode cX0_init 69 = .ok (.aload_n 0, 1) := edX0_init_39.2.2.2.2.2.2.2.2.2.2.2.2.2.2.2.2.2.2.2.2.2.2.2.2.2.2.1
theorem dX0_init_70 : decode cX0_init 70 = .ok (.iconst 2, 1) := edX0_init_39.2.2.2.2.2.2.2.2.2.2.2.2.2.2.2.2.2.2.2.2.2.2.2.2.2.2.2.1
theorem dX0_init_71 : decode cX0_init 71 = .ok (.newarray .int, 2) := edX0_init_39.2.2.2.2.2.2.2.2.2.2.2.2.2.2.2.2.2.2.2.2.2.2.2.2.2.2.2.2.1
theorem dX0_init_73 : decode cX0_init 73 = .ok (.dup, 1) := edX0_init_39.2.2.2.2.2.2.2.2.2.2.2.2.2.2.2.2.2.2.2.2.2.2.2.2.2.2.2.2.2.1
theorem dX0_init_74 : decode cX0_init 74 = .ok (.iconst 0, 1) := edX0_init_39.2.2.2.2.2.2.2.2.2.2.2.2.2.2.2.2.2.2.2.2.2.2.2.2.2.2.2.2.2.2.1
theorem dX0_init_75 : decode cX0_init 75 = .ok (.bipush 20, 2) := edX0_init_39.2.2.2.2.2.2.2.2.2.2.2.2.2.2.2.2.2.2.2.2.2.2.2.2.2.2.2.2.2.2.2.1
theorem edX0_init_77 : (decode cX0_init 77 = .ok (.iastore, 1)) ∧ (decode cX0_init 78 = .ok (.dup, 1)) ∧ (decode cX0_init 79 = .ok (.iconst 1, 1)) ∧ (decode cX0_init 80 = .ok (.bipush 20, 2)) ∧ (decode cX0_init 82 = .ok (.iastore, 1)) ∧ (decode cX0_init 83 = .ok (.putfield 18, 3)) ∧ (decode cX0_init 86 = .ok (.aload_n 0, 1)) ∧ (decode cX0_init 87 = .ok (.iconst 0, 1)) ∧ (decode cX0_init 88 = .ok (.putfield 21, 3)) ∧ (decode cX0_init 91 = .ok (.aload_n 0, 1)) ∧ (decode cX0_init 92 = .ok (.bipush 60, 2)) ∧ (decode cX0_init 94 = .ok (.putfield 25, 3)) ∧ (decode cX0_init 97 = .ok (.aload_n 0, 1)) ∧ (decode cX0_init 98 = .ok (.bipush 10, 2)) ∧ (decode cX0_init 100 = .ok (.putfield 28, 3)) ∧ (decode cX0_init 103 = .ok (.aload_n 0, 1)) ∧ (decode cX0_init 104 = .ok (.iconst 0, 1)) ∧ (decode cX0_init 105 = .ok (.putfield 31, 3)) ∧ (decode cX0_init 108 = .ok (.aload_n 0, 1)) ∧ (decode cX0_init 109 = .ok (.iconst 0, 1)) ∧ (decode cX0_init 110 = .ok (.putfield 34, 3)) ∧ (decode cX0_init 113 = .ok (.aload_n 0, 1)) ∧ (decode cX0_init 114 = .ok (.iconst 1, 1)) ∧ (decode cX0_init 115 = .ok (.putfield 37, 3)) ∧ (decode cX0_init 118 = .ok (.aload_n 0, 1)) ∧ (decode cX0_init 119 = .ok (.iconst 0, 1)) ∧ (decode cX0_init 120 = .ok (.putfield 40, 3)) ∧ (decode cX0_init 123 = .ok (.aload_n 0, 1)) ∧ (decode cX0_init 124 = .ok (.bipush 8, 2)) ∧ (decode cX0_init 126 = .ok (.newarray .int, 2)) ∧ (decode cX0_init 128 = .ok (.putfield 43, 3)) ∧ (decode cX0_init 131 = .ok (.aload_n 0, 1)) ∧ True := dc_cj [(77, .iastore, 1), (78, .dup, 1), (79, .iconst 1, 1), (80, .bipush 20, 2), (82, .iastore, 1), (83, .putfield 18, 3), (86, .aload_n 0, 1), (87, .iconst 0, 1), (88, .putfield 21, 3), (91, .aload_n 0, 1), (92, .bipush 60, 2), (94, .putfield 25, 3), (97, .aload_n 0, 1), (98, .bipush 10, 2), (100, .putfield 28, 3), (103, .aload_n 0, 1), (104, .iconst 0, 1), (105, .putfield 31, 3), (108, .aload_n 0, 1), (109, .iconst 0, 1), (110, .putfield 34, 3), (113, .aload_n 0, 1), (114, .iconst 1, 1), (115, .putfield 37, 3), (118, .aload_n 0, 1), (119, .iconst 0, 1), (120, .putfield 40, 3), (123, .aload_n 0, 1), (124, .bipush 8, 2), (126, .newarray .int, 2), (128, .putfield 43, 3), (131, .aload_n 0, 1)] (by decide +kernel)
theorem dX0_init_77 : decode cX0_init 77 = .ok (.iastore, 1) := edX0_init_77.1
theorem dX0_init_78 : decode cX0_init 78 = .ok (.dup, 1) := edX0_init_77.2.1
theorem dX0_init_79 : decode cX0_init 79 = .ok (.iconst 1, 1) := edX0_init_77.2.2.1
theorem dX0_init_80 : decode cX0_init 80 = .ok (.bipush 20, 2) := edX0_init_77.2.2.2.1
theorem dX0_init_82 : decode cX0_init 82 = .ok (.iastore, 1) := edX0_init_77.2.2.2.2.1
theorem dX0_init_83 : decode cX0_init 83 = .ok (.putfield 18, 3) := edX0_init_77.2.2.2.2.2.1
theorem dX0_init_86 : decode cX0_init 86 = .ok (.aload_n 0, 1) := edX0_init_77.2.2.2.2.2.2.1
theorem dX0_init_87 : decode cX0_init 87 = .ok (.iconst 0, 1) := edX0_init_77.2.2.2.2.2.2.2.1
theorem dX0_init_88 : decode cX0_init 88 = .ok (.putfield 21, 3) := edX0_init_77.2.2.2.2.2.2.2.2.1
theorem dX0_init_91 : decode cX0_init 91 = .ok (.aload_n 0, 1) := edX0_init_77.2.2.2.2.2.2.2.2.2.1
theorem dX0_init_92 : decode cX0_init 92 = .ok (.bipush 60, 2) := edX0_init_77.2.2.2.2.2.2.2.2.2.2.1
theorem dX0_init_94 : decode cX0_init 94 = .ok (.putfield 25, 3) := edX0_init_77.2.2.2.2.2.2.2.2.2.2.2.1
theorem dX0_init_97 : decode cX0_init 97 = .ok (.aload_n 0, 1) := edX0_init_77.2.2.2.2.2.2.2.2.2.2.2.2.1
theorem dX0_init_98 : decode cX0_init 98 = .ok (.bipush 10, 2) := edX0_init_77.2.2.2.2.2.2.2.2.2.2.2.2.2.1
theorem dX0_init_100 : decode cX0_init 100 = .ok (.putfield 28, 3) := edX0_init_77.2.2.2.2.2.2.2.2.2.2.2.2.2.2.1
theorem dX0_init_103 : decode cX0_init 103 = .ok (.aload_n 0, 1) := edX0_init_77.2.2.2.2.2.2.2.2.2.2.2.2.2.2.2.1
theorem dX0_init_104 : decode cX0_init 104 = .ok (.iconst 0, 1) := edX0_init_77.2.2.2.2.2.2.2.2.2.2.2.2.2.2.2.2.1
theorem dX0_init_105 : decode cX0_init 105 = .ok (.putfield 31, 3) := edX0_init_77.2.2.2.2.2.2.2.2.2.2.2.2.2.2.2.2.2.1
theorem dX0_init_108 : decode cX0_init 108 = .ok (.aload_n 0, 1) := edX0_init_77.2.2.2.2.2.2.2.2.2.2.2.2.2.2.2.2.2.2.1
theorem dX0_init_109 : decode cX0_init 109 = .ok (.iconst 0, 1) := edX0_init_77.2.2.2.2.2.2.2.2.2.2.2.2.2.2.2.2.2.2.2.1
theorem dX0_init_110 : decode cX0_init 110 = .ok (.putfield 34, 3) := edX0_init_77.2.2.2.2.2.2.2.2.2.2.2.2.2.2.2.2.2.2.2.2.1
theorem dX0_init_113 : decode cX0_init 113 = .ok (.aload_n 0, 1) := edX0_init_77.2.2.2.2.2.2.2.2.2.2.2.2.2.2.2.2.2.2.2.2.2.1
theorem dX0_init_114 : decode cX0_init 114 = .ok (.iconst 1, 1) := edX0_init_77.2.2.2.2.2.2.2.2.2.2.2.2.2.2.2.2.2.2.2.2.2.2.1
theorem dX0_init_115 : decode cX0_init 115 = .ok (.putfield 37, 3) := edX0_init_77.2.2.2.2.2.2.2.2.2.2.2.2.2.2.2.2.2.2.2.2.2.2.2.1
theorem dX0_init_118 : decode cX0_init 118 = .ok (.aload_n 0, 1) := edX0_init_77.2.2.2.2.2.2.2.2.2.2.2.2.2.2.2.2.2.2.2.2.2.2.2.2.1
theorem dX0_init_119 : decode cX0_init 119 = .ok (.iconst 0, 1) := edX0_init_77.2.2.2.2.2.2.2.2.2.2.2.2.2.2.2.2.2.2.2.2.2.2.2.2.2.1
theorem dX0_init_120 : decode cX0_init 120 = .ok (.putfield 40, 3) := edX0_init_77.2.2.2.2.2.2.2.2.2.2.2.2.2.2.2.2.2.2.2.2.2.2.2.2.2.2.1
theorem dX0_init_123 : decode cX0_init 123 = .ok (.aload_n 0, 1) := edX0_init_77.2.2.2.2.2.2.2.2.2.2.2.2.2.2.2.2.2.2.2.2.2.2.2.2.2.2.2.1
theorem dX0_init_124 : decode cX0_init 124 = .ok (.bipush 8, 2) := edX0_init_77.2.2.2.2.2.2.2.2.2.2.2.2.2.2.2.2.2.2.2.2.2.2.2.2.2.2.2.2.1
theorem dX0_init_126 : decode cX0_init 126 = .ok (.newarray .int, 2) := edX0_init_77.2.2.2.2.2.2.2.2.2.2.2.2.2.2.2.2.2.2.2.2.2.2.2.2.2.2.2.2.2.1
theorem dX0_init_128 : decode cX0_init 128 = .ok (.putfield 43, 3) := edX0_init_77.2.2.2.2.2.2.2.2.2.2.2.2.2.2.2.2.2.2.2.2.2.2.2.2.2.2.2.2.2.2.1
theorem dX0_init_131 : decode cX0_init 131 = .ok (.aload_n 0, 1) := edX0_init_77.2.2.2.2.2.2.2.2.2.2.2.2.2.2.2.2.2.2.2.2.2.2.2.2.2.2.2.2.2.2.2.1
theorem edX0_init_132 : (decode cX0_init 132 = .ok (.bipush 8, 2)) ∧ (decode cX0_init 134 = .ok (.newarray .int, 2)) ∧ (decode cX0_init 136 = .ok (.putfield 46, 3)) ∧ (decode cX0_init 139 = .ok (.aload_n 0, 1)) ∧ (decode cX0_init 140 = .ok (.bipush 8, 2)) ∧ (decode cX0_init 142 = .ok (.newarray .int, 2)) ∧ (decode cX0_init 144 = .ok (.putfield 49, 3)) ∧ (decode cX0_init 147 = .ok (.aload_n 0, 1)) ∧ (decode cX0_init 148 = .ok (.bipush 8, 2)) ∧ (decode cX0_init 150 = .ok (.newarray .int, 2)) ∧ (decode cX0_init 152 = .ok (.putfield 52, 3)) ∧ (decode cX0_init 155 = .ok (.aload_n 0, 1)) ∧ (decode cX0_init 156 = .ok (.bipush 8, 2)) ∧ (decode cX0_init 158 = .ok (.newarray .int, 2)) ∧ (decode cX0_init 160 = .ok (.putfield 55, 3)) ∧ (decode cX0_init 163 = .ok (.aload_n 0, 1)) ∧ (decode cX0_init 164 = .ok (.bipush 14, 2)) ∧ (decode cX0_init 166 = .ok (.anewarray 58, 3)) ∧ (decode cX0_init 169 = .ok (.putfield 60, 3)) ∧ (decode cX0_init 172 = .ok (.aload_n 0, 1)) ∧ (decode cX0_init 173 = .ok (.iconst 0, 1)) ∧ (decode cX0_init 174 = .ok (.putfield 64, 3)) ∧ (decode cX0_init 177 = .ok (.aload_n 0, 1)) ∧ (decode cX0_init 178 = .ok (.iconst 3, 1)) ∧ (decode cX0_init 179 = .ok (.newarray .int, 2)) ∧ (decode cX0_init 181 = .ok (.dup, 1)) ∧ (decode cX0_init 182 = .ok (.iconst 0, 1)) ∧ (decode cX0_init 183 = .ok (.iconst (-1), 1)) ∧ (decode cX0_init 184 = .ok (.iastore, 1)) ∧ (decode cX0_init 185 = .ok (.dup, 1)) ∧ (decode cX0_init 186 = .ok (.iconst 1, 1)) ∧ (decode cX0_init 187 = .ok (.iconst (-1), 1)) ∧ True := dc_cj [(132, .bipush 8, 2), (134, .newarray .int, 2), (136, .putfield 46, 3), (139, .aload_n 0, 1), (140, .bipush 8, 2), (142, .newarray .int, 2), (144, .putfield 49, 3), (147, .aload_n 0, 1), (148, .bipush 8, 2), (150, .newarray .int, 2), (152, .putfield 52, 3), (155, .aload_n 0, 1), (156, .bipush 8, 2), (158, .newarray .int, 2), (160, .putfield 55, 3), (163, .aload_n 0, 1), (164, .bipush 14, 2), (166, .anewarray 58, 3), (169, .putfield 60, 3), (172, .aload_n 0, 1), (173, .iconst 0, 1), (174, .putfield 64, 3), (177, .aload_n 0, 1), (178, .iconst 3, 1), (179, .newarray .int, 2), (181, .dup, 1), (182, .iconst 0, 1), (183, .iconst (-1), 1), (184, .iastore, 1), (185, .dup, 1), (186, .iconst 1, 1), (187, .iconst (-1), 1)] (by decide +kernel)
theorem dX0_init_132 : decode cX0_init 132 = .ok (.bipush 8, 2) := edX0_init_132.1
theorem dX0_init_134 : decode cX0_init 134 = .ok (.newarray .int, 2) := edX0_init_132.2.1
theorem dX0_init_136 : decode cX0_init 136 = .ok (.putfield 46, 3) := edX0_init_132.2.2.1
theorem dX0_init_139 : decode cX0_init 139 = .ok (.aload_n 0, 1) := edX0_init_132.2.2.2.1
theorem dX0_init_140 : decode cX0_init 140 = .ok (.bipush 8, 2) := edX0_init_132.2.2.2.2.1
theorem dX0_init_142 : decode cX0_init 142 = .ok (.newarray .int, 2) := edX0_init_132.2.2.2.2.2.1
theorem dX0_init_144 : decode cX0_init 144 = .ok (.putfield 49, 3) := edX0_init_132.2.2.2.2.2.2.1
theorem dX0_init_147 : decode cX0_init 147 = .ok (.aload_n 0, 1) := edX0_init_132.2.2.2.2.2.2.2.1
theorem dX0_init_148 : decode cX0_init 148 = .ok (.bipush 8, 2) := edX0_init_132.2.2.2.2.2.2.2.2.1
theorem dX0_init_150 : decode cX0_init 150 = .ok (.newarray .int, 2) := edX0_init_132.2.2.2.2.2.2.2.2.2.1
theorem dX0_init_152 : decode cX0_init 152 = .ok (.putfield 52, 3) := edX0_init_132.2.2.2.2.2.2.2.2.2.2.1
theorem dX0_init_155 : decode cX0_init 155 = .ok (.aload_n 0, 1) := edX0_init_132.2.2.2.2.2.2.2.2.2.2.2.1
theorem dX0_init_156 : decode cX0_init 156 = .ok (.bipush 8, 2) := edX0_init_132.2.2.2.2.2.2.2.2.2.2.2.2.1
theorem dX0_init_158 : decode cX0_init 158 = .ok (.newarray .int, 2) := edX0_init_132.2.2.2.2.2.2.2.2.2.2.2.2.2.1
theorem dX0_init_160 : decode cX0_init 160 = .ok (.putfield 55, 3) := edX0_init_132.2.2.2.2.2.2.2.2.2.2.2.2.2.2.1
theorem dX0_init_163 : decode cX0_init 163 = .ok (.aload_n 0, 1) := edX0_init_132.2.2.2.2.2.2.2.2.2.2.2.2.2.2.2.1
theorem dX0_init_164 : decode cX0_init 164 = .ok (.bipush 14, 2) := edX0_init_132.2.2.2.2.2.2.2.2.2.2.2.2.2.2.2.2.1
theorem dX0_init_166 : decode cX0_init 166 = .ok (.anewarray 58, 3) := edX0_init_132.2.2.2.2.2.2.2.2.2.2.2.2.2.2.2.2.2.1
theorem dX0_init_169 : decode cX0_init 169 = .ok (.putfield 60, 3) := edX0_init_132.2.2.2.2.2.2.2.2.2.2.2.2.2.2.2.2.2.2.1
theorem dX0_init_172 : decode cX0_init 172 = .ok (.aload_n 0, 1) := edX0_init_132.2.2.2.2.2.2.2.2.2.2.2.2.2.2.2.2.2.2.2.1
theorem dX0_init_173 : decode cX0_init 173 = .ok (.iconst 0, 1) := edX0_init_132.2.2.2.2.2.2.2.2.2.2.2.2.2.2.2.2.2.2.2.2.1
theorem dX0_init_174 : decode cX0_init 174 = .ok (.putfield 64, 3) := edX0_init_132.2.2.2.2.2.2.2.2.2.2.2.2.2.2.2.2.2.2.2.2.2.1
theorem dX0_init_177 : decode cX0_init 177 = .ok (.aload_n 0, 1) := edX0_init_132.2.2.2.2.2.2.2.2.2.2.2.2.2.2.2.2.2.2.2.2.2.2.1
theorem dX0_init_178 : decode cX0_init 178 = .ok (.iconst 3, 1) := edX0_init_132.2.2.2.2.2.2.2.2.2.2.2.2.2.2.2.2.2.2.2.2.2.2.2.1
theorem dX0_init_179 : decode cX0_init 179 = .ok (.newarray .int, 2) := edX0_init_132.2.2.2.2.2.2.2.2.2.2.2.2.2.2.2.2.2.2.2.2.2.2.2.2.1
theorem dX0_init_181 : decode cX0_init 181 = .ok (.dup, 1) := edX0_init_132.2.2.2.2.2.2.2.2.2.2.2.2.2.2.2.2.2.2.2.2.2.2.2.2.2.1
theorem dX0_init_182 : decode cX0_init 182 = .ok (.iconst 0, 1) := edX0_init_132.2.2.2.2.2.2.2.2.2.2.2.2.2.2.2.2.2.2.2.2.2.2.2.2.2.2.1
theorem dX0_init_183 : decode cX0_init 183 = .ok (.iconst (-1), 1) := edX0_init_132.2.2.2.2.2.2.2.2.2.2.2.2.2.2.2.2.2.2.2.2.2.2.2.2.2.2.2.1
theorem dX0_init_184 : decode cX0_init 184 = .ok (.iastore, 1) := edX0_init_132.2.2.2.2.2.2.2.2.2.2.2.2.2.2.2.2.2.2.2.2.2.2.2.2.2.2.2.2.1
theorem dX0_init_185 : decode cX0_init 185 = .ok (.dup, 1) := edX0_init_132.2.2.2.2.2.2.2.2.2.2.2.2.2.2.2.2.2.2.2.2.2.2.2.2.2.2.2.2.2.1
theorem dX0_init_186 : decode cX0_init 186 = .ok (.iconst 1, 1) := edX0_init_132.2.2.2.2.2.2.2.2.2.2.2.2.2.2.2.2.2.2.2.2.2.2.2.2.2.2.2.2.2.2.1
theorem dX0_init_187 : decode cX0_init 187 = .ok (.iconst (-1), 1) := edX0_init_132.2.2.2.2.2.2.2.2.2.2.2.2.2.2.2.2.2.2.2.2.2.2.2.2.2.2.2.2.2.2.2.1
theorem edX0_init_188 : (decode cX0_init 188 = .ok (.iastore, 1)) ∧ (decode cX0_init 189 = .ok (.dup, 1)) ∧ (decode cX0_init 190 = .ok (.iconst 2, 1)) ∧ (decode cX0_init 191 = .ok (.iconst (-1), 1)) ∧ (decode cX0_init 192 = .ok (.iastore, 1)) ∧ (decode cX0_init 193 = .ok (.putfield 67, 3)) ∧ (decode cX0_init 196 = .ok (.aload_n 0, 1)) ∧ (decode cX0_init 197 = .ok (.iconst 4, 1)) ∧ (decode cX0_init 198 = .ok (.newarray .int, 2)) ∧ (decode cX0_init 200 = .ok (.putfield 70, 3)) ∧ (decode cX0_init 203 = .ok (.return_, 1)) ∧ True := dc_cj [(188, .iastore, 1), (189, .dup, 1), (190, .iconst 2, 1), (191, .iconst (-1), 1), (192, .iastore, 1), (193, .putfield 67, 3), (196, .aload_n 0, 1), (197, .iconst 4, 1), (198, .newarray .int, 2), (200, .putfield 70, 3), (203, .return_, 1)] (by decide +kernel)
theorem dX0_init_188 : decode cX0_init 188 = .ok (.iastore, 1) := edX0_init_188.1
theorem dX0_init_189 : decode cX0_init 189 = .ok (.dup, 1) := edX0_init_188.2.1
theorem dX0_init_190 : decode cX0_init 190 = .ok (.iconst 2, 1) := edX0_init_188.2.2.1
theorem dX0_init_191 : decode cX0_init 191 = .ok (.iconst (-1), 1) := edX0_init_188.2.2.2.1
theorem dX0_init_192 : decode cX0_init 192 = .ok (.iastore, 1) := edX0_init_188.2.2.2.2.1
theorem dX0_init_193 : decode cX0_init 193 = .ok (.putfield 67, 3) := edX0_init_188.2.2.2.2.2.1
theorem dX0_init_196 : decode cX0_init 196 = .ok (.aload_n 0, 1) := edX0_init_188.2.2.2.2.2.2.1
theorem dX0_init_197 : decode cX0_init 197 = .ok (.iconst 4, 1) := edX0_init_188.2.2.2.2.2.2.2.1
theorem dX0_init_198 : decode cX0_init 198 = .ok (.newarray .int, 2) := edX0_init_188.2.2.2.2.2.2.2.2.1
theorem dX0_init_200 : decode cX0_init 200 = .ok (.putfield 70, 3) := edX0_init_188.2.2.2.2.2.2.2.2.2.1
theorem dX0_init_203 : decode cX0_init 203 = .ok (.return_, 1) := edX0_init_188.2.2.2.2.2.2.2.2.2.2.1
theorem edX0_becomes_0 : (decode cX0_becomes 0 = .ok (.aload_n 1, 1)) ∧ (decode cX0_becomes 1 = .ok (.getfield 9, 3)) ∧ (decode cX0_becomes 4 = .ok (.iconst 0, 1)) ∧ (decode cX0_becomes 5 = .ok (.aload_n 0, 1)) ∧ (decode cX0_becomes 6 = .ok (.getfield 9, 3)) ∧ (decode cX0_becomes 9 = .ok (.iconst 0, 1)) ∧ (decode cX0_becomes 10 = .ok (.iconst 4, 1)) ∧ (decode cX0_becomes 11 = .ok (.invokestatic 73, 3)) ∧ (decode cX0_becomes 14 = .ok (.aload_n 1, 1)) ∧ (decode cX0_becomes 15 = .ok (.getfield 15, 3)) ∧ (decode cX0_becomes 18 = .ok (.iconst 0, 1)) ∧ (decode cX0_becomes 19 = .ok (.aload_n 0, 1)) ∧ (decode cX0_becomes 20 = .ok (.getfield 15, 3)) ∧ (decode cX0_becomes 23 = .ok (.iconst 0, 1)) ∧ (decode cX0_becomes 24 = .ok (.bipush 8, 2)) ∧ (decode cX0_becomes 26 = .ok (.invokestatic 73, 3)) ∧ (decode cX0_becomes 29 = .ok (.aload_n 1, 1)) ∧ (decode cX0_becomes 30 = .ok (.getfield 18, 3)) ∧ (decode cX0_becomes 33 = .ok (.iconst 0, 1)) ∧ (decode cX0_becomes 34 = .ok (.aload_n 0, 1)) ∧ (decode cX0_becomes 35 = .ok (.getfield 18, 3)) ∧ (decode cX0_becomes 38 = .ok (.iconst 0, 1)) ∧ (decode cX0_becomes 39 = .ok (.iconst 2, 1)) ∧ (decode cX0_becomes 40 = .ok (.invokestatic 73, 3)) ∧ (decode cX0_becomes 43 = .ok (.aload_n 0, 1)) ∧ (decode cX0_becomes 44 = .ok (.aload_n 1, 1)) ∧ (decode cX0_becomes 45 = .ok (.getfield 21, 3)) ∧ (decode cX0_becomes 48 = .ok (.putfield 21, 3)) ∧ (decode cX0_becomes 51 = .ok (.aload_n 0, 1)) ∧ (decode cX0_becomes 52 = .ok (.aload_n 1, 1)) ∧ (decode cX0_becomes 53 = .ok (.getfield 25, 3)) ∧ (decode cX0_becomes 56 = .ok (.putfield 25, 3)) ∧ True := dc_cj [(0, .aload_n 1, 1), (1, .getfield 9, 3), (4, .iconst 0, 1), (5, .aload_n 0, 1), (6, .getfield 9, 3), (9, .iconst 0, 1), (10, .iconst 4, 1), (11, .invokestatic 73, 3), (14, .aload_n 1, 1), (15, .getfield 15, 3), (18, .iconst 0, 1), (19, .aload_n 0, 1), (20, .getfield 15, 3), (23, .iconst 0, 1), (24, .bipush 8, 2), (26, .invokestatic 73, 3), (29, .aload_n 1, 1), (30, .getfield 18, 3), (33, .iconst 0, 1), (34, .aload_n 0, 1), (35, .getfield 18, 3), (38, .iconst 0, 1), (39, .iconst 2, 1), (40, .invokestatic 73, 3), (43, .aload_n 0, 1), (44, .aload_n 1, 1), (45, .getfield 21, 3), (48, .putfield 21, 3), (51, .aload_n 0, 1), (52, .aload_n 1, 1), (53, .getfield 25, 3), (56, .putfield 25, 3)] (by decide +kernel)
theorem dX0_becomes_0 : decode cX0_becomes 0 = .ok (.aload_n 1, 1) := edX0_becomes_0.1
theorem dX0_becomes_1 : decode cX0_becomes 1 = .ok (.getfield 9, 3) := edX0_becomes_0.2.1
theorem dX0_becomes_4 : decode cX0_becomes 4 = .ok (.iconst 0, 1) := edX0_becomes_0.2.2.1
theorem dX0_becomes_5 : decode cX0_becomes 5 = .ok (.aload_n 0, 1) := edX0_becomes_0.2.2.2.1
theorem dX0_becomes_6 : decode cX0_becomes 6 = .ok (.getfield 9, 3) := edX0_becomes_0.2.2.2.2.1
theorem dX0_becomes_9 : decode cX0_becomes 9 = .ok (.iconst 0, 1) := edX0_becomes_0.2.2.2.2.2.1
theorem dX0_becomes_10 : decode cX0_becomes 10 = .ok (.iconst 4, 1) := edX0_becomes_0.2.2.2.2.2.2.1
theorem dX0_becomes_11 : decode cX0_becomes 11 = .ok (.invokestatic 73, 3) := edX0_becomes_0.2.2.2.2.2.2.2.1
theorem dX0_becomes_14 : decode cX0_becomes 14 = .ok (.aload_n 1, 1) := edX0_becomes_0.2.2.2.2.2.2.2.2.1
theorem dX0_becomes_15 : decode cX0_becomes 15 = .ok (.getfield 15, 3) := edX0_becomes_0.2.2.2.2.2.2.2.2.2.1
theorem dX0_becomes_18 : decode cX0_becomes 18 = .ok (.iconst 0, 1) := edX0_becomes_0.2.2.2.2.2.2.2.2.2.2.1
theorem dX0_becomes_19 : decode cX0_becomes 19 = .ok (.aload_n 0, 1) := edX0_becomes_0.2.2.2.2.2.2.2.2.2.2.2.1
theorem dX0_becomes_20 : decode cX0_becomes 20 = .ok (.getfield 15, 3) := edX0_becomes_0.2.2.2.2.2.2.2.2.2.2.2.2.1
theorem dX0_becomes_23 : decode cX0_becomes 23 = .ok (.iconst 0, 1) := edX0_becomes_0.2.2.2.2.2.2.2.2.2.2.2.2.2.1
theorem dX0_becomes_24 : decode cX0_becomes 24 = .ok (.bipush 8, 2) := edX0_becomes_0.2.2.2.2.2.2.2.2.2.2.2.2.2.2.1
theorem dX0_becomes_26 : decode cX0_becomes 26 = .ok (.invokestatic 73, 3) := edX0_becomes_0.2.2.2.2.2.2.2.2.2.2.2.2.2.2.2.1
theorem dX0_becomes_29 : decode cX0_becomes 29 = .ok (.aload_n 1, 1) := edX0_becomes_0.2.2.2.2.2.2.2.2.2.2.2.2.2.2.2.2.1
theorem dX0_becomes_30 : decode cX0_becomes 30 = .ok (.getfield 18, 3) := edX0_becomes_0.2.2.2.2.2.2.2.2.2.2.2.2.2.2.2.2.2.1
theorem dX0_becomes_33 : decode cX0_becomes 33 = .ok (.iconst 0, 1) := edX0_becomes_0.2.2.2.2.2.2.2.2.2.2.2.2.2.2.2.2.2.2.1
theorem dX0_becomes_34 : decode cX0_becomes 34 = .ok (.aload_n 0, 1) := edX0_becomes_0.2.2.2.2.2.2.2.2.2.2.2.2.2.2.2.2.2.2.2.1
theorem dX0_becomes_35 : decode cX0_becomes 35 = .ok (.getfield 18, 3) := edX0_becomes_0.2.2.2.2.2.2.2.2.2.2.2.2.2.2.2.2.2.2.2.2.1
theorem dX0_becomes_38 : decode cX0_becomes 38 = .ok (.iconst 0, 1) := edX0_becomes_0.2.2.2.2.2.2.2.2.2.2.2.2.2.2.2.2.2.2.2.2.2.1
theorem dX0_becomes_39 : decode cX0_becomes 39 = .ok (.iconst 2, 1) := edX0_becomes_0.2.2.2.2.2.2.2.2.2.2.2.2.2.2.2.2.2.2.2.2.2.2.1
theorem dX0_becomes_40 : decode cX0_becomes 40 = .ok (.invokestatic 73, 3) := edX0_becomes_0.2.2.2.2.2.2.2.2.2.2.2.2.2.2.2.2.2.2.2.2.2.2.2.1
theorem dX0_becomes_43 : decode cX0_becomes 43 = .ok (.aload_n 0, 1) := edX0_becomes_0.2.2.2.2.2.2.2.2.2.2.2.2.2.2.2.2.2.2.2.2.2.2.2.2.1
theorem dX0_becomes_44 : decode cX0_becomes 44 = .ok (.aload_n 1, 1) := edX0_becomes_0.2.2.2.2.2.2.2.2.2.2.2.2.2.2.2.2.2.2.2.2.2.2.2.2.2.1
theorem dX0_becomes_45 : decode cX0_becomes 45 = .ok (.getfield 21, 3) := edX0_becomes_0.2.2.2.2.2.2.2.2.2.2.2.2.2.2.2.2.2.2.2.2.2.2.2.2.2.2.1
theorem dX0_becomes_48 : decode cX0_becomes 48 = .ok (.putfield 21, 3) := edX0_becomes_0.2.2.2.2.2.2.2.2.2.2.2.2.2.2.2.2.2.2.2.2.2.2.2.2.2.2.2.1
theorem dX0_becomes_51 : decode cX0_becomes 51 = .ok (.aload_n 0, 1) := edX0_becomes_0.2.2.2.2.2.2.2.2.2.2.2.2.2.2.2.2.2.2.2.2.2.2.2.2.2.2.2.2.1
theorem dX0_becomes_52 : decode cX0_becomes 52 = .ok (.aload_n 1, 1) := edX0_becomes_0.2.2.2.2.2.2.2.2.2.2.2.2.2.2.2.2.2.2.2.2.2.2.2.2.2.2.2.2.2.1
theorem dX0_becomes_53 : decode cX0_becomes 53 = .ok (.getfield 25, 3) := edX0_becomes_0.2.2.2.2.2.2.2.2.2.2.2.2.2.2.2.2.2.2.2.2.2.2.2.2.2.2.2.2.2.2.1
theorem dX0_becomes_56 : decode cX0_becomes 56 = .ok (.putfield 25, 3) := edX0_becomes_0.2.2.2.2.2.2.2.2.2.2.2.2.2.2.2.2.2.2.2.2.2.2.2.2.2.2.2.2.2.2.2.1
theorem edX0_becomes_59 : (decode cX0_becomes 59 = .ok (.aload_n 0, 1)) ∧ (decode cX0_becomes 60 = .ok (.aload_n 1, 1)) ∧ (decode cX0_becomes 61 = .ok (.getfield 28, 3)) ∧ (decode cX0_becomes 64 = .ok (.putfield 28, 3)) ∧ (decode cX0_becomes 67 = .ok (.aload_n 0, 1)) ∧ (decode cX0_becomes 68 = .ok (.aload_n 1, 1)) ∧ (decode cX0_becomes 69 = .ok (.getfield 31, 3)) ∧ (decode cX0_becomes 72 = .ok (.putfield 31, 3)) ∧ (decode cX0_becomes 75 = .ok (.aload_n 0, 1)) ∧ (decode cX0_becomes 76 = .ok (.aload_n 1, 1)) ∧ (decode cX0_becomes 77 = .ok (.getfield 34, 3)) ∧ (decode cX0_becomes 80 = .ok (.putfield 34, 3)) ∧ (decode cX0_becomes 83 = .ok (.aload_n 0, 1)) ∧ (decode cX0_becomes 84 = .ok (.aload_n 1, 1)) ∧ (decode cX0_becomes 85 = .ok (.getfield 37, 3)) ∧ (decode cX0_becomes 88 = .ok (.putfield 37, 3)) ∧ (decode cX0_becomes 91 = .ok (.aload_n 0, 1)) ∧ (decode cX0_becomes 92 = .ok (.aload_n 1, 1)) ∧ (decode cX0_becomes 93 = .ok (.getfield 40, 3)) ∧ (decode cX0_becomes 96 = .ok (.putfield 40, 3)) ∧ (decode cX0_becomes 99 = .ok (.aload_n 1, 1)) ∧ (decode cX0_becomes 100 = .ok (.getfield 43, 3)) ∧ (decode cX0_becomes 103 = .ok (.iconst 0, 1)) ∧ (decode cX0_becomes 104 = .ok (.aload_n 0, 1)) ∧ (decode cX0_becomes 105 = .ok (.getfield 43, 3)) ∧ (decode cX0_becomes 108 = .ok (.iconst 0, 1)) ∧ (decode cX0_becomes 109 = .ok (.bipush 8, 2)) ∧ (decode cX0_becomes 111 = .ok (.invokestatic 73, 3)) ∧ (decode cX0_becomes 114 = .ok (.aload_n 1, 1)) ∧ (decode cX0_becomes 115 = .ok (.getfield 46, 3)) ∧ (decode cX0_becomes 118 = .ok (.iconst 0, 1)) ∧ (decode cX0_becomes 119 = .ok (.aload_n 0, 1)) ∧ True := dc_cj [(59, .aload_n 0, 1), (60, .aload_n 1, 1), (61, .getfield 28, 3), (64, .putfield 28, 3), (67, .aload_n 0, 1), (68, .aload_n 1, 1), (69, .getfield 31, 3), (72, .putfield 31, 3), (75, .aload_n 0, 1), (76, .aload_n 1, 1), (77, .getfield 34, 3), (80, .putfield 34, 3), (83, .aload_n 0, 1), (84, .aload_n 1, 1), (85, .getfield 37, 3), (88, .putfield 37, 3), (91, .aload_n 0, 1), (92, .aload_n 1, 1), (93, .getfield 40, 3), (96, .putfield 40, 3), (99, .aload_n 1, 1), (100, .getfield 43, 3), (103, .iconst 0, 1), (104, .aload_n 0, 1), (105, .getfield 43, 3), (108, .iconst 0, 1), (109, .bipush 8, 2), (111, .invokestatic 73, 3), (114, .aload_n 1, 1), (115, .getfield 46, 3), (118, .iconst 0, 1), (119, .aload_n 0, 1)] (by decide +kernel)
theorem dX0_becomes_59 : decode cX0_becomes 59 = .ok (.aload_n 0, 1) := edX0_becomes_59.1
theorem dX0_becomes_60 : decode cX0_becomes 60 = .ok (.aload_n 1, 1) := edX0_becomes_59.2.1
theorem dX0_becomes_61 : decode cX0_becomes 61 = .ok (.getfield 28, 3) := edX0_becomes_59.2.2.1
theorem dX0_becomes_64 : decode cX0_becomes 64 = .ok (.putfield 28, 3) := edX0_becomes_59.2.2.2.1
theorem dX0_becomes_67 : decode cX0_becomes 67 = .ok (.aload_n 0, 1) := edX0_becomes_59.2.2.2.2.1
theorem dX0_becomes_68 : decode cX0_becomes 68 = .ok (.aload_n 1, 1) := edX0_becomes_59.2.2.2.2.2.1
theorem dX0_becomes_69 : decode cX0_becomes 69 = .ok (.getfield 31, 3) := edX0_becomes_59.2.2.2.2.2.2.1
theorem dX0_becomes_72 : decode cX0_becomes 72 = .ok (.putfield 31, 3) := edX0_becomes_59.2.2.2.2.2.2.2.1
theorem dX0_becomes_75 : decode cX0_becomes 75 = .ok (.aload_n 0, 1) := edX0_becomes_59.2.2.2.2.2.2.2.2.1
theorem dX0_becomes_76 : decode cX0_becomes 76 = .ok (.aload_n 1, 1) := edX0_becomes_59.2.2.2.2.2.2.2.2.2.1
theorem dX0_becomes_77 : decode cX0_becomes 77 = .ok (.getfield 34, 3) := edX0_becomes_59.2.2.2.2.2.2.2.2.2.2.1
theorem dX0_becomes_80 : decode cX0_becomes 80 = .ok (.putfield 34, 3) := edX0_becomes_59.2.2.2.2.2.2.2.2.2.2.2.1
theorem dX0_becomes_83 : decode cX0_becomes 83 = .ok (.aload_n 0, 1) := edX0_becomes_59.2.2.2.2.2.2.2.2.2.2.2.2.1
theorem dX0_becomes_84 : decode cX0_becomes 84 = .ok (.aload_n 1, 1) := edX0_becomes_59.2.2.2.2.2.2.2.2.2.2.2.2.2.1
theorem dX0_becomes_85 : decode cX0_becomes 85 = .ok (.getfield 37, 3) := edX0_becomes_59.2.2.2.2.2.2.2.2.2.2.2.2.2.2.1
theorem dX0_becomes_88 : decode cX0_becomes 88 = .ok (.putfield 37, 3) := edX0_becomes_59.2.2.2.2.2.2.2.2.2.2.2.2.2.2.2.1
theorem dX0_becomes_91 : decode cX0_becomes 91 = .ok (.aload_n 0, 1) := edX0_becomes_59.2.2.2.2.2.2.2.2.2.2.2.2.2.2.2.2.1
theorem dX0_becomes_92 : decode cX0_becomes 92 = .ok (.aload_n 1, 1) := edX0_becomes_59.2.2.2.2.2.2.2.2.2.2.2.2.2.2.2.2.2.1
theorem dX0_becomes_93 : decode cX0_becomes 93 = .ok (.getfield 40, 3) := edX0_becomes_59.2.2.2.2.2.2.2.2.2.2.2.2.2.2.2.2.2.2.1
theorem dX0_becomes_96 : decode cX0_becomes 96 = .ok (.putfield 40, 3) := edX0_becomes_59.2.2.2.2.2.2.2.2.2.2.2.2.2.2.2.2.2.2.2.1
theorem dX0_becomes_99 : decode cX0_becomes 99 = .ok (.aload_n 1, 1) := edX0_becomes_59.2.2.2.2.2.2.2.2.2.2.2.2.2.2.2.2.2.2.2.2.1
theorem dX0_becomes_100 : decode cX0_becomes 100 = .ok (.getfield 43, 3) := edX0_becomes_59.2.2.2.2.2.2.2.2.2.2.2.2.2.2.2.2.2.2.2.2.2.1
theorem dX0_becomes_103 : decode cX0_becomes 103 = .ok (.iconst 0, 1) := edX0_becomes_59.2.2.2.2.2.2.2.2.2.2.2.2.2.2.2.2.2.2.2.2.2.2.1
theorem dX0_becomes_104 : decode cX0_becomes 104 = .ok (.aload_n 0, 1) := edX0_becomes_59.2.2.2.2.2.2.2.2.2.2.2.2.2.2.2.2.2.2.2.2.2.2.2.1
theorem dX0_becomes_105 : decode cX0_becomes 105 = .ok (.getfield 43, 3) := edX0_becomes_59.2.2.2.2.2.2.2.2.2.2.2.2.2.2.2.2.2.2.2.2.2.2.2.2.1
theorem dX0_becomes_108 : decode cX0_becomes 108 = .ok (.iconst 0, 1) := edX0_becomes_59.2.2.2.2.2.2.2.2.2.2.2.2.2.2.2.2.2.2.2.2.2.2.2.2.2.1
theorem dX0_becomes_109 : decode cX0_becomes 109 = .ok (.bipush 8, 2) := edX0_becomes_59.2.2.2.2.2.2.2.2.2.2.2.2.2.2.2.2.2.2.2.2.2.2.2.2.2.2.1
theorem dX0_becomes_111 : decode cX0_becomes 111 = .ok (.invokestatic 73, 3) := edX0_becomes_59.2.2.2.2.2.2.2.2.2.2.2.2.2.2.2.2.2.2.2.2.2.2.2.2.2.2.2.1
theorem dX0_becomes_114 : decode cX0_becomes 114 = .ok (.aload_n 1, 1) := edX0_becomes_59.2.2.2.2.2.2.2.2.2.2.2.2.2.2.2.2.2.2.2.2.2.2.2.2.2.2.2.2.1
theorem dX0_becomes_115 : decode cX0_becomes 115 = .ok (.getfield 46, 3) := edX0_becomes_59.2.2.2.2.2.2.2.2.2.2.2.2.2.2.2.2.2.2.2.2.2.2.2.2.2.2.2.2.2.1
theorem dX0_becomes_118 : decode cX0_becomes 118 = .ok (.iconst 0, 1) := edX0_becomes_59.2.2.2.2.2.2.2.2.2.2.2.2.2.2.2.2.2.2.2.2.2.2.2.2.2.2.2.2.2.2.1
theorem dX0_becomes_119 : decode cX0_becomes 119 = .ok (.aload_n 0, 1) := edX0_becomes_59.2.2.2.2.2.2.2.2.2.2.2.2.2.2.2.2.2.2.2.2.2.2.2.2.2.2.2.2.2.2.2.1
theorem edX0_becomes_120 : (decode cX0_becomes 120 = .ok (.getfield 46, 3)) ∧ (decode cX0_becomes 123 = .ok (.iconst 0, 1)) ∧ (decode cX0_becomes 124 = .ok (.bipush 8, 2)) ∧ (decode cX0_becomes 126 = .ok (.invokestatic 73, 3)) ∧ (decode cX0_becomes 129 = .ok (.aload_n 1, 1)) ∧ (decode cX0_becomes 130 = .ok (.getfield 49, 3)) ∧ (decode cX0_becomes 133 = .ok (.iconst 0, 1)) ∧ (decode cX0_becomes 134 = .ok (.aload_n 0, 1)) ∧ (decode cX0_becomes 135 = .ok (.getfield 49, 3)) ∧ (decode cX0_becomes 138 = .ok (.iconst 0, 1)) ∧ (decode cX0_becomes 139 = .ok (.bipush 8, 2)) ∧ (decode cX0_becomes 141 = .ok (.invokestatic 73, 3)) ∧ (decode cX0_becomes 144 = .ok (.aload_n 1, 1)) ∧ (decode cX0_becomes 145 = .ok (.getfield 52, 3)) ∧ (decode cX0_becomes 148 = .ok (.iconst 0, 1)) ∧ (decode cX0_becomes 149 = .ok (.aload_n 0, 1)) ∧ (decode cX0_becomes 150 = .ok (.getfield 52, 3)) ∧ (decode cX0_becomes 153 = .ok (.iconst 0, 1)) ∧ (decode cX0_becomes 154 = .ok (.bipush 8, 2)) ∧ (decode cX0_becomes 156 = .ok (.invokestatic 73, 3)) ∧ (decode cX0_becomes 159 = .ok (.aload_n 1, 1)) ∧ (decode cX0_becomes 160 = .ok (.getfield 55, 3)) ∧ (decode cX0_becomes 163 = .ok (.iconst 0, 1)) ∧ (decode cX0_becomes 164 = .ok (.aload_n 0, 1)) ∧ (decode cX0_becomes 165 = .ok (.getfield 55, 3)) ∧ (decode cX0_becomes 168 = .ok (.iconst 0, 1)) ∧ (decode cX0_becomes 169 = .ok (.bipush 8, 2)) ∧ (decode cX0_becomes 171 = .ok (.invokestatic 73, 3)) ∧ (decode cX0_becomes 174 = .ok (.iconst 0, 1)) ∧ (decode cX0_becomes 175 = .ok (.istore_n 2, 1)) ∧ (decode cX0_becomes 176 = .ok (.iload_n 2, 1)) ∧ (decode cX0_becomes 177 = .ok (.bipush 14, 2)) ∧ True := dc_cj [(120, .getfield 46, 3), (123, .iconst 0, 1), (124, .bipush 8, 2), (126, .invokestatic 73, 3), (129, .aload_n 1, 1), (130, .getfield 49, 3), (133, .iconst 0, 1), (134, .aload_n 0, 1), (135, .getfield 49, 3), (138, .iconst 0, 1), (139, .bipush 8, 2), (141, .invokestatic 73, 3), (144, .aload_n 1, 1), (145, .getfield 52, 3), (148, .iconst 0, 1), (149, .aload_n 0, 1), (150, .getfield 52, 3), (153, .iconst 0, 1), (154, .bipush 8, 2), (156, .invokestatic 73, 3), (159, .aload_n 1, 1), (160, .getfield 55, 3), (163, .iconst 0, 1), (164, .aload_n 0, 1), (165, .getfield 55, 3), (168, .iconst 0, 1), (169, .bipush 8, 2), (171, .invokestatic 73, 3), (174, .iconst 0, 1), (175, .istore_n 2, 1), (176, .iload_n 2, 1), (177, .bipush 14, 2)] (by decide +kernel)
theorem dX0_becomes_120 : decode cX0_becomes 120 = .ok (.getfield 46, 3) := edX0_becomes_120.1
theorem dX0_becomes_123 : decode cX0_becomes 123 = .ok (.iconst 0, 1) := edX0_becomes_120.2.1
theorem dX0_becomes_124 : decode cX0_becomes 124 = .ok (.bipush 8, 2) := edX0_becomes_120.2.2.1
theorem dX0_becomes_126 : decode cX0_becomes 126 = .ok (.invokestatic 73, 3) := edX0_becomes_120.2.2.2.1
theorem dX0_becomes_129 : decode cX0_becomes 129 = .ok (.aload_n 1, 1) := edX0_becomes_120.2.2.2.2.1
theorem dX0_becomes_130 : decode cX0_becomes 130 = .ok (.getfield 49, 3) := edX0_becomes_120.2.2.2.2.2.1
theorem dX0_becomes_133 : decode cX0_becomes 133 = .ok (.iconst 0, 1) := edX0_becomes_120.2.2.2.2.2.2.1
theorem dX0_becomes_134 : decode cX0_becomes 134 = .ok (.aload_n 0, 1) := edX0_becomes_120.2.2.2.2.2.2.2.1
theorem dX0_becomes_135 : decode cX0_becomes 135 = .ok (.getfield 49, 3) := edX0_becomes_120.2.2.2.2.2.2.2.2.1
theorem dX0_becomes_138 : decode cX0_becomes 138 = .ok (.iconst 0, 1) := edX0_becomes_120.2.2.2.2.2.2.2.2.2.1
theorem dX0_becomes_139 : decode cX0_becomes 139 = .ok (.bipush 8, 2) := edX0_becomes_120.2.2.2.2.2.2.2.2.2.2.1
theorem dX0_becomes_141 : decode cX0_becomes 141 = .ok (.invokestatic 73, 3) := edX0_becomes_120.2.2.2.2.2.2.2.2.2.2.2.1
theorem dX0_becomes_144 : decode cX0_becomes 144 = .ok (.aload_n 1, 1) := edX0_becomes_120.2.2.2.2.2.2.2.2.2.2.2.2.1
theorem dX0_becomes_145 : decode cX0_becomes 145 = .ok (.getfield 52, 3) := edX0_becomes_120.2.2.2.2.2.2.2.2.2.2.2.2.2.1
theorem dX0_becomes_148 : decode cX0_becomes 148 = .ok (.iconst 0, 1) := edX0_becomes_120.2.2.2.2.2.2.2.2.2.2.2.2.2.2.1
theorem dX0_becomes_149 : decode cX0_becomes 149 = .ok (.aload_n 0, 1) := edX0_becomes_120.2.2.2.2.2.2.2.2.2.2.2.2.2.2.2.1
theorem dX0_becomes_150 : decode cX0_becomes 150 = .ok (.getfield 52, 3) := edX0_becomes_120.2.2.2.2.2.2.2.2.2.2.2.2.2.2.2.2.1
theorem dX0_becomes_153 : decode cX0_becomes 153 = .ok (.iconst 0, 1) := edX0_becomes_120.2.2.2.2.2.2.2.2.2.2.2.2.2.2.2.2.2.1
theorem dX0_becomes_154 : decode cX0_becomes 154 = .ok (.bipush 8, 2) := edX0_becomes_120.2.2.2.2.2.2.2.2.2.2.2.2.2.2.2.2.2.2.1
theorem dX0_becomes_156 : decode cX0_becomes 156 = .ok (.invokestatic 73, 3) := edX0_becomes_120.2.2.2.2.2.2.2.2.2.2.2.2.2.2.2.2.2.2.2.1
theorem dX0_becomes_159 : decode cX0_becomes 159 = .ok (.aload_n 1, 1) := edX0_becomes_120.2.2.2.2.2.2.2.2.2.2.2.2.2.2.2.2.2.2.2.2.1
theorem dX0_becomes_160 : decode cX0_becomes 160 = .ok (.getfield 55, 3) := edX0_becomes_120.2.2.2.2.2.2.2.2.2.2.2.2.2.2.2.2.2.2.2.2.2.1
theorem dX0_becomes_163 : decode cX0_becomes 163 = .ok (.iconst 0, 1) := edX0_becomes_120.2.2.2.2.2.2.2.2.2.2.2.2.2.2.2.2.2.2.2.2.2.2.1
theorem dX0_becomes_164 : decode cX0_becomes 164 = .ok (.aload_n 0, 1) := edX0_becomes_120.2.2.2.2.2.2.2.2.2.2.2.2.2.2.2.2.2.2.2.2.2.2.2.1
theorem dX0_becomes_165 : decode cX0_becomes 165 = .ok (.getfield 55, 3) := edX0_becomes_120.2.2.2.2.2.2.2.2.2.2.2.2.2.2.2.2.2.2.2.2.2.2.2.2.1
theorem dX0_becomes_168 : decode cX0_becomes 168 = .ok (.iconst 0, 1) := edX0_becomes_120.2.2.2.2.2.2.2.2.2.2.2.2.2.2.2.2.2.2.2.2.2.2.2.2.2.1
theorem dX0_becomes_169 : decode cX0_becomes 169 = .ok (.bipush 8, 2) := edX0_becomes_120.2.2.2.2.2.2.2.2.2.2.2.2.2.2.2.2.2.2.2.2.2.2.2.2.2.2.1
theorem dX0_becomes_171 : decode cX0_becomes 171 = .ok (.invokestatic 73, 3) := edX0_becomes_120.2.2.2.2.2.2.2.2.2.2.2.2.2.2.2.2.2.2.2.2.2.2.2.2.2.2.2.1
theorem dX0_becomes_174 : decode cX0_becomes 174 = .ok (.iconst 0, 1) := edX0_becomes_120.2.2.2.2.2.2.2.2.2.2.2.2.2.2.2.2.2.2.2.2.2.2.2.2.2.2.2.2.1
theorem dX0_becomes_175 : decode cX0_becomes 175 = .ok (.istore_n 2, 1) := edX0_becomes_120.2.2.2.2.2.2.2.2.2.2.2.2.2.2.2.2.2.2.2.2.2.2.2.2.2.2.2.2.2.1
theorem dX0_becomes_176 : decode cX0_becomes 176 = .ok (.iload_n 2, 1) := edX0_becomes_120.2.2.2.2.2.2.2.2.2.2.2.2.2.2.2.2.2.2.2.2.2.2.2.2.2.2.2.2.2.2.1
theorem dX0_becomes_177 : decode cX0_becomes 177 = .ok (.bipush 14, 2) := edX0_becomes_120.2.2.2.2.2.2.2.2.2.2.2.2.2.2.2.2.2.2.2.2.2.2.2.2.2.2.2.2.2.2.2.1
theorem edX0_becomes_179 : (decode cX0_becomes 179 = .ok (.if_icmp .ge 21, 3)) ∧ (decode cX0_becomes 182 = .ok (.aload_n 0, 1)) ∧ (decode cX0_becomes 183 = .ok (.getfield 60, 3)) ∧ (decode cX0_becomes 186 = .ok (.iload_n 2, 1)) ∧ (decode cX0_becomes 187 = .ok (.aload_n 1, 1)) ∧ (decode cX0_becomes 188 = .ok (.getfield 60, 3)) ∧ (decode cX0_becomes 191 = .ok (.iload_n 2, 1)) ∧ (decode cX0_becomes 192 = .ok (.aaload, 1)) ∧ (decode cX0_becomes 193 = .ok (.aastore, 1)) ∧ (decode cX0_becomes 194 = .ok (.iinc 2 1, 3)) ∧ (decode cX0_becomes 197 = .ok (.goto (-21), 3)) ∧ (decode cX0_becomes 200 = .ok (.aload_n 0, 1)) ∧ (decode cX0_becomes 201 = .ok (.aload_n 1, 1)) ∧ (decode cX0_becomes 202 = .ok (.getfield 64, 3)) ∧ (decode cX0_becomes 205 = .ok (.putfield 64, 3)) ∧ (decode cX0_becomes 208 = .ok (.aload_n 1, 1)) ∧ (decode cX0_becomes 209 = .ok (.getfield 67, 3)) ∧ (decode cX0_becomes 212 = .ok (.iconst 0, 1)) ∧ (decode cX0_becomes 213 = .ok (.aload_n 0, 1)) ∧ (decode cX0_becomes 214 = .ok (.getfield 67, 3)) ∧ (decode cX0_becomes 217 = .ok (.iconst 0, 1)) ∧ (decode cX0_becomes 218 = .ok (.iconst 3, 1)) ∧ (decode cX0_becomes 219 = .ok (.invokestatic 73, 3)) ∧ (decode cX0_becomes 222 = .ok (.return_, 1)) ∧ True := dc_cj [(179, .if_icmp .ge 21, 3), (182, .aload_n 0, 1), (183, .getfield 60, 3), (186, .iload_n 2, 1), (187, .aload_n 1, 1), (188, .getfield 60, 3), (191, .iload_n 2, 1), (192, .aaload, 1), (193, .aastore, 1), (194, .iinc 2 1, 3), (197, .goto (-21), 3), (200, .aload_n 0, 1), (201, .aload_n 1, 1), (202, .getfield 64, 3), (205, .putfield 64, 3), (208, .aload_n 1, 1), (209, .getfield 67, 3), (212, .iconst 0, 1), (213, .aload_n 0, 1), (214, .getfield 67, 3), (217, .iconst 0, 1), (218, .iconst 3, 1), (219, .invokestatic 73, 3), (222, .return_, 1)] (by decide +kernel)
theorem dX0_becomes_179 : decode cX0_becomes 179 = .ok (.if_icmp .ge 21, 3) := edX0_becomes_179.1
theorem dX0_becomes_182 : decode cX0_becomes 182 = .ok (.aload_n 0, 1) := edX0_becomes_179.2.1
theorem dX0_becomes_183 : decode cX0_becomes 183 = .ok (.getfield 60, 3) := edX0_becomes_179.2.2.1
theorem dX0_becomes_186 : decode cX0_becomes 186 = .ok (.iload_n 2, 1) := edX0_becomes_179.2.2.2.1
theorem dX0_becomes_187 : decode cX0_becomes 187 = .ok (.aload_n 1, 1) := edX0_becomes_179.2.2.2.2.1
theorem dX0_becomes_188 : decode cX0_becomes 188 = .ok (.getfield 60, 3) := edX0_becomes_179.2.2.2.2.2.1
theorem dX0_becomes_191 : decode cX0_becomes 191 = .ok (.iload_n 2, 1) := edX0_becomes_179.2.2.2.2.2.2.1
theorem dX0_becomes_192 : decode cX0_becomes 192 = .ok (.aaload, 1) := edX0_becomes_179.2.2.2.2.2.2.2.1
theorem dX0_becomes_193 : decode cX0_becomes 193 = .ok (.aastore, 1) := edX0_becomes_179.2.2.2.2.2.2.2.2.1
theorem dX0_becomes_194 : decode cX0_becomes 194 = .ok (.iinc 2 1, 3) := edX0_becomes_179.2.2.2.2.2.2.2.2.2.1
theorem dX0_becomes_197 : decode cX0_becomes 197 = .ok (.goto (-21), 3) := edX0_becomes_179.2.2.2.2.2.2.2.2.2.2.1
theorem dX0_becomes_200 : decode cX0_becomes 200 = .ok (.aload_n 0, 1) := edX0_becomes_179.2.2.2.2.2.2.2.2.2.2.2.1
theorem dX0_becomes_201 : decode cX0_becomes 201 = .ok (.aload_n 1, 1) := edX0_becomes_179.2.2.2.2.2.2.2.2.2.2.2.2.1
theorem dX0_becomes_202 : decode cX0_becomes 202 = .ok (.getfield 64, 3) := edX0_becomes_179.2.2.2.2.2.2.2.2.2.2.2.2.2.1
theorem dX0_becomes_205 : decode cX0_becomes 205 = .ok (.putfield 64, 3) := edX0_becomes_179.2.2.2.2.2.2.2.2.2.2.2.2.2.2.1
theorem dX0_becomes_208 : decode cX0_becomes 208 = .ok (.aload_n 1, 1) := edX0_becomes_179.2.2.2.2.2.2.2.2.2.2.2.2.2.2.2.1
theorem dX0_becomes_209 : decode cX0_becomes 209 = .ok (.getfield 67, 3) := edX0_becomes_179.2.2.2.2.2.2.2.2.2.2.2.2.2.2.2.2.1
theorem dX0_becomes_212 : decode cX0_becomes 212 = .ok (.iconst 0, 1) := edX0_becomes_179.2.2.2.2.2.2.2.2.2.2.2.2.2.2.2.2.2.1
theorem dX0_becomes_213 : decode cX0_becomes 213 = .ok (.aload_n 0, 1) := edX0_becomes_179.2.2.2.2.2.2.2.2.2.2.2.2.2.2.2.2.2.2.1
theorem dX0_becomes_214 : decode cX0_becomes 214 = .ok (.getfield 67, 3) := edX0_becomes_179.2.2.2.2.2.2.2.2.2.2.2.2.2.2.2.2.2.2.2.1
theorem dX0_becomes_217 : decode cX0_becomes 217 = .ok (.iconst 0, 1) := edX0_becomes_179.2.2.2.2.2.2.2.2.2.2.2.2.2.2.2.2.2.2.2.2.1
theorem dX0_becomes_218 : decode cX0_becomes 218 = .ok (.iconst 3, 1) := edX0_becomes_179.2.2.2.2.2.2.2.2.2.2.2.2.2.2.2.2.2.2.2.2.2.1
theorem dX0_becomes_219 : decode cX0_becomes 219 = .ok (.invokestatic 73, 3) := edX0_becomes_179.2.2.2.2.2.2.2.2.2.2.2.2.2.2.2.2.2.2.2.2.2.2.1
theorem dX0_becomes_222 : decode cX0_becomes 222 = .ok (.return_, 1) := edX0_becomes_179.2.2.2.2.2.2.2.2.2.2.2.2.2.2.2.2.2.2.2.2.2.2.2.1
theorem edX0_isFriend_0 : (decode cX0_isFriend 0 = .ok (.iload_n 1, 1)) ∧ (decode cX0_isFriend 1 = .ok (.iconst 0, 1)) ∧ (decode cX0_isFriend 2 = .ok (.aload_n 0, 1)) ∧ (decode cX0_isFriend 3 = .ok (.getfield 40, 3)) ∧ (decode cX0_isFriend 6 = .ok (.iconst 1, 1)) ∧ (decode cX0_isFriend 7 = .ok (.isub, 1)) ∧ (decode cX0_isFriend 8 = .ok (.invokestatic 79, 3)) ∧ (decode cX0_isFriend 11 = .ok (.ireturn, 1)) ∧ True := dc_cj [(0, .iload_n 1, 1), (1, .iconst 0, 1), (2, .aload_n 0, 1), (3, .getfield 40, 3), (6, .iconst 1, 1), (7, .isub, 1), (8, .invokestatic 79, 3), (11, .ireturn, 1)] (by decide +kernel)
theorem dX0_isFriend_0 : decode cX0_isFriend 0 = .ok (.iload_n 1, 1) := edX0_isFriend_0.1
theorem dX0_isFriend_1 : decode cX0_isFriend 1 = .ok (.iconst 0, 1) := edX0_isFriend_0.2.1
theorem dX0_isFriend_2 : decode cX0_isFriend 2 = .ok (.aload_n 0, 1) := edX0_isFriend_0.2.2.1
theorem dX0_isFriend_3 : decode cX0_isFriend 3 = .ok (.getfield 40, 3) := edX0_isFriend_0.2.2.2.1
theorem dX0_isFriend_6 : decode cX0_isFriend 6 = .ok (.iconst 1, 1) := edX0_isFriend_0.2.2.2.2.1
theorem dX0_isFriend_7 : decode cX0_isFriend 7 = .ok (.isub, 1) := edX0_isFriend_0.2.2.2.2.2.1
theorem dX0_isFriend_8 : decode cX0_isFriend 8 = .ok (.invokestatic 79, 3) := edX0_isFriend_0.2.2.2.2.2.2.1
theorem dX0_isFriend_11 : decode cX0_isFriend 11 = .ok (.ireturn, 1) := edX0_isFriend_0.2.2.2.2.2.2.2.1
theorem edX0_addFriend_0 : (decode cX0_addFriend 0 = .ok (.aload_n 0, 1)) ∧ (decode cX0_addFriend 1 = .ok (.getfield 40, 3)) ∧ (decode cX0_addFriend 4 = .ok (.bipush 8, 2)) ∧ (decode cX0_addFriend 6 = .ok (.if_icmp .lt 4, 3)) ∧ (decode cX0_addFriend 10 = .ok (.aload_n 0, 1)) ∧ (decode cX0_addFriend 11 = .ok (.getfield 43, 3)) ∧ (decode cX0_addFriend 14 = .ok (.aload_n 0, 1)) ∧ (decode cX0_addFriend 15 = .ok (.getfield 40, 3)) ∧ (decode cX0_addFriend 18 = .ok (.iload_n 1, 1)) ∧ (decode cX0_addFriend 19 = .ok (.iastore, 1)) ∧ (decode cX0_addFriend 20 = .ok (.aload_n 0, 1)) ∧ (decode cX0_addFriend 21 = .ok (.getfield 46, 3)) ∧ (decode cX0_addFriend 24 = .ok (.aload_n 0, 1)) ∧ (decode cX0_addFriend 25 = .ok (.getfield 40, 3)) ∧ (decode cX0_addFriend 28 = .ok (.iload_n 2, 1)) ∧ (decode cX0_addFriend 29 = .ok (.iastore, 1)) ∧ (decode cX0_addFriend 30 = .ok (.aload_n 0, 1)) ∧ (decode cX0_addFriend 31 = .ok (.getfield 49, 3)) ∧ (decode cX0_addFriend 34 = .ok (.aload_n 0, 1)) ∧ (decode cX0_addFriend 35 = .ok (.getfield 40, 3)) ∧ (decode cX0_addFriend 38 = .ok (.iload_n 3, 1)) ∧ (decode cX0_addFriend 39 = .ok (.iastore, 1)) ∧ (decode cX0_addFriend 40 = .ok (.aload_n 0, 1)) ∧ (decode cX0_addFriend 41 = .ok (.getfield 52, 3)) ∧ (decode cX0_addFriend 44 = .ok (.aload_n 0, 1)) ∧ (decode cX0_addFriend 45 = .ok (.getfield 40, 3)) ∧ (decode cX0_addFriend 48 = .ok (.iconst 0, 1)) ∧ (decode cX0_addFriend 49 = .ok (.iastore, 1)) ∧ (decode cX0_addFriend 50 = .ok (.aload_n 0, 1)) ∧ (decode cX0_addFriend 51 = .ok (.getfield 55, 3)) ∧ (decode cX0_addFriend 54 = .ok (.aload_n 0, 1)) ∧ (decode cX0_addFriend 55 = .ok (.getfield 40, 3)) ∧ True := dc_cj [(0, .aload_n 0, 1), (1, .getfield 40, 3), (4, .bipush 8, 2), (6, .if_icmp .lt 4, 3), (10, .aload_n 0, 1), (11, .getfield 43, 3), (14, .aload_n 0, 1), (15, .getfield 40, 3), (18, .iload_n 1, 1), (19, .iastore, 1), (20, .aload_n 0, 1), (21, .getfield 46, 3), (24, .aload_n 0, 1), (25, .getfield 40, 3), (28, .iload_n 2, 1), (29, .iastore, 1), (30, .aload_n 0, 1), (31, .getfield 49, 3), (34, .aload_n 0, 1), (35, .getfield 40, 3), (38, .iload_n 3, 1), (39, .iastore, 1), (40, .aload_n 0, 1), (41, .getfield 52, 3), (44, .aload_n 0, 1), (45, .getfield 40, 3), (48, .iconst 0, 1), (49, .iastore, 1), (50, .aload_n 0, 1), (51, .getfield 55, 3), (54, .aload_n 0, 1), (55, .getfield 40, 3)] (by decide +kernel)
theorem dX0_addFriend_0 : decode cX0_addFriend 0 = .ok (.aload_n 0, 1) := edX0_addFriend_0.1
theorem dX0_addFriend_1 : decode cX0_addFriend 1 = .ok (.getfield 40, 3) := edX0_addFriend_0.2.1
theorem dX0_addFriend_4 : decode cX0_addFriend 4 = .ok (.bipush 8, 2) := edX0_addFriend_0.2.2.1
theorem dX0_addFriend_6 : decode cX0_addFriend 6 = .ok (.if_icmp .lt 4, 3) := edX0_addFriend_0.2.2.2.1
theorem dX0_addFriend_10 : decode cX0_addFriend 10 = .ok (.aload_n 0, 1) := edX0_addFriend_0.2.2.2.2.1
theorem dX0_addFriend_11 : decode cX0_addFriend 11 = .ok (.getfield 43, 3) := edX0_addFriend_0.2.2.2.2.2.1
theorem dX0_addFriend_14 : decode cX0_addFriend 14 = .ok (.aload_n 0, 1) := edX0_addFriend_0.2.2.2.2.2.2.1
theorem dX0_addFriend_15 : decode cX0_addFriend 15 = .ok (.getfield 40, 3) := edX0_addFriend_0.2.2.2.2.2.2.2.1
theorem dX0_addFriend_18 : decode cX0_addFriend 18 = .ok (.iload_n 1, 1) := edX0_addFriend_0.2.2.2.2.2.2.2.2.1
theorem dX0_addFriend_19 : decode cX0_addFriend 19 = .ok (.iastore, 1) := edX0_addFriend_0.2.2.2.2.2.2.2.2.2.1
theorem dX0_addFriend_20 : decode cX0_addFriend 20 = .ok (.aload_n 0, 1) := edX0_addFriend_0.2.2.2.2.2.2.2.2.2.2.1
theorem dX0_addFriend_21 : decode cX0_addFriend 21 = .ok (.getfield 46, 3) := edX0_addFriend_0.2.2.2.2.2.2.2.2.2.2.2.1
theorem dX0_addFriend_24 : decode cX0_addFriend 24 = .ok (.aload_n 0, 1) := edX0_addFriend_0.2.2.2.2.2.2.2.2.2.2.2.2.1
theorem dX0_addFriend_25 : decode cX0_addFriend 25 = .ok (.getfield 40, 3) := edX0_addFriend_0.2.2.2.2.2.2.2.2.2.2.2.2.2.1
theorem dX0_addFriend_28 : decode cX0_addFriend 28 = .ok (.iload_n 2, 1) := edX0_addFriend_0.2.2.2.2.2.2.2.2.2.2.2.2.2.2.1
theorem dX0_addFriend_29 : decode cX0_addFriend 29 = .ok (.iastore, 1) := edX0_addFriend_0.2.2.2.2.2.2.2.2.2.2.2.2.2.2.2.1
theorem dX0_addFriend_30 : decode cX0_addFriend 30 = .ok (.aload_n 0, 1) := edX0_addFriend_0.2.2.2.2.2.2.2.2.2.2.2.2.2.2.2.2.1
theorem dX0_addFriend_31 : decode cX0_addFriend 31 = .ok (.getfield 49, 3) := edX0_addFriend_0.2.2.2.2.2.2.2.2.2.2.2.2.2.2.2.2.2.1
theorem dX0_addFriend_34 : decode cX0_addFriend 34 = .ok (.aload_n 0, 1) := edX0_addFriend_0.2.2.2.2.2.2.2.2.2.2.2.2.2.2.2.2.2.2.1
theorem dX0_addFriend_35 : decode cX0_addFriend 35 = .ok (.getfield 40, 3) := edX0_addFriend_0.2.2.2.2.2.2.2.2.2.2.2.2.2.2.2.2.2.2.2.1
theorem dX0_addFriend_38 : decode cX0_addFriend 38 = .ok (.iload_n 3, 1) := edX0_addFriend_0.2.2.2.2.2.2.2.2.2.2.2.2.2.2.2.2.2.2.2.2.1
theorem dX0_addFriend_39 : decode cX0_addFriend 39 = .ok (.iastore, 1) := edX0_addFriend_0.2.2.2.2.2.2.2.2.2.2.2.2.2.2.2.2.2.2.2.2.2.1
theorem dX0_addFriend_40 : decode cX0_addFriend 40 = .ok (.aload_n 0, 1) := edX0_addFriend_0.2.2.2.2.2.2.2.2.2.2.2.2.2.2.2.2.2.2.2.2.2.2.1
theorem dX0_addFriend_41 : decode cX0_addFriend 41 = .ok (.getfield 52, 3) := edX0_addFriend_0.2.2.2.2.2.2.2.2.2.2.2.2.2.2.2.2.2.2.2.2.2.2.2.1
theorem dX0_addFriend_44 : decode cX0_addFriend 44 = .ok (.aload_n 0, 1) := edX0_addFriend_0.2.2.2.2.2.2.2.2.2.2.2.2.2.2.2.2.2.2.2.2.2.2.2.2.1
theorem dX0_addFriend_45 : decode cX0_addFriend 45 = .ok (.getfield 40, 3) := edX0_addFriend_0.2.2.2.2.2.2.2.2.2.2.2.2.2.2.2.2.2.2.2.2.2.2.2.2.2.1
theorem dX0_addFriend_48 : decode cX0_addFriend 48 = .ok (.iconst 0, 1) := edX0_addFriend_0.2.2.2.2.2.2.2.2.2.2.2.2.2.2.2.2.2.2.2.2.2.2.2.2.2.2.1
theorem dX0_addFriend_49 : decode cX0_addFriend 49 = .ok (.iastore, 1) := edX0_addFriend_0.2.2.2.2.2.2.2.2.2.2.2.2.2.2.2.2.2.2.2.2.2.2.2.2.2.2.2.1
theorem dX0_addFriend_50 : decode cX0_addFriend 50 = .ok (.aload_n 0, 1) := edX0_addFriend_0.2.2.2.2.2.2.2.2.2.2.2.2.2.2.2.2.2.2.2.2.2.2.2.2.2.2.2.2.1
theorem dX0_addFriend_51 : decode cX0_addFriend 51 = .ok (.getfield 55, 3) := edX0_addFriend_0.2.2.2.2.2.2.2.2.2.2.2.2.2.2.2.2.2.2.2.2.2.2.2.2.2.2.2.2.2.1
theorem dX0_addFriend_54 : decode cX0_addFriend 54 = .ok (.aload_n 0, 1) := edX0_addFriend_0.2.2.2.2.2.2.2.2.2.2.2.2.2.2.2.2.2.2.2.2.2.2.2.2.2.2.2.2.2.2.1
theorem dX0_addFriend_55 : decode cX0_addFriend 55 = .ok (.getfield 40, 3) := edX0_addFriend_0.2.2.2.2.2.2.2.2.2.2.2.2.2.2.2.2.2.2.2.2.2.2.2.2.2.2.2.2.2.2.2.1
theorem edX0_addFriend_58 : (decode cX0_addFriend 58 = .ok (.iconst 0, 1)) ∧ (decode cX0_addFriend 59 = .ok (.iastore, 1)) ∧ (decode cX0_addFriend 60 = .ok (.aload_n 0, 1)) ∧ (decode cX0_addFriend 61 = .ok (.dup, 1)) ∧ (decode cX0_addFriend 62 = .ok (.getfield 40, 3)) ∧ (decode cX0_addFriend 65 = .ok (.iconst 1, 1)) ∧ (decode cX0_addFriend 66 = .ok (.iadd, 1)) ∧ (decode cX0_addFriend 67 = .ok (.putfield 40, 3)) ∧ (decode cX0_addFriend 70 = .ok (.return_, 1)) ∧ True := dc_cj [(58, .iconst 0, 1), (59, .iastore, 1), (60, .aload_n 0, 1), (61, .dup, 1), (62, .getfield 40, 3), (65, .iconst 1, 1), (66, .iadd, 1), (67, .putfield 40, 3), (70, .return_, 1)] (by decide +kernel)
theorem dX0_addFriend_58 : decode cX0_addFriend 58 = .ok (.iconst 0, 1) := edX0_addFriend_58.1
theorem dX0_addFriend_59 : decode cX0_addFriend 59 = .ok (.iastore, 1) := edX0_addFriend_58.2.1
theorem dX0_addFriend_60 : decode cX0_addFriend 60 = .ok (.aload_n 0, 1) := edX0_addFriend_58.2.2.1
theorem dX0_addFriend_61 : decode cX0_addFriend 61 = .ok (.dup, 1) := edX0_addFriend_58.2.2.2.1
theorem dX0_addFriend_62 : decode cX0_addFriend 62 = .ok (.getfield 40, 3) := edX0_addFriend_58.2.2.2.2.1
theorem dX0_addFriend_65 : decode cX0_addFriend 65 = .ok (.iconst 1, 1) := edX0_addFriend_58.2.2.2.2.2.1
theorem dX0_addFriend_66 : decode cX0_addFriend 66 = .ok (.iadd, 1) := edX0_addFriend_58.2.2.2.2.2.2.1
theorem dX0_addFriend_67 : decode cX0_addFriend 67 = .ok (.putfield 40, 3) := edX0_addFriend_58.2.2.2.2.2.2.2.1
theorem dX0_addFriend_70 : decode cX0_addFriend 70 = .ok (.return_, 1) := edX0_addFriend_58.2.2.2.2.2.2.2.2.1
theorem edX0_addText_0 : (decode cX0_addText 0 = .ok (.aload_n 1, 1)) ∧ (decode cX0_addText 1 = .ok (.ifnull 24, 3)) ∧ (decode cX0_addText 4 = .ok (.aload_n 0, 1)) ∧ (decode cX0_addText 5 = .ok (.getfield 64, 3)) ∧ (decode cX0_addText 8 = .ok (.bipush 14, 2)) ∧ (decode cX0_addText 10 = .ok (.if_icmp .ge 15, 3)) ∧ (decode cX0_addText 13 = .ok (.aload_n 1, 1)) ∧ (decode cX0_addText 14 = .ok (.getfield 83, 3)) ∧ (decode cX0_addText 17 = .ok (.iconst 0, 1)) ∧ (decode cX0_addText 18 = .ok (.iconst 2, 1)) ∧ (decode cX0_addText 19 = .ok (.invokestatic 79, 3)) ∧ (decode cX0_addText 22 = .ok (.ifCond .ne 4, 3)) ∧ (decode cX0_addText 26 = .ok (.aload_n 0, 1)) ∧ (decode cX0_addText 27 = .ok (.getfield 60, 3)) ∧ (decode cX0_addText 30 = .ok (.aload_n 0, 1)) ∧ (decode cX0_addText 31 = .ok (.getfield 64, 3)) ∧ (decode cX0_addText 34 = .ok (.aload_n 1, 1)) ∧ (decode cX0_addText 35 = .ok (.aastore, 1)) ∧ (decode cX0_addText 36 = .ok (.aload_n 0, 1)) ∧ (decode cX0_addText 37 = .ok (.getfield 67, 3)) ∧ (decode cX0_addText 40 = .ok (.aload_n 1, 1)) ∧ (decode cX0_addText 41 = .ok (.getfield 83, 3)) ∧ (decode cX0_addText 44 = .ok (.aload_n 0, 1)) ∧ (decode cX0_addText 45 = .ok (.getfield 64, 3)) ∧ (decode cX0_addText 48 = .ok (.iastore, 1)) ∧ (decode cX0_addText 49 = .ok (.aload_n 0, 1)) ∧ (decode cX0_addText 50 = .ok (.dup, 1)) ∧ (decode cX0_addText 51 = .ok (.getfield 64, 3)) ∧ (decode cX0_addText 54 = .ok (.iconst 1, 1)) ∧ (decode cX0_addText 55 = .ok (.iadd, 1)) ∧ (decode cX0_addText 56 = .ok (.putfield 64, 3)) ∧ (decode cX0_addText 59 = .ok (.return_, 1)) ∧ True := dc_cj [(0, .aload_n 1, 1), (1, .ifnull 24, 3), (4, .aload_n 0, 1), (5, .getfield 64, 3), (8, .bipush 14, 2), (10, .if_icmp .ge 15, 3), (13, .aload_n 1, 1), (14, .getfield 83, 3), (17, .iconst 0, 1), (18, .iconst 2, 1), (19, .invokestatic 79, 3), (22, .ifCond .ne 4, 3), (26, .aload_n 0, 1), (27, .getfield 60, 3), (30, .aload_n 0, 1), (31, .getfield 64, 3), (34, .aload_n 1, 1), (35, .aastore, 1), (36, .aload_n 0, 1), (37, .getfield 67, 3), (40, .aload_n 1, 1), (41, .getfield 83, 3), (44, .aload_n 0, 1), (45, .getfield 64, 3), (48, .iastore, 1), (49, .aload_n 0, 1), (50, .dup, 1), (51, .getfield 64, 3), (54, .iconst 1, 1), (55, .iadd, 1), (56, .putfield 64, 3), (59, .return_, 1)] (by decide +kernel)
theorem dX0_addText_0 : decode cX0_addText 0 = .ok (.aload_n 1, 1) := edX0_addText_0.1
theorem dX0_addText_1 : decode cX0_addText 1 = .ok (.ifnull 24, 3) := edX0_addText_0.2.1
theorem dX0_addText_4 : decode cX0_addText 4 = .ok (.aload_n 0, 1) := edX0_addText_0.2.2.1
theorem dX0_addText_5 : decode cX0_addText 5 = .ok (.getfield 64, 3) := edX0_addText_0.2.2.2.1
theorem dX0_addText_8 : decode cX0_addText 8 = .ok (.bipush 14, 2) := edX0_addText_0.2.2.2.2.1
theorem dX0_addText_10 : decode cX0_addText 10 = .ok (.if_icmp .ge 15, 3) := edX0_addText_0.2.2.2.2.2.1
theorem dX0_addText_13 : decode cX0_addText 13 = .ok (.aload_n 1, 1) := edX0_addText_0.2.2.2.2.2.2.1
theorem dX0_addText_14 : decode cX0_addText 14 = .ok (.getfield 83, 3) := edX0_addText_0.2.2.2.2.2.2.2.1
theorem dX0_addText_17 : decode cX0_addText 17 = .ok (.iconst 0, 1) := edX0_addText_0.2.2.2.2.2.2.2.2.1
theorem dX0_addText_18 : decode cX0_addText 18 = .ok (.iconst 2, 1) := edX0_addText_0.2.2.2.2.2.2.2.2.2.1
theorem dX0_addText_19 : decode cX0_addText 19 = .ok (.invokestatic 79, 3) := edX0_addText_0.2.2.2.2.2.2.2.2.2.2.1
theorem dX0_addText_22 : decode cX0_addText 22 = .ok (.ifCond .ne 4, 3) := edX0_addText_0.2.2.2.2.2.2.2.2.2.2.2.1
theorem dX0_addText_26 : decode cX0_addText 26 = .ok (.aload_n 0, 1) := edX0_addText_0.2.2.2.2.2.2.2.2.2.2.2.2.1
theorem dX0_addText_27 : decode cX0_addText 27 = .ok (.getfield 60, 3) := edX0_addText_0.2.2.2.2.2.2.2.2.2.2.2.2.2.1
theorem dX0_addText_30 : decode cX0_addText 30 = .ok (.aload_n 0, 1) := edX0_addText_0.2.2.2.2.2.2.2.2.2.2.2.2.2.2.1
theorem dX0_addText_31 : decode cX0_addText 31 = .ok (.getfield 64, 3) := edX0_addText_0.2.2.2.2.2.2.2.2.2.2.2.2.2.2.2.1
theorem dX0_addText_34 : decode cX0_addText 34 = .ok (.aload_n 1, 1) := edX0_addText_0.2.2.2.2.2.2.2.2.2.2.2.2.2.2.2.2.1
theorem dX0_addText_35 : decode cX0_addText 35 = .ok (.aastore, 1) := edX0_addText_0.2.2.2.2.2.2.2.2.2.2.2.2.2.2.2.2.2.1
theorem dX0_addText_36 : decode cX0_addText 36 = .ok (.aload_n 0, 1) := edX0_addText_0.2.2.2.2.2.2.2.2.2.2.2.2.2.2.2.2.2.2.1
theorem dX0_addText_37 : decode cX0_addText 37 = .ok (.getfield 67, 3) := edX0_addText_0.2.2.2.2.2.2.2.2.2.2.2.2.2.2.2.2.2.2.2.1
theorem dX0_addText_40 : decode cX0_addText 40 = .ok (.aload_n 1, 1) := edX0_addText_0.2.2.2.2.2.2.2.2.2.2.2.2.2.2.2.2.2.2.2.2.1
theorem dX0_addText_41 : decode cX0_addText 41 = .ok (.getfield 83, 3) := edX0_addText_0.2.2.2.2.2.2.2.2.2.2.2.2.2.2.2.2.2.2.2.2.2.1
theorem dX0_addText_44 : decode cX0_addText 44 = .ok (.aload_n 0, 1) := edX0_addText_0.2.2.2.2.2.2.2.2.2.2.2.2.2.2.2.2.2.2.2.2.2.2.1
theorem dX0_addText_45 : decode cX0_addText 45 = .ok (.getfield 64, 3) := edX0_addText_0.2.2.2.2.2.2.2.2.2.2.2.2.2.2.2.2.2.2.2.2.2.2.2.1
theorem dX0_addText_48 : decode cX0_addText 48 = .ok (.iastore, 1) := edX0_addText_0.2.2.2.2.2.2.2.2.2.2.2.2.2.2.2.2.2.2.2.2.2.2.2.2.1
theorem dX0_addText_49 : decode cX0_addText 49 = .ok (.aload_n 0, 1) := edX0_addText_0.2.2.2.2.2.2.2.2.2.2.2.2.2.2.2.2.2.2.2.2.2.2.2.2.2.1
theorem dX0_addText_50 : decode cX0_addText 50 = .ok (.dup, 1) := edX0_addText_0.2.2.2.2.2.2.2.2.2.2.2.2.2.2.2.2.2.2.2.2.2.2.2.2.2.2.1
theorem dX0_addText_51 : decode cX0_addText 51 = .ok (.getfield 64, 3) := edX0_addText_0.2.2.2.2.2.2.2.2.2.2.2.2.2.2.2.2.2.2.2.2.2.2.2.2.2.2.2.1
theorem dX0_addText_54 : decode cX0_addText 54 = .ok (.iconst 1, 1) := edX0_addText_0.2.2.2.2.2.2.2.2.2.2.2.2.2.2.2.2.2.2.2.2.2.2.2.2.2.2.2.2.1
theorem dX0_addText_55 : decode cX0_addText 55 = .ok (.iadd, 1) := edX0_addText_0.2.2.2.2.2.2.2.2.2.2.2.2.2.2.2.2.2.2.2.2.2.2.2.2.2.2.2.2.2.1
theorem dX0_addText_56 : decode cX0_addText 56 = .ok (.putfield 64, 3) := edX0_addText_0.2.2.2.2.2.2.2.2.2.2.2.2.2.2.2.2.2.2.2.2.2.2.2.2.2.2.2.2.2.2.1
theorem dX0_addText_59 : decode cX0_addText 59 = .ok (.return_, 1) := edX0_addText_0.2.2.2.2.2.2.2.2.2.2.2.2.2.2.2.2.2.2.2.2.2.2.2.2.2.2.2.2.2.2.2.1
theorem edX0_textFor_0 : (decode cX0_textFor 0 = .ok (.aload_n 0, 1)) ∧ (decode cX0_textFor 1 = .ok (.getfield 67, 3)) ∧ (decode cX0_textFor 4 = .ok (.iload_n 1, 1)) ∧ (decode cX0_textFor 5 = .ok (.iaload, 1)) ∧ (decode cX0_textFor 6 = .ok (.istore_n 2, 1)) ∧ (decode cX0_textFor 7 = .ok (.iload_n 2, 1)) ∧ (decode cX0_textFor 8 = .ok (.iconst 0, 1)) ∧ (decode cX0_textFor 9 = .ok (.aload_n 0, 1)) ∧ (decode cX0_textFor 10 = .ok (.getfield 64, 3)) ∧ (decode cX0_textFor 13 = .ok (.iconst 1, 1)) ∧ (decode cX0_textFor 14 = .ok (.isub, 1)) ∧ (decode cX0_textFor 15 = .ok (.invokestatic 79, 3)) ∧ (decode cX0_textFor 18 = .ok (.ifCond .eq 12, 3)) ∧ (decode cX0_textFor 21 = .ok (.aload_n 0, 1)) ∧ (decode cX0_textFor 22 = .ok (.getfield 60, 3)) ∧ (decode cX0_textFor 25 = .ok (.iload_n 2, 1)) ∧ (decode cX0_textFor 26 = .ok (.aaload, 1)) ∧ (decode cX0_textFor 27 = .ok (.goto 4, 3)) ∧ (decode cX0_textFor 30 = .ok (.aconst_null, 1)) ∧ (decode cX0_textFor 31 = .ok (.areturn, 1)) ∧ True := dc_cj [(0, .aload_n 0, 1), (1, .getfield 67, 3), (4, .iload_n 1, 1), (5, .iaload, 1), (6, .istore_n 2, 1), (7, .iload_n 2, 1), (8, .iconst 0, 1), (9, .aload_n 0, 1), (10, .getfield 64, 3), (13, .iconst 1, 1), (14, .isub, 1), (15, .invokestatic 79, 3), (18, .ifCond .eq 12, 3), (21, .aload_n 0, 1), (22, .getfield 60, 3), (25, .iload_n 2, 1), (26, .aaload, 1), (27, .goto 4, 3), (30, .aconst_null, 1), (31, .areturn, 1)] (by decide +kernel)
theorem dX0_textFor_0 : decode cX0_textFor 0 = .ok (.aload_n 0, 1) := edX0_textFor_0.1
theorem dX0_textFor_1 : decode cX0_textFor 1 = .ok (.getfield 67, 3) := edX0_textFor_0.2.1
theorem dX0_textFor_4 : decode cX0_textFor 4 = .ok (.iload_n 1, 1) := edX0_textFor_0.2.2.1
theorem dX0_textFor_5 : decode cX0_textFor 5 = .ok (.iaload, 1) := edX0_textFor_0.2.2.2.1
theorem dX0_textFor_6 : decode cX0_textFor 6 = .ok (.istore_n 2, 1) := edX0_textFor_0.2.2.2.2.1
theorem dX0_textFor_7 : decode cX0_textFor 7 = .ok (.iload_n 2, 1) := edX0_textFor_0.2.2.2.2.2.1
theorem dX0_textFor_8 : decode cX0_textFor 8 = .ok (.iconst 0, 1) := edX0_textFor_0.2.2.2.2.2.2.1
theorem dX0_textFor_9 : decode cX0_textFor 9 = .ok (.aload_n 0, 1) := edX0_textFor_0.2.2.2.2.2.2.2.1
theorem dX0_textFor_10 : decode cX0_textFor 10 = .ok (.getfield 64, 3) := edX0_textFor_0.2.2.2.2.2.2.2.2.1
theorem dX0_textFor_13 : decode cX0_textFor 13 = .ok (.iconst 1, 1) := edX0_textFor_0.2.2.2.2.2.2.2.2.2.1
theorem dX0_textFor_14 : decode cX0_textFor 14 = .ok (.isub, 1) := edX0_textFor_0.2.2.2.2.2.2.2.2.2.2.1
theorem dX0_textFor_15 : decode cX0_textFor 15 = .ok (.invokestatic 79, 3) := edX0_textFor_0.2.2.2.2.2.2.2.2.2.2.2.1
theorem dX0_textFor_18 : decode cX0_textFor 18 = .ok (.ifCond .eq 12, 3) := edX0_textFor_0.2.2.2.2.2.2.2.2.2.2.2.2.1
theorem dX0_textFor_21 : decode cX0_textFor 21 = .ok (.aload_n 0, 1) := edX0_textFor_0.2.2.2.2.2.2.2.2.2.2.2.2.2.1
theorem dX0_textFor_22 : decode cX0_textFor 22 = .ok (.getfield 60, 3) := edX0_textFor_0.2.2.2.2.2.2.2.2.2.2.2.2.2.2.1
theorem dX0_textFor_25 : decode cX0_textFor 25 = .ok (.iload_n 2, 1) := edX0_textFor_0.2.2.2.2.2.2.2.2.2.2.2.2.2.2.2.1
theorem dX0_textFor_26 : decode cX0_textFor 26 = .ok (.aaload, 1) := edX0_textFor_0.2.2.2.2.2.2.2.2.2.2.2.2.2.2.2.2.1
theorem dX0_textFor_27 : decode cX0_textFor 27 = .ok (.goto 4, 3) := edX0_textFor_0.2.2.2.2.2.2.2.2.2.2.2.2.2.2.2.2.2.1
theorem dX0_textFor_30 : decode cX0_textFor 30 = .ok (.aconst_null, 1) := edX0_textFor_0.2.2.2.2.2.2.2.2.2.2.2.2.2.2.2.2.2.2.1
theorem dX0_textFor_31 : decode cX0_textFor 31 = .ok (.areturn, 1) := edX0_textFor_0.2.2.2.2.2.2.2.2.2.2.2.2.2.2.2.2.2.2.2.1
theorem edX0_draw_0 : (decode cX0_draw 0 = .ok (.aload_n 0, 1)) ∧ (decode cX0_draw 1 = .ok (.aload_n 0, 1)) ∧ (decode cX0_draw 2 = .ok (.getfield 37, 3)) ∧ (decode cX0_draw 5 = .ok (.ldc 86, 2)) ∧ (decode cX0_draw 7 = .ok (.imul, 1)) ∧ (decode cX0_draw 8 = .ok (.sipush 12345, 3)) ∧ (decode cX0_draw 11 = .ok (.iadd, 1)) ∧ (decode cX0_draw 12 = .ok (.putfield 37, 3)) ∧ (decode cX0_draw 15 = .ok (.aload_n 0, 1)) ∧ (decode cX0_draw 16 = .ok (.getfield 37, 3)) ∧ (decode cX0_draw 19 = .ok (.bipush 8, 2)) ∧ (decode cX0_draw 21 = .ok (.iushr, 1)) ∧ (decode cX0_draw 22 = .ok (.ireturn, 1)) ∧ True := dc_cj [(0, .aload_n 0, 1), (1, .aload_n 0, 1), (2, .getfield 37, 3), (5, .ldc 86, 2), (7, .imul, 1), (8, .sipush 12345, 3), (11, .iadd, 1), (12, .putfield 37, 3), (15, .aload_n 0, 1), (16, .getfield 37, 3), (19, .bipush 8, 2), (21, .iushr, 1), (22, .ireturn, 1)] (by decide +kernel)
theorem dX0_draw_0 : decode cX0_draw 0 = .ok (.aload_n 0, 1) := edX0_draw_0.1
theorem dX0_draw_1 : decode cX0_draw 1 = .ok (.aload_n 0, 1) := edX0_draw_0.2.1
theorem dX0_draw_2 : decode cX0_draw 2 = .ok (.getfield 37, 3) := edX0_draw_0.2.2.1
theorem dX0_draw_5 : decode cX0_draw 5 = .ok (.ldc 86, 2) := edX0_draw_0.2.2.2.1
theorem dX0_draw_7 : decode cX0_draw 7 = .ok (.imul, 1) := edX0_draw_0.2.2.2.2.1
theorem dX0_draw_8 : decode cX0_draw 8 = .ok (.sipush 12345, 3) := edX0_draw_0.2.2.2.2.2.1
theorem dX0_draw_11 : decode cX0_draw 11 = .ok (.iadd, 1) := edX0_draw_0.2.2.2.2.2.2.1
theorem dX0_draw_12 : decode cX0_draw 12 = .ok (.putfield 37, 3) := edX0_draw_0.2.2.2.2.2.2.2.1
theorem dX0_draw_15 : decode cX0_draw 15 = .ok (.aload_n 0, 1) := edX0_draw_0.2.2.2.2.2.2.2.2.1
theorem dX0_draw_16 : decode cX0_draw 16 = .ok (.getfield 37, 3) := edX0_draw_0.2.2.2.2.2.2.2.2.2.1
theorem dX0_draw_19 : decode cX0_draw 19 = .ok (.bipush 8, 2) := edX0_draw_0.2.2.2.2.2.2.2.2.2.2.1
theorem dX0_draw_21 : decode cX0_draw 21 = .ok (.iushr, 1) := edX0_draw_0.2.2.2.2.2.2.2.2.2.2.2.1
theorem dX0_draw_22 : decode cX0_draw 22 = .ok (.ireturn, 1) := edX0_draw_0.2.2.2.2.2.2.2.2.2.2.2.2.1
theorem edX0_hasOf_0 : (decode cX0_hasOf 0 = .ok (.iconst 0, 1)) ∧ (decode cX0_hasOf 1 = .ok (.istore_n 2, 1)) ∧ (decode cX0_hasOf 2 = .ok (.iconst 0, 1)) ∧ (decode cX0_hasOf 3 = .ok (.istore_n 3, 1)) ∧ (decode cX0_hasOf 4 = .ok (.iload_n 3, 1)) ∧ (decode cX0_hasOf 5 = .ok (.iconst 4, 1)) ∧ (decode cX0_hasOf 6 = .ok (.if_icmp .ge 49, 3)) ∧ (decode cX0_hasOf 9 = .ok (.iload_n 1, 1)) ∧ (decode cX0_hasOf 10 = .ok (.ifCond .ne 12, 3)) ∧ (decode cX0_hasOf 13 = .ok (.aload_n 0, 1)) ∧ (decode cX0_hasOf 14 = .ok (.getfield 9, 3)) ∧ (decode cX0_hasOf 17 = .ok (.iload_n 3, 1)) ∧ (decode cX0_hasOf 18 = .ok (.iaload, 1)) ∧ (decode cX0_hasOf 19 = .ok (.goto 12, 3)) ∧ (decode cX0_hasOf 22 = .ok (.bipush 9, 2)) ∧ (decode cX0_hasOf 24 = .ok (.aload_n 0, 1)) ∧ (decode cX0_hasOf 25 = .ok (.getfield 9, 3)) ∧ (decode cX0_hasOf 28 = .ok (.iload_n 3, 1)) ∧ (decode cX0_hasOf 29 = .ok (.iaload, 1)) ∧ (decode cX0_hasOf 30 = .ok (.isub, 1)) ∧ (decode cX0_hasOf 31 = .ok (.istore 4, 2)) ∧ (decode cX0_hasOf 33 = .ok (.iload_n 2, 1)) ∧ (decode cX0_hasOf 34 = .ok (.aload_n 0, 1)) ∧ (decode cX0_hasOf 35 = .ok (.getfield 15, 3)) ∧ (decode cX0_hasOf 38 = .ok (.iload_n 1, 1)) ∧ (decode cX0_hasOf 39 = .ok (.iload_n 3, 1)) ∧ (decode cX0_hasOf 40 = .ok (.invokestatic 87, 3)) ∧ (decode cX0_hasOf 43 = .ok (.iaload, 1)) ∧ (decode cX0_hasOf 44 = .ok (.iload 4, 2)) ∧ (decode cX0_hasOf 46 = .ok (.imul, 1)) ∧ (decode cX0_hasOf 47 = .ok (.iadd, 1)) ∧ (decode cX0_hasOf 48 = .ok (.istore_n 2, 1)) ∧ True := dc_cj [(0, .iconst 0, 1), (1, .istore_n 2, 1), (2, .iconst 0, 1), (3, .istore_n 3, 1), (4, .iload_n 3, 1), (5, .iconst 4, 1), (6, .if_icmp .ge 49, 3), (9, .iload_n 1, 1), (10, .ifCond .ne 12, 3), (13, .aload_n 0, 1), (14, .getfield 9, 3), (17, .iload_n 3, 1), (18, .iaload, 1), (19, .goto 12, 3), (22, .bipush 9, 2), (24, .aload_n 0, 1), (25, .getfield 9, 3), (28, .iload_n 3, 1), (29, .iaload, 1), (30, .isub, 1), (31, .istore 4, 2), (33, .iload_n 2, 1), (34, .aload_n 0, 1), (35, .getfield 15, 3), (38, .iload_n 1, 1), (39, .iload_n 3, 1), (40, .invokestatic 87, 3), (43, .iaload, 1), (44, .iload 4, 2), (46, .imul, 1), (47, .iadd, 1), (48, .istore_n 2, 1)] (by decide +kernel)
theorem dX0_hasOf_0 : decode cX0_hasOf 0 = .ok (.iconst 0, 1) := edX0_hasOf_0.1
theorem dX0_hasOf_1 : decode cX0_hasOf 1 = .ok (.istore_n 2, 1) := edX0_hasOf_0.2.1
theorem dX0_hasOf_2 : decode cX0_hasOf 2 = .ok (.iconst 0, 1) := edX0_hasOf_0.2.2.1
theorem dX0_hasOf_3 : decode cX0_hasOf 3 = .ok (.istore_n 3, 1) := edX0_hasOf_0.2.2.2.1
theorem dX0_hasOf_4 : decode cX0_hasOf 4 = .ok (.iload_n 3, 1) := edX0_hasOf_0.2.2.2.2.1
theorem dX0_hasOf_5 : decode cX0_hasOf 5 = .ok (.iconst 4, 1) := edX0_hasOf_0.2.2.2.2.2.1
theorem dX0_hasOf_6 : decode cX0_hasOf 6 = .ok (.if_icmp .ge 49, 3) := edX0_hasOf_0.2.2.2.2.2.2.1
theorem dX0_hasOf_9 : decode cX0_hasOf 9 = .ok (.iload_n 1, 1) := edX0_hasOf_0.2.2.2.2.2.2.2.1
theorem dX0_hasOf_10 : decode cX0_hasOf 10 = .ok (.ifCond .ne 12, 3) := edX0_hasOf_0.2.2.2.2.2.2.2.2.1
theorem dX0_hasOf_13 : decode cX0_hasOf 13 = .ok (.aload_n 0, 1) := edX0_hasOf_0.2.2.2.2.2.2.2.2.2.1
theorem dX0_hasOf_14 : decode cX0_hasOf 14 = .ok (.getfield 9, 3) := edX0_hasOf_0.2.2.2.2.2.2.2.2.2.2.1
theorem dX0_hasOf_17 : decode cX0_hasOf 17 = .ok (.iload_n 3, 1) := edX0_hasOf_0.2.2.2.2.2.2.2.2.2.2.2.1
theorem dX0_hasOf_18 : decode cX0_hasOf 18 = .ok (.iaload, 1) := edX0_hasOf_0.2.2.2.2.2.2.2.2.2.2.2.2.1
theorem dX0_hasOf_19 : decode cX0_hasOf 19 = .ok (.goto 12, 3) := edX0_hasOf_0.2.2.2.2.2.2.2.2.2.2.2.2.2.1
theorem dX0_hasOf_22 : decode cX0_hasOf 22 = .ok (.bipush 9, 2) := edX0_hasOf_0.2.2.2.2.2.2.2.2.2.2.2.2.2.2.1
theorem dX0_hasOf_24 : decode cX0_hasOf 24 = .ok (.aload_n 0, 1) := edX0_hasOf_0.2.2.2.2.2.2.2.2.2.2.2.2.2.2.2.1
theorem dX0_hasOf_25 : decode cX0_hasOf 25 = .ok (.getfield 9, 3) := edX0_hasOf_0.2.2.2.2.2.2.2.2.2.2.2.2.2.2.2.2.1
theorem dX0_hasOf_28 : decode cX0_hasOf 28 = .ok (.iload_n 3, 1) := edX0_hasOf_0.2.2.2.2.2.2.2.2.2.2.2.2.2.2.2.2.2.1
theorem dX0_hasOf_29 : decode cX0_hasOf 29 = .ok (.iaload, 1) := edX0_hasOf_0.2.2.2.2.2.2.2.2.2.2.2.2.2.2.2.2.2.2.1
theorem dX0_hasOf_30 : decode cX0_hasOf 30 = .ok (.isub, 1) := edX0_hasOf_0.2.2.2.2.2.2.2.2.2.2.2.2.2.2.2.2.2.2.2.1
theorem dX0_hasOf_31 : decode cX0_hasOf 31 = .ok (.istore 4, 2) := edX0_hasOf_0.2.2.2.2.2.2.2.2.2.2.2.2.2.2.2.2.2.2.2.2.1
theorem dX0_hasOf_33 : decode cX0_hasOf 33 = .ok (.iload_n 2, 1) := edX0_hasOf_0.2.2.2.2.2.2.2.2.2.2.2.2.2.2.2.2.2.2.2.2.2.1
theorem dX0_hasOf_34 : decode cX0_hasOf 34 = .ok (.aload_n 0, 1) := edX0_hasOf_0.2.2.2.2.2.2.2.2.2.2.2.2.2.2.2.2.2.2.2.2.2.2.1
theorem dX0_hasOf_35 : decode cX0_hasOf 35 = .ok (.getfield 15, 3) := edX0_hasOf_0.2.2.2.2.2.2.2.2.2.2.2.2.2.2.2.2.2.2.2.2.2.2.2.1
theorem dX0_hasOf_38 : decode cX0_hasOf 38 = .ok (.iload_n 1, 1) := edX0_hasOf_0.2.2.2.2.2.2.2.2.2.2.2.2.2.2.2.2.2.2.2.2.2.2.2.2.1
theorem dX0_hasOf_39 : decode cX0_hasOf 39 = .ok (.iload_n 3, 1) := edX0_hasOf_0.2.2.2.2.2.2.2.2.2.2.2.2.2.2.2.2.2.2.2.2.2.2.2.2.2.1
theorem dX0_hasOf_40 : decode cX0_hasOf 40 = .ok (.invokestatic 87, 3) := edX0_hasOf_0.2.2.2.2.2.2.2.2.2.2.2.2.2.2.2.2.2.2.2.2.2.2.2.2.2.2.1
theorem dX0_hasOf_43 : decode cX0_hasOf 43 = .ok (.iaload, 1) := edX0_hasOf_0.2.2.2.2.2.2.2.2.2.2.2.2.2.2.2.2.2.2.2.2.2.2.2.2.2.2.2.1
theorem dX0_hasOf_44 : decode cX0_hasOf 44 = .ok (.iload 4, 2) := edX0_hasOf_0.2.2.2.2.2.2.2.2.2.2.2.2.2.2.2.2.2.2.2.2.2.2.2.2.2.2.2.2.1
theorem dX0_hasOf_46 : decode cX0_hasOf 46 = .ok (.imul, 1) := edX0_hasOf_0.2.2.2.2.2.2.2.2.2.2.2.2.2.2.2.2.2.2.2.2.2.2.2.2.2.2.2.2.2.1
theorem dX0_hasOf_47 : decode cX0_hasOf 47 = .ok (.iadd, 1) := edX0_hasOf_0.2.2.2.2.2.2.2.2.2.2.2.2.2.2.2.2.2.2.2.2.2.2.2.2.2.2.2.2.2.2.1
theorem dX0_hasOf_48 : decode cX0_hasOf 48 = .ok (.istore_n 2, 1) := edX0_hasOf_0.2.2.2.2.2.2.2.2.2.2.2.2.2.2.2.2.2.2.2.2.2.2.2.2.2.2.2.2.2.2.2.1
theorem edX0_hasOf_49 : (decode cX0_hasOf 49 = .ok (.iinc 3 1, 3)) ∧ (decode cX0_hasOf 52 = .ok (.goto (-48), 3)) ∧ (decode cX0_hasOf 55 = .ok (.iload_n 2, 1)) ∧ (decode cX0_hasOf 56 = .ok (.ireturn, 1)) ∧ True := dc_cj [(49, .iinc 3 1, 3), (52, .goto (-48), 3), (55, .iload_n 2, 1), (56, .ireturn, 1)] (by decide +kernel)
theorem dX0_hasOf_49 : decode cX0_hasOf 49 = .ok (.iinc 3 1, 3) := edX0_hasOf_49.1
theorem dX0_hasOf_52 : decode cX0_hasOf 52 = .ok (.goto (-48), 3) := edX0_hasOf_49.2.1
theorem dX0_hasOf_55 : decode cX0_hasOf 55 = .ok (.iload_n 2, 1) := edX0_hasOf_49.2.2.1
theorem dX0_hasOf_56 : decode cX0_hasOf 56 = .ok (.ireturn, 1) := edX0_hasOf_49.2.2.2.1
theorem edX0_isPeace_0 : (decode cX0_isPeace 0 = .ok (.aload_n 0, 1)) ∧ (decode cX0_isPeace 1 = .ok (.iconst 0, 1)) ∧ (decode cX0_isPeace 2 = .ok (.invokevirtual 91, 3)) ∧ (decode cX0_isPeace 5 = .ok (.aload_n 0, 1)) ∧ (decode cX0_isPeace 6 = .ok (.getfield 18, 3)) ∧ (decode cX0_isPeace 9 = .ok (.iconst 0, 1)) ∧ (decode cX0_isPeace 10 = .ok (.iaload, 1)) ∧ (decode cX0_isPeace 11 = .ok (.if_icmp .lt 21, 3)) ∧ (decode cX0_isPeace 14 = .ok (.aload_n 0, 1)) ∧ (decode cX0_isPeace 15 = .ok (.iconst 1, 1)) ∧ (decode cX0_isPeace 16 = .ok (.invokevirtual 91, 3)) ∧ (decode cX0_isPeace 19 = .ok (.aload_n 0, 1)) ∧ (decode cX0_isPeace 20 = .ok (.getfield 18, 3)) ∧ (decode cX0_isPeace 23 = .ok (.iconst 1, 1)) ∧ (decode cX0_isPeace 24 = .ok (.iaload, 1)) ∧ (decode cX0_isPeace 25 = .ok (.if_icmp .lt 7, 3)) ∧ (decode cX0_isPeace 28 = .ok (.iconst 1, 1)) ∧ (decode cX0_isPeace 29 = .ok (.goto 4, 3)) ∧ (decode cX0_isPeace 32 = .ok (.iconst 0, 1)) ∧ (decode cX0_isPeace 33 = .ok (.ireturn, 1)) ∧ True := dc_cj [(0, .aload_n 0, 1), (1, .iconst 0, 1), (2, .invokevirtual 91, 3), (5, .aload_n 0, 1), (6, .getfield 18, 3), (9, .iconst 0, 1), (10, .iaload, 1), (11, .if_icmp .lt 21, 3), (14, .aload_n 0, 1), (15, .iconst 1, 1), (16, .invokevirtual 91, 3), (19, .aload_n 0, 1), (20, .getfield 18, 3), (23, .iconst 1, 1), (24, .iaload, 1), (25, .if_icmp .lt 7, 3), (28, .iconst 1, 1), (29, .goto 4, 3), (32, .iconst 0, 1), (33, .ireturn, 1)] (by decide +kernel)
theorem dX0_isPeace_0 : decode cX0_isPeace 0 = .ok (.aload_n 0, 1) := edX0_isPeace_0.1
theorem dX0_isPeace_1 : decode cX0_isPeace 1 = .ok (.iconst 0, 1) := edX0_isPeace_0.2.1
theorem dX0_isPeace_2 : decode cX0_isPeace 2 = .ok (.invokevirtual 91, 3) := edX0_isPeace_0.2.2.1
theorem dX0_isPeace_5 : decode cX0_isPeace 5 = .ok (.aload_n 0, 1) := edX0_isPeace_0.2.2.2.1
theorem dX0_isPeace_6 : decode cX0_isPeace 6 = .ok (.getfield 18, 3) := edX0_isPeace_0.2.2.2.2.1
theorem dX0_isPeace_9 : decode cX0_isPeace 9 = .ok (.iconst 0, 1) := edX0_isPeace_0.2.2.2.2.2.1
theorem dX0_isPeace_10 : decode cX0_isPeace 10 = .ok (.iaload, 1) := edX0_isPeace_0.2.2.2.2.2.2.1
theorem dX0_isPeace_11 : decode cX0_isPeace 11 = .ok (.if_icmp .lt 21, 3) := edX0_isPeace_0.2.2.2.2.2.2.2.1
theorem dX0_isPeace_14 : decode cX0_isPeace 14 = .ok (.aload_n 0, 1) := edX0_isPeace_0.2.2.2.2.2.2.2.2.1
theorem dX0_isPeace_15 : decode cX0_isPeace 15 = .ok (.iconst 1, 1) := edX0_isPeace_0.2.2.2.2.2.2.2.2.2.1
theorem dX0_isPeace_16 : decode cX0_isPeace 16 = .ok (.invokevirtual 91, 3) := edX0_isPeace_0.2.2.2.2.2.2.2.2.2.2.1
theorem dX0_isPeace_19 : decode cX0_isPeace 19 = .ok (.aload_n 0, 1) := edX0_isPeace_0.2.2.2.2.2.2.2.2.2.2.2.1
theorem dX0_isPeace_20 : decode cX0_isPeace 20 = .ok (.getfield 18, 3) := edX0_isPeace_0.2.2.2.2.2.2.2.2.2.2.2.2.1
theorem dX0_isPeace_23 : decode cX0_isPeace 23 = .ok (.iconst 1, 1) := edX0_isPeace_0.2.2.2.2.2.2.2.2.2.2.2.2.2.1
theorem dX0_isPeace_24 : decode cX0_isPeace 24 = .ok (.iaload, 1) := edX0_isPeace_0.2.2.2.2.2.2.2.2.2.2.2.2.2.2.1
theorem dX0_isPeace_25 : decode cX0_isPeace 25 = .ok (.if_icmp .lt 7, 3) := edX0_isPeace_0.2.2.2.2.2.2.2.2.2.2.2.2.2.2.2.1
theorem dX0_isPeace_28 : decode cX0_isPeace 28 = .ok (.iconst 1, 1) := edX0_isPeace_0.2.2.2.2.2.2.2.2.2.2.2.2.2.2.2.2.1
theorem dX0_isPeace_29 : decode cX0_isPeace 29 = .ok (.goto 4, 3) := edX0_isPeace_0.2.2.2.2.2.2.2.2.2.2.2.2.2.2.2.2.2.1
theorem dX0_isPeace_32 : decode cX0_isPeace 32 = .ok (.iconst 0, 1) := edX0_isPeace_0.2.2.2.2.2.2.2.2.2.2.2.2.2.2.2.2.2.2.1
theorem dX0_isPeace_33 : decode cX0_isPeace 33 = .ok (.ireturn, 1) := edX0_isPeace_0.2.2.2.2.2.2.2.2.2.2.2.2.2.2.2.2.2.2.2.1
theorem edX0_isDuel_0 : (decode cX0_isDuel 0 = .ok (.aload_n 0, 1)) ∧ (decode cX0_isDuel 1 = .ok (.getfield 21, 3)) ∧ (decode cX0_isDuel 4 = .ok (.aload_n 0, 1)) ∧ (decode cX0_isDuel 5 = .ok (.getfield 25, 3)) ∧ (decode cX0_isDuel 8 = .ok (.if_icmp .lt 7, 3)) ∧ (decode cX0_isDuel 11 = .ok (.iconst 1, 1)) ∧ (decode cX0_isDuel 12 = .ok (.goto 4, 3)) ∧ (decode cX0_isDuel 15 = .ok (.iconst 0, 1)) ∧ (decode cX0_isDuel 16 = .ok (.ireturn, 1)) ∧ True := dc_cj [(0, .aload_n 0, 1), (1, .getfield 21, 3), (4, .aload_n 0, 1), (5, .getfield 25, 3), (8, .if_icmp .lt 7, 3), (11, .iconst 1, 1), (12, .goto 4, 3), (15, .iconst 0, 1), (16, .ireturn, 1)] (by decide +kernel)
theorem dX0_isDuel_0 : decode cX0_isDuel 0 = .ok (.aload_n 0, 1) := edX0_isDuel_0.1
theorem dX0_isDuel_1 : decode cX0_isDuel 1 = .ok (.getfield 21, 3) := edX0_isDuel_0.2.1
theorem dX0_isDuel_4 : decode cX0_isDuel 4 = .ok (.aload_n 0, 1) := edX0_isDuel_0.2.2.1
theorem dX0_isDuel_5 : decode cX0_isDuel 5 = .ok (.getfield 25, 3) := edX0_isDuel_0.2.2.2.1
theorem dX0_isDuel_8 : decode cX0_isDuel 8 = .ok (.if_icmp .lt 7, 3) := edX0_isDuel_0.2.2.2.2.1
theorem dX0_isDuel_11 : decode cX0_isDuel 11 = .ok (.iconst 1, 1) := edX0_isDuel_0.2.2.2.2.2.1
theorem dX0_isDuel_12 : decode cX0_isDuel 12 = .ok (.goto 4, 3) := edX0_isDuel_0.2.2.2.2.2.2.1
theorem dX0_isDuel_15 : decode cX0_isDuel 15 = .ok (.iconst 0, 1) := edX0_isDuel_0.2.2.2.2.2.2.2.1
theorem dX0_isDuel_16 : decode cX0_isDuel 16 = .ok (.ireturn, 1) := edX0_isDuel_0.2.2.2.2.2.2.2.2.1
theorem edX0_standsAsNumber_0 : (decode cX0_standsAsNumber 0 = .ok (.iconst 0, 1)) ∧ (decode cX0_standsAsNumber 1 = .ok (.istore_n 1, 1)) ∧ (decode cX0_standsAsNumber 2 = .ok (.iconst 0, 1)) ∧ (decode cX0_standsAsNumber 3 = .ok (.istore_n 2, 1)) ∧ (decode cX0_standsAsNumber 4 = .ok (.iload_n 2, 1)) ∧ (decode cX0_standsAsNumber 5 = .ok (.iconst 4, 1)) ∧ (decode cX0_standsAsNumber 6 = .ok (.if_icmp .ge 21, 3)) ∧ (decode cX0_standsAsNumber 9 = .ok (.iload_n 1, 1)) ∧ (decode cX0_standsAsNumber 10 = .ok (.bipush 10, 2)) ∧ (decode cX0_standsAsNumber 12 = .ok (.imul, 1)) ∧ (decode cX0_standsAsNumber 13 = .ok (.aload_n 0, 1)) ∧ (decode cX0_standsAsNumber 14 = .ok (.getfield 9, 3)) ∧ (decode cX0_standsAsNumber 17 = .ok (.iload_n 2, 1)) ∧ (decode cX0_standsAsNumber 18 = .ok (.iaload, 1)) ∧ (decode cX0_standsAsNumber 19 = .ok (.iadd, 1)) ∧ (decode cX0_standsAsNumber 20 = .ok (.istore_n 1, 1)) ∧ (decode cX0_standsAsNumber 21 = .ok (.iinc 2 1, 3)) ∧ (decode cX0_standsAsNumber 24 = .ok (.goto (-20), 3)) ∧ (decode cX0_standsAsNumber 27 = .ok (.iload_n 1, 1)) ∧ (decode cX0_standsAsNumber 28 = .ok (.ireturn, 1)) ∧ True := dc_cj [(0, .iconst 0, 1), (1, .istore_n 1, 1), (2, .iconst 0, 1), (3, .istore_n 2, 1), (4, .iload_n 2, 1), (5, .iconst 4, 1), (6, .if_icmp .ge 21, 3), (9, .iload_n 1, 1), (10, .bipush 10, 2), (12, .imul, 1), (13, .aload_n 0, 1), (14, .getfield 9, 3), (17, .iload_n 2, 1), (18, .iaload, 1), (19, .iadd, 1), (20, .istore_n 1, 1), (21, .iinc 2 1, 3), (24, .goto (-20), 3), (27, .iload_n 1, 1), (28, .ireturn, 1)] (by decide +kernel)
theorem dX0_standsAsNumber_0 : decode cX0_standsAsNumber 0 = .ok (.iconst 0, 1) := edX0_standsAsNumber_0.1
theorem dX0_standsAsNumber_1 : decode cX0_standsAsNumber 1 = .ok (.istore_n 1, 1) := edX0_standsAsNumber_0.2.1
theorem dX0_standsAsNumber_2 : decode cX0_standsAsNumber 2 = .ok (.iconst 0, 1) := edX0_standsAsNumber_0.2.2.1
theorem dX0_standsAsNumber_3 : decode cX0_standsAsNumber 3 = .ok (.istore_n 2, 1) := edX0_standsAsNumber_0.2.2.2.1
theorem dX0_standsAsNumber_4 : decode cX0_standsAsNumber 4 = .ok (.iload_n 2, 1) := edX0_standsAsNumber_0.2.2.2.2.1
theorem dX0_standsAsNumber_5 : decode cX0_standsAsNumber 5 = .ok (.iconst 4, 1) := edX0_standsAsNumber_0.2.2.2.2.2.1
theorem dX0_standsAsNumber_6 : decode cX0_standsAsNumber 6 = .ok (.if_icmp .ge 21, 3) := edX0_standsAsNumber_0.2.2.2.2.2.2.1
theorem dX0_standsAsNumber_9 : decode cX0_standsAsNumber 9 = .ok (.iload_n 1, 1) := edX0_standsAsNumber_0.2.2.2.2.2.2.2.1
theorem dX0_standsAsNumber_10 : decode cX0_standsAsNumber 10 = .ok (.bipush 10, 2) := edX0_standsAsNumber_0.2.2.2.2.2.2.2.2.1
theorem dX0_standsAsNumber_12 : decode cX0_standsAsNumber 12 = .ok (.imul, 1) := edX0_standsAsNumber_0.2.2.2.2.2.2.2.2.2.1
theorem dX0_standsAsNumber_13 : decode cX0_standsAsNumber 13 = .ok (.aload_n 0, 1) := edX0_standsAsNumber_0.2.2.2.2.2.2.2.2.2.2.1
theorem dX0_standsAsNumber_14 : decode cX0_standsAsNumber 14 = .ok (.getfield 9, 3) := edX0_standsAsNumber_0.2.2.2.2.2.2.2.2.2.2.2.1
theorem dX0_standsAsNumber_17 : decode cX0_standsAsNumber 17 = .ok (.iload_n 2, 1) := edX0_standsAsNumber_0.2.2.2.2.2.2.2.2.2.2.2.2.1
theorem dX0_standsAsNumber_18 : decode cX0_standsAsNumber 18 = .ok (.iaload, 1) := edX0_standsAsNumber_0.2.2.2.2.2.2.2.2.2.2.2.2.2.1
theorem dX0_standsAsNumber_19 : decode cX0_standsAsNumber 19 = .ok (.iadd, 1) := edX0_standsAsNumber_0.2.2.2.2.2.2.2.2.2.2.2.2.2.2.1
theorem dX0_standsAsNumber_20 : decode cX0_standsAsNumber 20 = .ok (.istore_n 1, 1) := edX0_standsAsNumber_0.2.2.2.2.2.2.2.2.2.2.2.2.2.2.2.1
theorem dX0_standsAsNumber_21 : decode cX0_standsAsNumber 21 = .ok (.iinc 2 1, 3) := edX0_standsAsNumber_0.2.2.2.2.2.2.2.2.2.2.2.2.2.2.2.2.1
theorem dX0_standsAsNumber_24 : decode cX0_standsAsNumber 24 = .ok (.goto (-20), 3) := edX0_standsAsNumber_0.2.2.2.2.2.2.2.2.2.2.2.2.2.2.2.2.2.1
theorem dX0_standsAsNumber_27 : decode cX0_standsAsNumber 27 = .ok (.iload_n 1, 1) := edX0_standsAsNumber_0.2.2.2.2.2.2.2.2.2.2.2.2.2.2.2.2.2.2.1
theorem dX0_standsAsNumber_28 : decode cX0_standsAsNumber 28 = .ok (.ireturn, 1) := edX0_standsAsNumber_0.2.2.2.2.2.2.2.2.2.2.2.2.2.2.2.2.2.2.2.1
theorem edX0_sumOverFriends_0 : (decode cX0_sumOverFriends 0 = .ok (.iconst 0, 1)) ∧ (decode cX0_sumOverFriends 1 = .ok (.istore_n 2, 1)) ∧ (decode cX0_sumOverFriends 2 = .ok (.iconst 0, 1)) ∧ (decode cX0_sumOverFriends 3 = .ok (.istore_n 3, 1)) ∧ (decode cX0_sumOverFriends 4 = .ok (.iload_n 3, 1)) ∧ (decode cX0_sumOverFriends 5 = .ok (.aload_n 0, 1)) ∧ (decode cX0_sumOverFriends 6 = .ok (.getfield 40, 3)) ∧ (decode cX0_sumOverFriends 9 = .ok (.if_icmp .ge 15, 3)) ∧ (decode cX0_sumOverFriends 12 = .ok (.iload_n 2, 1)) ∧ (decode cX0_sumOverFriends 13 = .ok (.aload_n 1, 1)) ∧ (decode cX0_sumOverFriends 14 = .ok (.iload_n 3, 1)) ∧ (decode cX0_sumOverFriends 15 = .ok (.iaload, 1)) ∧ (decode cX0_sumOverFriends 16 = .ok (.iadd, 1)) ∧ (decode cX0_sumOverFriends 17 = .ok (.istore_n 2, 1)) ∧ (decode cX0_sumOverFriends 18 = .ok (.iinc 3 1, 3)) ∧ (decode cX0_sumOverFriends 21 = .ok (.goto (-17), 3)) ∧ (decode cX0_sumOverFriends 24 = .ok (.iload_n 2, 1)) ∧ (decode cX0_sumOverFriends 25 = .ok (.ireturn, 1)) ∧ True := dc_cj [(0, .iconst 0, 1), (1, .istore_n 2, 1), (2, .iconst 0, 1), (3, .istore_n 3, 1), (4, .iload_n 3, 1), (5, .aload_n 0, 1), (6, .getfield 40, 3), (9, .if_icmp .ge 15, 3), (12, .iload_n 2, 1), (13, .aload_n 1, 1), (14, .iload_n 3, 1), (15, .iaload, 1), (16, .iadd, 1), (17, .istore_n 2, 1), (18, .iinc 3 1, 3), (21, .goto (-17), 3), (24, .iload_n 2, 1), (25, .ireturn, 1)] (by decide +kernel)
theorem dX0_sumOverFriends_0 : decode cX0_sumOverFriends 0 = .ok (.iconst 0, 1) := edX0_sumOverFriends_0.1
theorem dX0_sumOverFriends_1 : decode cX0_sumOverFriends 1 = .ok (.istore_n 2, 1) := edX0_sumOverFriends_0.2.1
theorem dX0_sumOverFriends_2 : decode cX0_sumOverFriends 2 = .ok (.iconst 0, 1) := edX0_sumOverFriends_0.2.2.1
theorem dX0_sumOverFriends_3 : decode cX0_sumOverFriends 3 = .ok (.istore_n 3, 1) := edX0_sumOverFriends_0.2.2.2.1
theorem dX0_sumOverFriends_4 : decode cX0_sumOverFriends 4 = .ok (.iload_n 3, 1) := edX0_sumOverFriends_0.2.2.2.2.1
theorem dX0_sumOverFriends_5 : decode cX0_sumOverFriends 5 = .ok (.aload_n 0, 1) := edX0_sumOverFriends_0.2.2.2.2.2.1
theorem dX0_sumOverFriends_6 : decode cX0_sumOverFriends 6 = .ok (.getfield 40, 3) := edX0_sumOverFriends_0.2.2.2.2.2.2.1
theorem dX0_sumOverFriends_9 : decode cX0_sumOverFriends 9 = .ok (.if_icmp .ge 15, 3) := edX0_sumOverFriends_0.2.2.2.2.2.2.2.1
theorem dX0_sumOverFriends_12 : decode cX0_sumOverFriends 12 = .ok (.iload_n 2, 1) := edX0_sumOverFriends_0.2.2.2.2.2.2.2.2.1
theorem dX0_sumOverFriends_13 : decode cX0_sumOverFriends 13 = .ok (.aload_n 1, 1) := edX0_sumOverFriends_0.2.2.2.2.2.2.2.2.2.1
theorem dX0_sumOverFriends_14 : decode cX0_sumOverFriends 14 = .ok (.iload_n 3, 1) := edX0_sumOverFriends_0.2.2.2.2.2.2.2.2.2.2.1
theorem dX0_sumOverFriends_15 : decode cX0_sumOverFriends 15 = .ok (.iaload, 1) := edX0_sumOverFriends_0.2.2.2.2.2.2.2.2.2.2.2.1
theorem dX0_sumOverFriends_16 : decode cX0_sumOverFriends 16 = .ok (.iadd, 1) := edX0_sumOverFriends_0.2.2.2.2.2.2.2.2.2.2.2.2.1
theorem dX0_sumOverFriends_17 : decode cX0_sumOverFriends 17 = .ok (.istore_n 2, 1) := edX0_sumOverFriends_0.2.2.2.2.2.2.2.2.2.2.2.2.2.1
theorem dX0_sumOverFriends_18 : decode cX0_sumOverFriends 18 = .ok (.iinc 3 1, 3) := edX0_sumOverFriends_0.2.2.2.2.2.2.2.2.2.2.2.2.2.2.1
theorem dX0_sumOverFriends_21 : decode cX0_sumOverFriends 21 = .ok (.goto (-17), 3) := edX0_sumOverFriends_0.2.2.2.2.2.2.2.2.2.2.2.2.2.2.2.1
theorem dX0_sumOverFriends_24 : decode cX0_sumOverFriends 24 = .ok (.iload_n 2, 1) := edX0_sumOverFriends_0.2.2.2.2.2.2.2.2.2.2.2.2.2.2.2.2.1
theorem dX0_sumOverFriends_25 : decode cX0_sumOverFriends 25 = .ok (.ireturn, 1) := edX0_sumOverFriends_0.2.2.2.2.2.2.2.2.2.2.2.2.2.2.2.2.2.1
theorem edX0_toneOf_0 : (decode cX0_toneOf 0 = .ok (.aload_n 0, 1)) ∧ (decode cX0_toneOf 1 = .ok (.getfield 43, 3)) ∧ (decode cX0_toneOf 4 = .ok (.iload_n 1, 1)) ∧ (decode cX0_toneOf 5 = .ok (.iaload, 1)) ∧ (decode cX0_toneOf 6 = .ok (.istore_n 2, 1)) ∧ (decode cX0_toneOf 7 = .ok (.iload_n 2, 1)) ∧ (decode cX0_toneOf 8 = .ok (.iconst 5, 1)) ∧ (decode cX0_toneOf 9 = .ok (.if_icmp .eq 17, 3)) ∧ (decode cX0_toneOf 12 = .ok (.iload_n 2, 1)) ∧ (decode cX0_toneOf 13 = .ok (.iconst 3, 1)) ∧ (decode cX0_toneOf 14 = .ok (.if_icmp .ne 14, 3)) ∧ (decode cX0_toneOf 17 = .ok (.aload_n 0, 1)) ∧ (decode cX0_toneOf 18 = .ok (.getfield 21, 3)) ∧ (decode cX0_toneOf 21 = .ok (.bipush 40, 2)) ∧ (decode cX0_toneOf 23 = .ok (.if_icmp .lt 5, 3)) ∧ (decode cX0_toneOf 26 = .ok (.iconst 0, 1)) ∧ (decode cX0_toneOf 27 = .ok (.ireturn, 1)) ∧ (decode cX0_toneOf 28 = .ok (.aload_n 0, 1)) ∧ (decode cX0_toneOf 29 = .ok (.iload_n 1, 1)) ∧ (decode cX0_toneOf 30 = .ok (.invokevirtual 95, 3)) ∧ (decode cX0_toneOf 33 = .ok (.istore_n 3, 1)) ∧ (decode cX0_toneOf 34 = .ok (.iload_n 2, 1)) ∧ (decode cX0_toneOf 35 = .ok (.tableswitch 54 1 4 #[29, 39, 29, 43], 29)) ∧ (decode cX0_toneOf 64 = .ok (.iload_n 3, 1)) ∧ (decode cX0_toneOf 65 = .ok (.bipush 20, 2)) ∧ (decode cX0_toneOf 67 = .ok (.iadd, 1)) ∧ (decode cX0_toneOf 68 = .ok (.bipush 99, 2)) ∧ (decode cX0_toneOf 70 = .ok (.invokestatic 98, 3)) ∧ (decode cX0_toneOf 73 = .ok (.ireturn, 1)) ∧ (decode cX0_toneOf 74 = .ok (.iload_n 3, 1)) ∧ (decode cX0_toneOf 75 = .ok (.iconst 2, 1)) ∧ (decode cX0_toneOf 76 = .ok (.idiv, 1)) ∧ True := dc_cj [(0, .aload_n 0, 1), (1, .getfield 43, 3), (4, .iload_n 1, 1), (5, .iaload, 1), (6, .istore_n 2, 1), (7, .iload_n 2, 1), (8, .iconst 5, 1), (9, .if_icmp .eq 17, 3), (12, .iload_n 2, 1), (13, .iconst 3, 1), (14, .if_icmp .ne 14, 3), (17, .aload_n 0, 1), (18, .getfield 21, 3), (21, .bipush 40, 2), (23, .if_icmp .lt 5, 3), (26, .iconst 0, 1), (27, .ireturn, 1), (28, .aload_n 0, 1), (29, .iload_n 1, 1), (30, .invokevirtual 95, 3), (33, .istore_n 3, 1), (34, .iload_n 2, 1), (35, .tableswitch 54 1 4 #[29, 39, 29, 43], 29), (64, .iload_n 3, 1), (65, .bipush 20, 2), (67, .iadd, 1), (68, .bipush 99, 2), (70, .invokestatic 98, 3), (73, .ireturn, 1), (74, .iload_n 3, 1), (75, .iconst 2, 1), (76, .idiv, 1)] (by decide +kernel)
theorem dX0_toneOf_0 : decode cX0_toneOf 0 = .ok (.aload_n 0, 1) := edX0_toneOf_0.1
theorem dX0_toneOf_1 : decode cX0_toneOf 1 = .ok (.getfield 43, 3) := edX0_toneOf_0.2.1
theorem dX0_toneOf_4 : decode cX0_toneOf 4 = .ok (.iload_n 1, 1) := edX0_toneOf_0.2.2.1
theorem dX0_toneOf_5 : decode cX0_toneOf 5 = .ok (.iaload, 1) := edX0_toneOf_0.2.2.2.1
theorem dX0_toneOf_6 : decode cX0_toneOf 6 = .ok (.istore_n 2, 1) := edX0_toneOf_0.2.2.2.2.1
theorem dX0_toneOf_7 : decode cX0_toneOf 7 = .ok (.iload_n 2, 1) := edX0_toneOf_0.2.2.2.2.2.1
theorem dX0_toneOf_8 : decode cX0_toneOf 8 = .ok (.iconst 5, 1) := edX0_toneOf_0.2.2.2.2.2.2.1
theorem dX0_toneOf_9 : decode cX0_toneOf 9 = .ok (.if_icmp .eq 17, 3) := edX0_toneOf_0.2.2.2.2.2.2.2.1
theorem dX0_toneOf_12 : decode cX0_toneOf 12 = .ok (.iload_n 2, 1) := edX0_toneOf_0.2.2.2.2.2.2.2.2.1
theorem dX0_toneOf_13 : decode cX0_toneOf 13 = .ok (.iconst 3, 1) := edX0_toneOf_0.2.2.2.2.2.2.2.2.2.1
theorem dX0_toneOf_14 : decode cX0_toneOf 14 = .ok (.if_icmp .ne 14, 3) := edX0_toneOf_0.2.2.2.2.2.2.2.2.2.2.1
theorem dX0_toneOf_17 : decode cX0_toneOf 17 = .ok (.aload_n 0, 1) := edX0_toneOf_0.2.2.2.2.2.2.2.2.2.2.2.1
theorem dX0_toneOf_18 : decode cX0_toneOf 18 = .ok (.getfield 21, 3) := edX0_toneOf_0.2.2.2.2.2.2.2.2.2.2.2.2.1
theorem dX0_toneOf_21 : decode cX0_toneOf 21 = .ok (.bipush 40, 2) := edX0_toneOf_0.2.2.2.2.2.2.2.2.2.2.2.2.2.1
theorem dX0_toneOf_23 : decode cX0_toneOf 23 = .ok (.if_icmp .lt 5, 3) := edX0_toneOf_0.2.2.2.2.2.2.2.2.2.2.2.2.2.2.1
theorem dX0_toneOf_26 : decode cX0_toneOf 26 = .ok (.iconst 0, 1) := edX0_toneOf_0.2.2.2.2.2.2.2.2.2.2.2.2.2.2.2.1
theorem dX0_toneOf_27 : decode cX0_toneOf 27 = .ok (.ireturn, 1) := edX0_toneOf_0.2.2.2.2.2.2.2.2.2.2.2.2.2.2.2.2.1
theorem dX0_toneOf_28 : decode cX0_toneOf 28 = .ok (.aload_n 0, 1) := edX0_toneOf_0.2.2.2.2.2.2.2.2.2.2.2.2.2.2.2.2.2.1
theorem dX0_toneOf_29 : decode cX0_toneOf 29 = .ok (.iload_n 1, 1) := edX0_toneOf_0.2.2.2.2.2.2.2.2.2.2.2.2.2.2.2.2.2.2.1
theorem dX0_toneOf_30 : decode cX0_toneOf 30 = .ok (.invokevirtual 95, 3) := edX0_toneOf_0.2.2.2.2.2.2.2.2.2.2.2.2.2.2.2.2.2.2.2.1
theorem dX0_toneOf_33 : decode cX0_toneOf 33 = .ok (.istore_n 3, 1) := edX0_toneOf_0.2.2.2.2.2.2.2.2.2.2.2.2.2.2.2.2.2.2.2.2.1
theorem dX0_toneOf_34 : decode cX0_toneOf 34 = .ok (.iload_n 2, 1) := edX0_toneOf_0.2.2.2.2.2.2.2.2.2.2.2.2.2.2.2.2.2.2.2.2.2.1
theorem dX0_toneOf_35 : decode cX0_toneOf 35 = .ok (.tableswitch 54 1 4 #[29, 39, 29, 43], 29) := edX0_toneOf_0.2.2.2.2.2.2.2.2.2.2.2.2.2.2.2.2.2.2.2.2.2.2.1
theorem dX0_toneOf_64 : decode cX0_toneOf 64 = .ok (.iload_n 3, 1) := edX0_toneOf_0.2.2.2.2.2.2.2.2.2.2.2.2.2.2.2.2.2.2.2.2.2.2.2.1
theorem dX0_toneOf_65 : decode cX0_toneOf 65 = .ok (.bipush 20, 2) := edX0_toneOf_0.2.2.2.2.2.2.2.2.2.2.2.2.2.2.2.2.2.2.2.2.2.2.2.2.1
theorem dX0_toneOf_67 : decode cX0_toneOf 67 = .ok (.iadd, 1) := edX0_toneOf_0.2.2.2.2.2.2.2.2.2.2.2.2.2.2.2.2.2.2.2.2.2.2.2.2.2.1
theorem dX0_toneOf_68 : decode cX0_toneOf 68 = .ok (.bipush 99, 2) := edX0_toneOf_0.2.2.2.2.2.2.2.2.2.2.2.2.2.2.2.2.2.2.2.2.2.2.2.2.2.2.1
theorem dX0_toneOf_70 : decode cX0_toneOf 70 = .ok (.invokestatic 98, 3) := edX0_toneOf_0.2.2.2.2.2.2.2.2.2.2.2.2.2.2.2.2.2.2.2.2.2.2.2.2.2.2.2.1
theorem dX0_toneOf_73 : decode cX0_toneOf 73 = .ok (.ireturn, 1) := edX0_toneOf_0.2.2.2.2.2.2.2.2.2.2.2.2.2.2.2.2.2.2.2.2.2.2.2.2.2.2.2.2.1
theorem dX0_toneOf_74 : decode cX0_toneOf 74 = .ok (.iload_n 3, 1) := edX0_toneOf_0.2.2.2.2.2.2.2.2.2.2.2.2.2.2.2.2.2.2.2.2.2.2.2.2.2.2.2.2.2.1
theorem dX0_toneOf_75 : decode cX0_toneOf 75 = .ok (.iconst 2, 1) := edX0_toneOf_0.2.2.2.2.2.2.2.2.2.2.2.2.2.2.2.2.2.2.2.2.2.2.2.2.2.2.2.2.2.2.1
theorem dX0_toneOf_76 : decode cX0_toneOf 76 = .ok (.idiv, 1) := edX0_toneOf_0.2.2.2.2.2.2.2.2.2.2.2.2.2.2.2.2.2.2.2.2.2.2.2.2.2.2.2.2.2.2.2.1
theorem edX0_toneOf_77 : (decode cX0_toneOf 77 = .ok (.ireturn, 1)) ∧ (decode cX0_toneOf 78 = .ok (.iload_n 3, 1)) ∧ (decode cX0_toneOf 79 = .ok (.iconst 2, 1)) ∧ (decode cX0_toneOf 80 = .ok (.idiv, 1)) ∧ (decode cX0_toneOf 81 = .ok (.bipush 10, 2)) ∧ (decode cX0_toneOf 83 = .ok (.isub, 1)) ∧ (decode cX0_toneOf 84 = .ok (.iconst 0, 1)) ∧ (decode cX0_toneOf 85 = .ok (.invokestatic 103, 3)) ∧ (decode cX0_toneOf 88 = .ok (.ireturn, 1)) ∧ (decode cX0_toneOf 89 = .ok (.iload_n 3, 1)) ∧ (decode cX0_toneOf 90 = .ok (.ireturn, 1)) ∧ True := dc_cj [(77, .ireturn, 1), (78, .iload_n 3, 1), (79, .iconst 2, 1), (80, .idiv, 1), (81, .bipush 10, 2), (83, .isub, 1), (84, .iconst 0, 1), (85, .invokestatic 103, 3), (88, .ireturn, 1), (89, .iload_n 3, 1), (90, .ireturn, 1)] (by decide +kernel)
theorem dX0_toneOf_77 : decode cX0_toneOf 77 = .ok (.ireturn, 1) := edX0_toneOf_77.1
theorem dX0_toneOf_78 : decode cX0_toneOf 78 = .ok (.iload_n 3, 1) := edX0_toneOf_77.2.1
theorem dX0_toneOf_79 : decode cX0_toneOf 79 = .ok (.iconst 2, 1) := edX0_toneOf_77.2.2.1
theorem dX0_toneOf_80 : decode cX0_toneOf 80 = .ok (.idiv, 1) := edX0_toneOf_77.2.2.2.1
theorem dX0_toneOf_81 : decode cX0_toneOf 81 = .ok (.bipush 10, 2) := edX0_toneOf_77.2.2.2.2.1
theorem dX0_toneOf_83 : decode cX0_toneOf 83 = .ok (.isub, 1) := edX0_toneOf_77.2.2.2.2.2.1
theorem dX0_toneOf_84 : decode cX0_toneOf 84 = .ok (.iconst 0, 1) := edX0_toneOf_77.2.2.2.2.2.2.1
theorem dX0_toneOf_85 : decode cX0_toneOf 85 = .ok (.invokestatic 103, 3) := edX0_toneOf_77.2.2.2.2.2.2.2.1
theorem dX0_toneOf_88 : decode cX0_toneOf 88 = .ok (.ireturn, 1) := edX0_toneOf_77.2.2.2.2.2.2.2.2.1
theorem dX0_toneOf_89 : decode cX0_toneOf 89 = .ok (.iload_n 3, 1) := edX0_toneOf_77.2.2.2.2.2.2.2.2.2.1
theorem dX0_toneOf_90 : decode cX0_toneOf 90 = .ok (.ireturn, 1) := edX0_toneOf_77.2.2.2.2.2.2.2.2.2.2.1
theorem edX0_plainTone_0 : (decode cX0_plainTone 0 = .ok (.aload_n 0, 1)) ∧ (decode cX0_plainTone 1 = .ok (.iconst 0, 1)) ∧ (decode cX0_plainTone 2 = .ok (.invokevirtual 106, 3)) ∧ (decode cX0_plainTone 5 = .ok (.astore_n 2, 1)) ∧ (decode cX0_plainTone 6 = .ok (.aload_n 2, 1)) ∧ (decode cX0_plainTone 7 = .ok (.ifnonnull 17, 3)) ∧ (decode cX0_plainTone 10 = .ok (.aload_n 0, 1)) ∧ (decode cX0_plainTone 11 = .ok (.getfield 49, 3)) ∧ (decode cX0_plainTone 14 = .ok (.iload_n 1, 1)) ∧ (decode cX0_plainTone 15 = .ok (.iaload, 1)) ∧ (decode cX0_plainTone 16 = .ok (.aload_n 0, 1)) ∧ (decode cX0_plainTone 17 = .ok (.getfield 21, 3)) ∧ (decode cX0_plainTone 20 = .ok (.iadd, 1)) ∧ (decode cX0_plainTone 21 = .ok (.iconst 2, 1)) ∧ (decode cX0_plainTone 22 = .ok (.idiv, 1)) ∧ (decode cX0_plainTone 23 = .ok (.ireturn, 1)) ∧ (decode cX0_plainTone 24 = .ok (.aload_n 2, 1)) ∧ (decode cX0_plainTone 25 = .ok (.aload_n 0, 1)) ∧ (decode cX0_plainTone 26 = .ok (.getfield 49, 3)) ∧ (decode cX0_plainTone 29 = .ok (.iload_n 1, 1)) ∧ (decode cX0_plainTone 30 = .ok (.iaload, 1)) ∧ (decode cX0_plainTone 31 = .ok (.aload_n 0, 1)) ∧ (decode cX0_plainTone 32 = .ok (.getfield 21, 3)) ∧ (decode cX0_plainTone 35 = .ok (.aload_n 0, 1)) ∧ (decode cX0_plainTone 36 = .ok (.getfield 52, 3)) ∧ (decode cX0_plainTone 39 = .ok (.iload_n 1, 1)) ∧ (decode cX0_plainTone 40 = .ok (.iaload, 1)) ∧ (decode cX0_plainTone 41 = .ok (.invokevirtual 110, 3)) ∧ (decode cX0_plainTone 44 = .ok (.bipush 99, 2)) ∧ (decode cX0_plainTone 46 = .ok (.invokestatic 114, 3)) ∧ (decode cX0_plainTone 49 = .ok (.ireturn, 1)) ∧ True := dc_cj [(0, .aload_n 0, 1), (1, .iconst 0, 1), (2, .invokevirtual 106, 3), (5, .astore_n 2, 1), (6, .aload_n 2, 1), (7, .ifnonnull 17, 3), (10, .aload_n 0, 1), (11, .getfield 49, 3), (14, .iload_n 1, 1), (15, .iaload, 1), (16, .aload_n 0, 1), (17, .getfield 21, 3), (20, .iadd, 1), (21, .iconst 2, 1), (22, .idiv, 1), (23, .ireturn, 1), (24, .aload_n 2, 1), (25, .aload_n 0, 1), (26, .getfield 49, 3), (29, .iload_n 1, 1), (30, .iaload, 1), (31, .aload_n 0, 1), (32, .getfield 21, 3), (35, .aload_n 0, 1), (36, .getfield 52, 3), (39, .iload_n 1, 1), (40, .iaload, 1), (41, .invokevirtual 110, 3), (44, .bipush 99, 2), (46, .invokestatic 114, 3), (49, .ireturn, 1)] (by decide +kernel)
theorem dX0_plainTone_0 : decode cX0_plainTone 0 = .ok (.aload_n 0, 1) := edX0_plainTone_0.1
theorem dX0_plainTone_1 : decode cX0_plainTone 1 = .ok (.iconst 0, 1) := edX0_plainTone_0.2.1
theorem dX0_plainTone_2 : decode cX0_plainTone 2 = .ok (.invokevirtual 106, 3) := edX0_plainTone_0.2.2.1
theorem dX0_plainTone_5 : decode cX0_plainTone 5 = .ok (.astore_n 2, 1) := edX0_plainTone_0.2.2.2.1
theorem dX0_plainTone_6 : decode cX0_plainTone 6 = .ok (.aload_n 2, 1) := edX0_plainTone_0.2.2.2.2.1
theorem dX0_plainTone_7 : decode cX0_plainTone 7 = .ok (.ifnonnull 17, 3) := edX0_plainTone_0.2.2.2.2.2.1
theorem dX0_plainTone_10 : decode cX0_plainTone 10 = .ok (.aload_n 0, 1) := edX0_plainTone_0.2.2.2.2.2.2.1
theorem dX0_plainTone_11 : decode cX0_plainTone 11 = .ok (.getfield 49, 3) := edX0_plainTone_0.2.2.2.2.2.2.2.1
theorem dX0_plainTone_14 : decode cX0_plainTone 14 = .ok (.iload_n 1, 1) := edX0_plainTone_0.2.2.2.2.2.2.2.2.1
theorem dX0_plainTone_15 : decode cX0_plainTone 15 = .ok (.iaload, 1) := edX0_plainTone_0.2.2.2.2.2.2.2.2.2.1
theorem dX0_plainTone_16 : decode cX0_plainTone 16 = .ok (.aload_n 0, 1) := edX0_plainTone_0.2.2.2.2.2.2.2.2.2.2.1
theorem dX0_plainTone_17 : decode cX0_plainTone 17 = .ok (.getfield 21, 3) := edX0_plainTone_0.2.2.2.2.2.2.2.2.2.2.2.1
theorem dX0_plainTone_20 : decode cX0_plainTone 20 = .ok (.iadd, 1) := edX0_plainTone_0.2.2.2.2.2.2.2.2.2.2.2.2.1
theorem dX0_plainTone_21 : decode cX0_plainTone 21 = .ok (.iconst 2, 1) := edX0_plainTone_0.2.2.2.2.2.2.2.2.2.2.2.2.2.1
theorem dX0_plainTone_22 : decode cX0_plainTone 22 = .ok (.idiv, 1) := edX0_plainTone_0.2.2.2.2.2.2.2.2.2.2.2.2.2.2.1
theorem dX0_plainTone_23 : decode cX0_plainTone 23 = .ok (.ireturn, 1) := edX0_plainTone_0.2.2.2.2.2.2.2.2.2.2.2.2.2.2.2.1
theorem dX0_plainTone_24 : decode cX0_plainTone 24 = .ok (.aload_n 2, 1) := edX0_plainTone_0.2.2.2.2.2.2.2.2.2.2.2.2.2.2.2.2.1
theorem dX0_plainTone_25 : decode cX0_plainTone 25 = .ok (.aload_n 0, 1) := edX0_plainTone_0.2.2.2.2.2.2.2.2.2.2.2.2.2.2.2.2.2.1
theorem dX0_plainTone_26 : decode cX0_plainTone 26 = .ok (.getfield 49, 3) := edX0_plainTone_0.2.2.2.2.2.2.2.2.2.2.2.2.2.2.2.2.2.2.1
theorem dX0_plainTone_29 : decode cX0_plainTone 29 = .ok (.iload_n 1, 1) := edX0_plainTone_0.2.2.2.2.2.2.2.2.2.2.2.2.2.2.2.2.2.2.2.1
theorem dX0_plainTone_30 : decode cX0_plainTone 30 = .ok (.iaload, 1) := edX0_plainTone_0.2.2.2.2.2.2.2.2.2.2.2.2.2.2.2.2.2.2.2.2.1
theorem dX0_plainTone_31 : decode cX0_plainTone 31 = .ok (.aload_n 0, 1) := edX0_plainTone_0.2.2.2.2.2.2.2.2.2.2.2.2.2.2.2.2.2.2.2.2.2.1
theorem dX0_plainTone_32 : decode cX0_plainTone 32 = .ok (.getfield 21, 3) := edX0_plainTone_0.2.2.2.2.2.2.2.2.2.2.2.2.2.2.2.2.2.2.2.2.2.2.1
theorem dX0_plainTone_35 : decode cX0_plainTone 35 = .ok (.aload_n 0, 1) := edX0_plainTone_0.2.2.2.2.2.2.2.2.2.2.2.2.2.2.2.2.2.2.2.2.2.2.2.1
theorem dX0_plainTone_36 : decode cX0_plainTone 36 = .ok (.getfield 52, 3) := edX0_plainTone_0.2.2.2.2.2.2.2.2.2.2.2.2.2.2.2.2.2.2.2.2.2.2.2.2.1
theorem dX0_plainTone_39 : decode cX0_plainTone 39 = .ok (.iload_n 1, 1) := edX0_plainTone_0.2.2.2.2.2.2.2.2.2.2.2.2.2.2.2.2.2.2.2.2.2.2.2.2.2.1
theorem dX0_plainTone_40 : decode cX0_plainTone 40 = .ok (.iaload, 1) := edX0_plainTone_0.2.2.2.2.2.2.2.2.2.2.2.2.2.2.2.2.2.2.2.2.2.2.2.2.2.2.1
theorem dX0_plainTone_41 : decode cX0_plainTone 41 = .ok (.invokevirtual 110, 3) := edX0_plainTone_0.2.2.2.2.2.2.2.2.2.2.2.2.2.2.2.2.2.2.2.2.2.2.2.2.2.2.2.1
theorem dX0_plainTone_44 : decode cX0_plainTone 44 = .ok (.bipush 99, 2) := edX0_plainTone_0.2.2.2.2.2.2.2.2.2.2.2.2.2.2.2.2.2.2.2.2.2.2.2.2.2.2.2.2.1
theorem dX0_plainTone_46 : decode cX0_plainTone 46 = .ok (.invokestatic 114, 3) := edX0_plainTone_0.2.2.2.2.2.2.2.2.2.2.2.2.2.2.2.2.2.2.2.2.2.2.2.2.2.2.2.2.2.1
theorem dX0_plainTone_49 : decode cX0_plainTone 49 = .ok (.ireturn, 1) := edX0_plainTone_0.2.2.2.2.2.2.2.2.2.2.2.2.2.2.2.2.2.2.2.2.2.2.2.2.2.2.2.2.2.2.1
theorem edX0_termYielded_0 : (decode cX0_termYielded 0 = .ok (.aload_n 0, 1)) ∧ (decode cX0_termYielded 1 = .ok (.getfield 43, 3)) ∧ (decode cX0_termYielded 4 = .ok (.iload_n 1, 1)) ∧ (decode cX0_termYielded 5 = .ok (.iaload, 1)) ∧ (decode cX0_termYielded 6 = .ok (.istore_n 2, 1)) ∧ (decode cX0_termYielded 7 = .ok (.aload_n 0, 1)) ∧ (decode cX0_termYielded 8 = .ok (.getfield 46, 3)) ∧ (decode cX0_termYielded 11 = .ok (.iload_n 1, 1)) ∧ (decode cX0_termYielded 12 = .ok (.iaload, 1)) ∧ (decode cX0_termYielded 13 = .ok (.istore_n 3, 1)) ∧ (decode cX0_termYielded 14 = .ok (.iload_n 2, 1)) ∧ (decode cX0_termYielded 15 = .ok (.iconst 1, 1)) ∧ (decode cX0_termYielded 16 = .ok (.if_icmp .eq 13, 3)) ∧ (decode cX0_termYielded 19 = .ok (.iload_n 2, 1)) ∧ (decode cX0_termYielded 20 = .ok (.iconst 3, 1)) ∧ (decode cX0_termYielded 21 = .ok (.if_icmp .eq 8, 3)) ∧ (decode cX0_termYielded 24 = .ok (.iload_n 2, 1)) ∧ (decode cX0_termYielded 25 = .ok (.iconst 4, 1)) ∧ (decode cX0_termYielded 26 = .ok (.if_icmp .ne 7, 3)) ∧ (decode cX0_termYielded 29 = .ok (.iconst 1, 1)) ∧ (decode cX0_termYielded 30 = .ok (.goto 4, 3)) ∧ (decode cX0_termYielded 33 = .ok (.iconst 0, 1)) ∧ (decode cX0_termYielded 34 = .ok (.istore 4, 2)) ∧ (decode cX0_termYielded 36 = .ok (.iload_n 2, 1)) ∧ (decode cX0_termYielded 37 = .ok (.iconst 4, 1)) ∧ (decode cX0_termYielded 38 = .ok (.if_icmp .eq 8, 3)) ∧ (decode cX0_termYielded 41 = .ok (.iload_n 2, 1)) ∧ (decode cX0_termYielded 42 = .ok (.iconst 5, 1)) ∧ (decode cX0_termYielded 43 = .ok (.if_icmp .ne 7, 3)) ∧ (decode cX0_termYielded 46 = .ok (.iconst 1, 1)) ∧ (decode cX0_termYielded 47 = .ok (.goto 4, 3)) ∧ (decode cX0_termYielded 50 = .ok (.iconst 0, 1)) ∧ True := dc_cj [(0, .aload_n 0, 1), (1, .getfield 43, 3), (4, .iload_n 1, 1), (5, .iaload, 1), (6, .istore_n 2, 1), (7, .aload_n 0, 1), (8, .getfield 46, 3), (11, .iload_n 1, 1), (12, .iaload, 1), (13, .istore_n 3, 1), (14, .iload_n 2, 1), (15, .iconst 1, 1), (16, .if_icmp .eq 13, 3), (19, .iload_n 2, 1), (20, .iconst 3, 1), (21, .if_icmp .eq 8, 3), (24, .iload_n 2, 1), (25, .iconst 4, 1), (26, .if_icmp .ne 7, 3), (29, .iconst 1, 1), (30, .goto 4, 3), (33, .iconst 0, 1), (34, .istore 4, 2), (36, .iload_n 2, 1), (37, .iconst 4, 1), (38, .if_icmp .eq 8, 3), (41, .iload_n 2, 1), (42, .iconst 5, 1), (43, .if_icmp .ne 7, 3), (46, .iconst 1, 1), (47, .goto 4, 3), (50, .iconst 0, 1)] (by decide +kernel)
theorem dX0_termYielded_0 : decode cX0_termYielded 0 = .ok (.aload_n 0, 1) := edX0_termYielded_0.1
theorem dX0_termYielded_1 : decode cX0_termYielded 1 = .ok (.getfield 43, 3) := edX0_termYielded_0.2.1
theorem dX0_termYielded_4 : decode cX0_termYielded 4 = .ok (.iload_n 1, 1) := edX0_termYielded_0.2.2.1
theorem dX0_termYielded_5 : decode cX0_termYielded 5 = .ok (.iaload, 1) := edX0_termYielded_0.2.2.2.1
theorem dX0_termYielded_6 : decode cX0_termYielded 6 = .ok (.istore_n 2, 1) := edX0_termYielded_0.2.2.2.2.1
theorem dX0_termYielded_7 : decode cX0_termYielded 7 = .ok (.aload_n 0, 1) := edX0_termYielded_0.2.2.2.2.2.1
theorem dX0_termYielded_8 : decode cX0_termYielded 8 = .ok (.getfield 46, 3) := edX0_termYielded_0.2.2.2.2.2.2.1
theorem dX0_termYielded_11 : decode cX0_termYielded 11 = .ok (.iload_n 1, 1) := edX0_termYielded_0.2.2.2.2.2.2.2.1
theorem dX0_termYielded_12 : decode cX0_termYielded 12 = .ok (.iaload, 1) := edX0_termYielded_0.2.2.2.2.2.2.2.2.1
theorem dX0_termYielded_13 : decode cX0_termYielded 13 = .ok (.istore_n 3, 1) := edX0_termYielded_0.2.2.2.2.2.2.2.2.2.1
theorem dX0_termYielded_14 : decode cX0_termYielded 14 = .ok (.iload_n 2, 1) := edX0_termYielded_0.2.2.2.2.2.2.2.2.2.2.1
theorem dX0_termYielded_15 : decode cX0_termYielded 15 = .ok (.iconst 1, 1) := edX0_termYielded_0.2.2.2.2.2.2.2.2.2.2.2.1
theorem dX0_termYielded_16 : decode cX0_termYielded 16 = .ok (.if_icmp .eq 13, 3) := edX0_termYielded_0.2.2.2.2.2.2.2.2.2.2.2.2.1
theorem dX0_termYielded_19 : decode cX0_termYielded 19 = .ok (.iload_n 2, 1) := edX0_termYielded_0.2.2.2.2.2.2.2.2.2.2.2.2.2.1
theorem dX0_termYielded_20 : decode cX0_termYielded 20 = .ok (.iconst 3, 1) := edX0_termYielded_0.2.2.2.2.2.2.2.2.2.2.2.2.2.2.1
theorem dX0_termYielded_21 : decode cX0_termYielded 21 = .ok (.if_icmp .eq 8, 3) := edX0_termYielded_0.2.2.2.2.2.2.2.2.2.2.2.2.2.2.2.1
theorem dX0_termYielded_24 : decode cX0_termYielded 24 = .ok (.iload_n 2, 1) := edX0_termYielded_0.2.2.2.2.2.2.2.2.2.2.2.2.2.2.2.2.1
theorem dX0_termYielded_25 : decode cX0_termYielded 25 = .ok (.iconst 4, 1) := edX0_termYielded_0.2.2.2.2.2.2.2.2.2.2.2.2.2.2.2.2.2.1
theorem dX0_termYielded_26 : decode cX0_termYielded 26 = .ok (.if_icmp .ne 7, 3) := edX0_termYielded_0.2.2.2.2.2.2.2.2.2.2.2.2.2.2.2.2.2.2.1
theorem dX0_termYielded_29 : decode cX0_termYielded 29 = .ok (.iconst 1, 1) := edX0_termYielded_0.2.2.2.2.2.2.2.2.2.2.2.2.2.2.2.2.2.2.2.1
theorem dX0_termYielded_30 : decode cX0_termYielded 30 = .ok (.goto 4, 3) := edX0_termYielded_0.2.2.2.2.2.2.2.2.2.2.2.2.2.2.2.2.2.2.2.2.1
theorem dX0_termYielded_33 : decode cX0_termYielded 33 = .ok (.iconst 0, 1) := edX0_termYielded_0.2.2.2.2.2.2.2.2.2.2.2.2.2.2.2.2.2.2.2.2.2.1
theorem dX0_termYielded_34 : decode cX0_termYielded 34 = .ok (.istore 4, 2) := edX0_termYielded_0.2.2.2.2.2.2.2.2.2.2.2.2.2.2.2.2.2.2.2.2.2.2.1
theorem dX0_termYielded_36 : decode cX0_termYielded 36 = .ok (.iload_n 2, 1) := edX0_termYielded_0.2.2.2.2.2.2.2.2.2.2.2.2.2.2.2.2.2.2.2.2.2.2.2.1
theorem dX0_termYielded_37 : decode cX0_termYielded 37 = .ok (.iconst 4, 1) := edX0_termYielded_0.2.2.2.2.2.2.2.2.2.2.2.2.2.2.2.2.2.2.2.2.2.2.2.2.1
theorem dX0_termYielded_38 : decode cX0_termYielded 38 = .ok (.if_icmp .eq 8, 3) := edX0_termYielded_0.2.2.2.2.2.2.2.2.2.2.2.2.2.2.2.2.2.2.2.2.2.2.2.2.2.1
theorem dX0_termYielded_41 : decode cX0_termYielded 41 = .ok (.iload_n 2, 1) := edX0_termYielded_0.2.2.2.2.2.2.2.2.2.2.2.2.2.2.2.2.2.2.2.2.2.2.2.2.2.2.1
theorem dX0_termYielded_42 : decode cX0_termYielded 42 = .ok (.iconst 5, 1) := edX0_termYielded_0.2.2.2.2.2.2.2.2.2.2.2.2.2.2.2.2.2.2.2.2.2.2.2.2.2.2.2.1
theorem dX0_termYielded_43 : decode cX0_termYielded 43 = .ok (.if_icmp .ne 7, 3) := edX0_termYielded_0.2.2.2.2.2.2.2.2.2.2.2.2.2.2.2.2.2.2.2.2.2.2.2.2.2.2.2.2.1
theorem dX0_termYielded_46 : decode cX0_termYielded 46 = .ok (.iconst 1, 1) := edX0_termYielded_0.2.2.2.2.2.2.2.2.2.2.2.2.2.2.2.2.2.2.2.2.2.2.2.2.2.2.2.2.2.1
theorem dX0_termYielded_47 : decode cX0_termYielded 47 = .ok (.goto 4, 3) := edX0_termYielded_0.2.2.2.2.2.2.2.2.2.2.2.2.2.2.2.2.2.2.2.2.2.2.2.2.2.2.2.2.2.2.1
theorem dX0_termYielded_50 : decode cX0_termYielded 50 = .ok (.iconst 0, 1) := edX0_termYielded_0.2.2.2.2.2.2.2.2.2.2.2.2.2.2.2.2.2.2.2.2.2.2.2.2.2.2.2.2.2.2.2.1
theorem edX0_termYielded_51 : (decode cX0_termYielded 51 = .ok (.istore 5, 2)) ∧ (decode cX0_termYielded 53 = .ok (.iload 4, 2)) ∧ (decode cX0_termYielded 55 = .ok (.ifCond .eq 9, 3)) ∧ (decode cX0_termYielded 58 = .ok (.iconst 1, 1)) ∧ (decode cX0_termYielded 59 = .ok (.iload_n 3, 1)) ∧ (decode cX0_termYielded 60 = .ok (.isub, 1)) ∧ (decode cX0_termYielded 61 = .ok (.goto 4, 3)) ∧ (decode cX0_termYielded 64 = .ok (.iload_n 3, 1)) ∧ (decode cX0_termYielded 65 = .ok (.istore 6, 2)) ∧ (decode cX0_termYielded 67 = .ok (.iconst (-1), 1)) ∧ (decode cX0_termYielded 68 = .ok (.istore 7, 2)) ∧ (decode cX0_termYielded 70 = .ok (.iconst 0, 1)) ∧ (decode cX0_termYielded 71 = .ok (.istore 8, 2)) ∧ (decode cX0_termYielded 73 = .ok (.iconst 0, 1)) ∧ (decode cX0_termYielded 74 = .ok (.istore 9, 2)) ∧ (decode cX0_termYielded 76 = .ok (.iload 9, 2)) ∧ (decode cX0_termYielded 78 = .ok (.iconst 4, 1)) ∧ (decode cX0_termYielded 79 = .ok (.if_icmp .ge 104, 3)) ∧ (decode cX0_termYielded 82 = .ok (.iload_n 3, 1)) ∧ (decode cX0_termYielded 83 = .ok (.ifCond .ne 21, 3)) ∧ (decode cX0_termYielded 86 = .ok (.aload_n 0, 1)) ∧ (decode cX0_termYielded 87 = .ok (.getfield 9, 3)) ∧ (decode cX0_termYielded 90 = .ok (.iload 9, 2)) ∧ (decode cX0_termYielded 92 = .ok (.iaload, 1)) ∧ (decode cX0_termYielded 93 = .ok (.ifCond .le 7, 3)) ∧ (decode cX0_termYielded 96 = .ok (.iconst 1, 1)) ∧ (decode cX0_termYielded 97 = .ok (.goto 24, 3)) ∧ (decode cX0_termYielded 100 = .ok (.iconst 0, 1)) ∧ (decode cX0_termYielded 101 = .ok (.goto 20, 3)) ∧ (decode cX0_termYielded 104 = .ok (.aload_n 0, 1)) ∧ (decode cX0_termYielded 105 = .ok (.getfield 9, 3)) ∧ (decode cX0_termYielded 108 = .ok (.iload 9, 2)) ∧ True := dc_cj [(51, .istore 5, 2), (53, .iload 4, 2), (55, .ifCond .eq 9, 3), (58, .iconst 1, 1), (59, .iload_n 3, 1), (60, .isub, 1), (61, .goto 4, 3), (64, .iload_n 3, 1), (65, .istore 6, 2), (67, .iconst (-1), 1), (68, .istore 7, 2), (70, .iconst 0, 1), (71, .istore 8, 2), (73, .iconst 0, 1), (74, .istore 9, 2), (76, .iload 9, 2), (78, .iconst 4, 1), (79, .if_icmp .ge 104, 3), (82, .iload_n 3, 1), (83, .ifCond .ne 21, 3), (86, .aload_n 0, 1), (87, .getfield 9, 3), (90, .iload 9, 2), (92, .iaload, 1), (93, .ifCond .le 7, 3), (96, .iconst 1, 1), (97, .goto 24, 3), (100, .iconst 0, 1), (101, .goto 20, 3), (104, .aload_n 0, 1), (105, .getfield 9, 3), (108, .iload 9, 2)] (by decide +kernel)
theorem dX0_termYielded_51 : decode cX0_termYielded 51 = .ok (.istore 5, 2) := edX0_termYielded_51.1
theorem dX0_termYielded_53 : decode cX0_termYielded 53 = .ok (.iload 4, 2) := edX0_termYielded_51.2.1
theorem dX0_termYielded_55 : decode cX0_termYielded 55 = .ok (.ifCond .eq 9, 3) := edX0_termYielded_51.2.2.1
theorem dX0_termYielded_58 : decode cX0_termYielded 58 = .ok (.iconst 1, 1) := edX0_termYielded_51.2.2.2.1
theorem dX0_termYielded_59 : decode cX0_termYielded 59 = .ok (.iload_n 3, 1) := edX0_termYielded_51.2.2.2.2.1
theorem dX0_termYielded_60 : decode cX0_termYielded 60 = .ok (.isub, 1) := edX0_termYielded_51.2.2.2.2.2.1
theorem dX0_termYielded_61 : decode cX0_termYielded 61 = .ok (.goto 4, 3) := edX0_termYielded_51.2.2.2.2.2.2.1
theorem dX0_termYielded_64 : decode cX0_termYielded 64 = .ok (.iload_n 3, 1) := edX0_termYielded_51.2.2.2.2.2.2.2.1
theorem dX0_termYielded_65 : decode cX0_termYielded 65 = .ok (.istore 6, 2) := edX0_termYielded_51.2.2.2.2.2.2.2.2.1
theorem dX0_termYielded_67 : decode cX0_termYielded 67 = .ok (.iconst (-1), 1) := edX0_termYielded_51.2.2.2.2.2.2.2.2.2.1
theorem dX0_termYielded_68 : decode cX0_termYielded 68 = .ok (.istore 7, 2) := edX0_termYielded_51.2.2.2.2.2.2.2.2.2.2.1
theorem dX0_termYielded_70 : decode cX0_termYielded 70 = .ok (.iconst 0, 1) := edX0_termYielded_51.2.2.2.2.2.2.2.2.2.2.2.1
theorem dX0_termYielded_71 : decode cX0_termYielded 71 = .ok (.istore 8, 2) := edX0_termYielded_51.2.2.2.2.2.2.2.2.2.2.2.2.1
theorem dX0_termYielded_73 : decode cX0_termYielded 73 = .ok (.iconst 0, 1) := edX0_termYielded_51.2.2.2.2.2.2.2.2.2.2.2.2.2.1
theorem dX0_termYielded_74 : decode cX0_termYielded 74 = .ok (.istore 9, 2) := edX0_termYielded_51.2.2.2.2.2.2.2.2.2.2.2.2.2.2.1
theorem dX0_termYielded_76 : decode cX0_termYielded 76 = .ok (.iload 9, 2) := edX0_termYielded_51.2.2.2.2.2.2.2.2.2.2.2.2.2.2.2.1
theorem dX0_termYielded_78 : decode cX0_termYielded 78 = .ok (.iconst 4, 1) := edX0_termYielded_51.2.2.2.2.2.2.2.2.2.2.2.2.2.2.2.2.1
theorem dX0_termYielded_79 : decode cX0_termYielded 79 = .ok (.if_icmp .ge 104, 3) := edX0_termYielded_51.2.2.2.2.2.2.2.2.2.2.2.2.2.2.2.2.2.1
theorem dX0_termYielded_82 : decode cX0_termYielded 82 = .ok (.iload_n 3, 1) := edX0_termYielded_51.2.2.2.2.2.2.2.2.2.2.2.2.2.2.2.2.2.2.1
theorem dX0_termYielded_83 : decode cX0_termYielded 83 = .ok (.ifCond .ne 21, 3) := edX0_termYielded_51.2.2.2.2.2.2.2.2.2.2.2.2.2.2.2.2.2.2.2.1
theorem dX0_termYielded_86 : decode cX0_termYielded 86 = .ok (.aload_n 0, 1) := edX0_termYielded_51.2.2.2.2.2.2.2.2.2.2.2.2.2.2.2.2.2.2.2.2.1
theorem dX0_termYielded_87 : decode cX0_termYielded 87 = .ok (.getfield 9, 3) := edX0_termYielded_51.2.2.2.2.2.2.2.2.2.2.2.2.2.2.2.2.2.2.2.2.2.1
theorem dX0_termYielded_90 : decode cX0_termYielded 90 = .ok (.iload 9, 2) := edX0_termYielded_51.2.2.2.2.2.2.2.2.2.2.2.2.2.2.2.2.2.2.2.2.2.2.1
theorem dX0_termYielded_92 : decode cX0_termYielded 92 = .ok (.iaload, 1) := edX0_termYielded_51.2.2.2.2.2.2.2.2.2.2.2.2.2.2.2.2.2.2.2.2.2.2.2.1
theorem dX0_termYielded_93 : decode cX0_termYielded 93 = .ok (.ifCond .le 7, 3) := edX0_termYielded_51.2.2.2.2.2.2.2.2.2.2.2.2.2.2.2.2.2.2.2.2.2.2.2.2.1
theorem dX0_termYielded_96 : decode cX0_termYielded 96 = .ok (.iconst 1, 1) := edX0_termYielded_51.2.2.2.2.2.2.2.2.2.2.2.2.2.2.2.2.2.2.2.2.2.2.2.2.2.1
theorem dX0_termYielded_97 : decode cX0_termYielded 97 = .ok (.goto 24, 3) := edX0_termYielded_51.2.2.2.2.2.2.2.2.2.2.2.2.2.2.2.2.2.2.2.2.2.2.2.2.2.2.1
theorem dX0_termYielded_100 : decode cX0_termYielded 100 = .ok (.iconst 0, 1) := edX0_termYielded_51.2.2.2.2.2.2.2.2.2.2.2.2.2.2.2.2.2.2.2.2.2.2.2.2.2.2.2.1
theorem dX0_termYielded_101 : decode cX0_termYielded 101 = .ok (.goto 20, 3) := edX0_termYielded_51.2.2.2.2.2.2.2.2.2.2.2.2.2.2.2.2.2.2.2.2.2.2.2.2.2.2.2.2.1
theorem dX0_termYielded_104 : decode cX0_termYielded 104 = .ok (.aload_n 0, 1) := edX0_termYielded_51.2.2.2.2.2.2.2.2.2.2.2.2.2.2.2.2.2.2.2.2.2.2.2.2.2.2.2.2.2.1
theorem dX0_termYielded_105 : decode cX0_termYielded 105 = .ok (.getfield 9, 3) := edX0_termYielded_51.2.2.2.2.2.2.2.2.2.2.2.2.2.2.2.2.2.2.2.2.2.2.2.2.2.2.2.2.2.2.1
theorem dX0_termYielded_108 : decode cX0_termYielded 108 = .ok (.iload 9, 2) := edX0_termYielded_51.2.2.2.2.2.2.2.2.2.2.2.2.2.2.2.2.2.2.2.2.2.2.2.2.2.2.2.2.2.2.2.1
theorem edX0_termYielded_110 : (decode cX0_termYielded 110 = .ok (.iaload, 1)) ∧ (decode cX0_termYielded 111 = .ok (.bipush 9, 2)) ∧ (decode cX0_termYielded 113 = .ok (.if_icmp .ge 7, 3)) ∧ (decode cX0_termYielded 116 = .ok (.iconst 1, 1)) ∧ (decode cX0_termYielded 117 = .ok (.goto 4, 3)) ∧ (decode cX0_termYielded 120 = .ok (.iconst 0, 1)) ∧ (decode cX0_termYielded 121 = .ok (.istore 10, 2)) ∧ (decode cX0_termYielded 123 = .ok (.aload_n 0, 1)) ∧ (decode cX0_termYielded 124 = .ok (.getfield 15, 3)) ∧ (decode cX0_termYielded 127 = .ok (.iload 6, 2)) ∧ (decode cX0_termYielded 129 = .ok (.iload 9, 2)) ∧ (decode cX0_termYielded 131 = .ok (.invokestatic 87, 3)) ∧ (decode cX0_termYielded 134 = .ok (.iaload, 1)) ∧ (decode cX0_termYielded 135 = .ok (.istore 11, 2)) ∧ (decode cX0_termYielded 137 = .ok (.iload 10, 2)) ∧ (decode cX0_termYielded 139 = .ok (.ifCond .eq 38, 3)) ∧ (decode cX0_termYielded 142 = .ok (.iload 7, 2)) ∧ (decode cX0_termYielded 144 = .ok (.ifCond .lt 25, 3)) ∧ (decode cX0_termYielded 147 = .ok (.iload 5, 2)) ∧ (decode cX0_termYielded 149 = .ok (.ifCond .eq 13, 3)) ∧ (decode cX0_termYielded 152 = .ok (.iload 11, 2)) ∧ (decode cX0_termYielded 154 = .ok (.iload 8, 2)) ∧ (decode cX0_termYielded 156 = .ok (.if_icmp .le 21, 3)) ∧ (decode cX0_termYielded 159 = .ok (.goto 10, 3)) ∧ (decode cX0_termYielded 162 = .ok (.iload 11, 2)) ∧ (decode cX0_termYielded 164 = .ok (.iload 8, 2)) ∧ (decode cX0_termYielded 166 = .ok (.if_icmp .ge 11, 3)) ∧ (decode cX0_termYielded 169 = .ok (.iload 9, 2)) ∧ (decode cX0_termYielded 171 = .ok (.istore 7, 2)) ∧ (decode cX0_termYielded 173 = .ok (.iload 11, 2)) ∧ (decode cX0_termYielded 175 = .ok (.istore 8, 2)) ∧ (decode cX0_termYielded 177 = .ok (.iinc 9 1, 3)) ∧ True := dc_cj [(110, .iaload, 1), (111, .bipush 9, 2), (113, .if_icmp .ge 7, 3), (116, .iconst 1, 1), (117, .goto 4, 3), (120, .iconst 0, 1), (121, .istore 10, 2), (123, .aload_n 0, 1), (124, .getfield 15, 3), (127, .iload 6, 2), (129, .iload 9, 2), (131, .invokestatic 87, 3), (134, .iaload, 1), (135, .istore 11, 2), (137, .iload 10, 2), (139, .ifCond .eq 38, 3), (142, .iload 7, 2), (144, .ifCond .lt 25, 3), (147, .iload 5, 2), (149, .ifCond .eq 13, 3), (152, .iload 11, 2), (154, .iload 8, 2), (156, .if_icmp .le 21, 3), (159, .goto 10, 3), (162, .iload 11, 2), (164, .iload 8, 2), (166, .if_icmp .ge 11, 3), (169, .iload 9, 2), (171, .istore 7, 2), (173, .iload 11, 2), (175, .istore 8, 2), (177, .iinc 9 1, 3)] (by decide +kernel)
theorem dX0_termYielded_110 : decode cX0_termYielded 110 = .ok (.iaload, 1) := edX0_termYielded_110.1
theorem dX0_termYielded_111 : decode cX0_termYielded 111 = .ok (.bipush 9, 2) := edX0_termYielded_110.2.1
theorem dX0_termYielded_113 : decode cX0_termYielded 113 = .ok (.if_icmp .ge 7, 3) := edX0_termYielded_110.2.2.1
theorem dX0_termYielded_116 : decode cX0_termYielded 116 = .ok (.iconst 1, 1) := edX0_termYielded_110.2.2.2.1
theorem dX0_termYielded_117 : decode cX0_termYielded 117 = .ok (.goto 4, 3) := edX0_termYielded_110.2.2.2.2.1
theorem dX0_termYielded_120 : decode cX0_termYielded 120 = .ok (.iconst 0, 1) := edX0_termYielded_110.2.2.2.2.2.1
theorem dX0_termYielded_121 : decode cX0_termYielded 121 = .ok (.istore 10, 2) := edX0_termYielded_110.2.2.2.2.2.2.1
theorem dX0_termYielded_123 : decode cX0_termYielded 123 = .ok (.aload_n 0, 1) := edX0_termYielded_110.2.2.2.2.2.2.2.1
theorem dX0_termYielded_124 : decode cX0_termYielded 124 = .ok (.getfield 15, 3) := edX0_termYielded_110.2.2.2.2.2.2.2.2.1
theorem dX0_termYielded_127 : decode cX0_termYielded 127 = .ok (.iload 6, 2) := edX0_termYielded_110.2.2.2.2.2.2.2.2.2.1
theorem dX0_termYielded_129 : decode cX0_termYielded 129 = .ok (.iload 9, 2) := edX0_termYielded_110.2.2.2.2.2.2.2.2.2.2.1
theorem dX0_termYielded_131 : decode cX0_termYielded 131 = .ok (.invokestatic 87, 3) := edX0_termYielded_110.2.2.2.2.2.2.2.2.2.2.2.1
theorem dX0_termYielded_134 : decode cX0_termYielded 134 = .ok (.iaload, 1) := edX0_termYielded_110.2.2.2.2.2.2.2.2.2.2.2.2.1
theorem dX0_termYielded_135 : decode cX0_termYielded 135 = .ok (.istore 11, 2) := edX0_termYielded_110.2.2.2.2.2.2.2.2.2.2.2.2.2.1
theorem dX0_termYielded_137 : decode cX0_termYielded 137 = .ok (.iload 10, 2) := edX0_termYielded_110.2.2.2.2.2.2.2.2.2.2.2.2.2.2.1
theorem dX0_termYielded_139 : decode cX0_termYielded 139 = .ok (.ifCond .eq 38, 3) := edX0_termYielded_110.2.2.2.2.2.2.2.2.2.2.2.2.2.2.2.1
theorem dX0_termYielded_142 : decode cX0_termYielded 142 = .ok (.iload 7, 2) := edX0_termYielded_110.2.2.2.2.2.2.2.2.2.2.2.2.2.2.2.2.1
theorem dX0_termYielded_144 : decode cX0_termYielded 144 = .ok (.ifCond .lt 25, 3) := edX0_termYielded_110.2.2.2.2.2.2.2.2.2.2.2.2.2.2.2.2.2.1
theorem dX0_termYielded_147 : decode cX0_termYielded 147 = .ok (.iload 5, 2) := edX0_termYielded_110.2.2.2.2.2.2.2.2.2.2.2.2.2.2.2.2.2.2.1
theorem dX0_termYielded_149 : decode cX0_termYielded 149 = .ok (.ifCond .eq 13, 3) := edX0_termYielded_110.2.2.2.2.2.2.2.2.2.2.2.2.2.2.2.2.2.2.2.1
theorem dX0_termYielded_152 : decode cX0_termYielded 152 = .ok (.iload 11, 2) := edX0_termYielded_110.2.2.2.2.2.2.2.2.2.2.2.2.2.2.2.2.2.2.2.2.1
theorem dX0_termYielded_154 : decode cX0_termYielded 154 = .ok (.iload 8, 2) := edX0_termYielded_110.2.2.2.2.2.2.2.2.2.2.2.2.2.2.2.2.2.2.2.2.2.1
theorem dX0_termYielded_156 : decode cX0_termYielded 156 = .ok (.if_icmp .le 21, 3) := edX0_termYielded_110.2.2.2.2.2.2.2.2.2.2.2.2.2.2.2.2.2.2.2.2.2.2.1
theorem dX0_termYielded_159 : decode cX0_termYielded 159 = .ok (.goto 10, 3) := edX0_termYielded_110.2.2.2.2.2.2.2.2.2.2.2.2.2.2.2.2.2.2.2.2.2.2.2.1
theorem dX0_termYielded_162 : decode cX0_termYielded 162 = .ok (.iload 11, 2) := edX0_termYielded_110.2.2.2.2.2.2.2.2.2.2.2.2.2.2.2.2.2.2.2.2.2.2.2.2.1
theorem dX0_termYielded_164 : decode cX0_termYielded 164 = .ok (.iload 8, 2) := edX0_termYielded_110.2.2.2.2.2.2.2.2.2.2.2.2.2.2.2.2.2.2.2.2.2.2.2.2.2.1
theorem dX0_termYielded_166 : decode cX0_termYielded 166 = .ok (.if_icmp .ge 11, 3) := edX0_termYielded_110.2.2.2.2.2.2.2.2.2.2.2.2.2.2.2.2.2.2.2.2.2.2.2.2.2.2.1
theorem dX0_termYielded_169 : decode cX0_termYielded 169 = .ok (.iload 9, 2) := edX0_termYielded_110.2.2.2.2.2.2.2.2.2.2.2.2.2.2.2.2.2.2.2.2.2.2.2.2.2.2.2.1
theorem dX0_termYielded_171 : decode cX0_termYielded 171 = .ok (.istore 7, 2) := edX0_termYielded_110.2.2.2.2.2.2.2.2.2.2.2.2.2.2.2.2.2.2.2.2.2.2.2.2.2.2.2.2.1
theorem dX0_termYielded_173 : decode cX0_termYielded 173 = .ok (.iload 11, 2) := edX0_termYielded_110.2.2.2.2.2.2.2.2.2.2.2.2.2.2.2.2.2.2.2.2.2.2.2.2.2.2.2.2.2.1
theorem dX0_termYielded_175 : decode cX0_termYielded 175 = .ok (.istore 8, 2) := edX0_termYielded_110.2.2.2.2.2.2.2.2.2.2.2.2.2.2.2.2.2.2.2.2.2.2.2.2.2.2.2.2.2.2.1
theorem dX0_termYielded_177 : decode cX0_termYielded 177 = .ok (.iinc 9 1, 3) := edX0_termYielded_110.2.2.2.2.2.2.2.2.2.2.2.2.2.2.2.2.2.2.2.2.2.2.2.2.2.2.2.2.2.2.2.1
theorem edX0_termYielded_180 : (decode cX0_termYielded 180 = .ok (.goto (-104), 3)) ∧ (decode cX0_termYielded 183 = .ok (.iload 7, 2)) ∧ (decode cX0_termYielded 185 = .ok (.ireturn, 1)) ∧ True := dc_cj [(180, .goto (-104), 3), (183, .iload 7, 2), (185, .ireturn, 1)] (by decide +kernel)
theorem dX0_termYielded_180 : decode cX0_termYielded 180 = .ok (.goto (-104), 3) := edX0_termYielded_180.1
theorem dX0_termYielded_183 : decode cX0_termYielded 183 = .ok (.iload 7, 2) := edX0_termYielded_180.2.1
theorem dX0_termYielded_185 : decode cX0_termYielded 185 = .ok (.ireturn, 1) := edX0_termYielded_180.2.2.1
theorem edX0_runPosts_0 : (decode cX0_runPosts 0 = .ok (.iconst 0, 1)) ∧ (decode cX0_runPosts 1 = .ok (.istore_n 3, 1)) ∧ (decode cX0_runPosts 2 = .ok (.iconst 0, 1)) ∧ (decode cX0_runPosts 3 = .ok (.istore 4, 2)) ∧ (decode cX0_runPosts 5 = .ok (.iload 4, 2)) ∧ (decode cX0_runPosts 7 = .ok (.iload_n 1, 1)) ∧ (decode cX0_runPosts 8 = .ok (.if_icmp .ge 31, 3)) ∧ (decode cX0_runPosts 11 = .ok (.aload_n 0, 1)) ∧ (decode cX0_runPosts 12 = .ok (.invokevirtual 117, 3)) ∧ (decode cX0_runPosts 15 = .ok (.ifCond .ne 24, 3)) ∧ (decode cX0_runPosts 18 = .ok (.aload_n 0, 1)) ∧ (decode cX0_runPosts 19 = .ok (.invokevirtual 121, 3)) ∧ (decode cX0_runPosts 22 = .ok (.ifCond .ne 17, 3)) ∧ (decode cX0_runPosts 25 = .ok (.iload_n 3, 1)) ∧ (decode cX0_runPosts 26 = .ok (.aload_n 0, 1)) ∧ (decode cX0_runPosts 27 = .ok (.iload_n 2, 1)) ∧ (decode cX0_runPosts 28 = .ok (.invokevirtual 124, 3)) ∧ (decode cX0_runPosts 31 = .ok (.iadd, 1)) ∧ (decode cX0_runPosts 32 = .ok (.istore_n 3, 1)) ∧ (decode cX0_runPosts 33 = .ok (.iinc 4 1, 3)) ∧ (decode cX0_runPosts 36 = .ok (.goto (-31), 3)) ∧ (decode cX0_runPosts 39 = .ok (.aload_n 0, 1)) ∧ (decode cX0_runPosts 40 = .ok (.dup, 1)) ∧ (decode cX0_runPosts 41 = .ok (.getfield 34, 3)) ∧ (decode cX0_runPosts 44 = .ok (.iload_n 1, 1)) ∧ (decode cX0_runPosts 45 = .ok (.iadd, 1)) ∧ (decode cX0_runPosts 46 = .ok (.putfield 34, 3)) ∧ (decode cX0_runPosts 49 = .ok (.iload_n 3, 1)) ∧ (decode cX0_runPosts 50 = .ok (.ireturn, 1)) ∧ True := dc_cj [(0, .iconst 0, 1), (1, .istore_n 3, 1), (2, .iconst 0, 1), (3, .istore 4, 2), (5, .iload 4, 2), (7, .iload_n 1, 1), (8, .if_icmp .ge 31, 3), (11, .aload_n 0, 1), (12, .invokevirtual 117, 3), (15, .ifCond .ne 24, 3), (18, .aload_n 0, 1), (19, .invokevirtual 121, 3), (22, .ifCond .ne 17, 3), (25, .iload_n 3, 1), (26, .aload_n 0, 1), (27, .iload_n 2, 1), (28, .invokevirtual 124, 3), (31, .iadd, 1), (32, .istore_n 3, 1), (33, .iinc 4 1, 3), (36, .goto (-31), 3), (39, .aload_n 0, 1), (40, .dup, 1), (41, .getfield 34, 3), (44, .iload_n 1, 1), (45, .iadd, 1), (46, .putfield 34, 3), (49, .iload_n 3, 1), (50, .ireturn, 1)] (by decide +kernel)
theorem dX0_runPosts_0 : decode cX0_runPosts 0 = .ok (.iconst 0, 1) := edX0_runPosts_0.1
theorem dX0_runPosts_1 : decode cX0_runPosts 1 = .ok (.istore_n 3, 1) := edX0_runPosts_0.2.1
theorem dX0_runPosts_2 : decode cX0_runPosts 2 = .ok (.iconst 0, 1) := edX0_runPosts_0.2.2.1
theorem dX0_runPosts_3 : decode cX0_runPosts 3 = .ok (.istore 4, 2) := edX0_runPosts_0.2.2.2.1
theorem dX0_runPosts_5 : decode cX0_runPosts 5 = .ok (.iload 4, 2) := edX0_runPosts_0.2.2.2.2.1
theorem dX0_runPosts_7 : decode cX0_runPosts 7 = .ok (.iload_n 1, 1) := edX0_runPosts_0.2.2.2.2.2.1
theorem dX0_runPosts_8 : decode cX0_runPosts 8 = .ok (.if_icmp .ge 31, 3) := edX0_runPosts_0.2.2.2.2.2.2.1
theorem dX0_runPosts_11 : decode cX0_runPosts 11 = .ok (.aload_n 0, 1) := edX0_runPosts_0.2.2.2.2.2.2.2.1
theorem dX0_runPosts_12 : decode cX0_runPosts 12 = .ok (.invokevirtual 117, 3) := edX0_runPosts_0.2.2.2.2.2.2.2.2.1
theorem dX0_runPosts_15 : decode cX0_runPosts 15 = .ok (.ifCond .ne 24, 3) := edX0_runPosts_0.2.2.2.2.2.2.2.2.2.1
theorem dX0_runPosts_18 : decode cX0_runPosts 18 = .ok (.aload_n 0, 1) := edX0_runPosts_0.2.2.2.2.2.2.2.2.2.2.1
theorem dX0_runPosts_19 : decode cX0_runPosts 19 = .ok (.invokevirtual 121, 3) := edX0_runPosts_0.2.2.2.2.2.2.2.2.2.2.2.1
theorem dX0_runPosts_22 : decode cX0_runPosts 22 = .ok (.ifCond .ne 17, 3) := edX0_runPosts_0.2.2.2.2.2.2.2.2.2.2.2.2.1
theorem dX0_runPosts_25 : decode cX0_runPosts 25 = .ok (.iload_n 3, 1) := edX0_runPosts_0.2.2.2.2.2.2.2.2.2.2.2.2.2.1
theorem dX0_runPosts_26 : decode cX0_runPosts 26 = .ok (.aload_n 0, 1) := edX0_runPosts_0.2.2.2.2.2.2.2.2.2.2.2.2.2.2.1
theorem dX0_runPosts_27 : decode cX0_runPosts 27 = .ok (.iload_n 2, 1) := edX0_runPosts_0.2.2.2.2.2.2.2.2.2.2.2.2.2.2.2.1
theorem dX0_runPosts_28 : decode cX0_runPosts 28 = .ok (.invokevirtual 124, 3) := edX0_runPosts_0.2.2.2.2.2.2.2.2.2.2.2.2.2.2.2.2.1
theorem dX0_runPosts_31 : decode cX0_runPosts 31 = .ok (.iadd, 1) := edX0_runPosts_0.2.2.2.2.2.2.2.2.2.2.2.2.2.2.2.2.2.1
theorem dX0_runPosts_32 : decode cX0_runPosts 32 = .ok (.istore_n 3, 1) := edX0_runPosts_0.2.2.2.2.2.2.2.2.2.2.2.2.2.2.2.2.2.2.1
theorem dX0_runPosts_33 : decode cX0_runPosts 33 = .ok (.iinc 4 1, 3) := edX0_runPosts_0.2.2.2.2.2.2.2.2.2.2.2.2.2.2.2.2.2.2.2.1
theorem dX0_runPosts_36 : decode cX0_runPosts 36 = .ok (.goto (-31), 3) := edX0_runPosts_0.2.2.2.2.2.2.2.2.2.2.2.2.2.2.2.2.2.2.2.2.1
theorem dX0_runPosts_39 : decode cX0_runPosts 39 = .ok (.aload_n 0, 1) := edX0_runPosts_0.2.2.2.2.2.2.2.2.2.2.2.2.2.2.2.2.2.2.2.2.2.1
theorem dX0_runPosts_40 : decode cX0_runPosts 40 = .ok (.dup, 1) := edX0_runPosts_0.2.2.2.2.2.2.2.2.2.2.2.2.2.2.2.2.2.2.2.2.2.2.1
theorem dX0_runPosts_41 : decode cX0_runPosts 41 = .ok (.getfield 34, 3) := edX0_runPosts_0.2.2.2.2.2.2.2.2.2.2.2.2.2.2.2.2.2.2.2.2.2.2.2.1
theorem dX0_runPosts_44 : decode cX0_runPosts 44 = .ok (.iload_n 1, 1) := edX0_runPosts_0.2.2.2.2.2.2.2.2.2.2.2.2.2.2.2.2.2.2.2.2.2.2.2.2.1
theorem dX0_runPosts_45 : decode cX0_runPosts 45 = .ok (.iadd, 1) := edX0_runPosts_0.2.2.2.2.2.2.2.2.2.2.2.2.2.2.2.2.2.2.2.2.2.2.2.2.2.1
theorem dX0_runPosts_46 : decode cX0_runPosts 46 = .ok (.putfield 34, 3) := edX0_runPosts_0.2.2.2.2.2.2.2.2.2.2.2.2.2.2.2.2.2.2.2.2.2.2.2.2.2.2.1
theorem dX0_runPosts_49 : decode cX0_runPosts 49 = .ok (.iload_n 3, 1) := edX0_runPosts_0.2.2.2.2.2.2.2.2.2.2.2.2.2.2.2.2.2.2.2.2.2.2.2.2.2.2.2.1
theorem dX0_runPosts_50 : decode cX0_runPosts 50 = .ok (.ireturn, 1) := edX0_runPosts_0.2.2.2.2.2.2.2.2.2.2.2.2.2.2.2.2.2.2.2.2.2.2.2.2.2.2.2.2.1
theorem edX0_writeLetters_0 : (decode cX0_writeLetters 0 = .ok (.aload_n 0, 1)) ∧ (decode cX0_writeLetters 1 = .ok (.getfield 70, 3)) ∧ (decode cX0_writeLetters 4 = .ok (.iconst 0, 1)) ∧ (decode cX0_writeLetters 5 = .ok (.invokestatic 127, 3)) ∧ (decode cX0_writeLetters 8 = .ok (.iconst 0, 1)) ∧ (decode cX0_writeLetters 9 = .ok (.istore_n 2, 1)) ∧ (decode cX0_writeLetters 10 = .ok (.iconst 0, 1)) ∧ (decode cX0_writeLetters 11 = .ok (.istore_n 3, 1)) ∧ (decode cX0_writeLetters 12 = .ok (.iconst 0, 1)) ∧ (decode cX0_writeLetters 13 = .ok (.istore 4, 2)) ∧ (decode cX0_writeLetters 15 = .ok (.iload 4, 2)) ∧ (decode cX0_writeLetters 17 = .ok (.aload_n 0, 1)) ∧ (decode cX0_writeLetters 18 = .ok (.getfield 40, 3)) ∧ (decode cX0_writeLetters 21 = .ok (.if_icmp .ge 131, 3)) ∧ (decode cX0_writeLetters 24 = .ok (.iload 4, 2)) ∧ (decode cX0_writeLetters 26 = .ok (.iload_n 1, 1)) ∧ (decode cX0_writeLetters 27 = .ok (.if_icmp .ne 6, 3)) ∧ (decode cX0_writeLetters 30 = .ok (.goto 116, 3)) ∧ (decode cX0_writeLetters 33 = .ok (.aload_n 0, 1)) ∧ (decode cX0_writeLetters 34 = .ok (.getfield 52, 3)) ∧ (decode cX0_writeLetters 37 = .ok (.iload 4, 2)) ∧ (decode cX0_writeLetters 39 = .ok (.dup2, 1)) ∧ (decode cX0_writeLetters 40 = .ok (.iaload, 1)) ∧ (decode cX0_writeLetters 41 = .ok (.iconst 1, 1)) ∧ (decode cX0_writeLetters 42 = .ok (.iadd, 1)) ∧ (decode cX0_writeLetters 43 = .ok (.iastore, 1)) ∧ (decode cX0_writeLetters 44 = .ok (.aload_n 0, 1)) ∧ (decode cX0_writeLetters 45 = .ok (.invokevirtual 133, 3)) ∧ (decode cX0_writeLetters 48 = .ok (.bipush 100, 2)) ∧ (decode cX0_writeLetters 50 = .ok (.irem, 1)) ∧ (decode cX0_writeLetters 51 = .ok (.aload_n 0, 1)) ∧ (decode cX0_writeLetters 52 = .ok (.getfield 28, 3)) ∧ True := dc_cj [(0, .aload_n 0, 1), (1, .getfield 70, 3), (4, .iconst 0, 1), (5, .invokestatic 127, 3), (8, .iconst 0, 1), (9, .istore_n 2, 1), (10, .iconst 0, 1), (11, .istore_n 3, 1), (12, .iconst 0, 1), (13, .istore 4, 2), (15, .iload 4, 2), (17, .aload_n 0, 1), (18, .getfield 40, 3), (21, .if_icmp .ge 131, 3), (24, .iload 4, 2), (26, .iload_n 1, 1), (27, .if_icmp .ne 6, 3), (30, .goto 116, 3), (33, .aload_n 0, 1), (34, .getfield 52, 3), (37, .iload 4, 2), (39, .dup2, 1), (40, .iaload, 1), (41, .iconst 1, 1), (42, .iadd, 1), (43, .iastore, 1), (44, .aload_n 0, 1), (45, .invokevirtual 133, 3), (48, .bipush 100, 2), (50, .irem, 1), (51, .aload_n 0, 1), (52, .getfield 28, 3)] (by decide +kernel)
theorem dX0_writeLetters_0 : decode cX0_writeLetters 0 = .ok (.aload_n 0, 1) := edX0_writeLetters_0.1
theorem dX0_writeLetters_1 : decode cX0_writeLetters 1 = .ok (.getfield 70, 3) := edX0_writeLetters_0.2.1
theorem dX0_writeLetters_4 : decode cX0_writeLetters 4 = .ok (.iconst 0, 1) := edX0_writeLetters_0.2.2.1
theorem dX0_writeLetters_5 : decode cX0_writeLetters 5 = .ok (.invokestatic 127, 3) := edX0_writeLetters_0.2.2.2.1
theorem dX0_writeLetters_8 : decode cX0_writeLetters 8 = .ok (.iconst 0, 1) := edX0_writeLetters_0.2.2.2.2.1
theorem dX0_writeLetters_9 : decode cX0_writeLetters 9 = .ok (.istore_n 2, 1) := edX0_writeLetters_0.2.2.2.2.2.1
theorem dX0_writeLetters_10 : decode cX0_writeLetters 10 = .ok (.iconst 0, 1) := edX0_writeLetters_0.2.2.2.2.2.2.1
theorem dX0_writeLetters_11 : decode cX0_writeLetters 11 = .ok (.istore_n 3, 1) := edX0_writeLetters_0.2.2.2.2.2.2.2.1
theorem dX0_writeLetters_12 : decode cX0_writeLetters 12 = .ok (.iconst 0, 1) := edX0_writeLetters_0.2.2.2.2.2.2.2.2.1
theorem dX0_writeLetters_13 : decode cX0_writeLetters 13 = .ok (.istore 4, 2) := edX0_writeLetters_0.2.2.2.2.2.2.2.2.2.1
theorem dX0_writeLetters_15 : decode cX0_writeLetters 15 = .ok (.iload 4, 2) := edX0_writeLetters_0.2.2.2.2.2.2.2.2.2.2.1
theorem dX0_writeLetters_17 : decode cX0_writeLetters 17 = .ok (.aload_n 0, 1) := edX0_writeLetters_0.2.2.2.2.2.2.2.2.2.2.2.1
theorem dX0_writeLetters_18 : decode cX0_writeLetters 18 = .ok (.getfield 40, 3) := edX0_writeLetters_0.2.2.2.2.2.2.2.2.2.2.2.2.1
theorem dX0_writeLetters_21 : decode cX0_writeLetters 21 = .ok (.if_icmp .ge 131, 3) := edX0_writeLetters_0.2.2.2.2.2.2.2.2.2.2.2.2.2.1
theorem dX0_writeLetters_24 : decode cX0_writeLetters 24 = .ok (.iload 4, 2) := edX0_writeLetters_0.2.2.2.2.2.2.2.2.2.2.2.2.2.2.1
theorem dX0_writeLetters_26 : decode cX0_writeLetters 26 = .ok (.iload_n 1, 1) := edX0_writeLetters_0.2.2.2.2.2.2.2.2.2.2.2.2.2.2.2.1
theorem dX0_writeLetters_27 : decode cX0_writeLetters 27 = .ok (.if_icmp .ne 6, 3) := edX0_writeLetters_0.2.2.2.2.2.2.2.2.2.2.2.2.2.2.2.2.1
theorem dX0_writeLetters_30 : decode cX0_writeLetters 30 = .ok (.goto 116, 3) := edX0_writeLetters_0.2.2.2.2.2.2.2.2.2.2.2.2.2.2.2.2.2.1
theorem dX0_writeLetters_33 : decode cX0_writeLetters 33 = .ok (.aload_n 0, 1) := edX0_writeLetters_0.2.2.2.2.2.2.2.2.2.2.2.2.2.2.2.2.2.2.1
theorem dX0_writeLetters_34 : decode cX0_writeLetters 34 = .ok (.getfield 52, 3) := edX0_writeLetters_0.2.2.2.2.2.2.2.2.2.2.2.2.2.2.2.2.2.2.2.1
theorem dX0_writeLetters_37 : decode cX0_writeLetters 37 = .ok (.iload 4, 2) := edX0_writeLetters_0.2.2.2.2.2.2.2.2.2.2.2.2.2.2.2.2.2.2.2.2.1
theorem dX0_writeLetters_39 : decode cX0_writeLetters 39 = .ok (.dup2, 1) := edX0_writeLetters_0.2.2.2.2.2.2.2.2.2.2.2.2.2.2.2.2.2.2.2.2.2.1
theorem dX0_writeLetters_40 : decode cX0_writeLetters 40 = .ok (.iaload, 1) := edX0_writeLetters_0.2.2.2.2.2.2.2.2.2.2.2.2.2.2.2.2.2.2.2.2.2.2.1
theorem dX0_writeLetters_41 : decode cX0_writeLetters 41 = .ok (.iconst 1, 1) := edX0_writeLetters_0.2.2.2.2.2.2.2.2.2.2.2.2.2.2.2.2.2.2.2.2.2.2.2.1
theorem dX0_writeLetters_42 : decode cX0_writeLetters 42 = .ok (.iadd, 1) := edX0_writeLetters_0.2.2.2.2.2.2.2.2.2.2.2.2.2.2.2.2.2.2.2.2.2.2.2.2.1
theorem dX0_writeLetters_43 : decode cX0_writeLetters 43 = .ok (.iastore, 1) := edX0_writeLetters_0.2.2.2.2.2.2.2.2.2.2.2.2.2.2.2.2.2.2.2.2.2.2.2.2.2.1
theorem dX0_writeLetters_44 : decode cX0_writeLetters 44 = .ok (.aload_n 0, 1) := edX0_writeLetters_0.2.2.2.2.2.2.2.2.2.2.2.2.2.2.2.2.2.2.2.2.2.2.2.2.2.2.1
theorem dX0_writeLetters_45 : decode cX0_writeLetters 45 = .ok (.invokevirtual 133, 3) := edX0_writeLetters_0.2.2.2.2.2.2.2.2.2.2.2.2.2.2.2.2.2.2.2.2.2.2.2.2.2.2.2.1
theorem dX0_writeLetters_48 : decode cX0_writeLetters 48 = .ok (.bipush 100, 2) := edX0_writeLetters_0.2.2.2.2.2.2.2.2.2.2.2.2.2.2.2.2.2.2.2.2.2.2.2.2.2.2.2.2.1
theorem dX0_writeLetters_50 : decode cX0_writeLetters 50 = .ok (.irem, 1) := edX0_writeLetters_0.2.2.2.2.2.2.2.2.2.2.2.2.2.2.2.2.2.2.2.2.2.2.2.2.2.2.2.2.2.1
theorem dX0_writeLetters_51 : decode cX0_writeLetters 51 = .ok (.aload_n 0, 1) := edX0_writeLetters_0.2.2.2.2.2.2.2.2.2.2.2.2.2.2.2.2.2.2.2.2.2.2.2.2.2.2.2.2.2.2.1
theorem dX0_writeLetters_52 : decode cX0_writeLetters 52 = .ok (.getfield 28, 3) := edX0_writeLetters_0.2.2.2.2.2.2.2.2.2.2.2.2.2.2.2.2.2.2.2.2.2.2.2.2.2.2.2.2.2.2.2.1
theorem edX0_writeLetters_55 : (decode cX0_writeLetters 55 = .ok (.if_icmp .ge 16, 3)) ∧ (decode cX0_writeLetters 58 = .ok (.aload_n 0, 1)) ∧ (decode cX0_writeLetters 59 = .ok (.dup, 1)) ∧ (decode cX0_writeLetters 60 = .ok (.getfield 31, 3)) ∧ (decode cX0_writeLetters 63 = .ok (.iconst 1, 1)) ∧ (decode cX0_writeLetters 64 = .ok (.iadd, 1)) ∧ (decode cX0_writeLetters 65 = .ok (.putfield 31, 3)) ∧ (decode cX0_writeLetters 68 = .ok (.goto 78, 3)) ∧ (decode cX0_writeLetters 71 = .ok (.aload_n 0, 1)) ∧ (decode cX0_writeLetters 72 = .ok (.iload 4, 2)) ∧ (decode cX0_writeLetters 74 = .ok (.invokevirtual 137, 3)) ∧ (decode cX0_writeLetters 77 = .ok (.bipush 50, 2)) ∧ (decode cX0_writeLetters 79 = .ok (.if_icmp .lt 9, 3)) ∧ (decode cX0_writeLetters 82 = .ok (.iinc 2 5, 3)) ∧ (decode cX0_writeLetters 85 = .ok (.goto 61, 3)) ∧ (decode cX0_writeLetters 88 = .ok (.aload_n 0, 1)) ∧ (decode cX0_writeLetters 89 = .ok (.iload 4, 2)) ∧ (decode cX0_writeLetters 91 = .ok (.invokevirtual 140, 3)) ∧ (decode cX0_writeLetters 94 = .ok (.istore 5, 2)) ∧ (decode cX0_writeLetters 96 = .ok (.iload 5, 2)) ∧ (decode cX0_writeLetters 98 = .ok (.invokestatic 143, 3)) ∧ (decode cX0_writeLetters 101 = .ok (.ifCond .eq 45, 3)) ∧ (decode cX0_writeLetters 104 = .ok (.aload_n 0, 1)) ∧ (decode cX0_writeLetters 105 = .ok (.getfield 70, 3)) ∧ (decode cX0_writeLetters 108 = .ok (.iload 5, 2)) ∧ (decode cX0_writeLetters 110 = .ok (.dup2, 1)) ∧ (decode cX0_writeLetters 111 = .ok (.iaload, 1)) ∧ (decode cX0_writeLetters 112 = .ok (.aload_n 0, 1)) ∧ (decode cX0_writeLetters 113 = .ok (.getfield 46, 3)) ∧ (decode cX0_writeLetters 116 = .ok (.iload 4, 2)) ∧ (decode cX0_writeLetters 118 = .ok (.iaload, 1)) ∧ (decode cX0_writeLetters 119 = .ok (.ifCond .ne 7, 3)) ∧ True := dc_cj [(55, .if_icmp .ge 16, 3), (58, .aload_n 0, 1), (59, .dup, 1), (60, .getfield 31, 3), (63, .iconst 1, 1), (64, .iadd, 1), (65, .putfield 31, 3), (68, .goto 78, 3), (71, .aload_n 0, 1), (72, .iload 4, 2), (74, .invokevirtual 137, 3), (77, .bipush 50, 2), (79, .if_icmp .lt 9, 3), (82, .iinc 2 5, 3), (85, .goto 61, 3), (88, .aload_n 0, 1), (89, .iload 4, 2), (91, .invokevirtual 140, 3), (94, .istore 5, 2), (96, .iload 5, 2), (98, .invokestatic 143, 3), (101, .ifCond .eq 45, 3), (104, .aload_n 0, 1), (105, .getfield 70, 3), (108, .iload 5, 2), (110, .dup2, 1), (111, .iaload, 1), (112, .aload_n 0, 1), (113, .getfield 46, 3), (116, .iload 4, 2), (118, .iaload, 1), (119, .ifCond .ne 7, 3)] (by decide +kernel)
theorem dX0_writeLetters_55 : decode cX0_writeLetters 55 = .ok (.if_icmp .ge 16, 3) := edX0_writeLetters_55.1
theorem dX0_writeLetters_58 : decode cX0_writeLetters 58 = .ok (.aload_n 0, 1) := edX0_writeLetters_55.2.1
theorem dX0_writeLetters_59 : decode cX0_writeLetters 59 = .ok (.dup, 1) := edX0_writeLetters_55.2.2.1
theorem dX0_writeLetters_60 : decode cX0_writeLetters 60 = .ok (.getfield 31, 3) := edX0_writeLetters_55.2.2.2.1
theorem dX0_writeLetters_63 : decode cX0_writeLetters 63 = .ok (.iconst 1, 1) := edX0_writeLetters_55.2.2.2.2.1
theorem dX0_writeLetters_64 : decode cX0_writeLetters 64 = .ok (.iadd, 1) := edX0_writeLetters_55.2.2.2.2.2.1
theorem dX0_writeLetters_65 : decode cX0_writeLetters 65 = .ok (.putfield 31, 3) := edX0_writeLetters_55.2.2.2.2.2.2.1
theorem dX0_writeLetters_68 : decode cX0_writeLetters 68 = .ok (.goto 78, 3) := edX0_writeLetters_55.2.2.2.2.2.2.2.1
theorem dX0_writeLetters_71 : decode cX0_writeLetters 71 = .ok (.aload_n 0, 1) := edX0_writeLetters_55.2.2.2.2.2.2.2.2.1
theorem dX0_writeLetters_72 : decode cX0_writeLetters 72 = .ok (.iload 4, 2) := edX0_writeLetters_55.2.2.2.2.2.2.2.2.2.1
theorem dX0_writeLetters_74 : decode cX0_writeLetters 74 = .ok (.invokevirtual 137, 3) := edX0_writeLetters_55.2.2.2.2.2.2.2.2.2.2.1
theorem dX0_writeLetters_77 : decode cX0_writeLetters 77 = .ok (.bipush 50, 2) := edX0_writeLetters_55.2.2.2.2.2.2.2.2.2.2.2.1
theorem dX0_writeLetters_79 : decode cX0_writeLetters 79 = .ok (.if_icmp .lt 9, 3) := edX0_writeLetters_55.2.2.2.2.2.2.2.2.2.2.2.2.1
theorem dX0_writeLetters_82 : decode cX0_writeLetters 82 = .ok (.iinc 2 5, 3) := edX0_writeLetters_55.2.2.2.2.2.2.2.2.2.2.2.2.2.1
theorem dX0_writeLetters_85 : decode cX0_writeLetters 85 = .ok (.goto 61, 3) := edX0_writeLetters_55.2.2.2.2.2.2.2.2.2.2.2.2.2.2.1
theorem dX0_writeLetters_88 : decode cX0_writeLetters 88 = .ok (.aload_n 0, 1) := edX0_writeLetters_55.2.2.2.2.2.2.2.2.2.2.2.2.2.2.2.1
theorem dX0_writeLetters_89 : decode cX0_writeLetters 89 = .ok (.iload 4, 2) := edX0_writeLetters_55.2.2.2.2.2.2.2.2.2.2.2.2.2.2.2.2.1
theorem dX0_writeLetters_91 : decode cX0_writeLetters 91 = .ok (.invokevirtual 140, 3) := edX0_writeLetters_55.2.2.2.2.2.2.2.2.2.2.2.2.2.2.2.2.2.1
theorem dX0_writeLetters_94 : decode cX0_writeLetters 94 = .ok (.istore 5, 2) := edX0_writeLetters_55.2.2.2.2.2.2.2.2.2.2.2.2.2.2.2.2.2.2.1
theorem dX0_writeLetters_96 : decode cX0_writeLetters 96 = .ok (.iload 5, 2) := edX0_writeLetters_55.2.2.2.2.2.2.2.2.2.2.2.2.2.2.2.2.2.2.2.1
theorem dX0_writeLetters_98 : decode cX0_writeLetters 98 = .ok (.invokestatic 143, 3) := edX0_writeLetters_55.2.2.2.2.2.2.2.2.2.2.2.2.2.2.2.2.2.2.2.2.1
theorem dX0_writeLetters_101 : decode cX0_writeLetters 101 = .ok (.ifCond .eq 45, 3) := edX0_writeLetters_55.2.2.2.2.2.2.2.2.2.2.2.2.2.2.2.2.2.2.2.2.2.1
theorem dX0_writeLetters_104 : decode cX0_writeLetters 104 = .ok (.aload_n 0, 1) := edX0_writeLetters_55.2.2.2.2.2.2.2.2.2.2.2.2.2.2.2.2.2.2.2.2.2.2.1
theorem dX0_writeLetters_105 : decode cX0_writeLetters 105 = .ok (.getfield 70, 3) := edX0_writeLetters_55.2.2.2.2.2.2.2.2.2.2.2.2.2.2.2.2.2.2.2.2.2.2.2.1
theorem dX0_writeLetters_108 : decode cX0_writeLetters 108 = .ok (.iload 5, 2) := edX0_writeLetters_55.2.2.2.2.2.2.2.2.2.2.2.2.2.2.2.2.2.2.2.2.2.2.2.2.1
theorem dX0_writeLetters_110 : decode cX0_writeLetters 110 = .ok (.dup2, 1) := edX0_writeLetters_55.2.2.2.2.2.2.2.2.2.2.2.2.2.2.2.2.2.2.2.2.2.2.2.2.2.1
theorem dX0_writeLetters_111 : decode cX0_writeLetters 111 = .ok (.iaload, 1) := edX0_writeLetters_55.2.2.2.2.2.2.2.2.2.2.2.2.2.2.2.2.2.2.2.2.2.2.2.2.2.2.1
theorem dX0_writeLetters_112 : decode cX0_writeLetters 112 = .ok (.aload_n 0, 1) := edX0_writeLetters_55.2.2.2.2.2.2.2.2.2.2.2.2.2.2.2.2.2.2.2.2.2.2.2.2.2.2.2.1
theorem dX0_writeLetters_113 : decode cX0_writeLetters 113 = .ok (.getfield 46, 3) := edX0_writeLetters_55.2.2.2.2.2.2.2.2.2.2.2.2.2.2.2.2.2.2.2.2.2.2.2.2.2.2.2.2.1
theorem dX0_writeLetters_116 : decode cX0_writeLetters 116 = .ok (.iload 4, 2) := edX0_writeLetters_55.2.2.2.2.2.2.2.2.2.2.2.2.2.2.2.2.2.2.2.2.2.2.2.2.2.2.2.2.2.1
theorem dX0_writeLetters_118 : decode cX0_writeLetters 118 = .ok (.iaload, 1) := edX0_writeLetters_55.2.2.2.2.2.2.2.2.2.2.2.2.2.2.2.2.2.2.2.2.2.2.2.2.2.2.2.2.2.2.1
theorem dX0_writeLetters_119 : decode cX0_writeLetters 119 = .ok (.ifCond .ne 7, 3) := edX0_writeLetters_55.2.2.2.2.2.2.2.2.2.2.2.2.2.2.2.2.2.2.2.2.2.2.2.2.2.2.2.2.2.2.2.1
theorem edX0_writeLetters_122 : (decode cX0_writeLetters 122 = .ok (.iconst (-1), 1)) ∧ (decode cX0_writeLetters 123 = .ok (.goto 4, 3)) ∧ (decode cX0_writeLetters 126 = .ok (.iconst 1, 1)) ∧ (decode cX0_writeLetters 127 = .ok (.iadd, 1)) ∧ (decode cX0_writeLetters 128 = .ok (.iastore, 1)) ∧ (decode cX0_writeLetters 129 = .ok (.aload_n 0, 1)) ∧ (decode cX0_writeLetters 130 = .ok (.getfield 55, 3)) ∧ (decode cX0_writeLetters 133 = .ok (.iload 4, 2)) ∧ (decode cX0_writeLetters 135 = .ok (.dup2, 1)) ∧ (decode cX0_writeLetters 136 = .ok (.iaload, 1)) ∧ (decode cX0_writeLetters 137 = .ok (.iconst 1, 1)) ∧ (decode cX0_writeLetters 138 = .ok (.iadd, 1)) ∧ (decode cX0_writeLetters 139 = .ok (.iastore, 1)) ∧ (decode cX0_writeLetters 140 = .ok (.iinc 2 (-1), 3)) ∧ (decode cX0_writeLetters 143 = .ok (.iinc 3 1, 3)) ∧ (decode cX0_writeLetters 146 = .ok (.iinc 4 1, 3)) ∧ (decode cX0_writeLetters 149 = .ok (.goto (-134), 3)) ∧ (decode cX0_writeLetters 152 = .ok (.iconst 0, 1)) ∧ (decode cX0_writeLetters 153 = .ok (.istore 4, 2)) ∧ (decode cX0_writeLetters 155 = .ok (.iload 4, 2)) ∧ (decode cX0_writeLetters 157 = .ok (.iconst 4, 1)) ∧ (decode cX0_writeLetters 158 = .ok (.if_icmp .ge 36, 3)) ∧ (decode cX0_writeLetters 161 = .ok (.aload_n 0, 1)) ∧ (decode cX0_writeLetters 162 = .ok (.getfield 9, 3)) ∧ (decode cX0_writeLetters 165 = .ok (.iload 4, 2)) ∧ (decode cX0_writeLetters 167 = .ok (.aload_n 0, 1)) ∧ (decode cX0_writeLetters 168 = .ok (.getfield 9, 3)) ∧ (decode cX0_writeLetters 171 = .ok (.iload 4, 2)) ∧ (decode cX0_writeLetters 173 = .ok (.iaload, 1)) ∧ (decode cX0_writeLetters 174 = .ok (.aload_n 0, 1)) ∧ (decode cX0_writeLetters 175 = .ok (.getfield 70, 3)) ∧ (decode cX0_writeLetters 178 = .ok (.iload 4, 2)) ∧ True := dc_cj [(122, .iconst (-1), 1), (123, .goto 4, 3), (126, .iconst 1, 1), (127, .iadd, 1), (128, .iastore, 1), (129, .aload_n 0, 1), (130, .getfield 55, 3), (133, .iload 4, 2), (135, .dup2, 1), (136, .iaload, 1), (137, .iconst 1, 1), (138, .iadd, 1), (139, .iastore, 1), (140, .iinc 2 (-1), 3), (143, .iinc 3 1, 3), (146, .iinc 4 1, 3), (149, .goto (-134), 3), (152, .iconst 0, 1), (153, .istore 4, 2), (155, .iload 4, 2), (157, .iconst 4, 1), (158, .if_icmp .ge 36, 3), (161, .aload_n 0, 1), (162, .getfield 9, 3), (165, .iload 4, 2), (167, .aload_n 0, 1), (168, .getfield 9, 3), (171, .iload 4, 2), (173, .iaload, 1), (174, .aload_n 0, 1), (175, .getfield 70, 3), (178, .iload 4, 2)] (by decide +kernel)
theorem dX0_writeLetters_122 : decode cX0_writeLetters 122 = .ok (.iconst (-1), 1) := edX0_writeLetters_122.1
theorem dX0_writeLetters_123 : decode cX0_writeLetters 123 = .ok (.goto 4, 3) := edX0_writeLetters_122.2.1
theorem dX0_writeLetters_126 : decode cX0_writeLetters 126 = .ok (.iconst 1, 1) := edX0_writeLetters_122.2.2.1
theorem dX0_writeLetters_127 : decode cX0_writeLetters 127 = .ok (.iadd, 1) := edX0_writeLetters_122.2.2.2.1
theorem dX0_writeLetters_128 : decode cX0_writeLetters 128 = .ok (.iastore, 1) := edX0_writeLetters_122.2.2.2.2.1
theorem dX0_writeLetters_129 : decode cX0_writeLetters 129 = .ok (.aload_n 0, 1) := edX0_writeLetters_122.2.2.2.2.2.1
theorem dX0_writeLetters_130 : decode cX0_writeLetters 130 = .ok (.getfield 55, 3) := edX0_writeLetters_122.2.2.2.2.2.2.1
theorem dX0_writeLetters_133 : decode cX0_writeLetters 133 = .ok (.iload 4, 2) := edX0_writeLetters_122.2.2.2.2.2.2.2.1
theorem dX0_writeLetters_135 : decode cX0_writeLetters 135 = .ok (.dup2, 1) := edX0_writeLetters_122.2.2.2.2.2.2.2.2.1
theorem dX0_writeLetters_136 : decode cX0_writeLetters 136 = .ok (.iaload, 1) := edX0_writeLetters_122.2.2.2.2.2.2.2.2.2.1
theorem dX0_writeLetters_137 : decode cX0_writeLetters 137 = .ok (.iconst 1, 1) := edX0_writeLetters_122.2.2.2.2.2.2.2.2.2.2.1
theorem dX0_writeLetters_138 : decode cX0_writeLetters 138 = .ok (.iadd, 1) := edX0_writeLetters_122.2.2.2.2.2.2.2.2.2.2.2.1
theorem dX0_writeLetters_139 : decode cX0_writeLetters 139 = .ok (.iastore, 1) := edX0_writeLetters_122.2.2.2.2.2.2.2.2.2.2.2.2.1
theorem dX0_writeLetters_140 : decode cX0_writeLetters 140 = .ok (.iinc 2 (-1), 3) := edX0_writeLetters_122.2.2.2.2.2.2.2.2.2.2.2.2.2.1
theorem dX0_writeLetters_143 : decode cX0_writeLetters 143 = .ok (.iinc 3 1, 3) := edX0_writeLetters_122.2.2.2.2.2.2.2.2.2.2.2.2.2.2.1
theorem dX0_writeLetters_146 : decode cX0_writeLetters 146 = .ok (.iinc 4 1, 3) := edX0_writeLetters_122.2.2.2.2.2.2.2.2.2.2.2.2.2.2.2.1
theorem dX0_writeLetters_149 : decode cX0_writeLetters 149 = .ok (.goto (-134), 3) := edX0_writeLetters_122.2.2.2.2.2.2.2.2.2.2.2.2.2.2.2.2.1
theorem dX0_writeLetters_152 : decode cX0_writeLetters 152 = .ok (.iconst 0, 1) := edX0_writeLetters_122.2.2.2.2.2.2.2.2.2.2.2.2.2.2.2.2.2.1
theorem dX0_writeLetters_153 : decode cX0_writeLetters 153 = .ok (.istore 4, 2) := edX0_writeLetters_122.2.2.2.2.2.2.2.2.2.2.2.2.2.2.2.2.2.2.1
theorem dX0_writeLetters_155 : decode cX0_writeLetters 155 = .ok (.iload 4, 2) := edX0_writeLetters_122.2.2.2.2.2.2.2.2.2.2.2.2.2.2.2.2.2.2.2.1
theorem dX0_writeLetters_157 : decode cX0_writeLetters 157 = .ok (.iconst 4, 1) := edX0_writeLetters_122.2.2.2.2.2.2.2.2.2.2.2.2.2.2.2.2.2.2.2.2.1
theorem dX0_writeLetters_158 : decode cX0_writeLetters 158 = .ok (.if_icmp .ge 36, 3) := edX0_writeLetters_122.2.2.2.2.2.2.2.2.2.2.2.2.2.2.2.2.2.2.2.2.2.1
theorem dX0_writeLetters_161 : decode cX0_writeLetters 161 = .ok (.aload_n 0, 1) := edX0_writeLetters_122.2.2.2.2.2.2.2.2.2.2.2.2.2.2.2.2.2.2.2.2.2.2.1
theorem dX0_writeLetters_162 : decode cX0_writeLetters 162 = .ok (.getfield 9, 3) := edX0_writeLetters_122.2.2.2.2.2.2.2.2.2.2.2.2.2.2.2.2.2.2.2.2.2.2.2.1
theorem dX0_writeLetters_165 : decode cX0_writeLetters 165 = .ok (.iload 4, 2) := edX0_writeLetters_122.2.2.2.2.2.2.2.2.2.2.2.2.2.2.2.2.2.2.2.2.2.2.2.2.1
theorem dX0_writeLetters_167 : decode cX0_writeLetters 167 = .ok (.aload_n 0, 1) := edX0_writeLetters_122.2.2.2.2.2.2.2.2.2.2.2.2.2.2.2.2.2.2.2.2.2.2.2.2.2.1
theorem dX0_writeLetters_168 : decode cX0_writeLetters 168 = .ok (.getfield 9, 3) := edX0_writeLetters_122.2.2.2.2.2.2.2.2.2.2.2.2.2.2.2.2.2.2.2.2.2.2.2.2.2.2.1
theorem dX0_writeLetters_171 : decode cX0_writeLetters 171 = .ok (.iload 4, 2) := edX0_writeLetters_122.2.2.2.2.2.2.2.2.2.2.2.2.2.2.2.2.2.2.2.2.2.2.2.2.2.2.2.1
theorem dX0_writeLetters_173 : decode cX0_writeLetters 173 = .ok (.iaload, 1) := edX0_writeLetters_122.2.2.2.2.2.2.2.2.2.2.2.2.2.2.2.2.2.2.2.2.2.2.2.2.2.2.2.2.1
theorem dX0_writeLetters_174 : decode cX0_writeLetters 174 = .ok (.aload_n 0, 1) := edX0_writeLetters_122.2.2.2.2.2.2.2.2.2.2.2.2.2.2.2.2.2.2.2.2.2.2.2.2.2.2.2.2.2.1
theorem dX0_writeLetters_175 : decode cX0_writeLetters 175 = .ok (.getfield 70, 3) := edX0_writeLetters_122.2.2.2.2.2.2.2.2.2.2.2.2.2.2.2.2.2.2.2.2.2.2.2.2.2.2.2.2.2.2.1
theorem dX0_writeLetters_178 : decode cX0_writeLetters 178 = .ok (.iload 4, 2) := edX0_writeLetters_122.2.2.2.2.2.2.2.2.2.2.2.2.2.2.2.2.2.2.2.2.2.2.2.2.2.2.2.2.2.2.2.1
theorem edX0_writeLetters_180 : (decode cX0_writeLetters 180 = .ok (.iaload, 1)) ∧ (decode cX0_writeLetters 181 = .ok (.iadd, 1)) ∧ (decode cX0_writeLetters 182 = .ok (.bipush 9, 2)) ∧ (decode cX0_writeLetters 184 = .ok (.invokestatic 114, 3)) ∧ (decode cX0_writeLetters 187 = .ok (.iastore, 1)) ∧ (decode cX0_writeLetters 188 = .ok (.iinc 4 1, 3)) ∧ (decode cX0_writeLetters 191 = .ok (.goto (-36), 3)) ∧ (decode cX0_writeLetters 194 = .ok (.aload_n 0, 1)) ∧ (decode cX0_writeLetters 195 = .ok (.aload_n 0, 1)) ∧ (decode cX0_writeLetters 196 = .ok (.getfield 21, 3)) ∧ (decode cX0_writeLetters 199 = .ok (.iload_n 2, 1)) ∧ (decode cX0_writeLetters 200 = .ok (.iadd, 1)) ∧ (decode cX0_writeLetters 201 = .ok (.bipush 99, 2)) ∧ (decode cX0_writeLetters 203 = .ok (.invokestatic 114, 3)) ∧ (decode cX0_writeLetters 206 = .ok (.putfield 21, 3)) ∧ (decode cX0_writeLetters 209 = .ok (.iload_n 3, 1)) ∧ (decode cX0_writeLetters 210 = .ok (.ireturn, 1)) ∧ True := dc_cj [(180, .iaload, 1), (181, .iadd, 1), (182, .bipush 9, 2), (184, .invokestatic 114, 3), (187, .iastore, 1), (188, .iinc 4 1, 3), (191, .goto (-36), 3), (194, .aload_n 0, 1), (195, .aload_n 0, 1), (196, .getfield 21, 3), (199, .iload_n 2, 1), (200, .iadd, 1), (201, .bipush 99, 2), (203, .invokestatic 114, 3), (206, .putfield 21, 3), (209, .iload_n 3, 1), (210, .ireturn, 1)] (by decide +kernel)
theorem dX0_writeLetters_180 : decode cX0_writeLetters 180 = .ok (.iaload, 1) := edX0_writeLetters_180.1
theorem dX0_writeLetters_181 : decode cX0_writeLetters 181 = .ok (.iadd, 1) := edX0_writeLetters_180.2.1
theorem dX0_writeLetters_182 : decode cX0_writeLetters 182 = .ok (.bipush 9, 2) := edX0_writeLetters_180.2.2.1
theorem dX0_writeLetters_184 : decode cX0_writeLetters 184 = .ok (.invokestatic 114, 3) := edX0_writeLetters_180.2.2.2.1
theorem dX0_writeLetters_187 : decode cX0_writeLetters 187 = .ok (.iastore, 1) := edX0_writeLetters_180.2.2.2.2.1
theorem dX0_writeLetters_188 : decode cX0_writeLetters 188 = .ok (.iinc 4 1, 3) := edX0_writeLetters_180.2.2.2.2.2.1
theorem dX0_writeLetters_191 : decode cX0_writeLetters 191 = .ok (.goto (-36), 3) := edX0_writeLetters_180.2.2.2.2.2.2.1
theorem dX0_writeLetters_194 : decode cX0_writeLetters 194 = .ok (.aload_n 0, 1) := edX0_writeLetters_180.2.2.2.2.2.2.2.1
theorem dX0_writeLetters_195 : decode cX0_writeLetters 195 = .ok (.aload_n 0, 1) := edX0_writeLetters_180.2.2.2.2.2.2.2.2.1
theorem dX0_writeLetters_196 : decode cX0_writeLetters 196 = .ok (.getfield 21, 3) := edX0_writeLetters_180.2.2.2.2.2.2.2.2.2.1
theorem dX0_writeLetters_199 : decode cX0_writeLetters 199 = .ok (.iload_n 2, 1) := edX0_writeLetters_180.2.2.2.2.2.2.2.2.2.2.1
theorem dX0_writeLetters_200 : decode cX0_writeLetters 200 = .ok (.iadd, 1) := edX0_writeLetters_180.2.2.2.2.2.2.2.2.2.2.2.1
theorem dX0_writeLetters_201 : decode cX0_writeLetters 201 = .ok (.bipush 99, 2) := edX0_writeLetters_180.2.2.2.2.2.2.2.2.2.2.2.2.1
theorem dX0_writeLetters_203 : decode cX0_writeLetters 203 = .ok (.invokestatic 114, 3) := edX0_writeLetters_180.2.2.2.2.2.2.2.2.2.2.2.2.2.1
theorem dX0_writeLetters_206 : decode cX0_writeLetters 206 = .ok (.putfield 21, 3) := edX0_writeLetters_180.2.2.2.2.2.2.2.2.2.2.2.2.2.2.1
theorem dX0_writeLetters_209 : decode cX0_writeLetters 209 = .ok (.iload_n 3, 1) := edX0_writeLetters_180.2.2.2.2.2.2.2.2.2.2.2.2.2.2.2.1
theorem dX0_writeLetters_210 : decode cX0_writeLetters 210 = .ok (.ireturn, 1) := edX0_writeLetters_180.2.2.2.2.2.2.2.2.2.2.2.2.2.2.2.2.1
theorem edX1_init_0 : (decode cX1_init 0 = .ok (.aload_n 0, 1)) ∧ (decode cX1_init 1 = .ok (.invokespecial 3, 3)) ∧ (decode cX1_init 4 = .ok (.aload_n 0, 1)) ∧ (decode cX1_init 5 = .ok (.new 9, 3)) ∧ (decode cX1_init 8 = .ok (.dup, 1)) ∧ (decode cX1_init 9 = .ok (.invokespecial 11, 3)) ∧ (decode cX1_init 12 = .ok (.putfield 12, 3)) ∧ (decode cX1_init 15 = .ok (.aload_n 0, 1)) ∧ (decode cX1_init 16 = .ok (.iconst 0, 1)) ∧ (decode cX1_init 17 = .ok (.putfield 18, 3)) ∧ (decode cX1_init 20 = .ok (.aload_n 0, 1)) ∧ (decode cX1_init 21 = .ok (.iconst 0, 1)) ∧ (decode cX1_init 22 = .ok (.putfield 22, 3)) ∧ (decode cX1_init 25 = .ok (.aload_n 0, 1)) ∧ (decode cX1_init 26 = .ok (.iconst 0, 1)) ∧ (decode cX1_init 27 = .ok (.putfield 25, 3)) ∧ (decode cX1_init 30 = .ok (.aload_n 0, 1)) ∧ (decode cX1_init 31 = .ok (.iconst (-1), 1)) ∧ (decode cX1_init 32 = .ok (.putfield 28, 3)) ∧ (decode cX1_init 35 = .ok (.aload_n 0, 1)) ∧ (decode cX1_init 36 = .ok (.iconst (-1), 1)) ∧ (decode cX1_init 37 = .ok (.putfield 31, 3)) ∧ (decode cX1_init 40 = .ok (.aload_n 0, 1)) ∧ (decode cX1_init 41 = .ok (.bipush 96, 2)) ∧ (decode cX1_init 43 = .ok (.newarray .int, 2)) ∧ (decode cX1_init 45 = .ok (.putfield 34, 3)) ∧ (decode cX1_init 48 = .ok (.aload_n 0, 1)) ∧ (decode cX1_init 49 = .ok (.iconst 0, 1)) ∧ (decode cX1_init 50 = .ok (.putfield 38, 3)) ∧ (decode cX1_init 53 = .ok (.aload_n 0, 1)) ∧ (decode cX1_init 54 = .ok (.iconst 0, 1)) ∧ (decode cX1_init 55 = .ok (.putfield 41, 3)) ∧ True := dc_cj [(0, .aload_n 0, 1), (1, .invokespecial 3, 3), (4, .aload_n 0, 1), (5, .new 9, 3), (8, .dup, 1), (9, .invokespecial 11, 3), (12, .putfield 12, 3), (15, .aload_n 0, 1), (16, .iconst 0, 1), (17, .putfield 18, 3), (20, .aload_n 0, 1), (21, .iconst 0, 1), (22, .putfield 22, 3), (25, .aload_n 0, 1), (26, .iconst 0, 1), (27, .putfield 25, 3), (30, .aload_n 0, 1), (31, .iconst (-1), 1), (32, .putfield 28, 3), (35, .aload_n 0, 1), (36, .iconst (-1), 1), (37, .putfield 31, 3), (40, .aload_n 0, 1), (41, .bipush 96, 2), (43, .newarray .int, 2), (45, .putfield 34, 3), (48, .aload_n 0, 1), (49, .iconst 0, 1), (50, .putfield 38, 3), (53, .aload_n 0, 1), (54, .iconst 0, 1), (55, .putfield 41, 3)] (by decide +kernel)
theorem dX1_init_0 : decode cX1_init 0 = .ok (.aload_n 0, 1) := edX1_init_0.1
theorem dX1_init_1 : decode cX1_init 1 = .ok (.invokespecial 3, 3) := edX1_init_0.2.1
theorem dX1_init_4 : decode cX1_init 4 = .ok (.aload_n 0, 1) := edX1_init_0.2.2.1
theorem dX1_init_5 : decode cX1_init 5 = .ok (.new 9, 3) := edX1_init_0.2.2.2.1
theorem dX1_init_8 : decode cX1_init 8 = .ok (.dup, 1) := edX1_init_0.2.2.2.2.1
theorem dX1_init_9 : decode cX1_init 9 = .ok (.invokespecial 11, 3) := edX1_init_0.2.2.2.2.2.1
theorem dX1_init_12 : decode cX1_init 12 = .ok (.putfield 12, 3) := edX1_init_0.2.2.2.2.2.2.1
theorem dX1_init_15 : decode cX1_init 15 = .ok (.aload_n 0, 1) := edX1_init_0.2.2.2.2.2.2.2.1
theorem dX1_init_16 : decode cX1_init 16 = .ok (.iconst 0, 1) := edX1_init_0.2.2.2.2.2.2.2.2.1
theorem dX1_init_17 : decode cX1_init 17 = .ok (.putfield 18, 3) := edX1_init_0.2.2.2.2.2.2.2.2.2.1
theorem dX1_init_20 : decode cX1_init 20 = .ok (.aload_n 0, 1) := edX1_init_0.2.2.2.2.2.2.2.2.2.2.1
theorem dX1_init_21 : decode cX1_init 21 = .ok (.iconst 0, 1) := edX1_init_0.2.2.2.2.2.2.2.2.2.2.2.1
theorem dX1_init_22 : decode cX1_init 22 = .ok (.putfield 22, 3) := edX1_init_0.2.2.2.2.2.2.2.2.2.2.2.2.1
theorem dX1_init_25 : decode cX1_init 25 = .ok (.aload_n 0, 1) := edX1_init_0.2.2.2.2.2.2.2.2.2.2.2.2.2.1
theorem dX1_init_26 : decode cX1_init 26 = .ok (.iconst 0, 1) := edX1_init_0.2.2.2.2.2.2.2.2.2.2.2.2.2.2.1
theorem dX1_init_27 : decode cX1_init 27 = .ok (.putfield 25, 3) := edX1_init_0.2.2.2.2.2.2.2.2.2.2.2.2.2.2.2.1
theorem dX1_init_30 : decode cX1_init 30 = .ok (.aload_n 0, 1) := edX1_init_0.2.2.2.2.2.2.2.2.2.2.2.2.2.2.2.2.1
theorem dX1_init_31 : decode cX1_init 31 = .ok (.iconst (-1), 1) := edX1_init_0.2.2.2.2.2.2.2.2.2.2.2.2.2.2.2.2.2.1
theorem dX1_init_32 : decode cX1_init 32 = .ok (.putfield 28, 3) := edX1_init_0.2.2.2.2.2.2.2.2.2.2.2.2.2.2.2.2.2.2.1
theorem dX1_init_35 : decode cX1_init 35 = .ok (.aload_n 0, 1) := edX1_init_0.2.2.2.2.2.2.2.2.2.2.2.2.2.2.2.2.2.2.2.1
theorem dX1_init_36 : decode cX1_init 36 = .ok (.iconst (-1), 1) := edX1_init_0.2.2.2.2.2.2.2.2.2.2.2.2.2.2.2.2.2.2.2.2.1
theorem dX1_init_37 : decode cX1_init 37 = .ok (.putfield 31, 3) := edX1_init_0.2.2.2.2.2.2.2.2.2.2.2.2.2.2.2.2.2.2.2.2.2.1
theorem dX1_init_40 : decode cX1_init 40 = .ok (.aload_n 0, 1) := edX1_init_0.2.2.2.2.2.2.2.2.2.2.2.2.2.2.2.2.2.2.2.2.2.2.1
theorem dX1_init_41 : decode cX1_init 41 = .ok (.bipush 96, 2) := edX1_init_0.2.2.2.2.2.2.2.2.2.2.2.2.2.2.2.2.2.2.2.2.2.2.2.1
theorem dX1_init_43 : decode cX1_init 43 = .ok (.newarray .int, 2) := edX1_init_0.2.2.2.2.2.2.2.2.2.2.2.2.2.2.2.2.2.2.2.2.2.2.2.2.1
theorem dX1_init_45 : decode cX1_init 45 = .ok (.putfield 34, 3) := edX1_init_0.2.2.2.2.2.2.2.2.2.2.2.2.2.2.2.2.2.2.2.2.2.2.2.2.2.1
theorem dX1_init_48 : decode cX1_init 48 = .ok (.aload_n 0, 1) := edX1_init_0.2.2.2.2.2.2.2.2.2.2.2.2.2.2.2.2.2.2.2.2.2.2.2.2.2.2.1
theorem dX1_init_49 : decode cX1_init 49 = .ok (.iconst 0, 1) := edX1_init_0.2.2.2.2.2.2.2.2.2.2.2.2.2.2.2.2.2.2.2.2.2.2.2.2.2.2.2.1
theorem dX1_init_50 : decode cX1_init 50 = .ok (.putfield 38, 3) := edX1_init_0.2.2.2.2.2.2.2.2.2.2.2.2.2.2.2.2.2.2.2.2.2.2.2.2.2.2.2.2.1
theorem dX1_init_53 : decode cX1_init 53 = .ok (.aload_n 0, 1) := edX1_init_0.2.2.2.2.2.2.2.2.2.2.2.2.2.2.2.2.2.2.2.2.2.2.2.2.2.2.2.2.2.1
theorem dX1_init_54 : decode cX1_init 54 = .ok (.iconst 0, 1) := edX1_init_0.2.2.2.2.2.2.2.2.2.2.2.2.2.2.2.2.2.2.2.2.2.2.2.2.2.2.2.2.2.2.1
theorem dX1_init_55 : decode cX1_init 55 = .ok (.putfield 41, 3) := edX1_init_0.2.2.2.2.2.2.2.2.2.2.2.2.2.2.2.2.2.2.2.2.2.2.2.2.2.2.2.2.2.2.2.1
theorem edX1_init_58 : (decode cX1_init 58 = .ok (.aload_n 0, 1)) ∧ (decode cX1_init 59 = .ok (.iconst 0, 1)) ∧ (decode cX1_init 60 = .ok (.putfield 44, 3)) ∧ (decode cX1_init 63 = .ok (.aload_n 0, 1)) ∧ (decode cX1_init 64 = .ok (.iconst 0, 1)) ∧ (decode cX1_init 65 = .ok (.putfield 47, 3)) ∧ (decode cX1_init 68 = .ok (.return_, 1)) ∧ True := dc_cj [(58, .aload_n 0, 1), (59, .iconst 0, 1), (60, .putfield 44, 3), (63, .aload_n 0, 1), (64, .iconst 0, 1), (65, .putfield 47, 3), (68, .return_, 1)] (by decide +kernel)
theorem dX1_init_58 : decode cX1_init 58 = .ok (.aload_n 0, 1) := edX1_init_58.1
theorem dX1_init_59 : decode cX1_init 59 = .ok (.iconst 0, 1) := edX1_init_58.2.1
theorem dX1_init_60 : decode cX1_init 60 = .ok (.putfield 44, 3) := edX1_init_58.2.2.1
theorem dX1_init_63 : decode cX1_init 63 = .ok (.aload_n 0, 1) := edX1_init_58.2.2.2.1
theorem dX1_init_64 : decode cX1_init 64 = .ok (.iconst 0, 1) := edX1_init_58.2.2.2.2.1
theorem dX1_init_65 : decode cX1_init 65 = .ok (.putfield 47, 3) := edX1_init_58.2.2.2.2.2.1
theorem dX1_init_68 : decode cX1_init 68 = .ok (.return_, 1) := edX1_init_58.2.2.2.2.2.2.1
theorem edX1_findFault_0 : (decode cX1_findFault 0 = .ok (.aload_n 0, 1)) ∧ (decode cX1_findFault 1 = .ok (.iconst 0, 1)) ∧ (decode cX1_findFault 2 = .ok (.putfield 18, 3)) ∧ (decode cX1_findFault 5 = .ok (.aload_n 0, 1)) ∧ (decode cX1_findFault 6 = .ok (.iconst 0, 1)) ∧ (decode cX1_findFault 7 = .ok (.putfield 22, 3)) ∧ (decode cX1_findFault 10 = .ok (.aload_n 0, 1)) ∧ (decode cX1_findFault 11 = .ok (.iconst (-1), 1)) ∧ (decode cX1_findFault 12 = .ok (.putfield 28, 3)) ∧ (decode cX1_findFault 15 = .ok (.aload_n 0, 1)) ∧ (decode cX1_findFault 16 = .ok (.iconst 0, 1)) ∧ (decode cX1_findFault 17 = .ok (.putfield 38, 3)) ∧ (decode cX1_findFault 20 = .ok (.aload_n 0, 1)) ∧ (decode cX1_findFault 21 = .ok (.iconst 0, 1)) ∧ (decode cX1_findFault 22 = .ok (.putfield 41, 3)) ∧ (decode cX1_findFault 25 = .ok (.aload_n 0, 1)) ∧ (decode cX1_findFault 26 = .ok (.iconst 0, 1)) ∧ (decode cX1_findFault 27 = .ok (.putfield 44, 3)) ∧ (decode cX1_findFault 30 = .ok (.aload_n 0, 1)) ∧ (decode cX1_findFault 31 = .ok (.iconst 0, 1)) ∧ (decode cX1_findFault 32 = .ok (.putfield 47, 3)) ∧ (decode cX1_findFault 35 = .ok (.aload_n 0, 1)) ∧ (decode cX1_findFault 36 = .ok (.invokevirtual 50, 3)) ∧ (decode cX1_findFault 39 = .ok (.aload_n 0, 1)) ∧ (decode cX1_findFault 40 = .ok (.invokevirtual 53, 3)) ∧ (decode cX1_findFault 43 = .ok (.aload_n 0, 1)) ∧ (decode cX1_findFault 44 = .ok (.invokevirtual 56, 3)) ∧ (decode cX1_findFault 47 = .ok (.aload_n 0, 1)) ∧ (decode cX1_findFault 48 = .ok (.getfield 22, 3)) ∧ (decode cX1_findFault 51 = .ok (.ifCond .eq 7, 3)) ∧ (decode cX1_findFault 54 = .ok (.aload_n 0, 1)) ∧ (decode cX1_findFault 55 = .ok (.invokevirtual 59, 3)) ∧ True := dc_cj [(0, .aload_n 0, 1), (1, .iconst 0, 1), (2, .putfield 18, 3), (5, .aload_n 0, 1), (6, .iconst 0, 1), (7, .putfield 22, 3), (10, .aload_n 0, 1), (11, .iconst (-1), 1), (12, .putfield 28, 3), (15, .aload_n 0, 1), (16, .iconst 0, 1), (17, .putfield 38, 3), (20, .aload_n 0, 1), (21, .iconst 0, 1), (22, .putfield 41, 3), (25, .aload_n 0, 1), (26, .iconst 0, 1), (27, .putfield 44, 3), (30, .aload_n 0, 1), (31, .iconst 0, 1), (32, .putfield 47, 3), (35, .aload_n 0, 1), (36, .invokevirtual 50, 3), (39, .aload_n 0, 1), (40, .invokevirtual 53, 3), (43, .aload_n 0, 1), (44, .invokevirtual 56, 3), (47, .aload_n 0, 1), (48, .getfield 22, 3), (51, .ifCond .eq 7, 3), (54, .aload_n 0, 1), (55, .invokevirtual 59, 3)] (by decide +kernel)
theorem dX1_findFault_0 : decode cX1_findFault 0 = .ok (.aload_n 0, 1) := edX1_findFault_0.1
theorem dX1_findFault_1 : decode cX1_findFault 1 = .ok (.iconst 0, 1) := edX1_findFault_0.2.1
theorem dX1_findFault_2 : decode cX1_findFault 2 = .ok (.putfield 18, 3) := edX1_findFault_0.2.2.1
theorem dX1_findFault_5 : decode cX1_findFault 5 = .ok (.aload_n 0, 1) := edX1_findFault_0.2.2.2.1
theorem dX1_findFault_6 : decode cX1_findFault 6 = .ok (.iconst 0, 1) := edX1_findFault_0.2.2.2.2.1
theorem dX1_findFault_7 : decode cX1_findFault 7 = .ok (.putfield 22, 3) := edX1_findFault_0.2.2.2.2.2.1
theorem dX1_findFault_10 : decode cX1_findFault 10 = .ok (.aload_n 0, 1) := edX1_findFault_0.2.2.2.2.2.2.1
theorem dX1_findFault_11 : decode cX1_findFault 11 = .ok (.iconst (-1), 1) := edX1_findFault_0.2.2.2.2.2.2.2.1
theorem dX1_findFault_12 : decode cX1_findFault 12 = .ok (.putfield 28, 3) := edX1_findFault_0.2.2.2.2.2.2.2.2.1
theorem dX1_findFault_15 : decode cX1_findFault 15 = .ok (.aload_n 0, 1) := edX1_findFault_0.2.2.2.2.2.2.2.2.2.1
theorem dX1_findFault_16 : decode cX1_findFault 16 = .ok (.iconst 0, 1) := edX1_findFault_0.2.2.2.2.2.2.2.2.2.2.1
theorem dX1_findFault_17 : decode cX1_findFault 17 = .ok (.putfield 38, 3) := edX1_findFault_0.2.2.2.2.2.2.2.2.2.2.2.1
theorem dX1_findFault_20 : decode cX1_findFault 20 = .ok (.aload_n 0, 1) := edX1_findFault_0.2.2.2.2.2.2.2.2.2.2.2.2.1
theorem dX1_findFault_21 : decode cX1_findFault 21 = .ok (.iconst 0, 1) := edX1_findFault_0.2.2.2.2.2.2.2.2.2.2.2.2.2.1
theorem dX1_findFault_22 : decode cX1_findFault 22 = .ok (.putfield 41, 3) := edX1_findFault_0.2.2.2.2.2.2.2.2.2.2.2.2.2.2.1
theorem dX1_findFault_25 : decode cX1_findFault 25 = .ok (.aload_n 0, 1) := edX1_findFault_0.2.2.2.2.2.2.2.2.2.2.2.2.2.2.2.1
theorem dX1_findFault_26 : decode cX1_findFault 26 = .ok (.iconst 0, 1) := edX1_findFault_0.2.2.2.2.2.2.2.2.2.2.2.2.2.2.2.2.1
theorem dX1_findFault_27 : decode cX1_findFault 27 = .ok (.putfield 44, 3) := edX1_findFault_0.2.2.2.2.2.2.2.2.2.2.2.2.2.2.2.2.2.1
theorem dX1_findFault_30 : decode cX1_findFault 30 = .ok (.aload_n 0, 1) := edX1_findFault_0.2.2.2.2.2.2.2.2.2.2.2.2.2.2.2.2.2.2.1
theorem dX1_findFault_31 : decode cX1_findFault 31 = .ok (.iconst 0, 1) := edX1_findFault_0.2.2.2.2.2.2.2.2.2.2.2.2.2.2.2.2.2.2.2.1
theorem dX1_findFault_32 : decode cX1_findFault 32 = .ok (.putfield 47, 3) := edX1_findFault_0.2.2.2.2.2.2.2.2.2.2.2.2.2.2.2.2.2.2.2.2.1
theorem dX1_findFault_35 : decode cX1_findFault 35 = .ok (.aload_n 0, 1) := edX1_findFault_0.2.2.2.2.2.2.2.2.2.2.2.2.2.2.2.2.2.2.2.2.2.1
theorem dX1_findFault_36 : decode cX1_findFault 36 = .ok (.invokevirtual 50, 3) := edX1_findFault_0.2.2.2.2.2.2.2.2.2.2.2.2.2.2.2.2.2.2.2.2.2.2.1
theorem dX1_findFault_39 : decode cX1_findFault 39 = .ok (.aload_n 0, 1) := edX1_findFault_0.2.2.2.2.2.2.2.2.2.2.2.2.2.2.2.2.2.2.2.2.2.2.2.1
theorem dX1_findFault_40 : decode cX1_findFault 40 = .ok (.invokevirtual 53, 3) := edX1_findFault_0.2.2.2.2.2.2.2.2.2.2.2.2.2.2.2.2.2.2.2.2.2.2.2.2.1
theorem dX1_findFault_43 : decode cX1_findFault 43 = .ok (.aload_n 0, 1) := edX1_findFault_0.2.2.2.2.2.2.2.2.2.2.2.2.2.2.2.2.2.2.2.2.2.2.2.2.2.1
theorem dX1_findFault_44 : decode cX1_findFault 44 = .ok (.invokevirtual 56, 3) := edX1_findFault_0.2.2.2.2.2.2.2.2.2.2.2.2.2.2.2.2.2.2.2.2.2.2.2.2.2.2.1
theorem dX1_findFault_47 : decode cX1_findFault 47 = .ok (.aload_n 0, 1) := edX1_findFault_0.2.2.2.2.2.2.2.2.2.2.2.2.2.2.2.2.2.2.2.2.2.2.2.2.2.2.2.1
theorem dX1_findFault_48 : decode cX1_findFault 48 = .ok (.getfield 22, 3) := edX1_findFault_0.2.2.2.2.2.2.2.2.2.2.2.2.2.2.2.2.2.2.2.2.2.2.2.2.2.2.2.2.1
theorem dX1_findFault_51 : decode cX1_findFault 51 = .ok (.ifCond .eq 7, 3) := edX1_findFault_0.2.2.2.2.2.2.2.2.2.2.2.2.2.2.2.2.2.2.2.2.2.2.2.2.2.2.2.2.2.1
theorem dX1_findFault_54 : decode cX1_findFault 54 = .ok (.aload_n 0, 1) := edX1_findFault_0.2.2.2.2.2.2.2.2.2.2.2.2.2.2.2.2.2.2.2.2.2.2.2.2.2.2.2.2.2.2.1
theorem dX1_findFault_55 : decode cX1_findFault 55 = .ok (.invokevirtual 59, 3) := edX1_findFault_0.2.2.2.2.2.2.2.2.2.2.2.2.2.2.2.2.2.2.2.2.2.2.2.2.2.2.2.2.2.2.2.1
theorem edX1_findFault_58 : (decode cX1_findFault 58 = .ok (.aload_n 0, 1)) ∧ (decode cX1_findFault 59 = .ok (.getfield 28, 3)) ∧ (decode cX1_findFault 62 = .ok (.ireturn, 1)) ∧ True := dc_cj [(58, .aload_n 0, 1), (59, .getfield 28, 3), (62, .ireturn, 1)] (by decide +kernel)
theorem dX1_findFault_58 : decode cX1_findFault 58 = .ok (.aload_n 0, 1) := edX1_findFault_58.1
theorem dX1_findFault_59 : decode cX1_findFault 59 = .ok (.getfield 28, 3) := edX1_findFault_58.2.1
theorem dX1_findFault_62 : decode cX1_findFault 62 = .ok (.ireturn, 1) := edX1_findFault_58.2.2.1
theorem edX1_makeText_0 : (decode cX1_makeText 0 = .ok (.new 62, 3)) ∧ (decode cX1_makeText 3 = .ok (.dup, 1)) ∧ (decode cX1_makeText 4 = .ok (.aload_n 0, 1)) ∧ (decode cX1_makeText 5 = .ok (.getfield 31, 3)) ∧ (decode cX1_makeText 8 = .ok (.aload_n 0, 1)) ∧ (decode cX1_makeText 9 = .ok (.getfield 41, 3)) ∧ (decode cX1_makeText 12 = .ok (.aload_n 0, 1)) ∧ (decode cX1_makeText 13 = .ok (.getfield 34, 3)) ∧ (decode cX1_makeText 16 = .ok (.aload_n 0, 1)) ∧ (decode cX1_makeText 17 = .ok (.getfield 38, 3)) ∧ (decode cX1_makeText 20 = .ok (.invokestatic 64, 3)) ∧ (decode cX1_makeText 23 = .ok (.invokespecial 70, 3)) ∧ (decode cX1_makeText 26 = .ok (.areturn, 1)) ∧ True := dc_cj [(0, .new 62, 3), (3, .dup, 1), (4, .aload_n 0, 1), (5, .getfield 31, 3), (8, .aload_n 0, 1), (9, .getfield 41, 3), (12, .aload_n 0, 1), (13, .getfield 34, 3), (16, .aload_n 0, 1), (17, .getfield 38, 3), (20, .invokestatic 64, 3), (23, .invokespecial 70, 3), (26, .areturn, 1)] (by decide +kernel)
theorem dX1_makeText_0 : decode cX1_makeText 0 = .ok (.new 62, 3) := edX1_makeText_0.1
theorem dX1_makeText_3 : decode cX1_makeText 3 = .ok (.dup, 1) := edX1_makeText_0.2.1
theorem dX1_makeText_4 : decode cX1_makeText 4 = .ok (.aload_n 0, 1) := edX1_makeText_0.2.2.1
theorem dX1_makeText_5 : decode cX1_makeText 5 = .ok (.getfield 31, 3) := edX1_makeText_0.2.2.2.1
theorem dX1_makeText_8 : decode cX1_makeText 8 = .ok (.aload_n 0, 1) := edX1_makeText_0.2.2.2.2.1
theorem dX1_makeText_9 : decode cX1_makeText 9 = .ok (.getfield 41, 3) := edX1_makeText_0.2.2.2.2.2.1
theorem dX1_makeText_12 : decode cX1_makeText 12 = .ok (.aload_n 0, 1) := edX1_makeText_0.2.2.2.2.2.2.1
theorem dX1_makeText_13 : decode cX1_makeText 13 = .ok (.getfield 34, 3) := edX1_makeText_0.2.2.2.2.2.2.2.1
theorem dX1_makeText_16 : decode cX1_makeText 16 = .ok (.aload_n 0, 1) := edX1_makeText_0.2.2.2.2.2.2.2.2.1
theorem dX1_makeText_17 : decode cX1_makeText 17 = .ok (.getfield 38, 3) := edX1_makeText_0.2.2.2.2.2.2.2.2.2.1
theorem dX1_makeText_20 : decode cX1_makeText 20 = .ok (.invokestatic 64, 3) := edX1_makeText_0.2.2.2.2.2.2.2.2.2.2.1
theorem dX1_makeText_23 : decode cX1_makeText 23 = .ok (.invokespecial 70, 3) := edX1_makeText_0.2.2.2.2.2.2.2.2.2.2.2.1
theorem dX1_makeText_26 : decode cX1_makeText 26 = .ok (.areturn, 1) := edX1_makeText_0.2.2.2.2.2.2.2.2.2.2.2.2.1
theorem edX1_fail_0 : (decode cX1_fail 0 = .ok (.aload_n 0, 1)) ∧ (decode cX1_fail 1 = .ok (.getfield 28, 3)) ∧ (decode cX1_fail 4 = .ok (.ifCond .ge 11, 3)) ∧ (decode cX1_fail 7 = .ok (.aload_n 0, 1)) ∧ (decode cX1_fail 8 = .ok (.aload_n 0, 1)) ∧ (decode cX1_fail 9 = .ok (.getfield 25, 3)) ∧ (decode cX1_fail 12 = .ok (.putfield 28, 3)) ∧ (decode cX1_fail 15 = .ok (.return_, 1)) ∧ True := dc_cj [(0, .aload_n 0, 1), (1, .getfield 28, 3), (4, .ifCond .ge 11, 3), (7, .aload_n 0, 1), (8, .aload_n 0, 1), (9, .getfield 25, 3), (12, .putfield 28, 3), (15, .return_, 1)] (by decide +kernel)
theorem dX1_fail_0 : decode cX1_fail 0 = .ok (.aload_n 0, 1) := edX1_fail_0.1
theorem dX1_fail_1 : decode cX1_fail 1 = .ok (.getfield 28, 3) := edX1_fail_0.2.1
theorem dX1_fail_4 : decode cX1_fail 4 = .ok (.ifCond .ge 11, 3) := edX1_fail_0.2.2.1
theorem dX1_fail_7 : decode cX1_fail 7 = .ok (.aload_n 0, 1) := edX1_fail_0.2.2.2.1
theorem dX1_fail_8 : decode cX1_fail 8 = .ok (.aload_n 0, 1) := edX1_fail_0.2.2.2.2.1
theorem dX1_fail_9 : decode cX1_fail 9 = .ok (.getfield 25, 3) := edX1_fail_0.2.2.2.2.2.1
theorem dX1_fail_12 : decode cX1_fail 12 = .ok (.putfield 28, 3) := edX1_fail_0.2.2.2.2.2.2.1
theorem dX1_fail_15 : decode cX1_fail 15 = .ok (.return_, 1) := edX1_fail_0.2.2.2.2.2.2.2.1
theorem edX1_advance_0 : (decode cX1_advance 0 = .ok (.aload_n 0, 1)) ∧ (decode cX1_advance 1 = .ok (.getfield 18, 3)) ∧ (decode cX1_advance 4 = .ok (.istore_n 1, 1)) ∧ (decode cX1_advance 5 = .ok (.aload_n 0, 1)) ∧ (decode cX1_advance 6 = .ok (.getfield 22, 3)) ∧ (decode cX1_advance 9 = .ok (.iconst 1, 1)) ∧ (decode cX1_advance 10 = .ok (.if_icmp .eq 11, 3)) ∧ (decode cX1_advance 13 = .ok (.aload_n 0, 1)) ∧ (decode cX1_advance 14 = .ok (.getfield 22, 3)) ∧ (decode cX1_advance 17 = .ok (.iconst 2, 1)) ∧ (decode cX1_advance 18 = .ok (.if_icmp .ne 7, 3)) ∧ (decode cX1_advance 21 = .ok (.iconst 1, 1)) ∧ (decode cX1_advance 22 = .ok (.goto 4, 3)) ∧ (decode cX1_advance 25 = .ok (.iconst 0, 1)) ∧ (decode cX1_advance 26 = .ok (.istore_n 2, 1)) ∧ (decode cX1_advance 27 = .ok (.aload_n 0, 1)) ∧ (decode cX1_advance 28 = .ok (.getfield 18, 3)) ∧ (decode cX1_advance 31 = .ok (.aload_n 0, 1)) ∧ (decode cX1_advance 32 = .ok (.getfield 12, 3)) ∧ (decode cX1_advance 35 = .ok (.getfield 73, 3)) ∧ (decode cX1_advance 38 = .ok (.if_icmp .ge 33, 3)) ∧ (decode cX1_advance 41 = .ok (.aload_n 0, 1)) ∧ (decode cX1_advance 42 = .ok (.getfield 12, 3)) ∧ (decode cX1_advance 45 = .ok (.getfield 76, 3)) ∧ (decode cX1_advance 48 = .ok (.aload_n 0, 1)) ∧ (decode cX1_advance 49 = .ok (.getfield 18, 3)) ∧ (decode cX1_advance 52 = .ok (.iaload, 1)) ∧ (decode cX1_advance 53 = .ok (.bipush 32, 2)) ∧ (decode cX1_advance 55 = .ok (.if_icmp .ne 16, 3)) ∧ (decode cX1_advance 58 = .ok (.aload_n 0, 1)) ∧ (decode cX1_advance 59 = .ok (.dup, 1)) ∧ (decode cX1_advance 60 = .ok (.getfield 18, 3)) ∧ True := dc_cj [(0, .aload_n 0, 1), (1, .getfield 18, 3), (4, .istore_n 1, 1), (5, .aload_n 0, 1), (6, .getfield 22, 3), (9, .iconst 1, 1), (10, .if_icmp .eq 11, 3), (13, .aload_n 0, 1), (14, .getfield 22, 3), (17, .iconst 2, 1), (18, .if_icmp .ne 7, 3), (21, .iconst 1, 1), (22, .goto 4, 3), (25, .iconst 0, 1), (26, .istore_n 2, 1), (27, .aload_n 0, 1), (28, .getfield 18, 3), (31, .aload_n 0, 1), (32, .getfield 12, 3), (35, .getfield 73, 3), (38, .if_icmp .ge 33, 3), (41, .aload_n 0, 1), (42, .getfield 12, 3), (45, .getfield 76, 3), (48, .aload_n 0, 1), (49, .getfield 18, 3), (52, .iaload, 1), (53, .bipush 32, 2), (55, .if_icmp .ne 16, 3), (58, .aload_n 0, 1), (59, .dup, 1), (60, .getfield 18, 3)] (by decide +kernel)
theorem dX1_advance_0 : decode cX1_advance 0 = .ok (.aload_n 0, 1) := edX1_advance_0.1
theorem dX1_advance_1 : decode cX1_advance 1 = .ok (.getfield 18, 3) := edX1_advance_0.2.1
theorem dX1_advance_4 : decode cX1_advance 4 = .ok (.istore_n 1, 1) := edX1_advance_0.2.2.1
theorem dX1_advance_5 : decode cX1_advance 5 = .ok (.aload_n 0, 1) := edX1_advance_0.2.2.2.1
theorem dX1_advance_6 : decode cX1_advance 6 = .ok (.getfield 22, 3) := edX1_advance_0.2.2.2.2.1
theorem dX1_advance_9 : decode cX1_advance 9 = .ok (.iconst 1, 1) := edX1_advance_0.2.2.2.2.2.1
theorem dX1_advance_10 : decode cX1_advance 10 = .ok (.if_icmp .eq 11, 3) := edX1_advance_0.2.2.2.2.2.2.1
theorem dX1_advance_13 : decode cX1_advance 13 = .ok (.aload_n 0, 1) := edX1_advance_0.2.2.2.2.2.2.2.1
theorem dX1_advance_14 : decode cX1_advance 14 = .ok (.getfield 22, 3) := edX1_advance_0.2.2.2.2.2.2.2.2.1
theorem dX1_advance_17 : decode cX1_advance 17 = .ok (.iconst 2, 1) := edX1_advance_0.2.2.2.2.2.2.2.2.2.1
theorem dX1_advance_18 : decode cX1_advance 18 = .ok (.if_icmp .ne 7, 3) := edX1_advance_0.2.2.2.2.2.2.2.2.2.2.1
theorem dX1_advance_21 : decode cX1_advance 21 = .ok (.iconst 1, 1) := edX1_advance_0.2.2.2.2.2.2.2.2.2.2.2.1
theorem dX1_advance_22 : decode cX1_advance 22 = .ok (.goto 4, 3) := edX1_advance_0.2.2.2.2.2.2.2.2.2.2.2.2.1
theorem dX1_advance_25 : decode cX1_advance 25 = .ok (.iconst 0, 1) := edX1_advance_0.2.2.2.2.2.2.2.2.2.2.2.2.2.1
theorem dX1_advance_26 : decode cX1_advance 26 = .ok (.istore_n 2, 1) := edX1_advance_0.2.2.2.2.2.2.2.2.2.2.2.2.2.2.1
theorem dX1_advance_27 : decode cX1_advance 27 = .ok (.aload_n 0, 1) := edX1_advance_0.2.2.2.2.2.2.2.2.2.2.2.2.2.2.2.1
theorem dX1_advance_28 : decode cX1_advance 28 = .ok (.getfield 18, 3) := edX1_advance_0.2.2.2.2.2.2.2.2.2.2.2.2.2.2.2.2.1
theorem dX1_advance_31 : decode cX1_advance 31 = .ok (.aload_n 0, 1) := edX1_advance_0.2.2.2.2.2.2.2.2.2.2.2.2.2.2.2.2.2.1
theorem dX1_advance_32 : decode cX1_advance 32 = .ok (.getfield 12, 3) := edX1_advance_0.2.2.2.2.2.2.2.2.2.2.2.2.2.2.2.2.2.2.1
theorem dX1_advance_35 : decode cX1_advance 35 = .ok (.getfield 73, 3) := edX1_advance_0.2.2.2.2.2.2.2.2.2.2.2.2.2.2.2.2.2.2.2.1
theorem dX1_advance_38 : decode cX1_advance 38 = .ok (.if_icmp .ge 33, 3) := edX1_advance_0.2.2.2.2.2.2.2.2.2.2.2.2.2.2.2.2.2.2.2.2.1
theorem dX1_advance_41 : decode cX1_advance 41 = .ok (.aload_n 0, 1) := edX1_advance_0.2.2.2.2.2.2.2.2.2.2.2.2.2.2.2.2.2.2.2.2.2.1
theorem dX1_advance_42 : decode cX1_advance 42 = .ok (.getfield 12, 3) := edX1_advance_0.2.2.2.2.2.2.2.2.2.2.2.2.2.2.2.2.2.2.2.2.2.2.1
theorem dX1_advance_45 : decode cX1_advance 45 = .ok (.getfield 76, 3) := edX1_advance_0.2.2.2.2.2.2.2.2.2.2.2.2.2.2.2.2.2.2.2.2.2.2.2.1
theorem dX1_advance_48 : decode cX1_advance 48 = .ok (.aload_n 0, 1) := edX1_advance_0.2.2.2.2.2.2.2.2.2.2.2.2.2.2.2.2.2.2.2.2.2.2.2.2.1
theorem dX1_advance_49 : decode cX1_advance 49 = .ok (.getfield 18, 3) := edX1_advance_0.2.2.2.2.2.2.2.2.2.2.2.2.2.2.2.2.2.2.2.2.2.2.2.2.2.1
theorem dX1_advance_52 : decode cX1_advance 52 = .ok (.iaload, 1) := edX1_advance_0.2.2.2.2.2.2.2.2.2.2.2.2.2.2.2.2.2.2.2.2.2.2.2.2.2.2.1
theorem dX1_advance_53 : decode cX1_advance 53 = .ok (.bipush 32, 2) := edX1_advance_0.2.2.2.2.2.2.2.2.2.2.2.2.2.2.2.2.2.2.2.2.2.2.2.2.2.2.2.1
theorem dX1_advance_55 : decode cX1_advance 55 = .ok (.if_icmp .ne 16, 3) := edX1_advance_0.2.2.2.2.2.2.2.2.2.2.2.2.2.2.2.2.2.2.2.2.2.2.2.2.2.2.2.2.1
theorem dX1_advance_58 : decode cX1_advance 58 = .ok (.aload_n 0, 1) := edX1_advance_0.2.2.2.2.2.2.2.2.2.2.2.2.2.2.2.2.2.2.2.2.2.2.2.2.2.2.2.2.2.1
theorem dX1_advance_59 : decode cX1_advance 59 = .ok (.dup, 1) := edX1_advance_0.2.2.2.2.2.2.2.2.2.2.2.2.2.2.2.2.2.2.2.2.2.2.2.2.2.2.2.2.2.2.1
theorem dX1_advance_60 : decode cX1_advance 60 = .ok (.getfield 18, 3) := edX1_advance_0.2.2.2.2.2.2.2.2.2.2.2.2.2.2.2.2.2.2.2.2.2.2.2.2.2.2.2.2.2.2.2.1
theorem edX1_advance_63 : (decode cX1_advance 63 = .ok (.iconst 1, 1)) ∧ (decode cX1_advance 64 = .ok (.iadd, 1)) ∧ (decode cX1_advance 65 = .ok (.putfield 18, 3)) ∧ (decode cX1_advance 68 = .ok (.goto (-41), 3)) ∧ (decode cX1_advance 71 = .ok (.aload_n 0, 1)) ∧ (decode cX1_advance 72 = .ok (.aload_n 0, 1)) ∧ (decode cX1_advance 73 = .ok (.getfield 18, 3)) ∧ (decode cX1_advance 76 = .ok (.putfield 25, 3)) ∧ (decode cX1_advance 79 = .ok (.aload_n 0, 1)) ∧ (decode cX1_advance 80 = .ok (.getfield 18, 3)) ∧ (decode cX1_advance 83 = .ok (.aload_n 0, 1)) ∧ (decode cX1_advance 84 = .ok (.getfield 12, 3)) ∧ (decode cX1_advance 87 = .ok (.getfield 73, 3)) ∧ (decode cX1_advance 90 = .ok (.if_icmp .lt 9, 3)) ∧ (decode cX1_advance 93 = .ok (.aload_n 0, 1)) ∧ (decode cX1_advance 94 = .ok (.iconst 0, 1)) ∧ (decode cX1_advance 95 = .ok (.putfield 22, 3)) ∧ (decode cX1_advance 98 = .ok (.return_, 1)) ∧ (decode cX1_advance 99 = .ok (.aload_n 0, 1)) ∧ (decode cX1_advance 100 = .ok (.aload_n 0, 1)) ∧ (decode cX1_advance 101 = .ok (.getfield 12, 3)) ∧ (decode cX1_advance 104 = .ok (.getfield 76, 3)) ∧ (decode cX1_advance 107 = .ok (.aload_n 0, 1)) ∧ (decode cX1_advance 108 = .ok (.getfield 18, 3)) ∧ (decode cX1_advance 111 = .ok (.iaload, 1)) ∧ (decode cX1_advance 112 = .ok (.invokestatic 79, 3)) ∧ (decode cX1_advance 115 = .ok (.putfield 22, 3)) ∧ (decode cX1_advance 118 = .ok (.aload_n 0, 1)) ∧ (decode cX1_advance 119 = .ok (.dup, 1)) ∧ (decode cX1_advance 120 = .ok (.getfield 18, 3)) ∧ (decode cX1_advance 123 = .ok (.iconst 1, 1)) ∧ (decode cX1_advance 124 = .ok (.iadd, 1)) ∧ True := dc_cj [(63, .iconst 1, 1), (64, .iadd, 1), (65, .putfield 18, 3), (68, .goto (-41), 3), (71, .aload_n 0, 1), (72, .aload_n 0, 1), (73, .getfield 18, 3), (76, .putfield 25, 3), (79, .aload_n 0, 1), (80, .getfield 18, 3), (83, .aload_n 0, 1), (84, .getfield 12, 3), (87, .getfield 73, 3), (90, .if_icmp .lt 9, 3), (93, .aload_n 0, 1), (94, .iconst 0, 1), (95, .putfield 22, 3), (98, .return_, 1), (99, .aload_n 0, 1), (100, .aload_n 0, 1), (101, .getfield 12, 3), (104, .getfield 76, 3), (107, .aload_n 0, 1), (108, .getfield 18, 3), (111, .iaload, 1), (112, .invokestatic 79, 3), (115, .putfield 22, 3), (118, .aload_n 0, 1), (119, .dup, 1), (120, .getfield 18, 3), (123, .iconst 1, 1), (124, .iadd, 1)] (by decide +kernel)
theorem dX1_advance_63 : decode cX1_advance 63 = .ok (.iconst 1, 1) := edX1_advance_63.1
theorem dX1_advance_64 : decode cX1_advance 64 = .ok (.iadd, 1) := edX1_advance_63.2.1
theorem dX1_advance_65 : decode cX1_advance 65 = .ok (.putfield 18, 3) := edX1_advance_63.2.2.1
theorem dX1_advance_68 : decode cX1_advance 68 = .ok (.goto (-41), 3) := edX1_advance_63.2.2.2.1
theorem dX1_advance_71 : decode cX1_advance 71 = .ok (.aload_n 0, 1) := edX1_advance_63.2.2.2.2.1
theorem dX1_advance_72 : decode cX1_advance 72 = .ok (.aload_n 0, 1) := edX1_advance_63.2.2.2.2.2.1
theorem dX1_advance_73 : decode cX1_advance 73 = .ok (.getfield 18, 3) := edX1_advance_63.2.2.2.2.2.2.1
theorem dX1_advance_76 : decode cX1_advance 76 = .ok (.putfield 25, 3) := edX1_advance_63.2.2.2.2.2.2.2.1
theorem dX1_advance_79 : decode cX1_advance 79 = .ok (.aload_n 0, 1) := edX1_advance_63.2.2.2.2.2.2.2.2.1
theorem dX1_advance_80 : decode cX1_advance 80 = .ok (.getfield 18, 3) := edX1_advance_63.2.2.2.2.2.2.2.2.2.1
theorem dX1_advance_83 : decode cX1_advance 83 = .ok (.aload_n 0, 1) := edX1_advance_63.2.2.2.2.2.2.2.2.2.2.1
theorem dX1_advance_84 : decode cX1_advance 84 = .ok (.getfield 12, 3) := edX1_advance_63.2.2.2.2.2.2.2.2.2.2.2.1
theorem dX1_advance_87 : decode cX1_advance 87 = .ok (.getfield 73, 3) := edX1_advance_63.2.2.2.2.2.2.2.2.2.2.2.2.1
theorem dX1_advance_90 : decode cX1_advance 90 = .ok (.if_icmp .lt 9, 3) := edX1_advance_63.2.2.2.2.2.2.2.2.2.2.2.2.2.1
theorem dX1_advance_93 : decode cX1_advance 93 = .ok (.aload_n 0, 1) := edX1_advance_63.2.2.2.2.2.2.2.2.2.2.2.2.2.2.1
theorem dX1_advance_94 : decode cX1_advance 94 = .ok (.iconst 0, 1) := edX1_advance_63.2.2.2.2.2.2.2.2.2.2.2.2.2.2.2.1
theorem dX1_advance_95 : decode cX1_advance 95 = .ok (.putfield 22, 3) := edX1_advance_63.2.2.2.2.2.2.2.2.2.2.2.2.2.2.2.2.1
theorem dX1_advance_98 : decode cX1_advance 98 = .ok (.return_, 1) := edX1_advance_63.2.2.2.2.2.2.2.2.2.2.2.2.2.2.2.2.2.1
theorem dX1_advance_99 : decode cX1_advance 99 = .ok (.aload_n 0, 1) := edX1_advance_63.2.2.2.2.2.2.2.2.2.2.2.2.2.2.2.2.2.2.1
theorem dX1_advance_100 : decode cX1_advance 100 = .ok (.aload_n 0, 1) := edX1_advance_63.2.2.2.2.2.2.2.2.2.2.2.2.2.2.2.2.2.2.2.1
theorem dX1_advance_101 : decode cX1_advance 101 = .ok (.getfield 12, 3) := edX1_advance_63.2.2.2.2.2.2.2.2.2.2.2.2.2.2.2.2.2.2.2.2.1
theorem dX1_advance_104 : decode cX1_advance 104 = .ok (.getfield 76, 3) := edX1_advance_63.2.2.2.2.2.2.2.2.2.2.2.2.2.2.2.2.2.2.2.2.2.1
theorem dX1_advance_107 : decode cX1_advance 107 = .ok (.aload_n 0, 1) := edX1_advance_63.2.2.2.2.2.2.2.2.2.2.2.2.2.2.2.2.2.2.2.2.2.2.1
theorem dX1_advance_108 : decode cX1_advance 108 = .ok (.getfield 18, 3) := edX1_advance_63.2.2.2.2.2.2.2.2.2.2.2.2.2.2.2.2.2.2.2.2.2.2.2.1
theorem dX1_advance_111 : decode cX1_advance 111 = .ok (.iaload, 1) := edX1_advance_63.2.2.2.2.2.2.2.2.2.2.2.2.2.2.2.2.2.2.2.2.2.2.2.2.1
theorem dX1_advance_112 : decode cX1_advance 112 = .ok (.invokestatic 79, 3) := edX1_advance_63.2.2.2.2.2.2.2.2.2.2.2.2.2.2.2.2.2.2.2.2.2.2.2.2.2.1
theorem dX1_advance_115 : decode cX1_advance 115 = .ok (.putfield 22, 3) := edX1_advance_63.2.2.2.2.2.2.2.2.2.2.2.2.2.2.2.2.2.2.2.2.2.2.2.2.2.2.1
theorem dX1_advance_118 : decode cX1_advance 118 = .ok (.aload_n 0, 1) := edX1_advance_63.2.2.2.2.2.2.2.2.2.2.2.2.2.2.2.2.2.2.2.2.2.2.2.2.2.2.2.1
theorem dX1_advance_119 : decode cX1_advance 119 = .ok (.dup, 1) := edX1_advance_63.2.2.2.2.2.2.2.2.2.2.2.2.2.2.2.2.2.2.2.2.2.2.2.2.2.2.2.2.1
theorem dX1_advance_120 : decode cX1_advance 120 = .ok (.getfield 18, 3) := edX1_advance_63.2.2.2.2.2.2.2.2.2.2.2.2.2.2.2.2.2.2.2.2.2.2.2.2.2.2.2.2.2.1
theorem dX1_advance_123 : decode cX1_advance 123 = .ok (.iconst 1, 1) := edX1_advance_63.2.2.2.2.2.2.2.2.2.2.2.2.2.2.2.2.2.2.2.2.2.2.2.2.2.2.2.2.2.2.1
theorem dX1_advance_124 : decode cX1_advance 124 = .ok (.iadd, 1) := edX1_advance_63.2.2.2.2.2.2.2.2.2.2.2.2.2.2.2.2.2.2.2.2.2.2.2.2.2.2.2.2.2.2.2.1
theorem edX1_advance_125 : (decode cX1_advance 125 = .ok (.putfield 18, 3)) ∧ (decode cX1_advance 128 = .ok (.aload_n 0, 1)) ∧ (decode cX1_advance 129 = .ok (.getfield 22, 3)) ∧ (decode cX1_advance 132 = .ok (.iconst 3, 1)) ∧ (decode cX1_advance 133 = .ok (.if_icmp .ne 4, 3)) ∧ (decode cX1_advance 136 = .ok (.return_, 1)) ∧ (decode cX1_advance 137 = .ok (.aload_n 0, 1)) ∧ (decode cX1_advance 138 = .ok (.getfield 18, 3)) ∧ (decode cX1_advance 141 = .ok (.aload_n 0, 1)) ∧ (decode cX1_advance 142 = .ok (.getfield 12, 3)) ∧ (decode cX1_advance 145 = .ok (.getfield 73, 3)) ∧ (decode cX1_advance 148 = .ok (.if_icmp .ge 38, 3)) ∧ (decode cX1_advance 151 = .ok (.aload_n 0, 1)) ∧ (decode cX1_advance 152 = .ok (.getfield 12, 3)) ∧ (decode cX1_advance 155 = .ok (.getfield 76, 3)) ∧ (decode cX1_advance 158 = .ok (.aload_n 0, 1)) ∧ (decode cX1_advance 159 = .ok (.getfield 18, 3)) ∧ (decode cX1_advance 162 = .ok (.iaload, 1)) ∧ (decode cX1_advance 163 = .ok (.invokestatic 79, 3)) ∧ (decode cX1_advance 166 = .ok (.aload_n 0, 1)) ∧ (decode cX1_advance 167 = .ok (.getfield 22, 3)) ∧ (decode cX1_advance 170 = .ok (.if_icmp .ne 16, 3)) ∧ (decode cX1_advance 173 = .ok (.aload_n 0, 1)) ∧ (decode cX1_advance 174 = .ok (.dup, 1)) ∧ (decode cX1_advance 175 = .ok (.getfield 18, 3)) ∧ (decode cX1_advance 178 = .ok (.iconst 1, 1)) ∧ (decode cX1_advance 179 = .ok (.iadd, 1)) ∧ (decode cX1_advance 180 = .ok (.putfield 18, 3)) ∧ (decode cX1_advance 183 = .ok (.goto (-46), 3)) ∧ (decode cX1_advance 186 = .ok (.iload_n 2, 1)) ∧ (decode cX1_advance 187 = .ok (.ifCond .eq 15, 3)) ∧ (decode cX1_advance 190 = .ok (.aload_n 0, 1)) ∧ True := dc_cj [(125, .putfield 18, 3), (128, .aload_n 0, 1), (129, .getfield 22, 3), (132, .iconst 3, 1), (133, .if_icmp .ne 4, 3), (136, .return_, 1), (137, .aload_n 0, 1), (138, .getfield 18, 3), (141, .aload_n 0, 1), (142, .getfield 12, 3), (145, .getfield 73, 3), (148, .if_icmp .ge 38, 3), (151, .aload_n 0, 1), (152, .getfield 12, 3), (155, .getfield 76, 3), (158, .aload_n 0, 1), (159, .getfield 18, 3), (162, .iaload, 1), (163, .invokestatic 79, 3), (166, .aload_n 0, 1), (167, .getfield 22, 3), (170, .if_icmp .ne 16, 3), (173, .aload_n 0, 1), (174, .dup, 1), (175, .getfield 18, 3), (178, .iconst 1, 1), (179, .iadd, 1), (180, .putfield 18, 3), (183, .goto (-46), 3), (186, .iload_n 2, 1), (187, .ifCond .eq 15, 3), (190, .aload_n 0, 1)] (by decide +kernel)
theorem dX1_advance_125 : decode cX1_advance 125 = .ok (.putfield 18, 3) := edX1_advance_125.1
theorem dX1_advance_128 : decode cX1_advance 128 = .ok (.aload_n 0, 1) := edX1_advance_125.2.1
theorem dX1_advance_129 : decode cX1_advance 129 = .ok (.getfield 22, 3) := edX1_advance_125.2.2.1
theorem dX1_advance_132 : decode cX1_advance 132 = .ok (.iconst 3, 1) := edX1_advance_125.2.2.2.1
theorem dX1_advance_133 : decode cX1_advance 133 = .ok (.if_icmp .ne 4, 3) := edX1_advance_125.2.2.2.2.1
theorem dX1_advance_136 : decode cX1_advance 136 = .ok (.return_, 1) := edX1_advance_125.2.2.2.2.2.1
theorem dX1_advance_137 : decode cX1_advance 137 = .ok (.aload_n 0, 1) := edX1_advance_125.2.2.2.2.2.2.1
theorem dX1_advance_138 : decode cX1_advance 138 = .ok (.getfield 18, 3) := edX1_advance_125.2.2.2.2.2.2.2.1
theorem dX1_advance_141 : decode cX1_advance 141 = .ok (.aload_n 0, 1) := edX1_advance_125.2.2.2.2.2.2.2.2.1
theorem dX1_advance_142 : decode cX1_advance 142 = .ok (.getfield 12, 3) := edX1_advance_125.2.2.2.2.2.2.2.2.2.1
theorem dX1_advance_145 : decode cX1_advance 145 = .ok (.getfield 73, 3) := edX1_advance_125.2.2.2.2.2.2.2.2.2.2.1
theorem dX1_advance_148 : decode cX1_advance 148 = .ok (.if_icmp .ge 38, 3) := edX1_advance_125.2.2.2.2.2.2.2.2.2.2.2.1
theorem dX1_advance_151 : decode cX1_advance 151 = .ok (.aload_n 0, 1) := edX1_advance_125.2.2.2.2.2.2.2.2.2.2.2.2.1
theorem dX1_advance_152 : decode cX1_advance 152 = .ok (.getfield 12, 3) := edX1_advance_125.2.2.2.2.2.2.2.2.2.2.2.2.2.1
theorem dX1_advance_155 : decode cX1_advance 155 = .ok (.getfield 76, 3) := edX1_advance_125.2.2.2.2.2.2.2.2.2.2.2.2.2.2.1
theorem dX1_advance_158 : decode cX1_advance 158 = .ok (.aload_n 0, 1) := edX1_advance_125.2.2.2.2.2.2.2.2.2.2.2.2.2.2.2.1
theorem dX1_advance_159 : decode cX1_advance 159 = .ok (.getfield 18, 3) := edX1_advance_125.2.2.2.2.2.2.2.2.2.2.2.2.2.2.2.2.1
theorem dX1_advance_162 : decode cX1_advance 162 = .ok (.iaload, 1) := edX1_advance_125.2.2.2.2.2.2.2.2.2.2.2.2.2.2.2.2.2.1
theorem dX1_advance_163 : decode cX1_advance 163 = .ok (.invokestatic 79, 3) := edX1_advance_125.2.2.2.2.2.2.2.2.2.2.2.2.2.2.2.2.2.2.1
theorem dX1_advance_166 : decode cX1_advance 166 = .ok (.aload_n 0, 1) := edX1_advance_125.2.2.2.2.2.2.2.2.2.2.2.2.2.2.2.2.2.2.2.1
theorem dX1_advance_167 : decode cX1_advance 167 = .ok (.getfield 22, 3) := edX1_advance_125.2.2.2.2.2.2.2.2.2.2.2.2.2.2.2.2.2.2.2.2.1
theorem dX1_advance_170 : decode cX1_advance 170 = .ok (.if_icmp .ne 16, 3) := edX1_advance_125.2.2.2.2.2.2.2.2.2.2.2.2.2.2.2.2.2.2.2.2.2.1
theorem dX1_advance_173 : decode cX1_advance 173 = .ok (.aload_n 0, 1) := edX1_advance_125.2.2.2.2.2.2.2.2.2.2.2.2.2.2.2.2.2.2.2.2.2.2.1
theorem dX1_advance_174 : decode cX1_advance 174 = .ok (.dup, 1) := edX1_advance_125.2.2.2.2.2.2.2.2.2.2.2.2.2.2.2.2.2.2.2.2.2.2.2.1
theorem dX1_advance_175 : decode cX1_advance 175 = .ok (.getfield 18, 3) := edX1_advance_125.2.2.2.2.2.2.2.2.2.2.2.2.2.2.2.2.2.2.2.2.2.2.2.2.1
theorem dX1_advance_178 : decode cX1_advance 178 = .ok (.iconst 1, 1) := edX1_advance_125.2.2.2.2.2.2.2.2.2.2.2.2.2.2.2.2.2.2.2.2.2.2.2.2.2.1
theorem dX1_advance_179 : decode cX1_advance 179 = .ok (.iadd, 1) := edX1_advance_125.2.2.2.2.2.2.2.2.2.2.2.2.2.2.2.2.2.2.2.2.2.2.2.2.2.2.1
theorem dX1_advance_180 : decode cX1_advance 180 = .ok (.putfield 18, 3) := edX1_advance_125.2.2.2.2.2.2.2.2.2.2.2.2.2.2.2.2.2.2.2.2.2.2.2.2.2.2.2.1
theorem dX1_advance_183 : decode cX1_advance 183 = .ok (.goto (-46), 3) := edX1_advance_125.2.2.2.2.2.2.2.2.2.2.2.2.2.2.2.2.2.2.2.2.2.2.2.2.2.2.2.2.1
theorem dX1_advance_186 : decode cX1_advance 186 = .ok (.iload_n 2, 1) := edX1_advance_125.2.2.2.2.2.2.2.2.2.2.2.2.2.2.2.2.2.2.2.2.2.2.2.2.2.2.2.2.2.1
theorem dX1_advance_187 : decode cX1_advance 187 = .ok (.ifCond .eq 15, 3) := edX1_advance_125.2.2.2.2.2.2.2.2.2.2.2.2.2.2.2.2.2.2.2.2.2.2.2.2.2.2.2.2.2.2.1
theorem dX1_advance_190 : decode cX1_advance 190 = .ok (.aload_n 0, 1) := edX1_advance_125.2.2.2.2.2.2.2.2.2.2.2.2.2.2.2.2.2.2.2.2.2.2.2.2.2.2.2.2.2.2.2.1
theorem edX1_advance_191 : (decode cX1_advance 191 = .ok (.getfield 25, 3)) ∧ (decode cX1_advance 194 = .ok (.iload_n 1, 1)) ∧ (decode cX1_advance 195 = .ok (.if_icmp .ne 7, 3)) ∧ (decode cX1_advance 198 = .ok (.iconst 1, 1)) ∧ (decode cX1_advance 199 = .ok (.goto 4, 3)) ∧ (decode cX1_advance 202 = .ok (.iconst 0, 1)) ∧ (decode cX1_advance 203 = .ok (.istore_n 3, 1)) ∧ (decode cX1_advance 204 = .ok (.iload_n 3, 1)) ∧ (decode cX1_advance 205 = .ok (.ifCond .ne 24, 3)) ∧ (decode cX1_advance 208 = .ok (.aload_n 0, 1)) ∧ (decode cX1_advance 209 = .ok (.getfield 22, 3)) ∧ (decode cX1_advance 212 = .ok (.iconst 2, 1)) ∧ (decode cX1_advance 213 = .ok (.if_icmp .ne 21, 3)) ∧ (decode cX1_advance 216 = .ok (.aload_n 0, 1)) ∧ (decode cX1_advance 217 = .ok (.getfield 18, 3)) ∧ (decode cX1_advance 220 = .ok (.aload_n 0, 1)) ∧ (decode cX1_advance 221 = .ok (.getfield 25, 3)) ∧ (decode cX1_advance 224 = .ok (.isub, 1)) ∧ (decode cX1_advance 225 = .ok (.iconst 4, 1)) ∧ (decode cX1_advance 226 = .ok (.if_icmp .le 8, 3)) ∧ (decode cX1_advance 229 = .ok (.aload_n 0, 1)) ∧ (decode cX1_advance 230 = .ok (.iconst 5, 1)) ∧ (decode cX1_advance 231 = .ok (.putfield 22, 3)) ∧ (decode cX1_advance 234 = .ok (.return_, 1)) ∧ True := dc_cj [(191, .getfield 25, 3), (194, .iload_n 1, 1), (195, .if_icmp .ne 7, 3), (198, .iconst 1, 1), (199, .goto 4, 3), (202, .iconst 0, 1), (203, .istore_n 3, 1), (204, .iload_n 3, 1), (205, .ifCond .ne 24, 3), (208, .aload_n 0, 1), (209, .getfield 22, 3), (212, .iconst 2, 1), (213, .if_icmp .ne 21, 3), (216, .aload_n 0, 1), (217, .getfield 18, 3), (220, .aload_n 0, 1), (221, .getfield 25, 3), (224, .isub, 1), (225, .iconst 4, 1), (226, .if_icmp .le 8, 3), (229, .aload_n 0, 1), (230, .iconst 5, 1), (231, .putfield 22, 3), (234, .return_, 1)] (by decide +kernel)
theorem dX1_advance_191 : decode cX1_advance 191 = .ok (.getfield 25, 3) := edX1_advance_191.1
theorem dX1_advance_194 : decode cX1_advance 194 = .ok (.iload_n 1, 1) := edX1_advance_191.2.1
theorem dX1_advance_195 : decode cX1_advance 195 = .ok (.if_icmp .ne 7, 3) := edX1_advance_191.2.2.1
theorem dX1_advance_198 : decode cX1_advance 198 = .ok (.iconst 1, 1) := edX1_advance_191.2.2.2.1
theorem dX1_advance_199 : decode cX1_advance 199 = .ok (.goto 4, 3) := edX1_advance_191.2.2.2.2.1
theorem dX1_advance_202 : decode cX1_advance 202 = .ok (.iconst 0, 1) := edX1_advance_191.2.2.2.2.2.1
theorem dX1_advance_203 : decode cX1_advance 203 = .ok (.istore_n 3, 1) := edX1_advance_191.2.2.2.2.2.2.1
theorem dX1_advance_204 : decode cX1_advance 204 = .ok (.iload_n 3, 1) := edX1_advance_191.2.2.2.2.2.2.2.1
theorem dX1_advance_205 : decode cX1_advance 205 = .ok (.ifCond .ne 24, 3) := edX1_advance_191.2.2.2.2.2.2.2.2.1
theorem dX1_advance_208 : decode cX1_advance 208 = .ok (.aload_n 0, 1) := edX1_advance_191.2.2.2.2.2.2.2.2.2.1
theorem dX1_advance_209 : decode cX1_advance 209 = .ok (.getfield 22, 3) := edX1_advance_191.2.2.2.2.2.2.2.2.2.2.1
theorem dX1_advance_212 : decode cX1_advance 212 = .ok (.iconst 2, 1) := edX1_advance_191.2.2.2.2.2.2.2.2.2.2.2.1
theorem dX1_advance_213 : decode cX1_advance 213 = .ok (.if_icmp .ne 21, 3) := edX1_advance_191.2.2.2.2.2.2.2.2.2.2.2.2.1
theorem dX1_advance_216 : decode cX1_advance 216 = .ok (.aload_n 0, 1) := edX1_advance_191.2.2.2.2.2.2.2.2.2.2.2.2.2.1
theorem dX1_advance_217 : decode cX1_advance 217 = .ok (.getfield 18, 3) := edX1_advance_191.2.2.2.2.2.2.2.2.2.2.2.2.2.2.1
theorem dX1_advance_220 : decode cX1_advance 220 = .ok (.aload_n 0, 1) := edX1_advance_191.2.2.2.2.2.2.2.2.2.2.2.2.2.2.2.1
theorem dX1_advance_221 : decode cX1_advance 221 = .ok (.getfield 25, 3) := edX1_advance_191.2.2.2.2.2.2.2.2.2.2.2.2.2.2.2.2.1
theorem dX1_advance_224 : decode cX1_advance 224 = .ok (.isub, 1) := edX1_advance_191.2.2.2.2.2.2.2.2.2.2.2.2.2.2.2.2.2.1
theorem dX1_advance_225 : decode cX1_advance 225 = .ok (.iconst 4, 1) := edX1_advance_191.2.2.2.2.2.2.2.2.2.2.2.2.2.2.2.2.2.2.1
theorem dX1_advance_226 : decode cX1_advance 226 = .ok (.if_icmp .le 8, 3) := edX1_advance_191.2.2.2.2.2.2.2.2.2.2.2.2.2.2.2.2.2.2.2.1
theorem dX1_advance_229 : decode cX1_advance 229 = .ok (.aload_n 0, 1) := edX1_advance_191.2.2.2.2.2.2.2.2.2.2.2.2.2.2.2.2.2.2.2.2.1
theorem dX1_advance_230 : decode cX1_advance 230 = .ok (.iconst 5, 1) := edX1_advance_191.2.2.2.2.2.2.2.2.2.2.2.2.2.2.2.2.2.2.2.2.2.1
theorem dX1_advance_231 : decode cX1_advance 231 = .ok (.putfield 22, 3) := edX1_advance_191.2.2.2.2.2.2.2.2.2.2.2.2.2.2.2.2.2.2.2.2.2.2.1
theorem dX1_advance_234 : decode cX1_advance 234 = .ok (.return_, 1) := edX1_advance_191.2.2.2.2.2.2.2.2.2.2.2.2.2.2.2.2.2.2.2.2.2.2.2.1
theorem edX1_sortOf_0 : (decode cX1_sortOf 0 = .ok (.iload_n 0, 1)) ∧ (decode cX1_sortOf 1 = .ok (.bipush 97, 2)) ∧ (decode cX1_sortOf 3 = .ok (.if_icmp .lt 11, 3)) ∧ (decode cX1_sortOf 6 = .ok (.iload_n 0, 1)) ∧ (decode cX1_sortOf 7 = .ok (.bipush 122, 2)) ∧ (decode cX1_sortOf 9 = .ok (.if_icmp .gt 5, 3)) ∧ (decode cX1_sortOf 12 = .ok (.iconst 1, 1)) ∧ (decode cX1_sortOf 13 = .ok (.ireturn, 1)) ∧ (decode cX1_sortOf 14 = .ok (.iload_n 0, 1)) ∧ (decode cX1_sortOf 15 = .ok (.bipush 48, 2)) ∧ (decode cX1_sortOf 17 = .ok (.if_icmp .lt 11, 3)) ∧ (decode cX1_sortOf 20 = .ok (.iload_n 0, 1)) ∧ (decode cX1_sortOf 21 = .ok (.bipush 57, 2)) ∧ (decode cX1_sortOf 23 = .ok (.if_icmp .gt 5, 3)) ∧ (decode cX1_sortOf 26 = .ok (.iconst 2, 1)) ∧ (decode cX1_sortOf 27 = .ok (.ireturn, 1)) ∧ (decode cX1_sortOf 28 = .ok (.iload_n 0, 1)) ∧ (decode cX1_sortOf 29 = .ok (.bipush 32, 2)) ∧ (decode cX1_sortOf 31 = .ok (.if_icmp .ne 7, 3)) ∧ (decode cX1_sortOf 34 = .ok (.iconst 4, 1)) ∧ (decode cX1_sortOf 35 = .ok (.goto 4, 3)) ∧ (decode cX1_sortOf 38 = .ok (.iconst 3, 1)) ∧ (decode cX1_sortOf 39 = .ok (.ireturn, 1)) ∧ True := dc_cj [(0, .iload_n 0, 1), (1, .bipush 97, 2), (3, .if_icmp .lt 11, 3), (6, .iload_n 0, 1), (7, .bipush 122, 2), (9, .if_icmp .gt 5, 3), (12, .iconst 1, 1), (13, .ireturn, 1), (14, .iload_n 0, 1), (15, .bipush 48, 2), (17, .if_icmp .lt 11, 3), (20, .iload_n 0, 1), (21, .bipush 57, 2), (23, .if_icmp .gt 5, 3), (26, .iconst 2, 1), (27, .ireturn, 1), (28, .iload_n 0, 1), (29, .bipush 32, 2), (31, .if_icmp .ne 7, 3), (34, .iconst 4, 1), (35, .goto 4, 3), (38, .iconst 3, 1), (39, .ireturn, 1)] (by decide +kernel)
theorem dX1_sortOf_0 : decode cX1_sortOf 0 = .ok (.iload_n 0, 1) := edX1_sortOf_0.1
theorem dX1_sortOf_1 : decode cX1_sortOf 1 = .ok (.bipush 97, 2) := edX1_sortOf_0.2.1
theorem dX1_sortOf_3 : decode cX1_sortOf 3 = .ok (.if_icmp .lt 11, 3) := edX1_sortOf_0.2.2.1
theorem dX1_sortOf_6 : decode cX1_sortOf 6 = .ok (.iload_n 0, 1) := edX1_sortOf_0.2.2.2.1
theorem dX1_sortOf_7 : decode cX1_sortOf 7 = .ok (.bipush 122, 2) := edX1_sortOf_0.2.2.2.2.1
theorem dX1_sortOf_9 : decode cX1_sortOf 9 = .ok (.if_icmp .gt 5, 3) := edX1_sortOf_0.2.2.2.2.2.1
theorem dX1_sortOf_12 : decode cX1_sortOf 12 = .ok (.iconst 1, 1) := edX1_sortOf_0.2.2.2.2.2.2.1
theorem dX1_sortOf_13 : decode cX1_sortOf 13 = .ok (.ireturn, 1) := edX1_sortOf_0.2.2.2.2.2.2.2.1
theorem dX1_sortOf_14 : decode cX1_sortOf 14 = .ok (.iload_n 0, 1) := edX1_sortOf_0.2.2.2.2.2.2.2.2.1
theorem dX1_sortOf_15 : decode cX1_sortOf 15 = .ok (.bipush 48, 2) := edX1_sortOf_0.2.2.2.2.2.2.2.2.2.1
theorem dX1_sortOf_17 : decode cX1_sortOf 17 = .ok (.if_icmp .lt 11, 3) := edX1_sortOf_0.2.2.2.2.2.2.2.2.2.2.1
theorem dX1_sortOf_20 : decode cX1_sortOf 20 = .ok (.iload_n 0, 1) := edX1_sortOf_0.2.2.2.2.2.2.2.2.2.2.2.1
theorem dX1_sortOf_21 : decode cX1_sortOf 21 = .ok (.bipush 57, 2) := edX1_sortOf_0.2.2.2.2.2.2.2.2.2.2.2.2.1
theorem dX1_sortOf_23 : decode cX1_sortOf 23 = .ok (.if_icmp .gt 5, 3) := edX1_sortOf_0.2.2.2.2.2.2.2.2.2.2.2.2.2.1
theorem dX1_sortOf_26 : decode cX1_sortOf 26 = .ok (.iconst 2, 1) := edX1_sortOf_0.2.2.2.2.2.2.2.2.2.2.2.2.2.2.1
theorem dX1_sortOf_27 : decode cX1_sortOf 27 = .ok (.ireturn, 1) := edX1_sortOf_0.2.2.2.2.2.2.2.2.2.2.2.2.2.2.2.1
theorem dX1_sortOf_28 : decode cX1_sortOf 28 = .ok (.iload_n 0, 1) := edX1_sortOf_0.2.2.2.2.2.2.2.2.2.2.2.2.2.2.2.2.1
theorem dX1_sortOf_29 : decode cX1_sortOf 29 = .ok (.bipush 32, 2) := edX1_sortOf_0.2.2.2.2.2.2.2.2.2.2.2.2.2.2.2.2.2.1
theorem dX1_sortOf_31 : decode cX1_sortOf 31 = .ok (.if_icmp .ne 7, 3) := edX1_sortOf_0.2.2.2.2.2.2.2.2.2.2.2.2.2.2.2.2.2.2.1
theorem dX1_sortOf_34 : decode cX1_sortOf 34 = .ok (.iconst 4, 1) := edX1_sortOf_0.2.2.2.2.2.2.2.2.2.2.2.2.2.2.2.2.2.2.2.1
theorem dX1_sortOf_35 : decode cX1_sortOf 35 = .ok (.goto 4, 3) := edX1_sortOf_0.2.2.2.2.2.2.2.2.2.2.2.2.2.2.2.2.2.2.2.2.1
theorem dX1_sortOf_38 : decode cX1_sortOf 38 = .ok (.iconst 3, 1) := edX1_sortOf_0.2.2.2.2.2.2.2.2.2.2.2.2.2.2.2.2.2.2.2.2.2.1
theorem dX1_sortOf_39 : decode cX1_sortOf 39 = .ok (.ireturn, 1) := edX1_sortOf_0.2.2.2.2.2.2.2.2.2.2.2.2.2.2.2.2.2.2.2.2.2.2.1
theorem edX1_isSign_0 : (decode cX1_isSign 0 = .ok (.aload_n 0, 1)) ∧ (decode cX1_isSign 1 = .ok (.getfield 28, 3)) ∧ (decode cX1_isSign 4 = .ok (.ifCond .ge 31, 3)) ∧ (decode cX1_isSign 7 = .ok (.aload_n 0, 1)) ∧ (decode cX1_isSign 8 = .ok (.getfield 22, 3)) ∧ (decode cX1_isSign 11 = .ok (.iconst 3, 1)) ∧ (decode cX1_isSign 12 = .ok (.if_icmp .ne 23, 3)) ∧ (decode cX1_isSign 15 = .ok (.aload_n 0, 1)) ∧ (decode cX1_isSign 16 = .ok (.getfield 12, 3)) ∧ (decode cX1_isSign 19 = .ok (.getfield 76, 3)) ∧ (decode cX1_isSign 22 = .ok (.aload_n 0, 1)) ∧ (decode cX1_isSign 23 = .ok (.getfield 25, 3)) ∧ (decode cX1_isSign 26 = .ok (.iaload, 1)) ∧ (decode cX1_isSign 27 = .ok (.iload_n 1, 1)) ∧ (decode cX1_isSign 28 = .ok (.if_icmp .ne 7, 3)) ∧ (decode cX1_isSign 31 = .ok (.iconst 1, 1)) ∧ (decode cX1_isSign 32 = .ok (.goto 4, 3)) ∧ (decode cX1_isSign 35 = .ok (.iconst 0, 1)) ∧ (decode cX1_isSign 36 = .ok (.ireturn, 1)) ∧ True := dc_cj [(0, .aload_n 0, 1), (1, .getfield 28, 3), (4, .ifCond .ge 31, 3), (7, .aload_n 0, 1), (8, .getfield 22, 3), (11, .iconst 3, 1), (12, .if_icmp .ne 23, 3), (15, .aload_n 0, 1), (16, .getfield 12, 3), (19, .getfield 76, 3), (22, .aload_n 0, 1), (23, .getfield 25, 3), (26, .iaload, 1), (27, .iload_n 1, 1), (28, .if_icmp .ne 7, 3), (31, .iconst 1, 1), (32, .goto 4, 3), (35, .iconst 0, 1), (36, .ireturn, 1)] (by decide +kernel)
theorem dX1_isSign_0 : decode cX1_isSign 0 = .ok (.aload_n 0, 1) := edX1_isSign_0.1
theorem dX1_isSign_1 : decode cX1_isSign 1 = .ok (.getfield 28, 3) := edX1_isSign_0.2.1
theorem dX1_isSign_4 : decode cX1_isSign 4 = .ok (.ifCond .ge 31, 3) := edX1_isSign_0.2.2.1
theorem dX1_isSign_7 : decode cX1_isSign 7 = .ok (.aload_n 0, 1) := edX1_isSign_0.2.2.2.1
theorem dX1_isSign_8 : decode cX1_isSign 8 = .ok (.getfield 22, 3) := edX1_isSign_0.2.2.2.2.1
theorem dX1_isSign_11 : decode cX1_isSign 11 = .ok (.iconst 3, 1) := edX1_isSign_0.2.2.2.2.2.1
theorem dX1_isSign_12 : decode cX1_isSign 12 = .ok (.if_icmp .ne 23, 3) := edX1_isSign_0.2.2.2.2.2.2.1
theorem dX1_isSign_15 : decode cX1_isSign 15 = .ok (.aload_n 0, 1) := edX1_isSign_0.2.2.2.2.2.2.2.1
theorem dX1_isSign_16 : decode cX1_isSign 16 = .ok (.getfield 12, 3) := edX1_isSign_0.2.2.2.2.2.2.2.2.1
theorem dX1_isSign_19 : decode cX1_isSign 19 = .ok (.getfield 76, 3) := edX1_isSign_0.2.2.2.2.2.2.2.2.2.1
theorem dX1_isSign_22 : decode cX1_isSign 22 = .ok (.aload_n 0, 1) := edX1_isSign_0.2.2.2.2.2.2.2.2.2.2.1
theorem dX1_isSign_23 : decode cX1_isSign 23 = .ok (.getfield 25, 3) := edX1_isSign_0.2.2.2.2.2.2.2.2.2.2.2.1
theorem dX1_isSign_26 : decode cX1_isSign 26 = .ok (.iaload, 1) := edX1_isSign_0.2.2.2.2.2.2.2.2.2.2.2.2.1
theorem dX1_isSign_27 : decode cX1_isSign 27 = .ok (.iload_n 1, 1) := edX1_isSign_0.2.2.2.2.2.2.2.2.2.2.2.2.2.1
theorem dX1_isSign_28 : decode cX1_isSign 28 = .ok (.if_icmp .ne 7, 3) := edX1_isSign_0.2.2.2.2.2.2.2.2.2.2.2.2.2.2.1
theorem dX1_isSign_31 : decode cX1_isSign 31 = .ok (.iconst 1, 1) := edX1_isSign_0.2.2.2.2.2.2.2.2.2.2.2.2.2.2.2.1
theorem dX1_isSign_32 : decode cX1_isSign 32 = .ok (.goto 4, 3) := edX1_isSign_0.2.2.2.2.2.2.2.2.2.2.2.2.2.2.2.2.1
theorem dX1_isSign_35 : decode cX1_isSign 35 = .ok (.iconst 0, 1) := edX1_isSign_0.2.2.2.2.2.2.2.2.2.2.2.2.2.2.2.2.2.1
theorem dX1_isSign_36 : decode cX1_isSign 36 = .ok (.ireturn, 1) := edX1_isSign_0.2.2.2.2.2.2.2.2.2.2.2.2.2.2.2.2.2.2.1
theorem edX1_isWord_0 : (decode cX1_isWord 0 = .ok (.aload_n 0, 1)) ∧ (decode cX1_isWord 1 = .ok (.getfield 22, 3)) ∧ (decode cX1_isWord 4 = .ok (.iconst 1, 1)) ∧ (decode cX1_isWord 5 = .ok (.if_icmp .ne 19, 3)) ∧ (decode cX1_isWord 8 = .ok (.aload_n 0, 1)) ∧ (decode cX1_isWord 9 = .ok (.getfield 18, 3)) ∧ (decode cX1_isWord 12 = .ok (.aload_n 0, 1)) ∧ (decode cX1_isWord 13 = .ok (.getfield 25, 3)) ∧ (decode cX1_isWord 16 = .ok (.isub, 1)) ∧ (decode cX1_isWord 17 = .ok (.aload_n 1, 1)) ∧ (decode cX1_isWord 18 = .ok (.invokevirtual 83, 3)) ∧ (decode cX1_isWord 21 = .ok (.if_icmp .eq 5, 3)) ∧ (decode cX1_isWord 24 = .ok (.iconst 0, 1)) ∧ (decode cX1_isWord 25 = .ok (.ireturn, 1)) ∧ (decode cX1_isWord 26 = .ok (.iconst 0, 1)) ∧ (decode cX1_isWord 27 = .ok (.istore_n 2, 1)) ∧ (decode cX1_isWord 28 = .ok (.iload_n 2, 1)) ∧ (decode cX1_isWord 29 = .ok (.aload_n 1, 1)) ∧ (decode cX1_isWord 30 = .ok (.invokevirtual 83, 3)) ∧ (decode cX1_isWord 33 = .ok (.if_icmp .ge 33, 3)) ∧ (decode cX1_isWord 36 = .ok (.aload_n 0, 1)) ∧ (decode cX1_isWord 37 = .ok (.getfield 12, 3)) ∧ (decode cX1_isWord 40 = .ok (.getfield 76, 3)) ∧ (decode cX1_isWord 43 = .ok (.aload_n 0, 1)) ∧ (decode cX1_isWord 44 = .ok (.getfield 25, 3)) ∧ (decode cX1_isWord 47 = .ok (.iload_n 2, 1)) ∧ (decode cX1_isWord 48 = .ok (.iadd, 1)) ∧ (decode cX1_isWord 49 = .ok (.iaload, 1)) ∧ (decode cX1_isWord 50 = .ok (.aload_n 1, 1)) ∧ (decode cX1_isWord 51 = .ok (.iload_n 2, 1)) ∧ (decode cX1_isWord 52 = .ok (.invokevirtual 88, 3)) ∧ (decode cX1_isWord 55 = .ok (.if_icmp .eq 5, 3)) ∧ True := dc_cj [(0, .aload_n 0, 1), (1, .getfield 22, 3), (4, .iconst 1, 1), (5, .if_icmp .ne 19, 3), (8, .aload_n 0, 1), (9, .getfield 18, 3), (12, .aload_n 0, 1), (13, .getfield 25, 3), (16, .isub, 1), (17, .aload_n 1, 1), (18, .invokevirtual 83, 3), (21, .if_icmp .eq 5, 3), (24, .iconst 0, 1), (25, .ireturn, 1), (26, .iconst 0, 1), (27, .istore_n 2, 1), (28, .iload_n 2, 1), (29, .aload_n 1, 1), (30, .invokevirtual 83, 3), (33, .if_icmp .ge 33, 3), (36, .aload_n 0, 1), (37, .getfield 12, 3), (40, .getfield 76, 3), (43, .aload_n 0, 1), (44, .getfield 25, 3), (47, .iload_n 2, 1), (48, .iadd, 1), (49, .iaload, 1), (50, .aload_n 1, 1), (51, .iload_n 2, 1), (52, .invokevirtual 88, 3), (55, .if_icmp .eq 5, 3)] (by decide +kernel)
theorem dX1_isWord_0 : decode cX1_isWord 0 = .ok (.aload_n 0, 1) := edX1_isWord_0.1
theorem dX1_isWord_1 : decode cX1_isWord 1 = .ok (.getfield 22, 3) := edX1_isWord_0.2.1
theorem dX1_isWord_4 : decode cX1_isWord 4 = .ok (.iconst 1, 1) := edX1_isWord_0.2.2.1
theorem dX1_isWord_5 : decode cX1_isWord 5 = .ok (.if_icmp .ne 19, 3) := edX1_isWord_0.2.2.2.1
theorem dX1_isWord_8 : decode cX1_isWord 8 = .ok (.aload_n 0, 1) := edX1_isWord_0.2.2.2.2.1
theorem dX1_isWord_9 : decode cX1_isWord 9 = .ok (.getfield 18, 3) := edX1_isWord_0.2.2.2.2.2.1
theorem dX1_isWord_12 : decode cX1_isWord 12 = .ok (.aload_n 0, 1) := edX1_isWord_0.2.2.2.2.2.2.1
theorem dX1_isWord_13 : decode cX1_isWord 13 = .ok (.getfield 25, 3) := edX1_isWord_0.2.2.2.2.2.2.2.1
theorem dX1_isWord_16 : decode cX1_isWord 16 = .ok (.isub, 1) := edX1_isWord_0.2.2.2.2.2.2.2.2.1
theorem dX1_isWord_17 : decode cX1_isWord 17 = .ok (.aload_n 1, 1) := edX1_isWord_0.2.2.2.2.2.2.2.2.2.1
theorem dX1_isWord_18 : decode cX1_isWord 18 = .ok (.invokevirtual 83, 3) := edX1_isWord_0.2.2.2.2.2.2.2.2.2.2.1
theorem dX1_isWord_21 : decode cX1_isWord 21 = .ok (.if_icmp .eq 5, 3) := edX1_isWord_0.2.2.2.2.2.2.2.2.2.2.2.1
theorem dX1_isWord_24 : decode cX1_isWord 24 = .ok (.iconst 0, 1) := edX1_isWord_0.2.2.2.2.2.2.2.2.2.2.2.2.1
theorem dX1_isWord_25 : decode cX1_isWord 25 = .ok (.ireturn, 1) := edX1_isWord_0.2.2.2.2.2.2.2.2.2.2.2.2.2.1
theorem dX1_isWord_26 : decode cX1_isWord 26 = .ok (.iconst 0, 1) := edX1_isWord_0.2.2.2.2.2.2.2.2.2.2.2.2.2.2.1
theorem dX1_isWord_27 : decode cX1_isWord 27 = .ok (.istore_n 2, 1) := edX1_isWord_0.2.2.2.2.2.2.2.2.2.2.2.2.2.2.2.1
theorem dX1_isWord_28 : decode cX1_isWord 28 = .ok (.iload_n 2, 1) := edX1_isWord_0.2.2.2.2.2.2.2.2.2.2.2.2.2.2.2.2.1
theorem dX1_isWord_29 : decode cX1_isWord 29 = .ok (.aload_n 1, 1) := edX1_isWord_0.2.2.2.2.2.2.2.2.2.2.2.2.2.2.2.2.2.1
theorem dX1_isWord_30 : decode cX1_isWord 30 = .ok (.invokevirtual 83, 3) := edX1_isWord_0.2.2.2.2.2.2.2.2.2.2.2.2.2.2.2.2.2.2.1
theorem dX1_isWord_33 : decode cX1_isWord 33 = .ok (.if_icmp .ge 33, 3) := edX1_isWord_0.2.2.2.2.2.2.2.2.2.2.2.2.2.2.2.2.2.2.2.1
theorem dX1_isWord_36 : decode cX1_isWord 36 = .ok (.aload_n 0, 1) := edX1_isWord_0.2.2.2.2.2.2.2.2.2.2.2.2.2.2.2.2.2.2.2.2.1
theorem dX1_isWord_37 : decode cX1_isWord 37 = .ok (.getfield 12, 3) := edX1_isWord_0.2.2.2.2.2.2.2.2.2.2.2.2.2.2.2.2.2.2.2.2.2.1
theorem dX1_isWord_40 : decode cX1_isWord 40 = .ok (.getfield 76, 3) := edX1_isWord_0.2.2.2.2.2.2.2.2.2.2.2.2.2.2.2.2.2.2.2.2.2.2.1
theorem dX1_isWord_43 : decode cX1_isWord 43 = .ok (.aload_n 0, 1) := edX1_isWord_0.2.2.2.2.2.2.2.2.2.2.2.2.2.2.2.2.2.2.2.2.2.2.2.1
theorem dX1_isWord_44 : decode cX1_isWord 44 = .ok (.getfield 25, 3) := edX1_isWord_0.2.2.2.2.2.2.2.2.2.2.2.2.2.2.2.2.2.2.2.2.2.2.2.2.1
theorem dX1_isWord_47 : decode cX1_isWord 47 = .ok (.iload_n 2, 1) := edX1_isWord_0.2.2.2.2.2.2.2.2.2.2.2.2.2.2.2.2.2.2.2.2.2.2.2.2.2.1
theorem dX1_isWord_48 : decode cX1_isWord 48 = .ok (.iadd, 1) := edX1_isWord_0.2.2.2.2.2.2.2.2.2.2.2.2.2.2.2.2.2.2.2.2.2.2.2.2.2.2.1
theorem dX1_isWord_49 : decode cX1_isWord 49 = .ok (.iaload, 1) := edX1_isWord_0.2.2.2.2.2.2.2.2.2.2.2.2.2.2.2.2.2.2.2.2.2.2.2.2.2.2.2.1
theorem dX1_isWord_50 : decode cX1_isWord 50 = .ok (.aload_n 1, 1) := edX1_isWord_0.2.2.2.2.2.2.2.2.2.2.2.2.2.2.2.2.2.2.2.2.2.2.2.2.2.2.2.2.1
theorem dX1_isWord_51 : decode cX1_isWord 51 = .ok (.iload_n 2, 1) := edX1_isWord_0.2.2.2.2.2.2.2.2.2.2.2.2.2.2.2.2.2.2.2.2.2.2.2.2.2.2.2.2.2.1
theorem dX1_isWord_52 : decode cX1_isWord 52 = .ok (.invokevirtual 88, 3) := edX1_isWord_0.2.2.2.2.2.2.2.2.2.2.2.2.2.2.2.2.2.2.2.2.2.2.2.2.2.2.2.2.2.2.1
theorem dX1_isWord_55 : decode cX1_isWord 55 = .ok (.if_icmp .eq 5, 3) := edX1_isWord_0.2.2.2.2.2.2.2.2.2.2.2.2.2.2.2.2.2.2.2.2.2.2.2.2.2.2.2.2.2.2.2.1
theorem edX1_isWord_58 : (decode cX1_isWord 58 = .ok (.iconst 0, 1)) ∧ (decode cX1_isWord 59 = .ok (.ireturn, 1)) ∧ (decode cX1_isWord 60 = .ok (.iinc 2 1, 3)) ∧ (decode cX1_isWord 63 = .ok (.goto (-35), 3)) ∧ (decode cX1_isWord 66 = .ok (.iconst 1, 1)) ∧ (decode cX1_isWord 67 = .ok (.ireturn, 1)) ∧ True := dc_cj [(58, .iconst 0, 1), (59, .ireturn, 1), (60, .iinc 2 1, 3), (63, .goto (-35), 3), (66, .iconst 1, 1), (67, .ireturn, 1)] (by decide +kernel)
theorem dX1_isWord_58 : decode cX1_isWord 58 = .ok (.iconst 0, 1) := edX1_isWord_58.1
theorem dX1_isWord_59 : decode cX1_isWord 59 = .ok (.ireturn, 1) := edX1_isWord_58.2.1
theorem dX1_isWord_60 : decode cX1_isWord 60 = .ok (.iinc 2 1, 3) := edX1_isWord_58.2.2.1
theorem dX1_isWord_63 : decode cX1_isWord 63 = .ok (.goto (-35), 3) := edX1_isWord_58.2.2.2.1
theorem dX1_isWord_66 : decode cX1_isWord 66 = .ok (.iconst 1, 1) := edX1_isWord_58.2.2.2.2.1
theorem dX1_isWord_67 : decode cX1_isWord 67 = .ok (.ireturn, 1) := edX1_isWord_58.2.2.2.2.2.1
theorem edX1_readKey_0 : (decode cX1_readKey 0 = .ok (.aload_n 0, 1)) ∧ (decode cX1_readKey 1 = .ok (.ldc 92, 2)) ∧ (decode cX1_readKey 3 = .ok (.invokevirtual 94, 3)) ∧ (decode cX1_readKey 6 = .ok (.ifCond .eq 11, 3)) ∧ (decode cX1_readKey 9 = .ok (.aload_n 0, 1)) ∧ (decode cX1_readKey 10 = .ok (.iconst 0, 1)) ∧ (decode cX1_readKey 11 = .ok (.putfield 31, 3)) ∧ (decode cX1_readKey 14 = .ok (.goto 42, 3)) ∧ (decode cX1_readKey 17 = .ok (.aload_n 0, 1)) ∧ (decode cX1_readKey 18 = .ok (.ldc 98, 2)) ∧ (decode cX1_readKey 20 = .ok (.invokevirtual 94, 3)) ∧ (decode cX1_readKey 23 = .ok (.ifCond .eq 11, 3)) ∧ (decode cX1_readKey 26 = .ok (.aload_n 0, 1)) ∧ (decode cX1_readKey 27 = .ok (.iconst 1, 1)) ∧ (decode cX1_readKey 28 = .ok (.putfield 31, 3)) ∧ (decode cX1_readKey 31 = .ok (.goto 25, 3)) ∧ (decode cX1_readKey 34 = .ok (.aload_n 0, 1)) ∧ (decode cX1_readKey 35 = .ok (.ldc 100, 2)) ∧ (decode cX1_readKey 37 = .ok (.invokevirtual 94, 3)) ∧ (decode cX1_readKey 40 = .ok (.ifCond .eq 11, 3)) ∧ (decode cX1_readKey 43 = .ok (.aload_n 0, 1)) ∧ (decode cX1_readKey 44 = .ok (.iconst 2, 1)) ∧ (decode cX1_readKey 45 = .ok (.putfield 31, 3)) ∧ (decode cX1_readKey 48 = .ok (.goto 8, 3)) ∧ (decode cX1_readKey 51 = .ok (.aload_n 0, 1)) ∧ (decode cX1_readKey 52 = .ok (.invokevirtual 59, 3)) ∧ (decode cX1_readKey 55 = .ok (.return_, 1)) ∧ (decode cX1_readKey 56 = .ok (.aload_n 0, 1)) ∧ (decode cX1_readKey 57 = .ok (.invokevirtual 50, 3)) ∧ (decode cX1_readKey 60 = .ok (.return_, 1)) ∧ True := dc_cj [(0, .aload_n 0, 1), (1, .ldc 92, 2), (3, .invokevirtual 94, 3), (6, .ifCond .eq 11, 3), (9, .aload_n 0, 1), (10, .iconst 0, 1), (11, .putfield 31, 3), (14, .goto 42, 3), (17, .aload_n 0, 1), (18, .ldc 98, 2), (20, .invokevirtual 94, 3), (23, .ifCond .eq 11, 3), (26, .aload_n 0, 1), (27, .iconst 1, 1), (28, .putfield 31, 3), (31, .goto 25, 3), (34, .aload_n 0, 1), (35, .ldc 100, 2), (37, .invokevirtual 94, 3), (40, .ifCond .eq 11, 3), (43, .aload_n 0, 1), (44, .iconst 2, 1), (45, .putfield 31, 3), (48, .goto 8, 3), (51, .aload_n 0, 1), (52, .invokevirtual 59, 3), (55, .return_, 1), (56, .aload_n 0, 1), (57, .invokevirtual 50, 3), (60, .return_, 1)] (by decide +kernel)
theorem dX1_readKey_0 : decode cX1_readKey 0 = .ok (.aload_n 0, 1) := edX1_readKey_0.1
theorem dX1_readKey_1 : decode cX1_readKey 1 = .ok (.ldc 92, 2) := edX1_readKey_0.2.1
theorem dX1_readKey_3 : decode cX1_readKey 3 = .ok (.invokevirtual 94, 3) := edX1_readKey_0.2.2.1
theorem dX1_readKey_6 : decode cX1_readKey 6 = .ok (.ifCond .eq 11, 3) := edX1_readKey_0.2.2.2.1
theorem dX1_readKey_9 : decode cX1_readKey 9 = .ok (.aload_n 0, 1) := edX1_readKey_0.2.2.2.2.1
theorem dX1_readKey_10 : decode cX1_readKey 10 = .ok (.iconst 0, 1) := edX1_readKey_0.2.2.2.2.2.1
theorem dX1_readKey_11 : decode cX1_readKey 11 = .ok (.putfield 31, 3) := edX1_readKey_0.2.2.2.2.2.2.1
theorem dX1_readKey_14 : decode cX1_readKey 14 = .ok (.goto 42, 3) := edX1_readKey_0.2.2.2.2.2.2.2.1
theorem dX1_readKey_17 : decode cX1_readKey 17 = .ok (.aload_n 0, 1) := edX1_readKey_0.2.2.2.2.2.2.2.2.1
theorem dX1_readKey_18 : decode cX1_readKey 18 = .ok (.ldc 98, 2) := edX1_readKey_0.2.2.2.2.2.2.2.2.2.1
theorem dX1_readKey_20 : decode cX1_readKey 20 = .ok (.invokevirtual 94, 3) := edX1_readKey_0.2.2.2.2.2.2.2.2.2.2.1
theorem dX1_readKey_23 : decode cX1_readKey 23 = .ok (.ifCond .eq 11, 3) := edX1_readKey_0.2.2.2.2.2.2.2.2.2.2.2.1
theorem dX1_readKey_26 : decode cX1_readKey 26 = .ok (.aload_n 0, 1) := edX1_readKey_0.2.2.2.2.2.2.2.2.2.2.2.2.1
theorem dX1_readKey_27 : decode cX1_readKey 27 = .ok (.iconst 1, 1) := edX1_readKey_0.2.2.2.2.2.2.2.2.2.2.2.2.2.1
theorem dX1_readKey_28 : decode cX1_readKey 28 = .ok (.putfield 31, 3) := edX1_readKey_0.2.2.2.2.2.2.2.2.2.2.2.2.2.2.1
theorem dX1_readKey_31 : decode cX1_readKey 31 = .ok (.goto 25, 3) := edX1_readKey_0.2.2.2.2.2.2.2.2.2.2.2.2.2.2.2.1
theorem dX1_readKey_34 : decode cX1_readKey 34 = .ok (.aload_n 0, 1) := edX1_readKey_0.2.2.2.2.2.2.2.2.2.2.2.2.2.2.2.2.1
theorem dX1_readKey_35 : decode cX1_readKey 35 = .ok (.ldc 100, 2) := edX1_readKey_0.2.2.2.2.2.2.2.2.2.2.2.2.2.2.2.2.2.1
theorem dX1_readKey_37 : decode cX1_readKey 37 = .ok (.invokevirtual 94, 3) := edX1_readKey_0.2.2.2.2.2.2.2.2.2.2.2.2.2.2.2.2.2.2.1
theorem dX1_readKey_40 : decode cX1_readKey 40 = .ok (.ifCond .eq 11, 3) := edX1_readKey_0.2.2.2.2.2.2.2.2.2.2.2.2.2.2.2.2.2.2.2.1
theorem dX1_readKey_43 : decode cX1_readKey 43 = .ok (.aload_n 0, 1) := edX1_readKey_0.2.2.2.2.2.2.2.2.2.2.2.2.2.2.2.2.2.2.2.2.1
theorem dX1_readKey_44 : decode cX1_readKey 44 = .ok (.iconst 2, 1) := edX1_readKey_0.2.2.2.2.2.2.2.2.2.2.2.2.2.2.2.2.2.2.2.2.2.1
theorem dX1_readKey_45 : decode cX1_readKey 45 = .ok (.putfield 31, 3) := edX1_readKey_0.2.2.2.2.2.2.2.2.2.2.2.2.2.2.2.2.2.2.2.2.2.2.1
theorem dX1_readKey_48 : decode cX1_readKey 48 = .ok (.goto 8, 3) := edX1_readKey_0.2.2.2.2.2.2.2.2.2.2.2.2.2.2.2.2.2.2.2.2.2.2.2.1
theorem dX1_readKey_51 : decode cX1_readKey 51 = .ok (.aload_n 0, 1) := edX1_readKey_0.2.2.2.2.2.2.2.2.2.2.2.2.2.2.2.2.2.2.2.2.2.2.2.2.1
theorem dX1_readKey_52 : decode cX1_readKey 52 = .ok (.invokevirtual 59, 3) := edX1_readKey_0.2.2.2.2.2.2.2.2.2.2.2.2.2.2.2.2.2.2.2.2.2.2.2.2.2.1
theorem dX1_readKey_55 : decode cX1_readKey 55 = .ok (.return_, 1) := edX1_readKey_0.2.2.2.2.2.2.2.2.2.2.2.2.2.2.2.2.2.2.2.2.2.2.2.2.2.2.1
theorem dX1_readKey_56 : decode cX1_readKey 56 = .ok (.aload_n 0, 1) := edX1_readKey_0.2.2.2.2.2.2.2.2.2.2.2.2.2.2.2.2.2.2.2.2.2.2.2.2.2.2.2.1
theorem dX1_readKey_57 : decode cX1_readKey 57 = .ok (.invokevirtual 50, 3) := edX1_readKey_0.2.2.2.2.2.2.2.2.2.2.2.2.2.2.2.2.2.2.2.2.2.2.2.2.2.2.2.2.1
theorem dX1_readKey_60 : decode cX1_readKey 60 = .ok (.return_, 1) := edX1_readKey_0.2.2.2.2.2.2.2.2.2.2.2.2.2.2.2.2.2.2.2.2.2.2.2.2.2.2.2.2.2.1
theorem edX1_readOr_0 : (decode cX1_readOr 0 = .ok (.aload_n 0, 1)) ∧ (decode cX1_readOr 1 = .ok (.invokevirtual 102, 3)) ∧ (decode cX1_readOr 4 = .ok (.iconst 0, 1)) ∧ (decode cX1_readOr 5 = .ok (.istore_n 1, 1)) ∧ (decode cX1_readOr 6 = .ok (.iload_n 1, 1)) ∧ (decode cX1_readOr 7 = .ok (.bipush 96, 2)) ∧ (decode cX1_readOr 9 = .ok (.if_icmp .ge 32, 3)) ∧ (decode cX1_readOr 12 = .ok (.aload_n 0, 1)) ∧ (decode cX1_readOr 13 = .ok (.bipush 124, 2)) ∧ (decode cX1_readOr 15 = .ok (.invokevirtual 105, 3)) ∧ (decode cX1_readOr 18 = .ok (.ifCond .eq 23, 3)) ∧ (decode cX1_readOr 21 = .ok (.aload_n 0, 1)) ∧ (decode cX1_readOr 22 = .ok (.invokevirtual 50, 3)) ∧ (decode cX1_readOr 25 = .ok (.aload_n 0, 1)) ∧ (decode cX1_readOr 26 = .ok (.invokevirtual 102, 3)) ∧ (decode cX1_readOr 29 = .ok (.aload_n 0, 1)) ∧ (decode cX1_readOr 30 = .ok (.bipush (-124), 2)) ∧ (decode cX1_readOr 32 = .ok (.invokevirtual 109, 3)) ∧ (decode cX1_readOr 35 = .ok (.iinc 1 1, 3)) ∧ (decode cX1_readOr 38 = .ok (.goto (-32), 3)) ∧ (decode cX1_readOr 41 = .ok (.return_, 1)) ∧ True := dc_cj [(0, .aload_n 0, 1), (1, .invokevirtual 102, 3), (4, .iconst 0, 1), (5, .istore_n 1, 1), (6, .iload_n 1, 1), (7, .bipush 96, 2), (9, .if_icmp .ge 32, 3), (12, .aload_n 0, 1), (13, .bipush 124, 2), (15, .invokevirtual 105, 3), (18, .ifCond .eq 23, 3), (21, .aload_n 0, 1), (22, .invokevirtual 50, 3), (25, .aload_n 0, 1), (26, .invokevirtual 102, 3), (29, .aload_n 0, 1), (30, .bipush (-124), 2), (32, .invokevirtual 109, 3), (35, .iinc 1 1, 3), (38, .goto (-32), 3), (41, .return_, 1)] (by decide +kernel)
theorem dX1_readOr_0 : decode cX1_readOr 0 = .ok (.aload_n 0, 1) := edX1_readOr_0.1
theorem dX1_readOr_1 : decode cX1_readOr 1 = .ok (.invokevirtual 102, 3) := edX1_readOr_0.2.1
theorem dX1_readOr_4 : decode cX1_readOr 4 = .ok (.iconst 0, 1) := edX1_readOr_0.2.2.1
theorem dX1_readOr_5 : decode cX1_readOr 5 = .ok (.istore_n 1, 1) := edX1_readOr_0.2.2.2.1
theorem dX1_readOr_6 : decode cX1_readOr 6 = .ok (.iload_n 1, 1) := edX1_readOr_0.2.2.2.2.1
theorem dX1_readOr_7 : decode cX1_readOr 7 = .ok (.bipush 96, 2) := edX1_readOr_0.2.2.2.2.2.1
theorem dX1_readOr_9 : decode cX1_readOr 9 = .ok (.if_icmp .ge 32, 3) := edX1_readOr_0.2.2.2.2.2.2.1
theorem dX1_readOr_12 : decode cX1_readOr 12 = .ok (.aload_n 0, 1) := edX1_readOr_0.2.2.2.2.2.2.2.1
theorem dX1_readOr_13 : decode cX1_readOr 13 = .ok (.bipush 124, 2) := edX1_readOr_0.2.2.2.2.2.2.2.2.1
theorem dX1_readOr_15 : decode cX1_readOr 15 = .ok (.invokevirtual 105, 3) := edX1_readOr_0.2.2.2.2.2.2.2.2.2.1
theorem dX1_readOr_18 : decode cX1_readOr 18 = .ok (.ifCond .eq 23, 3) := edX1_readOr_0.2.2.2.2.2.2.2.2.2.2.1
theorem dX1_readOr_21 : decode cX1_readOr 21 = .ok (.aload_n 0, 1) := edX1_readOr_0.2.2.2.2.2.2.2.2.2.2.2.1
theorem dX1_readOr_22 : decode cX1_readOr 22 = .ok (.invokevirtual 50, 3) := edX1_readOr_0.2.2.2.2.2.2.2.2.2.2.2.2.1
theorem dX1_readOr_25 : decode cX1_readOr 25 = .ok (.aload_n 0, 1) := edX1_readOr_0.2.2.2.2.2.2.2.2.2.2.2.2.2.1
theorem dX1_readOr_26 : decode cX1_readOr 26 = .ok (.invokevirtual 102, 3) := edX1_readOr_0.2.2.2.2.2.2.2.2.2.2.2.2.2.2.1
theorem dX1_readOr_29 : decode cX1_readOr 29 = .ok (.aload_n 0, 1) := edX1_readOr_0.2.2.2.2.2.2.2.2.2.2.2.2.2.2.2.1
theorem dX1_readOr_30 : decode cX1_readOr 30 = .ok (.bipush (-124), 2) := edX1_readOr_0.2.2.2.2.2.2.2.2.2.2.2.2.2.2.2.2.1
theorem dX1_readOr_32 : decode cX1_readOr 32 = .ok (.invokevirtual 109, 3) := edX1_readOr_0.2.2.2.2.2.2.2.2.2.2.2.2.2.2.2.2.2.1
theorem dX1_readOr_35 : decode cX1_readOr 35 = .ok (.iinc 1 1, 3) := edX1_readOr_0.2.2.2.2.2.2.2.2.2.2.2.2.2.2.2.2.2.2.1
theorem dX1_readOr_38 : decode cX1_readOr 38 = .ok (.goto (-32), 3) := edX1_readOr_0.2.2.2.2.2.2.2.2.2.2.2.2.2.2.2.2.2.2.2.1
theorem dX1_readOr_41 : decode cX1_readOr 41 = .ok (.return_, 1) := edX1_readOr_0.2.2.2.2.2.2.2.2.2.2.2.2.2.2.2.2.2.2.2.2.1
theorem edX1_readAnd_0 : (decode cX1_readAnd 0 = .ok (.aload_n 0, 1)) ∧ (decode cX1_readAnd 1 = .ok (.invokevirtual 113, 3)) ∧ (decode cX1_readAnd 4 = .ok (.iconst 0, 1)) ∧ (decode cX1_readAnd 5 = .ok (.istore_n 1, 1)) ∧ (decode cX1_readAnd 6 = .ok (.iload_n 1, 1)) ∧ (decode cX1_readAnd 7 = .ok (.bipush 96, 2)) ∧ (decode cX1_readAnd 9 = .ok (.if_icmp .ge 32, 3)) ∧ (decode cX1_readAnd 12 = .ok (.aload_n 0, 1)) ∧ (decode cX1_readAnd 13 = .ok (.bipush 38, 2)) ∧ (decode cX1_readAnd 15 = .ok (.invokevirtual 105, 3)) ∧ (decode cX1_readAnd 18 = .ok (.ifCond .eq 23, 3)) ∧ (decode cX1_readAnd 21 = .ok (.aload_n 0, 1)) ∧ (decode cX1_readAnd 22 = .ok (.invokevirtual 50, 3)) ∧ (decode cX1_readAnd 25 = .ok (.aload_n 0, 1)) ∧ (decode cX1_readAnd 26 = .ok (.invokevirtual 113, 3)) ∧ (decode cX1_readAnd 29 = .ok (.aload_n 0, 1)) ∧ (decode cX1_readAnd 30 = .ok (.bipush (-38), 2)) ∧ (decode cX1_readAnd 32 = .ok (.invokevirtual 109, 3)) ∧ (decode cX1_readAnd 35 = .ok (.iinc 1 1, 3)) ∧ (decode cX1_readAnd 38 = .ok (.goto (-32), 3)) ∧ (decode cX1_readAnd 41 = .ok (.return_, 1)) ∧ True := dc_cj [(0, .aload_n 0, 1), (1, .invokevirtual 113, 3), (4, .iconst 0, 1), (5, .istore_n 1, 1), (6, .iload_n 1, 1), (7, .bipush 96, 2), (9, .if_icmp .ge 32, 3), (12, .aload_n 0, 1), (13, .bipush 38, 2), (15, .invokevirtual 105, 3), (18, .ifCond .eq 23, 3), (21, .aload_n 0, 1), (22, .invokevirtual 50, 3), (25, .aload_n 0, 1), (26, .invokevirtual 113, 3), (29, .aload_n 0, 1), (30, .bipush (-38), 2), (32, .invokevirtual 109, 3), (35, .iinc 1 1, 3), (38, .goto (-32), 3), (41, .return_, 1)] (by decide +kernel)
theorem dX1_readAnd_0 : decode cX1_readAnd 0 = .ok (.aload_n 0, 1) := edX1_readAnd_0.1
theorem dX1_readAnd_1 : decode cX1_readAnd 1 = .ok (.invokevirtual 113, 3) := edX1_readAnd_0.2.1
theorem dX1_readAnd_4 : decode cX1_readAnd 4 = .ok (.iconst 0, 1) := edX1_readAnd_0.2.2.1
theorem dX1_readAnd_5 : decode cX1_readAnd 5 = .ok (.istore_n 1, 1) := edX1_readAnd_0.2.2.2.1
theorem dX1_readAnd_6 : decode cX1_readAnd 6 = .ok (.iload_n 1, 1) := edX1_readAnd_0.2.2.2.2.1
theorem dX1_readAnd_7 : decode cX1_readAnd 7 = .ok (.bipush 96, 2) := edX1_readAnd_0.2.2.2.2.2.1
theorem dX1_readAnd_9 : decode cX1_readAnd 9 = .ok (.if_icmp .ge 32, 3) := edX1_readAnd_0.2.2.2.2.2.2.1
theorem dX1_readAnd_12 : decode cX1_readAnd 12 = .ok (.aload_n 0, 1) := edX1_readAnd_0.2.2.2.2.2.2.2.1
theorem dX1_readAnd_13 : decode cX1_readAnd 13 = .ok (.bipush 38, 2) := edX1_readAnd_0.2.2.2.2.2.2.2.2.1
theorem dX1_readAnd_15 : decode cX1_readAnd 15 = .ok (.invokevirtual 105, 3) := edX1_readAnd_0.2.2.2.2.2.2.2.2.2.1
theorem dX1_readAnd_18 : decode cX1_readAnd 18 = .ok (.ifCond .eq 23, 3) := edX1_readAnd_0.2.2.2.2.2.2.2.2.2.2.1
theorem dX1_readAnd_21 : decode cX1_readAnd 21 = .ok (.aload_n 0, 1) := edX1_readAnd_0.2.2.2.2.2.2.2.2.2.2.2.1
theorem dX1_readAnd_22 : decode cX1_readAnd 22 = .ok (.invokevirtual 50, 3) := edX1_readAnd_0.2.2.2.2.2.2.2.2.2.2.2.2.1
theorem dX1_readAnd_25 : decode cX1_readAnd 25 = .ok (.aload_n 0, 1) := edX1_readAnd_0.2.2.2.2.2.2.2.2.2.2.2.2.2.1
theorem dX1_readAnd_26 : decode cX1_readAnd 26 = .ok (.invokevirtual 113, 3) := edX1_readAnd_0.2.2.2.2.2.2.2.2.2.2.2.2.2.2.1
theorem dX1_readAnd_29 : decode cX1_readAnd 29 = .ok (.aload_n 0, 1) := edX1_readAnd_0.2.2.2.2.2.2.2.2.2.2.2.2.2.2.2.1
theorem dX1_readAnd_30 : decode cX1_readAnd 30 = .ok (.bipush (-38), 2) := edX1_readAnd_0.2.2.2.2.2.2.2.2.2.2.2.2.2.2.2.2.1
theorem dX1_readAnd_32 : decode cX1_readAnd 32 = .ok (.invokevirtual 109, 3) := edX1_readAnd_0.2.2.2.2.2.2.2.2.2.2.2.2.2.2.2.2.2.1
theorem dX1_readAnd_35 : decode cX1_readAnd 35 = .ok (.iinc 1 1, 3) := edX1_readAnd_0.2.2.2.2.2.2.2.2.2.2.2.2.2.2.2.2.2.2.1
theorem dX1_readAnd_38 : decode cX1_readAnd 38 = .ok (.goto (-32), 3) := edX1_readAnd_0.2.2.2.2.2.2.2.2.2.2.2.2.2.2.2.2.2.2.2.1
theorem dX1_readAnd_41 : decode cX1_readAnd 41 = .ok (.return_, 1) := edX1_readAnd_0.2.2.2.2.2.2.2.2.2.2.2.2.2.2.2.2.2.2.2.2.1
theorem edX1_readTest_0 : (decode cX1_readTest 0 = .ok (.aload_n 0, 1)) ∧ (decode cX1_readTest 1 = .ok (.invokevirtual 116, 3)) ∧ (decode cX1_readTest 4 = .ok (.aload_n 0, 1)) ∧ (decode cX1_readTest 5 = .ok (.bipush 60, 2)) ∧ (decode cX1_readTest 7 = .ok (.invokevirtual 105, 3)) ∧ (decode cX1_readTest 10 = .ok (.ifCond .ne 21, 3)) ∧ (decode cX1_readTest 13 = .ok (.aload_n 0, 1)) ∧ (decode cX1_readTest 14 = .ok (.bipush 61, 2)) ∧ (decode cX1_readTest 16 = .ok (.invokevirtual 105, 3)) ∧ (decode cX1_readTest 19 = .ok (.ifCond .ne 12, 3)) ∧ (decode cX1_readTest 22 = .ok (.aload_n 0, 1)) ∧ (decode cX1_readTest 23 = .ok (.bipush 62, 2)) ∧ (decode cX1_readTest 25 = .ok (.invokevirtual 105, 3)) ∧ (decode cX1_readTest 28 = .ok (.ifCond .eq 30, 3)) ∧ (decode cX1_readTest 31 = .ok (.aload_n 0, 1)) ∧ (decode cX1_readTest 32 = .ok (.getfield 12, 3)) ∧ (decode cX1_readTest 35 = .ok (.getfield 76, 3)) ∧ (decode cX1_readTest 38 = .ok (.aload_n 0, 1)) ∧ (decode cX1_readTest 39 = .ok (.getfield 25, 3)) ∧ (decode cX1_readTest 42 = .ok (.iaload, 1)) ∧ (decode cX1_readTest 43 = .ok (.istore_n 1, 1)) ∧ (decode cX1_readTest 44 = .ok (.aload_n 0, 1)) ∧ (decode cX1_readTest 45 = .ok (.invokevirtual 50, 3)) ∧ (decode cX1_readTest 48 = .ok (.aload_n 0, 1)) ∧ (decode cX1_readTest 49 = .ok (.invokevirtual 116, 3)) ∧ (decode cX1_readTest 52 = .ok (.aload_n 0, 1)) ∧ (decode cX1_readTest 53 = .ok (.iload_n 1, 1)) ∧ (decode cX1_readTest 54 = .ok (.ineg, 1)) ∧ (decode cX1_readTest 55 = .ok (.invokevirtual 109, 3)) ∧ (decode cX1_readTest 58 = .ok (.return_, 1)) ∧ True := dc_cj [(0, .aload_n 0, 1), (1, .invokevirtual 116, 3), (4, .aload_n 0, 1), (5, .bipush 60, 2), (7, .invokevirtual 105, 3), (10, .ifCond .ne 21, 3), (13, .aload_n 0, 1), (14, .bipush 61, 2), (16, .invokevirtual 105, 3), (19, .ifCond .ne 12, 3), (22, .aload_n 0, 1), (23, .bipush 62, 2), (25, .invokevirtual 105, 3), (28, .ifCond .eq 30, 3), (31, .aload_n 0, 1), (32, .getfield 12, 3), (35, .getfield 76, 3), (38, .aload_n 0, 1), (39, .getfield 25, 3), (42, .iaload, 1), (43, .istore_n 1, 1), (44, .aload_n 0, 1), (45, .invokevirtual 50, 3), (48, .aload_n 0, 1), (49, .invokevirtual 116, 3), (52, .aload_n 0, 1), (53, .iload_n 1, 1), (54, .ineg, 1), (55, .invokevirtual 109, 3), (58, .return_, 1)] (by decide +kernel)
theorem dX1_readTest_0 : decode cX1_readTest 0 = .ok (.aload_n 0, 1) := edX1_readTest_0.1
theorem dX1_readTest_1 : decode cX1_readTest 1 = .ok (.invokevirtual 116, 3) := edX1_readTest_0.2.1
theorem dX1_readTest_4 : decode cX1_readTest 4 = .ok (.aload_n 0, 1) := edX1_readTest_0.2.2.1
theorem dX1_readTest_5 : decode cX1_readTest 5 = .ok (.bipush 60, 2) := edX1_readTest_0.2.2.2.1
theorem dX1_readTest_7 : decode cX1_readTest 7 = .ok (.invokevirtual 105, 3) := edX1_readTest_0.2.2.2.2.1
theorem dX1_readTest_10 : decode cX1_readTest 10 = .ok (.ifCond .ne 21, 3) := edX1_readTest_0.2.2.2.2.2.1
theorem dX1_readTest_13 : decode cX1_readTest 13 = .ok (.aload_n 0, 1) := edX1_readTest_0.2.2.2.2.2.2.1
theorem dX1_readTest_14 : decode cX1_readTest 14 = .ok (.bipush 61, 2) := edX1_readTest_0.2.2.2.2.2.2.2.1
theorem dX1_readTest_16 : decode cX1_readTest 16 = .ok (.invokevirtual 105, 3) := edX1_readTest_0.2.2.2.2.2.2.2.2.1
theorem dX1_readTest_19 : decode cX1_readTest 19 = .ok (.ifCond .ne 12, 3) := edX1_readTest_0.2.2.2.2.2.2.2.2.2.1
theorem dX1_readTest_22 : decode cX1_readTest 22 = .ok (.aload_n 0, 1) := edX1_readTest_0.2.2.2.2.2.2.2.2.2.2.1
theorem dX1_readTest_23 : decode cX1_readTest 23 = .ok (.bipush 62, 2) := edX1_readTest_0.2.2.2.2.2.2.2.2.2.2.2.1
theorem dX1_readTest_25 : decode cX1_readTest 25 = .ok (.invokevirtual 105, 3) := edX1_readTest_0.2.2.2.2.2.2.2.2.2.2.2.2.1
theorem dX1_readTest_28 : decode cX1_readTest 28 = .ok (.ifCond .eq 30, 3) := edX1_readTest_0.2.2.2.2.2.2.2.2.2.2.2.2.2.1
theorem dX1_readTest_31 : decode cX1_readTest 31 = .ok (.aload_n 0, 1) := edX1_readTest_0.2.2.2.2.2.2.2.2.2.2.2.2.2.2.1
theorem dX1_readTest_32 : decode cX1_readTest 32 = .ok (.getfield 12, 3) := edX1_readTest_0.2.2.2.2.2.2.2.2.2.2.2.2.2.2.2.1
theorem dX1_readTest_35 : decode cX1_readTest 35 = .ok (.getfield 76, 3) := edX1_readTest_0.2.2.2.2.2.2.2.2.2.2.2.2.2.2.2.2.1
theorem dX1_readTest_38 : decode cX1_readTest 38 = .ok (.aload_n 0, 1) := edX1_readTest_0.2.2.2.2.2.2.2.2.2.2.2.2.2.2.2.2.2.1
theorem dX1_readTest_39 : decode cX1_readTest 39 = .ok (.getfield 25, 3) := edX1_readTest_0.2.2.2.2.2.2.2.2.2.2.2.2.2.2.2.2.2.2.1
theorem dX1_readTest_42 : decode cX1_readTest 42 = .ok (.iaload, 1) := edX1_readTest_0.2.2.2.2.2.2.2.2.2.2.2.2.2.2.2.2.2.2.2.1
theorem dX1_readTest_43 : decode cX1_readTest 43 = .ok (.istore_n 1, 1) := edX1_readTest_0.2.2.2.2.2.2.2.2.2.2.2.2.2.2.2.2.2.2.2.2.1
theorem dX1_readTest_44 : decode cX1_readTest 44 = .ok (.aload_n 0, 1) := edX1_readTest_0.2.2.2.2.2.2.2.2.2.2.2.2.2.2.2.2.2.2.2.2.2.1
theorem dX1_readTest_45 : decode cX1_readTest 45 = .ok (.invokevirtual 50, 3) := edX1_readTest_0.2.2.2.2.2.2.2.2.2.2.2.2.2.2.2.2.2.2.2.2.2.2.1
theorem dX1_readTest_48 : decode cX1_readTest 48 = .ok (.aload_n 0, 1) := edX1_readTest_0.2.2.2.2.2.2.2.2.2.2.2.2.2.2.2.2.2.2.2.2.2.2.2.1
theorem dX1_readTest_49 : decode cX1_readTest 49 = .ok (.invokevirtual 116, 3) := edX1_readTest_0.2.2.2.2.2.2.2.2.2.2.2.2.2.2.2.2.2.2.2.2.2.2.2.2.1
theorem dX1_readTest_52 : decode cX1_readTest 52 = .ok (.aload_n 0, 1) := edX1_readTest_0.2.2.2.2.2.2.2.2.2.2.2.2.2.2.2.2.2.2.2.2.2.2.2.2.2.1
theorem dX1_readTest_53 : decode cX1_readTest 53 = .ok (.iload_n 1, 1) := edX1_readTest_0.2.2.2.2.2.2.2.2.2.2.2.2.2.2.2.2.2.2.2.2.2.2.2.2.2.2.1
theorem dX1_readTest_54 : decode cX1_readTest 54 = .ok (.ineg, 1) := edX1_readTest_0.2.2.2.2.2.2.2.2.2.2.2.2.2.2.2.2.2.2.2.2.2.2.2.2.2.2.2.1
theorem dX1_readTest_55 : decode cX1_readTest 55 = .ok (.invokevirtual 109, 3) := edX1_readTest_0.2.2.2.2.2.2.2.2.2.2.2.2.2.2.2.2.2.2.2.2.2.2.2.2.2.2.2.2.1
theorem dX1_readTest_58 : decode cX1_readTest 58 = .ok (.return_, 1) := edX1_readTest_0.2.2.2.2.2.2.2.2.2.2.2.2.2.2.2.2.2.2.2.2.2.2.2.2.2.2.2.2.2.1
theorem edX1_readSum_0 : (decode cX1_readSum 0 = .ok (.aload_n 0, 1)) ∧ (decode cX1_readSum 1 = .ok (.invokevirtual 119, 3)) ∧ (decode cX1_readSum 4 = .ok (.iconst 0, 1)) ∧ (decode cX1_readSum 5 = .ok (.istore_n 1, 1)) ∧ (decode cX1_readSum 6 = .ok (.iload_n 1, 1)) ∧ (decode cX1_readSum 7 = .ok (.bipush 96, 2)) ∧ (decode cX1_readSum 9 = .ok (.if_icmp .ge 54, 3)) ∧ (decode cX1_readSum 12 = .ok (.aload_n 0, 1)) ∧ (decode cX1_readSum 13 = .ok (.bipush 43, 2)) ∧ (decode cX1_readSum 15 = .ok (.invokevirtual 105, 3)) ∧ (decode cX1_readSum 18 = .ok (.ifCond .ne 12, 3)) ∧ (decode cX1_readSum 21 = .ok (.aload_n 0, 1)) ∧ (decode cX1_readSum 22 = .ok (.bipush 45, 2)) ∧ (decode cX1_readSum 24 = .ok (.invokevirtual 105, 3)) ∧ (decode cX1_readSum 27 = .ok (.ifCond .eq 36, 3)) ∧ (decode cX1_readSum 30 = .ok (.aload_n 0, 1)) ∧ (decode cX1_readSum 31 = .ok (.getfield 12, 3)) ∧ (decode cX1_readSum 34 = .ok (.getfield 76, 3)) ∧ (decode cX1_readSum 37 = .ok (.aload_n 0, 1)) ∧ (decode cX1_readSum 38 = .ok (.getfield 25, 3)) ∧ (decode cX1_readSum 41 = .ok (.iaload, 1)) ∧ (decode cX1_readSum 42 = .ok (.istore_n 2, 1)) ∧ (decode cX1_readSum 43 = .ok (.aload_n 0, 1)) ∧ (decode cX1_readSum 44 = .ok (.invokevirtual 50, 3)) ∧ (decode cX1_readSum 47 = .ok (.aload_n 0, 1)) ∧ (decode cX1_readSum 48 = .ok (.invokevirtual 119, 3)) ∧ (decode cX1_readSum 51 = .ok (.aload_n 0, 1)) ∧ (decode cX1_readSum 52 = .ok (.iload_n 2, 1)) ∧ (decode cX1_readSum 53 = .ok (.ineg, 1)) ∧ (decode cX1_readSum 54 = .ok (.invokevirtual 109, 3)) ∧ (decode cX1_readSum 57 = .ok (.iinc 1 1, 3)) ∧ (decode cX1_readSum 60 = .ok (.goto (-54), 3)) ∧ True := dc_cj [(0, .aload_n 0, 1), (1, .invokevirtual 119, 3), (4, .iconst 0, 1), (5, .istore_n 1, 1), (6, .iload_n 1, 1), (7, .bipush 96, 2), (9, .if_icmp .ge 54, 3), (12, .aload_n 0, 1), (13, .bipush 43, 2), (15, .invokevirtual 105, 3), (18, .ifCond .ne 12, 3), (21, .aload_n 0, 1), (22, .bipush 45, 2), (24, .invokevirtual 105, 3), (27, .ifCond .eq 36, 3), (30, .aload_n 0, 1), (31, .getfield 12, 3), (34, .getfield 76, 3), (37, .aload_n 0, 1), (38, .getfield 25, 3), (41, .iaload, 1), (42, .istore_n 2, 1), (43, .aload_n 0, 1), (44, .invokevirtual 50, 3), (47, .aload_n 0, 1), (48, .invokevirtual 119, 3), (51, .aload_n 0, 1), (52, .iload_n 2, 1), (53, .ineg, 1), (54, .invokevirtual 109, 3), (57, .iinc 1 1, 3), (60, .goto (-54), 3)] (by decide +kernel)
theorem dX1_readSum_0 : decode cX1_readSum 0 = .ok (.aload_n 0, 1) := edX1_readSum_0.1
theorem dX1_readSum_1 : decode cX1_readSum 1 = .ok (.invokevirtual 119, 3) := edX1_readSum_0.2.1
theorem dX1_readSum_4 : decode cX1_readSum 4 = .ok (.iconst 0, 1) := edX1_readSum_0.2.2.1
theorem dX1_readSum_5 : decode cX1_readSum 5 = .ok (.istore_n 1, 1) := edX1_readSum_0.2.2.2.1
theorem dX1_readSum_6 : decode cX1_readSum 6 = .ok (.iload_n 1, 1) := edX1_readSum_0.2.2.2.2.1
theorem dX1_readSum_7 : decode cX1_readSum 7 = .ok (.bipush 96, 2) := edX1_readSum_0.2.2.2.2.2.1
theorem dX1_readSum_9 : decode cX1_readSum 9 = .ok (.if_icmp .ge 54, 3) := edX1_readSum_0.2.2.2.2.2.2.1
theorem dX1_readSum_12 : decode cX1_readSum 12 = .ok (.aload_n 0, 1) := edX1_readSum_0.2.2.2.2.2.2.2.1
theorem dX1_readSum_13 : decode cX1_readSum 13 = .ok (.bipush 43, 2) := edX1_readSum_0.2.2.2.2.2.2.2.2.1
theorem dX1_readSum_15 : decode cX1_readSum 15 = .ok (.invokevirtual 105, 3) := edX1_readSum_0.2.2.2.2.2.2.2.2.2.1
theorem dX1_readSum_18 : decode cX1_readSum 18 = .ok (.ifCond .ne 12, 3) := edX1_readSum_0.2.2.2.2.2.2.2.2.2.2.1
theorem dX1_readSum_21 : decode cX1_readSum 21 = .ok (.aload_n 0, 1) := edX1_readSum_0.2.2.2.2.2.2.2.2.2.2.2.1
theorem dX1_readSum_22 : decode cX1_readSum 22 = .ok (.bipush 45, 2) := edX1_readSum_0.2.2.2.2.2.2.2.2.2.2.2.2.1
theorem dX1_readSum_24 : decode cX1_readSum 24 = .ok (.invokevirtual 105, 3) := edX1_readSum_0.2.2.2.2.2.2.2.2.2.2.2.2.2.1
theorem dX1_readSum_27 : decode cX1_readSum 27 = .ok (.ifCond .eq 36, 3) := edX1_readSum_0.2.2.2.2.2.2.2.2.2.2.2.2.2.2.1
theorem dX1_readSum_30 : decode cX1_readSum 30 = .ok (.aload_n 0, 1) := edX1_readSum_0.2.2.2.2.2.2.2.2.2.2.2.2.2.2.2.1
theorem dX1_readSum_31 : decode cX1_readSum 31 = .ok (.getfield 12, 3) := edX1_readSum_0.2.2.2.2.2.2.2.2.2.2.2.2.2.2.2.2.1
theorem dX1_readSum_34 : decode cX1_readSum 34 = .ok (.getfield 76, 3) := edX1_readSum_0.2.2.2.2.2.2.2.2.2.2.2.2.2.2.2.2.2.1
theorem dX1_readSum_37 : decode cX1_readSum 37 = .ok (.aload_n 0, 1) := edX1_readSum_0.2.2.2.2.2.2.2.2.2.2.2.2.2.2.2.2.2.2.1
theorem dX1_readSum_38 : decode cX1_readSum 38 = .ok (.getfield 25, 3) := edX1_readSum_0.2.2.2.2.2.2.2.2.2.2.2.2.2.2.2.2.2.2.2.1
theorem dX1_readSum_41 : decode cX1_readSum 41 = .ok (.iaload, 1) := edX1_readSum_0.2.2.2.2.2.2.2.2.2.2.2.2.2.2.2.2.2.2.2.2.1
theorem dX1_readSum_42 : decode cX1_readSum 42 = .ok (.istore_n 2, 1) := edX1_readSum_0.2.2.2.2.2.2.2.2.2.2.2.2.2.2.2.2.2.2.2.2.2.1
theorem dX1_readSum_43 : decode cX1_readSum 43 = .ok (.aload_n 0, 1) := edX1_readSum_0.2.2.2.2.2.2.2.2.2.2.2.2.2.2.2.2.2.2.2.2.2.2.1
theorem dX1_readSum_44 : decode cX1_readSum 44 = .ok (.invokevirtual 50, 3) := edX1_readSum_0.2.2.2.2.2.2.2.2.2.2.2.2.2.2.2.2.2.2.2.2.2.2.2.1
theorem dX1_readSum_47 : decode cX1_readSum 47 = .ok (.aload_n 0, 1) := edX1_readSum_0.2.2.2.2.2.2.2.2.2.2.2.2.2.2.2.2.2.2.2.2.2.2.2.2.1
theorem dX1_readSum_48 : decode cX1_readSum 48 = .ok (.invokevirtual 119, 3) := edX1_readSum_0.2.2.2.2.2.2.2.2.2.2.2.2.2.2.2.2.2.2.2.2.2.2.2.2.2.1
theorem dX1_readSum_51 : decode cX1_readSum 51 = .ok (.aload_n 0, 1) := edX1_readSum_0.2.2.2.2.2.2.2.2.2.2.2.2.2.2.2.2.2.2.2.2.2.2.2.2.2.2.1
theorem dX1_readSum_52 : decode cX1_readSum 52 = .ok (.iload_n 2, 1) := edX1_readSum_0.2.2.2.2.2.2.2.2.2.2.2.2.2.2.2.2.2.2.2.2.2.2.2.2.2.2.2.1
theorem dX1_readSum_53 : decode cX1_readSum 53 = .ok (.ineg, 1) := edX1_readSum_0.2.2.2.2.2.2.2.2.2.2.2.2.2.2.2.2.2.2.2.2.2.2.2.2.2.2.2.2.1
theorem dX1_readSum_54 : decode cX1_readSum 54 = .ok (.invokevirtual 109, 3) := edX1_readSum_0.2.2.2.2.2.2.2.2.2.2.2.2.2.2.2.2.2.2.2.2.2.2.2.2.2.2.2.2.2.1
theorem dX1_readSum_57 : decode cX1_readSum 57 = .ok (.iinc 1 1, 3) := edX1_readSum_0.2.2.2.2.2.2.2.2.2.2.2.2.2.2.2.2.2.2.2.2.2.2.2.2.2.2.2.2.2.2.1
theorem dX1_readSum_60 : decode cX1_readSum 60 = .ok (.goto (-54), 3) := edX1_readSum_0.2.2.2.2.2.2.2.2.2.2.2.2.2.2.2.2.2.2.2.2.2.2.2.2.2.2.2.2.2.2.2.1
theorem edX1_readSum_63 : (decode cX1_readSum 63 = .ok (.return_, 1)) ∧ True := dc_cj [(63, .return_, 1)] (by decide +kernel)
theorem dX1_readSum_63 : decode cX1_readSum 63 = .ok (.return_, 1) := edX1_readSum_63.1
theorem edX1_readProduct_0 : (decode cX1_readProduct 0 = .ok (.aload_n 0, 1)) ∧ (decode cX1_readProduct 1 = .ok (.invokevirtual 122, 3)) ∧ (decode cX1_readProduct 4 = .ok (.iconst 0, 1)) ∧ (decode cX1_readProduct 5 = .ok (.istore_n 1, 1)) ∧ (decode cX1_readProduct 6 = .ok (.iload_n 1, 1)) ∧ (decode cX1_readProduct 7 = .ok (.bipush 96, 2)) ∧ (decode cX1_readProduct 9 = .ok (.if_icmp .ge 54, 3)) ∧ (decode cX1_readProduct 12 = .ok (.aload_n 0, 1)) ∧ (decode cX1_readProduct 13 = .ok (.bipush 42, 2)) ∧ (decode cX1_readProduct 15 = .ok (.invokevirtual 105, 3)) ∧ (decode cX1_readProduct 18 = .ok (.ifCond .ne 12, 3)) ∧ (decode cX1_readProduct 21 = .ok (.aload_n 0, 1)) ∧ (decode cX1_readProduct 22 = .ok (.bipush 47, 2)) ∧ (decode cX1_readProduct 24 = .ok (.invokevirtual 105, 3)) ∧ (decode cX1_readProduct 27 = .ok (.ifCond .eq 36, 3)) ∧ (decode cX1_readProduct 30 = .ok (.aload_n 0, 1)) ∧ (decode cX1_readProduct 31 = .ok (.getfield 12, 3)) ∧ (decode cX1_readProduct 34 = .ok (.getfield 76, 3)) ∧ (decode cX1_readProduct 37 = .ok (.aload_n 0, 1)) ∧ (decode cX1_readProduct 38 = .ok (.getfield 25, 3)) ∧ (decode cX1_readProduct 41 = .ok (.iaload, 1)) ∧ (decode cX1_readProduct 42 = .ok (.istore_n 2, 1)) ∧ (decode cX1_readProduct 43 = .ok (.aload_n 0, 1)) ∧ (decode cX1_readProduct 44 = .ok (.invokevirtual 50, 3)) ∧ (decode cX1_readProduct 47 = .ok (.aload_n 0, 1)) ∧ (decode cX1_readProduct 48 = .ok (.invokevirtual 122, 3)) ∧ (decode cX1_readProduct 51 = .ok (.aload_n 0, 1)) ∧ (decode cX1_readProduct 52 = .ok (.iload_n 2, 1)) ∧ (decode cX1_readProduct 53 = .ok (.ineg, 1)) ∧ (decode cX1_readProduct 54 = .ok (.invokevirtual 109, 3)) ∧ (decode cX1_readProduct 57 = .ok (.iinc 1 1, 3)) ∧ (decode cX1_readProduct 60 = .ok (.goto (-54), 3)) ∧ True := dc_cj [(0, .aload_n 0, 1), (1, .invokevirtual 122, 3), (4, .iconst 0, 1), (5, .istore_n 1, 1), (6, .iload_n 1, 1), (7, .bipush 96, 2), (9, .if_icmp .ge 54, 3), (12, .aload_n 0, 1), (13, .bipush 42, 2), (15, .invokevirtual 105, 3), (18, .ifCond .ne 12, 3), (21, .aload_n 0, 1), (22, .bipush 47, 2), (24, .invokevirtual 105, 3), (27, .ifCond .eq 36, 3), (30, .aload_n 0, 1), (31, .getfield 12, 3), (34, .getfield 76, 3), (37, .aload_n 0, 1), (38, .getfield 25, 3), (41, .iaload, 1), (42, .istore_n 2, 1), (43, .aload_n 0, 1), (44, .invokevirtual 50, 3), (47, .aload_n 0, 1), (48, .invokevirtual 122, 3), (51, .aload_n 0, 1), (52, .iload_n 2, 1), (53, .ineg, 1), (54, .invokevirtual 109, 3), (57, .iinc 1 1, 3), (60, .goto (-54), 3)] (by decide +kernel)
theorem dX1_readProduct_0 : decode cX1_readProduct 0 = .ok (.aload_n 0, 1) := edX1_readProduct_0.1
theorem dX1_readProduct_1 : decode cX1_readProduct 1 = .ok (.invokevirtual 122, 3) := edX1_readProduct_0.2.1
theorem dX1_readProduct_4 : decode cX1_readProduct 4 = .ok (.iconst 0, 1) := edX1_readProduct_0.2.2.1
theorem dX1_readProduct_5 : decode cX1_readProduct 5 = .ok (.istore_n 1, 1) := edX1_readProduct_0.2.2.2.1
theorem dX1_readProduct_6 : decode cX1_readProduct 6 = .ok (.iload_n 1, 1) := edX1_readProduct_0.2.2.2.2.1
theorem dX1_readProduct_7 : decode cX1_readProduct 7 = .ok (.bipush 96, 2) := edX1_readProduct_0.2.2.2.2.2.1
theorem dX1_readProduct_9 : decode cX1_readProduct 9 = .ok (.if_icmp .ge 54, 3) := edX1_readProduct_0.2.2.2.2.2.2.1
theorem dX1_readProduct_12 : decode cX1_readProduct 12 = .ok (.aload_n 0, 1) := edX1_readProduct_0.2.2.2.2.2.2.2.1
theorem dX1_readProduct_13 : decode cX1_readProduct 13 = .ok (.bipush 42, 2) := edX1_readProduct_0.2.2.2.2.2.2.2.2.1
theorem dX1_readProduct_15 : decode cX1_readProduct 15 = .ok (.invokevirtual 105, 3) := edX1_readProduct_0.2.2.2.2.2.2.2.2.2.1
theorem dX1_readProduct_18 : decode cX1_readProduct 18 = .ok (.ifCond .ne 12, 3) := edX1_readProduct_0.2.2.2.2.2.2.2.2.2.2.1
theorem dX1_readProduct_21 : decode cX1_readProduct 21 = .ok (.aload_n 0, 1) := edX1_readProduct_0.2.2.2.2.2.2.2.2.2.2.2.1
theorem dX1_readProduct_22 : decode cX1_readProduct 22 = .ok (.bipush 47, 2) := edX1_readProduct_0.2.2.2.2.2.2.2.2.2.2.2.2.1
theorem dX1_readProduct_24 : decode cX1_readProduct 24 = .ok (.invokevirtual 105, 3) := edX1_readProduct_0.2.2.2.2.2.2.2.2.2.2.2.2.2.1
theorem dX1_readProduct_27 : decode cX1_readProduct 27 = .ok (.ifCond .eq 36, 3) := edX1_readProduct_0.2.2.2.2.2.2.2.2.2.2.2.2.2.2.1
theorem dX1_readProduct_30 : decode cX1_readProduct 30 = .ok (.aload_n 0, 1) := edX1_readProduct_0.2.2.2.2.2.2.2.2.2.2.2.2.2.2.2.1
theorem dX1_readProduct_31 : decode cX1_readProduct 31 = .ok (.getfield 12, 3) := edX1_readProduct_0.2.2.2.2.2.2.2.2.2.2.2.2.2.2.2.2.1
theorem dX1_readProduct_34 : decode cX1_readProduct 34 = .ok (.getfield 76, 3) := edX1_readProduct_0.2.2.2.2.2.2.2.2.2.2.2.2.2.2.2.2.2.1
theorem dX1_readProduct_37 : decode cX1_readProduct 37 = .ok (.aload_n 0, 1) := edX1_readProduct_0.2.2.2.2.2.2.2.2.2.2.2.2.2.2.2.2.2.2.1
theorem dX1_readProduct_38 : decode cX1_readProduct 38 = .ok (.getfield 25, 3) := edX1_readProduct_0.2.2.2.2.2.2.2.2.2.2.2.2.2.2.2.2.2.2.2.1
theorem dX1_readProduct_41 : decode cX1_readProduct 41 = .ok (.iaload, 1) := edX1_readProduct_0.2.2.2.2.2.2.2.2.2.2.2.2.2.2.2.2.2.2.2.2.1
theorem dX1_readProduct_42 : decode cX1_readProduct 42 = .ok (.istore_n 2, 1) := edX1_readProduct_0.2.2.2.2.2.2.2.2.2.2.2.2.2.2.2.2.2.2.2.2.2.1
theorem dX1_readProduct_43 : decode cX1_readProduct 43 = .ok (.aload_n 0, 1) := edX1_readProduct_0.2.2.2.2.2.2.2.2.2.2.2.2.2.2.2.2.2.2.2.2.2.2.1
theorem dX1_readProduct_44 : decode cX1_readProduct 44 = .ok (.invokevirtual 50, 3) := edX1_readProduct_0.2.2.2.2.2.2.2.2.2.2.2.2.2.2.2.2.2.2.2.2.2.2.2.1
theorem dX1_readProduct_47 : decode cX1_readProduct 47 = .ok (.aload_n 0, 1) := edX1_readProduct_0.2.2.2.2.2.2.2.2.2.2.2.2.2.2.2.2.2.2.2.2.2.2.2.2.1
theorem dX1_readProduct_48 : decode cX1_readProduct 48 = .ok (.invokevirtual 122, 3) := edX1_readProduct_0.2.2.2.2.2.2.2.2.2.2.2.2.2.2.2.2.2.2.2.2.2.2.2.2.2.1
theorem dX1_readProduct_51 : decode cX1_readProduct 51 = .ok (.aload_n 0, 1) := edX1_readProduct_0.2.2.2.2.2.2.2.2.2.2.2.2.2.2.2.2.2.2.2.2.2.2.2.2.2.2.1
theorem dX1_readProduct_52 : decode cX1_readProduct 52 = .ok (.iload_n 2, 1) := edX1_readProduct_0.2.2.2.2.2.2.2.2.2.2.2.2.2.2.2.2.2.2.2.2.2.2.2.2.2.2.2.1
theorem dX1_readProduct_53 : decode cX1_readProduct 53 = .ok (.ineg, 1) := edX1_readProduct_0.2.2.2.2.2.2.2.2.2.2.2.2.2.2.2.2.2.2.2.2.2.2.2.2.2.2.2.2.1
theorem dX1_readProduct_54 : decode cX1_readProduct 54 = .ok (.invokevirtual 109, 3) := edX1_readProduct_0.2.2.2.2.2.2.2.2.2.2.2.2.2.2.2.2.2.2.2.2.2.2.2.2.2.2.2.2.2.1
theorem dX1_readProduct_57 : decode cX1_readProduct 57 = .ok (.iinc 1 1, 3) := edX1_readProduct_0.2.2.2.2.2.2.2.2.2.2.2.2.2.2.2.2.2.2.2.2.2.2.2.2.2.2.2.2.2.2.1
theorem dX1_readProduct_60 : decode cX1_readProduct 60 = .ok (.goto (-54), 3) := edX1_readProduct_0.2.2.2.2.2.2.2.2.2.2.2.2.2.2.2.2.2.2.2.2.2.2.2.2.2.2.2.2.2.2.2.1
theorem edX1_readProduct_63 : (decode cX1_readProduct 63 = .ok (.return_, 1)) ∧ True := dc_cj [(63, .return_, 1)] (by decide +kernel)
theorem dX1_readProduct_63 : decode cX1_readProduct 63 = .ok (.return_, 1) := edX1_readProduct_63.1
theorem edX1_readPiece_0 : (decode cX1_readPiece 0 = .ok (.aload_n 0, 1)) ∧ (decode cX1_readPiece 1 = .ok (.getfield 28, 3)) ∧ (decode cX1_readPiece 4 = .ok (.ifCond .lt 4, 3)) ∧ (decode cX1_readPiece 7 = .ok (.return_, 1)) ∧ (decode cX1_readPiece 8 = .ok (.aload_n 0, 1)) ∧ (decode cX1_readPiece 9 = .ok (.getfield 22, 3)) ∧ (decode cX1_readPiece 12 = .ok (.iconst 2, 1)) ∧ (decode cX1_readPiece 13 = .ok (.if_icmp .ne 18, 3)) ∧ (decode cX1_readPiece 16 = .ok (.aload_n 0, 1)) ∧ (decode cX1_readPiece 17 = .ok (.aload_n 0, 1)) ∧ (decode cX1_readPiece 18 = .ok (.invokevirtual 125, 3)) ∧ (decode cX1_readPiece 21 = .ok (.invokevirtual 128, 3)) ∧ (decode cX1_readPiece 24 = .ok (.aload_n 0, 1)) ∧ (decode cX1_readPiece 25 = .ok (.invokevirtual 50, 3)) ∧ (decode cX1_readPiece 28 = .ok (.goto 139, 3)) ∧ (decode cX1_readPiece 31 = .ok (.aload_n 0, 1)) ∧ (decode cX1_readPiece 32 = .ok (.invokevirtual 131, 3)) ∧ (decode cX1_readPiece 35 = .ok (.ifCond .lt 20, 3)) ∧ (decode cX1_readPiece 38 = .ok (.aload_n 0, 1)) ∧ (decode cX1_readPiece 39 = .ok (.iconst (-1), 1)) ∧ (decode cX1_readPiece 40 = .ok (.aload_n 0, 1)) ∧ (decode cX1_readPiece 41 = .ok (.invokevirtual 131, 3)) ∧ (decode cX1_readPiece 44 = .ok (.isub, 1)) ∧ (decode cX1_readPiece 45 = .ok (.invokevirtual 128, 3)) ∧ (decode cX1_readPiece 48 = .ok (.aload_n 0, 1)) ∧ (decode cX1_readPiece 49 = .ok (.invokevirtual 50, 3)) ∧ (decode cX1_readPiece 52 = .ok (.goto 115, 3)) ∧ (decode cX1_readPiece 55 = .ok (.aload_n 0, 1)) ∧ (decode cX1_readPiece 56 = .ok (.bipush 33, 2)) ∧ (decode cX1_readPiece 58 = .ok (.invokevirtual 105, 3)) ∧ (decode cX1_readPiece 61 = .ok (.ifCond .eq 49, 3)) ∧ (decode cX1_readPiece 64 = .ok (.aload_n 0, 1)) ∧ True := dc_cj [(0, .aload_n 0, 1), (1, .getfield 28, 3), (4, .ifCond .lt 4, 3), (7, .return_, 1), (8, .aload_n 0, 1), (9, .getfield 22, 3), (12, .iconst 2, 1), (13, .if_icmp .ne 18, 3), (16, .aload_n 0, 1), (17, .aload_n 0, 1), (18, .invokevirtual 125, 3), (21, .invokevirtual 128, 3), (24, .aload_n 0, 1), (25, .invokevirtual 50, 3), (28, .goto 139, 3), (31, .aload_n 0, 1), (32, .invokevirtual 131, 3), (35, .ifCond .lt 20, 3), (38, .aload_n 0, 1), (39, .iconst (-1), 1), (40, .aload_n 0, 1), (41, .invokevirtual 131, 3), (44, .isub, 1), (45, .invokevirtual 128, 3), (48, .aload_n 0, 1), (49, .invokevirtual 50, 3), (52, .goto 115, 3), (55, .aload_n 0, 1), (56, .bipush 33, 2), (58, .invokevirtual 105, 3), (61, .ifCond .eq 49, 3), (64, .aload_n 0, 1)] (by decide +kernel)
theorem dX1_readPiece_0 : decode cX1_readPiece 0 = .ok (.aload_n 0, 1) := edX1_readPiece_0.1
theorem dX1_readPiece_1 : decode cX1_readPiece 1 = .ok (.getfield 28, 3) := edX1_readPiece_0.2.1
theorem dX1_readPiece_4 : decode cX1_readPiece 4 = .ok (.ifCond .lt 4, 3) := edX1_readPiece_0.2.2.1
theorem dX1_readPiece_7 : decode cX1_readPiece 7 = .ok (.return_, 1) := edX1_readPiece_0.2.2.2.1
theorem dX1_readPiece_8 : decode cX1_readPiece 8 = .ok (.aload_n 0, 1) := edX1_readPiece_0.2.2.2.2.1
theorem dX1_readPiece_9 : decode cX1_readPiece 9 = .ok (.getfield 22, 3) := edX1_readPiece_0.2.2.2.2.2.1
theorem dX1_readPiece_12 : decode cX1_readPiece 12 = .ok (.iconst 2, 1) := edX1_readPiece_0.2.2.2.2.2.2.1
theorem dX1_readPiece_13 : decode cX1_readPiece 13 = .ok (.if_icmp .ne 18, 3) := edX1_readPiece_0.2.2.2.2.2.2.2.1
theorem dX1_readPiece_16 : decode cX1_readPiece 16 = .ok (.aload_n 0, 1) := edX1_readPiece_0.2.2.2.2.2.2.2.2.1
theorem dX1_readPiece_17 : decode cX1_readPiece 17 = .ok (.aload_n 0, 1) := edX1_readPiece_0.2.2.2.2.2.2.2.2.2.1
theorem dX1_readPiece_18 : decode cX1_readPiece 18 = .ok (.invokevirtual 125, 3) := edX1_readPiece_0.2.2.2.2.2.2.2.2.2.2.1
theorem dX1_readPiece_21 : decode cX1_readPiece 21 = .ok (.invokevirtual 128, 3) := edX1_readPiece_0.2.2.2.2.2.2.2.2.2.2.2.1
theorem dX1_readPiece_24 : decode cX1_readPiece 24 = .ok (.aload_n 0, 1) := edX1_readPiece_0.2.2.2.2.2.2.2.2.2.2.2.2.1
theorem dX1_readPiece_25 : decode cX1_readPiece 25 = .ok (.invokevirtual 50, 3) := edX1_readPiece_0.2.2.2.2.2.2.2.2.2.2.2.2.2.1
theorem dX1_readPiece_28 : decode cX1_readPiece 28 = .ok (.goto 139, 3) := edX1_readPiece_0.2.2.2.2.2.2.2.2.2.2.2.2.2.2.1
theorem dX1_readPiece_31 : decode cX1_readPiece 31 = .ok (.aload_n 0, 1) := edX1_readPiece_0.2.2.2.2.2.2.2.2.2.2.2.2.2.2.2.1
theorem dX1_readPiece_32 : decode cX1_readPiece 32 = .ok (.invokevirtual 131, 3) := edX1_readPiece_0.2.2.2.2.2.2.2.2.2.2.2.2.2.2.2.2.1
theorem dX1_readPiece_35 : decode cX1_readPiece 35 = .ok (.ifCond .lt 20, 3) := edX1_readPiece_0.2.2.2.2.2.2.2.2.2.2.2.2.2.2.2.2.2.1
theorem dX1_readPiece_38 : decode cX1_readPiece 38 = .ok (.aload_n 0, 1) := edX1_readPiece_0.2.2.2.2.2.2.2.2.2.2.2.2.2.2.2.2.2.2.1
theorem dX1_readPiece_39 : decode cX1_readPiece 39 = .ok (.iconst (-1), 1) := edX1_readPiece_0.2.2.2.2.2.2.2.2.2.2.2.2.2.2.2.2.2.2.2.1
theorem dX1_readPiece_40 : decode cX1_readPiece 40 = .ok (.aload_n 0, 1) := edX1_readPiece_0.2.2.2.2.2.2.2.2.2.2.2.2.2.2.2.2.2.2.2.2.1
theorem dX1_readPiece_41 : decode cX1_readPiece 41 = .ok (.invokevirtual 131, 3) := edX1_readPiece_0.2.2.2.2.2.2.2.2.2.2.2.2.2.2.2.2.2.2.2.2.2.1
theorem dX1_readPiece_44 : decode cX1_readPiece 44 = .ok (.isub, 1) := edX1_readPiece_0.2.2.2.2.2.2.2.2.2.2.2.2.2.2.2.2.2.2.2.2.2.2.1
theorem dX1_readPiece_45 : decode cX1_readPiece 45 = .ok (.invokevirtual 128, 3) := edX1_readPiece_0.2.2.2.2.2.2.2.2.2.2.2.2.2.2.2.2.2.2.2.2.2.2.2.1
theorem dX1_readPiece_48 : decode cX1_readPiece 48 = .ok (.aload_n 0, 1) := edX1_readPiece_0.2.2.2.2.2.2.2.2.2.2.2.2.2.2.2.2.2.2.2.2.2.2.2.2.1
theorem dX1_readPiece_49 : decode cX1_readPiece 49 = .ok (.invokevirtual 50, 3) := edX1_readPiece_0.2.2.2.2.2.2.2.2.2.2.2.2.2.2.2.2.2.2.2.2.2.2.2.2.2.1
theorem dX1_readPiece_52 : decode cX1_readPiece 52 = .ok (.goto 115, 3) := edX1_readPiece_0.2.2.2.2.2.2.2.2.2.2.2.2.2.2.2.2.2.2.2.2.2.2.2.2.2.2.1
theorem dX1_readPiece_55 : decode cX1_readPiece 55 = .ok (.aload_n 0, 1) := edX1_readPiece_0.2.2.2.2.2.2.2.2.2.2.2.2.2.2.2.2.2.2.2.2.2.2.2.2.2.2.2.1
theorem dX1_readPiece_56 : decode cX1_readPiece 56 = .ok (.bipush 33, 2) := edX1_readPiece_0.2.2.2.2.2.2.2.2.2.2.2.2.2.2.2.2.2.2.2.2.2.2.2.2.2.2.2.2.1
theorem dX1_readPiece_58 : decode cX1_readPiece 58 = .ok (.invokevirtual 105, 3) := edX1_readPiece_0.2.2.2.2.2.2.2.2.2.2.2.2.2.2.2.2.2.2.2.2.2.2.2.2.2.2.2.2.2.1
theorem dX1_readPiece_61 : decode cX1_readPiece 61 = .ok (.ifCond .eq 49, 3) := edX1_readPiece_0.2.2.2.2.2.2.2.2.2.2.2.2.2.2.2.2.2.2.2.2.2.2.2.2.2.2.2.2.2.2.1
theorem dX1_readPiece_64 : decode cX1_readPiece 64 = .ok (.aload_n 0, 1) := edX1_readPiece_0.2.2.2.2.2.2.2.2.2.2.2.2.2.2.2.2.2.2.2.2.2.2.2.2.2.2.2.2.2.2.2.1
theorem edX1_readPiece_65 : (decode cX1_readPiece 65 = .ok (.getfield 47, 3)) ∧ (decode cX1_readPiece 68 = .ok (.bipush 8, 2)) ∧ (decode cX1_readPiece 70 = .ok (.if_icmp .ge 40, 3)) ∧ (decode cX1_readPiece 73 = .ok (.aload_n 0, 1)) ∧ (decode cX1_readPiece 74 = .ok (.dup, 1)) ∧ (decode cX1_readPiece 75 = .ok (.getfield 47, 3)) ∧ (decode cX1_readPiece 78 = .ok (.iconst 1, 1)) ∧ (decode cX1_readPiece 79 = .ok (.iadd, 1)) ∧ (decode cX1_readPiece 80 = .ok (.putfield 47, 3)) ∧ (decode cX1_readPiece 83 = .ok (.aload_n 0, 1)) ∧ (decode cX1_readPiece 84 = .ok (.invokevirtual 50, 3)) ∧ (decode cX1_readPiece 87 = .ok (.aload_n 0, 1)) ∧ (decode cX1_readPiece 88 = .ok (.invokevirtual 122, 3)) ∧ (decode cX1_readPiece 91 = .ok (.aload_n 0, 1)) ∧ (decode cX1_readPiece 92 = .ok (.dup, 1)) ∧ (decode cX1_readPiece 93 = .ok (.getfield 47, 3)) ∧ (decode cX1_readPiece 96 = .ok (.iconst 1, 1)) ∧ (decode cX1_readPiece 97 = .ok (.isub, 1)) ∧ (decode cX1_readPiece 98 = .ok (.putfield 47, 3)) ∧ (decode cX1_readPiece 101 = .ok (.aload_n 0, 1)) ∧ (decode cX1_readPiece 102 = .ok (.bipush (-33), 2)) ∧ (decode cX1_readPiece 104 = .ok (.invokevirtual 109, 3)) ∧ (decode cX1_readPiece 107 = .ok (.goto 60, 3)) ∧ (decode cX1_readPiece 110 = .ok (.aload_n 0, 1)) ∧ (decode cX1_readPiece 111 = .ok (.bipush 40, 2)) ∧ (decode cX1_readPiece 113 = .ok (.invokevirtual 105, 3)) ∧ (decode cX1_readPiece 116 = .ok (.ifCond .eq 47, 3)) ∧ (decode cX1_readPiece 119 = .ok (.aload_n 0, 1)) ∧ (decode cX1_readPiece 120 = .ok (.getfield 44, 3)) ∧ (decode cX1_readPiece 123 = .ok (.bipush 8, 2)) ∧ (decode cX1_readPiece 125 = .ok (.if_icmp .ge 38, 3)) ∧ (decode cX1_readPiece 128 = .ok (.aload_n 0, 1)) ∧ True := dc_cj [(65, .getfield 47, 3), (68, .bipush 8, 2), (70, .if_icmp .ge 40, 3), (73, .aload_n 0, 1), (74, .dup, 1), (75, .getfield 47, 3), (78, .iconst 1, 1), (79, .iadd, 1), (80, .putfield 47, 3), (83, .aload_n 0, 1), (84, .invokevirtual 50, 3), (87, .aload_n 0, 1), (88, .invokevirtual 122, 3), (91, .aload_n 0, 1), (92, .dup, 1), (93, .getfield 47, 3), (96, .iconst 1, 1), (97, .isub, 1), (98, .putfield 47, 3), (101, .aload_n 0, 1), (102, .bipush (-33), 2), (104, .invokevirtual 109, 3), (107, .goto 60, 3), (110, .aload_n 0, 1), (111, .bipush 40, 2), (113, .invokevirtual 105, 3), (116, .ifCond .eq 47, 3), (119, .aload_n 0, 1), (120, .getfield 44, 3), (123, .bipush 8, 2), (125, .if_icmp .ge 38, 3), (128, .aload_n 0, 1)] (by decide +kernel)
theorem dX1_readPiece_65 : decode cX1_readPiece 65 = .ok (.getfield 47, 3) := edX1_readPiece_65.1
theorem dX1_readPiece_68 : decode cX1_readPiece 68 = .ok (.bipush 8, 2) := edX1_readPiece_65.2.1
theorem dX1_readPiece_70 : decode cX1_readPiece 70 = .ok (.if_icmp .ge 40, 3) := edX1_readPiece_65.2.2.1
theorem dX1_readPiece_73 : decode cX1_readPiece 73 = .ok (.aload_n 0, 1) := edX1_readPiece_65.2.2.2.1
theorem dX1_readPiece_74 : decode cX1_readPiece 74 = .ok (.dup, 1) := edX1_readPiece_65.2.2.2.2.1
theorem dX1_readPiece_75 : decode cX1_readPiece 75 = .ok (.getfield 47, 3) := edX1_readPiece_65.2.2.2.2.2.1
theorem dX1_readPiece_78 : decode cX1_readPiece 78 = .ok (.iconst 1, 1) := edX1_readPiece_65.2.2.2.2.2.2.1
theorem dX1_readPiece_79 : decode cX1_readPiece 79 = .ok (.iadd, 1) := edX1_readPiece_65.2.2.2.2.2.2.2.1
theorem dX1_readPiece_80 : decode cX1_readPiece 80 = .ok (.putfield 47, 3) := edX1_readPiece_65.2.2.2.2.2.2.2.2.1
theorem dX1_readPiece_83 : decode cX1_readPiece 83 = .ok (.aload_n 0, 1) := edX1_readPiece_65.2.2.2.2.2.2.2.2.2.1
theorem dX1_readPiece_84 : decode cX1_readPiece 84 = .ok (.invokevirtual 50, 3) := edX1_readPiece_65.2.2.2.2.2.2.2.2.2.2.1
theorem dX1_readPiece_87 : decode cX1_readPiece 87 = .ok (.aload_n 0, 1) := edX1_readPiece_65.2.2.2.2.2.2.2.2.2.2.2.1
theorem dX1_readPiece_88 : decode cX1_readPiece 88 = .ok (.invokevirtual 122, 3) := edX1_readPiece_65.2.2.2.2.2.2.2.2.2.2.2.2.1
theorem dX1_readPiece_91 : decode cX1_readPiece 91 = .ok (.aload_n 0, 1) := edX1_readPiece_65.2.2.2.2.2.2.2.2.2.2.2.2.2.1
theorem dX1_readPiece_92 : decode cX1_readPiece 92 = .ok (.dup, 1) := edX1_readPiece_65.2.2.2.2.2.2.2.2.2.2.2.2.2.2.1
theorem dX1_readPiece_93 : decode cX1_readPiece 93 = .ok (.getfield 47, 3) := edX1_readPiece_65.2.2.2.2.2.2.2.2.2.2.2.2.2.2.2.1
theorem dX1_readPiece_96 : decode cX1_readPiece 96 = .ok (.iconst 1, 1) := edX1_readPiece_65.2.2.2.2.2.2.2.2.2.2.2.2.2.2.2.2.1
theorem dX1_readPiece_97 : decode cX1_readPiece 97 = .ok (.isub, 1) := edX1_readPiece_65.2.2.2.2.2.2.2.2.2.2.2.2.2.2.2.2.2.1
theorem dX1_readPiece_98 : decode cX1_readPiece 98 = .ok (.putfield 47, 3) := edX1_readPiece_65.2.2.2.2.2.2.2.2.2.2.2.2.2.2.2.2.2.2.1
theorem dX1_readPiece_101 : decode cX1_readPiece 101 = .ok (.aload_n 0, 1) := edX1_readPiece_65.2.2.2.2.2.2.2.2.2.2.2.2.2.2.2.2.2.2.2.1
theorem dX1_readPiece_102 : decode cX1_readPiece 102 = .ok (.bipush (-33), 2) := edX1_readPiece_65.2.2.2.2.2.2.2.2.2.2.2.2.2.2.2.2.2.2.2.2.1
theorem dX1_readPiece_104 : decode cX1_readPiece 104 = .ok (.invokevirtual 109, 3) := edX1_readPiece_65.2.2.2.2.2.2.2.2.2.2.2.2.2.2.2.2.2.2.2.2.2.1
theorem dX1_readPiece_107 : decode cX1_readPiece 107 = .ok (.goto 60, 3) := edX1_readPiece_65.2.2.2.2.2.2.2.2.2.2.2.2.2.2.2.2.2.2.2.2.2.2.1
theorem dX1_readPiece_110 : decode cX1_readPiece 110 = .ok (.aload_n 0, 1) := edX1_readPiece_65.2.2.2.2.2.2.2.2.2.2.2.2.2.2.2.2.2.2.2.2.2.2.2.1
theorem dX1_readPiece_111 : decode cX1_readPiece 111 = .ok (.bipush 40, 2) := edX1_readPiece_65.2.2.2.2.2.2.2.2.2.2.2.2.2.2.2.2.2.2.2.2.2.2.2.2.1
theorem dX1_readPiece_113 : decode cX1_readPiece 113 = .ok (.invokevirtual 105, 3) := edX1_readPiece_65.2.2.2.2.2.2.2.2.2.2.2.2.2.2.2.2.2.2.2.2.2.2.2.2.2.1
theorem dX1_readPiece_116 : decode cX1_readPiece 116 = .ok (.ifCond .eq 47, 3) := edX1_readPiece_65.2.2.2.2.2.2.2.2.2.2.2.2.2.2.2.2.2.2.2.2.2.2.2.2.2.2.1
theorem dX1_readPiece_119 : decode cX1_readPiece 119 = .ok (.aload_n 0, 1) := edX1_readPiece_65.2.2.2.2.2.2.2.2.2.2.2.2.2.2.2.2.2.2.2.2.2.2.2.2.2.2.2.1
theorem dX1_readPiece_120 : decode cX1_readPiece 120 = .ok (.getfield 44, 3) := edX1_readPiece_65.2.2.2.2.2.2.2.2.2.2.2.2.2.2.2.2.2.2.2.2.2.2.2.2.2.2.2.2.1
theorem dX1_readPiece_123 : decode cX1_readPiece 123 = .ok (.bipush 8, 2) := edX1_readPiece_65.2.2.2.2.2.2.2.2.2.2.2.2.2.2.2.2.2.2.2.2.2.2.2.2.2.2.2.2.2.1
theorem dX1_readPiece_125 : decode cX1_readPiece 125 = .ok (.if_icmp .ge 38, 3) := edX1_readPiece_65.2.2.2.2.2.2.2.2.2.2.2.2.2.2.2.2.2.2.2.2.2.2.2.2.2.2.2.2.2.2.1
theorem dX1_readPiece_128 : decode cX1_readPiece 128 = .ok (.aload_n 0, 1) := edX1_readPiece_65.2.2.2.2.2.2.2.2.2.2.2.2.2.2.2.2.2.2.2.2.2.2.2.2.2.2.2.2.2.2.2.1
theorem edX1_readPiece_129 : (decode cX1_readPiece 129 = .ok (.dup, 1)) ∧ (decode cX1_readPiece 130 = .ok (.getfield 44, 3)) ∧ (decode cX1_readPiece 133 = .ok (.iconst 1, 1)) ∧ (decode cX1_readPiece 134 = .ok (.iadd, 1)) ∧ (decode cX1_readPiece 135 = .ok (.putfield 44, 3)) ∧ (decode cX1_readPiece 138 = .ok (.aload_n 0, 1)) ∧ (decode cX1_readPiece 139 = .ok (.invokevirtual 50, 3)) ∧ (decode cX1_readPiece 142 = .ok (.aload_n 0, 1)) ∧ (decode cX1_readPiece 143 = .ok (.invokevirtual 56, 3)) ∧ (decode cX1_readPiece 146 = .ok (.aload_n 0, 1)) ∧ (decode cX1_readPiece 147 = .ok (.dup, 1)) ∧ (decode cX1_readPiece 148 = .ok (.getfield 44, 3)) ∧ (decode cX1_readPiece 151 = .ok (.iconst 1, 1)) ∧ (decode cX1_readPiece 152 = .ok (.isub, 1)) ∧ (decode cX1_readPiece 153 = .ok (.putfield 44, 3)) ∧ (decode cX1_readPiece 156 = .ok (.aload_n 0, 1)) ∧ (decode cX1_readPiece 157 = .ok (.invokevirtual 134, 3)) ∧ (decode cX1_readPiece 160 = .ok (.goto 7, 3)) ∧ (decode cX1_readPiece 163 = .ok (.aload_n 0, 1)) ∧ (decode cX1_readPiece 164 = .ok (.invokevirtual 59, 3)) ∧ (decode cX1_readPiece 167 = .ok (.return_, 1)) ∧ True := dc_cj [(129, .dup, 1), (130, .getfield 44, 3), (133, .iconst 1, 1), (134, .iadd, 1), (135, .putfield 44, 3), (138, .aload_n 0, 1), (139, .invokevirtual 50, 3), (142, .aload_n 0, 1), (143, .invokevirtual 56, 3), (146, .aload_n 0, 1), (147, .dup, 1), (148, .getfield 44, 3), (151, .iconst 1, 1), (152, .isub, 1), (153, .putfield 44, 3), (156, .aload_n 0, 1), (157, .invokevirtual 134, 3), (160, .goto 7, 3), (163, .aload_n 0, 1), (164, .invokevirtual 59, 3), (167, .return_, 1)] (by decide +kernel)
theorem dX1_readPiece_129 : decode cX1_readPiece 129 = .ok (.dup, 1) := edX1_readPiece_129.1
theorem dX1_readPiece_130 : decode cX1_readPiece 130 = .ok (.getfield 44, 3) := edX1_readPiece_129.2.1
theorem dX1_readPiece_133 : decode cX1_readPiece 133 = .ok (.iconst 1, 1) := edX1_readPiece_129.2.2.1
theorem dX1_readPiece_134 : decode cX1_readPiece 134 = .ok (.iadd, 1) := edX1_readPiece_129.2.2.2.1
theorem dX1_readPiece_135 : decode cX1_readPiece 135 = .ok (.putfield 44, 3) := edX1_readPiece_129.2.2.2.2.1
theorem dX1_readPiece_138 : decode cX1_readPiece 138 = .ok (.aload_n 0, 1) := edX1_readPiece_129.2.2.2.2.2.1
theorem dX1_readPiece_139 : decode cX1_readPiece 139 = .ok (.invokevirtual 50, 3) := edX1_readPiece_129.2.2.2.2.2.2.1
theorem dX1_readPiece_142 : decode cX1_readPiece 142 = .ok (.aload_n 0, 1) := edX1_readPiece_129.2.2.2.2.2.2.2.1
theorem dX1_readPiece_143 : decode cX1_readPiece 143 = .ok (.invokevirtual 56, 3) := edX1_readPiece_129.2.2.2.2.2.2.2.2.1
theorem dX1_readPiece_146 : decode cX1_readPiece 146 = .ok (.aload_n 0, 1) := edX1_readPiece_129.2.2.2.2.2.2.2.2.2.1
theorem dX1_readPiece_147 : decode cX1_readPiece 147 = .ok (.dup, 1) := edX1_readPiece_129.2.2.2.2.2.2.2.2.2.2.1
theorem dX1_readPiece_148 : decode cX1_readPiece 148 = .ok (.getfield 44, 3) := edX1_readPiece_129.2.2.2.2.2.2.2.2.2.2.2.1
theorem dX1_readPiece_151 : decode cX1_readPiece 151 = .ok (.iconst 1, 1) := edX1_readPiece_129.2.2.2.2.2.2.2.2.2.2.2.2.1
theorem dX1_readPiece_152 : decode cX1_readPiece 152 = .ok (.isub, 1) := edX1_readPiece_129.2.2.2.2.2.2.2.2.2.2.2.2.2.1
theorem dX1_readPiece_153 : decode cX1_readPiece 153 = .ok (.putfield 44, 3) := edX1_readPiece_129.2.2.2.2.2.2.2.2.2.2.2.2.2.2.1
theorem dX1_readPiece_156 : decode cX1_readPiece 156 = .ok (.aload_n 0, 1) := edX1_readPiece_129.2.2.2.2.2.2.2.2.2.2.2.2.2.2.2.1
theorem dX1_readPiece_157 : decode cX1_readPiece 157 = .ok (.invokevirtual 134, 3) := edX1_readPiece_129.2.2.2.2.2.2.2.2.2.2.2.2.2.2.2.2.1
theorem dX1_readPiece_160 : decode cX1_readPiece 160 = .ok (.goto 7, 3) := edX1_readPiece_129.2.2.2.2.2.2.2.2.2.2.2.2.2.2.2.2.2.1
theorem dX1_readPiece_163 : decode cX1_readPiece 163 = .ok (.aload_n 0, 1) := edX1_readPiece_129.2.2.2.2.2.2.2.2.2.2.2.2.2.2.2.2.2.2.1
theorem dX1_readPiece_164 : decode cX1_readPiece 164 = .ok (.invokevirtual 59, 3) := edX1_readPiece_129.2.2.2.2.2.2.2.2.2.2.2.2.2.2.2.2.2.2.2.1
theorem dX1_readPiece_167 : decode cX1_readPiece 167 = .ok (.return_, 1) := edX1_readPiece_129.2.2.2.2.2.2.2.2.2.2.2.2.2.2.2.2.2.2.2.2.1
theorem edX1_closeBracket_0 : (decode cX1_closeBracket 0 = .ok (.aload_n 0, 1)) ∧ (decode cX1_closeBracket 1 = .ok (.bipush 41, 2)) ∧ (decode cX1_closeBracket 3 = .ok (.invokevirtual 105, 3)) ∧ (decode cX1_closeBracket 6 = .ok (.ifCond .eq 10, 3)) ∧ (decode cX1_closeBracket 9 = .ok (.aload_n 0, 1)) ∧ (decode cX1_closeBracket 10 = .ok (.invokevirtual 50, 3)) ∧ (decode cX1_closeBracket 13 = .ok (.goto 7, 3)) ∧ (decode cX1_closeBracket 16 = .ok (.aload_n 0, 1)) ∧ (decode cX1_closeBracket 17 = .ok (.invokevirtual 59, 3)) ∧ (decode cX1_closeBracket 20 = .ok (.return_, 1)) ∧ True := dc_cj [(0, .aload_n 0, 1), (1, .bipush 41, 2), (3, .invokevirtual 105, 3), (6, .ifCond .eq 10, 3), (9, .aload_n 0, 1), (10, .invokevirtual 50, 3), (13, .goto 7, 3), (16, .aload_n 0, 1), (17, .invokevirtual 59, 3), (20, .return_, 1)] (by decide +kernel)
theorem dX1_closeBracket_0 : decode cX1_closeBracket 0 = .ok (.aload_n 0, 1) := edX1_closeBracket_0.1
theorem dX1_closeBracket_1 : decode cX1_closeBracket 1 = .ok (.bipush 41, 2) := edX1_closeBracket_0.2.1
theorem dX1_closeBracket_3 : decode cX1_closeBracket 3 = .ok (.invokevirtual 105, 3) := edX1_closeBracket_0.2.2.1
theorem dX1_closeBracket_6 : decode cX1_closeBracket 6 = .ok (.ifCond .eq 10, 3) := edX1_closeBracket_0.2.2.2.1
theorem dX1_closeBracket_9 : decode cX1_closeBracket 9 = .ok (.aload_n 0, 1) := edX1_closeBracket_0.2.2.2.2.1
theorem dX1_closeBracket_10 : decode cX1_closeBracket 10 = .ok (.invokevirtual 50, 3) := edX1_closeBracket_0.2.2.2.2.2.1
theorem dX1_closeBracket_13 : decode cX1_closeBracket 13 = .ok (.goto 7, 3) := edX1_closeBracket_0.2.2.2.2.2.2.1
theorem dX1_closeBracket_16 : decode cX1_closeBracket 16 = .ok (.aload_n 0, 1) := edX1_closeBracket_0.2.2.2.2.2.2.2.1
theorem dX1_closeBracket_17 : decode cX1_closeBracket 17 = .ok (.invokevirtual 59, 3) := edX1_closeBracket_0.2.2.2.2.2.2.2.2.1
theorem dX1_closeBracket_20 : decode cX1_closeBracket 20 = .ok (.return_, 1) := edX1_closeBracket_0.2.2.2.2.2.2.2.2.2.1
theorem edX1_numberRead_0 : (decode cX1_numberRead 0 = .ok (.iconst 0, 1)) ∧ (decode cX1_numberRead 1 = .ok (.istore_n 1, 1)) ∧ (decode cX1_numberRead 2 = .ok (.aload_n 0, 1)) ∧ (decode cX1_numberRead 3 = .ok (.getfield 25, 3)) ∧ (decode cX1_numberRead 6 = .ok (.istore_n 2, 1)) ∧ (decode cX1_numberRead 7 = .ok (.iload_n 2, 1)) ∧ (decode cX1_numberRead 8 = .ok (.aload_n 0, 1)) ∧ (decode cX1_numberRead 9 = .ok (.getfield 18, 3)) ∧ (decode cX1_numberRead 12 = .ok (.if_icmp .ge 27, 3)) ∧ (decode cX1_numberRead 15 = .ok (.iload_n 1, 1)) ∧ (decode cX1_numberRead 16 = .ok (.bipush 10, 2)) ∧ (decode cX1_numberRead 18 = .ok (.imul, 1)) ∧ (decode cX1_numberRead 19 = .ok (.aload_n 0, 1)) ∧ (decode cX1_numberRead 20 = .ok (.getfield 12, 3)) ∧ (decode cX1_numberRead 23 = .ok (.getfield 76, 3)) ∧ (decode cX1_numberRead 26 = .ok (.iload_n 2, 1)) ∧ (decode cX1_numberRead 27 = .ok (.iaload, 1)) ∧ (decode cX1_numberRead 28 = .ok (.iadd, 1)) ∧ (decode cX1_numberRead 29 = .ok (.bipush 48, 2)) ∧ (decode cX1_numberRead 31 = .ok (.isub, 1)) ∧ (decode cX1_numberRead 32 = .ok (.istore_n 1, 1)) ∧ (decode cX1_numberRead 33 = .ok (.iinc 2 1, 3)) ∧ (decode cX1_numberRead 36 = .ok (.goto (-29), 3)) ∧ (decode cX1_numberRead 39 = .ok (.iload_n 1, 1)) ∧ (decode cX1_numberRead 40 = .ok (.ireturn, 1)) ∧ True := dc_cj [(0, .iconst 0, 1), (1, .istore_n 1, 1), (2, .aload_n 0, 1), (3, .getfield 25, 3), (6, .istore_n 2, 1), (7, .iload_n 2, 1), (8, .aload_n 0, 1), (9, .getfield 18, 3), (12, .if_icmp .ge 27, 3), (15, .iload_n 1, 1), (16, .bipush 10, 2), (18, .imul, 1), (19, .aload_n 0, 1), (20, .getfield 12, 3), (23, .getfield 76, 3), (26, .iload_n 2, 1), (27, .iaload, 1), (28, .iadd, 1), (29, .bipush 48, 2), (31, .isub, 1), (32, .istore_n 1, 1), (33, .iinc 2 1, 3), (36, .goto (-29), 3), (39, .iload_n 1, 1), (40, .ireturn, 1)] (by decide +kernel)
theorem dX1_numberRead_0 : decode cX1_numberRead 0 = .ok (.iconst 0, 1) := edX1_numberRead_0.1
theorem dX1_numberRead_1 : decode cX1_numberRead 1 = .ok (.istore_n 1, 1) := edX1_numberRead_0.2.1
theorem dX1_numberRead_2 : decode cX1_numberRead 2 = .ok (.aload_n 0, 1) := edX1_numberRead_0.2.2.1
theorem dX1_numberRead_3 : decode cX1_numberRead 3 = .ok (.getfield 25, 3) := edX1_numberRead_0.2.2.2.1
theorem dX1_numberRead_6 : decode cX1_numberRead 6 = .ok (.istore_n 2, 1) := edX1_numberRead_0.2.2.2.2.1
theorem dX1_numberRead_7 : decode cX1_numberRead 7 = .ok (.iload_n 2, 1) := edX1_numberRead_0.2.2.2.2.2.1
theorem dX1_numberRead_8 : decode cX1_numberRead 8 = .ok (.aload_n 0, 1) := edX1_numberRead_0.2.2.2.2.2.2.1
theorem dX1_numberRead_9 : decode cX1_numberRead 9 = .ok (.getfield 18, 3) := edX1_numberRead_0.2.2.2.2.2.2.2.1
theorem dX1_numberRead_12 : decode cX1_numberRead 12 = .ok (.if_icmp .ge 27, 3) := edX1_numberRead_0.2.2.2.2.2.2.2.2.1
theorem dX1_numberRead_15 : decode cX1_numberRead 15 = .ok (.iload_n 1, 1) := edX1_numberRead_0.2.2.2.2.2.2.2.2.2.1
theorem dX1_numberRead_16 : decode cX1_numberRead 16 = .ok (.bipush 10, 2) := edX1_numberRead_0.2.2.2.2.2.2.2.2.2.2.1
theorem dX1_numberRead_18 : decode cX1_numberRead 18 = .ok (.imul, 1) := edX1_numberRead_0.2.2.2.2.2.2.2.2.2.2.2.1
theorem dX1_numberRead_19 : decode cX1_numberRead 19 = .ok (.aload_n 0, 1) := edX1_numberRead_0.2.2.2.2.2.2.2.2.2.2.2.2.1
theorem dX1_numberRead_20 : decode cX1_numberRead 20 = .ok (.getfield 12, 3) := edX1_numberRead_0.2.2.2.2.2.2.2.2.2.2.2.2.2.1
theorem dX1_numberRead_23 : decode cX1_numberRead 23 = .ok (.getfield 76, 3) := edX1_numberRead_0.2.2.2.2.2.2.2.2.2.2.2.2.2.2.1
theorem dX1_numberRead_26 : decode cX1_numberRead 26 = .ok (.iload_n 2, 1) := edX1_numberRead_0.2.2.2.2.2.2.2.2.2.2.2.2.2.2.2.1
theorem dX1_numberRead_27 : decode cX1_numberRead 27 = .ok (.iaload, 1) := edX1_numberRead_0.2.2.2.2.2.2.2.2.2.2.2.2.2.2.2.2.1
theorem dX1_numberRead_28 : decode cX1_numberRead 28 = .ok (.iadd, 1) := edX1_numberRead_0.2.2.2.2.2.2.2.2.2.2.2.2.2.2.2.2.2.1
theorem dX1_numberRead_29 : decode cX1_numberRead 29 = .ok (.bipush 48, 2) := edX1_numberRead_0.2.2.2.2.2.2.2.2.2.2.2.2.2.2.2.2.2.2.1
theorem dX1_numberRead_31 : decode cX1_numberRead 31 = .ok (.isub, 1) := edX1_numberRead_0.2.2.2.2.2.2.2.2.2.2.2.2.2.2.2.2.2.2.2.1
theorem dX1_numberRead_32 : decode cX1_numberRead 32 = .ok (.istore_n 1, 1) := edX1_numberRead_0.2.2.2.2.2.2.2.2.2.2.2.2.2.2.2.2.2.2.2.2.1
theorem dX1_numberRead_33 : decode cX1_numberRead 33 = .ok (.iinc 2 1, 3) := edX1_numberRead_0.2.2.2.2.2.2.2.2.2.2.2.2.2.2.2.2.2.2.2.2.2.1
theorem dX1_numberRead_36 : decode cX1_numberRead 36 = .ok (.goto (-29), 3) := edX1_numberRead_0.2.2.2.2.2.2.2.2.2.2.2.2.2.2.2.2.2.2.2.2.2.2.1
theorem dX1_numberRead_39 : decode cX1_numberRead 39 = .ok (.iload_n 1, 1) := edX1_numberRead_0.2.2.2.2.2.2.2.2.2.2.2.2.2.2.2.2.2.2.2.2.2.2.2.1
theorem dX1_numberRead_40 : decode cX1_numberRead 40 = .ok (.ireturn, 1) := edX1_numberRead_0.2.2.2.2.2.2.2.2.2.2.2.2.2.2.2.2.2.2.2.2.2.2.2.2.1
theorem edX1_nameRead_0 : (decode cX1_nameRead 0 = .ok (.aload_n 0, 1)) ∧ (decode cX1_nameRead 1 = .ok (.getfield 22, 3)) ∧ (decode cX1_nameRead 4 = .ok (.iconst 1, 1)) ∧ (decode cX1_nameRead 5 = .ok (.if_icmp .ne 16, 3)) ∧ (decode cX1_nameRead 8 = .ok (.aload_n 0, 1)) ∧ (decode cX1_nameRead 9 = .ok (.getfield 18, 3)) ∧ (decode cX1_nameRead 12 = .ok (.aload_n 0, 1)) ∧ (decode cX1_nameRead 13 = .ok (.getfield 25, 3)) ∧ (decode cX1_nameRead 16 = .ok (.isub, 1)) ∧ (decode cX1_nameRead 17 = .ok (.iconst 1, 1)) ∧ (decode cX1_nameRead 18 = .ok (.if_icmp .eq 5, 3)) ∧ (decode cX1_nameRead 21 = .ok (.iconst (-1), 1)) ∧ (decode cX1_nameRead 22 = .ok (.ireturn, 1)) ∧ (decode cX1_nameRead 23 = .ok (.aload_n 0, 1)) ∧ (decode cX1_nameRead 24 = .ok (.getfield 31, 3)) ∧ (decode cX1_nameRead 27 = .ok (.ifCond .ne 8, 3)) ∧ (decode cX1_nameRead 30 = .ok (.ldc 137, 2)) ∧ (decode cX1_nameRead 32 = .ok (.goto 18, 3)) ∧ (decode cX1_nameRead 35 = .ok (.aload_n 0, 1)) ∧ (decode cX1_nameRead 36 = .ok (.getfield 31, 3)) ∧ (decode cX1_nameRead 39 = .ok (.iconst 1, 1)) ∧ (decode cX1_nameRead 40 = .ok (.if_icmp .ne 8, 3)) ∧ (decode cX1_nameRead 43 = .ok (.ldc 139, 2)) ∧ (decode cX1_nameRead 45 = .ok (.goto 5, 3)) ∧ (decode cX1_nameRead 48 = .ok (.ldc 141, 2)) ∧ (decode cX1_nameRead 50 = .ok (.astore_n 1, 1)) ∧ (decode cX1_nameRead 51 = .ok (.aload_n 1, 1)) ∧ (decode cX1_nameRead 52 = .ok (.aload_n 0, 1)) ∧ (decode cX1_nameRead 53 = .ok (.getfield 12, 3)) ∧ (decode cX1_nameRead 56 = .ok (.getfield 76, 3)) ∧ (decode cX1_nameRead 59 = .ok (.aload_n 0, 1)) ∧ (decode cX1_nameRead 60 = .ok (.getfield 25, 3)) ∧ True := dc_cj [(0, .aload_n 0, 1), (1, .getfield 22, 3), (4, .iconst 1, 1), (5, .if_icmp .ne 16, 3), (8, .aload_n 0, 1), (9, .getfield 18, 3), (12, .aload_n 0, 1), (13, .getfield 25, 3), (16, .isub, 1), (17, .iconst 1, 1), (18, .if_icmp .eq 5, 3), (21, .iconst (-1), 1), (22, .ireturn, 1), (23, .aload_n 0, 1), (24, .getfield 31, 3), (27, .ifCond .ne 8, 3), (30, .ldc 137, 2), (32, .goto 18, 3), (35, .aload_n 0, 1), (36, .getfield 31, 3), (39, .iconst 1, 1), (40, .if_icmp .ne 8, 3), (43, .ldc 139, 2), (45, .goto 5, 3), (48, .ldc 141, 2), (50, .astore_n 1, 1), (51, .aload_n 1, 1), (52, .aload_n 0, 1), (53, .getfield 12, 3), (56, .getfield 76, 3), (59, .aload_n 0, 1), (60, .getfield 25, 3)] (by decide +kernel)
theorem dX1_nameRead_0 : decode cX1_nameRead 0 = .ok (.aload_n 0, 1) := edX1_nameRead_0.1
theorem dX1_nameRead_1 : decode cX1_nameRead 1 = .ok (.getfield 22, 3) := edX1_nameRead_0.2.1
theorem dX1_nameRead_4 : decode cX1_nameRead 4 = .ok (.iconst 1, 1) := edX1_nameRead_0.2.2.1
theorem dX1_nameRead_5 : decode cX1_nameRead 5 = .ok (.if_icmp .ne 16, 3) := edX1_nameRead_0.2.2.2.1
theorem dX1_nameRead_8 : decode cX1_nameRead 8 = .ok (.aload_n 0, 1) := edX1_nameRead_0.2.2.2.2.1
theorem dX1_nameRead_9 : decode cX1_nameRead 9 = .ok (.getfield 18, 3) := edX1_nameRead_0.2.2.2.2.2.1
theorem dX1_nameRead_12 : decode cX1_nameRead 12 = .ok (.aload_n 0, 1) := edX1_nameRead_0.2.2.2.2.2.2.1
theorem dX1_nameRead_13 : decode cX1_nameRead 13 = .ok (.getfield 25, 3) := edX1_nameRead_0.2.2.2.2.2.2.2.1
theorem dX1_nameRead_16 : decode cX1_nameRead 16 = .ok (.isub, 1) := edX1_nameRead_0.2.2.2.2.2.2.2.2.1
theorem dX1_nameRead_17 : decode cX1_nameRead 17 = .ok (.iconst 1, 1) := edX1_nameRead_0.2.2.2.2.2.2.2.2.2.1
theorem dX1_nameRead_18 : decode cX1_nameRead 18 = .ok (.if_icmp .eq 5, 3) := edX1_nameRead_0.2.2.2.2.2.2.2.2.2.2.1
theorem dX1_nameRead_21 : decode cX1_nameRead 21 = .ok (.iconst (-1), 1) := edX1_nameRead_0.2.2.2.2.2.2.2.2.2.2.2.1
theorem dX1_nameRead_22 : decode cX1_nameRead 22 = .ok (.ireturn, 1) := edX1_nameRead_0.2.2.2.2.2.2.2.2.2.2.2.2.1
theorem dX1_nameRead_23 : decode cX1_nameRead 23 = .ok (.aload_n 0, 1) := edX1_nameRead_0.2.2.2.2.2.2.2.2.2.2.2.2.2.1
theorem dX1_nameRead_24 : decode cX1_nameRead 24 = .ok (.getfield 31, 3) := edX1_nameRead_0.2.2.2.2.2.2.2.2.2.2.2.2.2.2.1
theorem dX1_nameRead_27 : decode cX1_nameRead 27 = .ok (.ifCond .ne 8, 3) := edX1_nameRead_0.2.2.2.2.2.2.2.2.2.2.2.2.2.2.2.1
theorem dX1_nameRead_30 : decode cX1_nameRead 30 = .ok (.ldc 137, 2) := edX1_nameRead_0.2.2.2.2.2.2.2.2.2.2.2.2.2.2.2.2.1
theorem dX1_nameRead_32 : decode cX1_nameRead 32 = .ok (.goto 18, 3) := edX1_nameRead_0.2.2.2.2.2.2.2.2.2.2.2.2.2.2.2.2.2.1
theorem dX1_nameRead_35 : decode cX1_nameRead 35 = .ok (.aload_n 0, 1) := edX1_nameRead_0.2.2.2.2.2.2.2.2.2.2.2.2.2.2.2.2.2.2.1
theorem dX1_nameRead_36 : decode cX1_nameRead 36 = .ok (.getfield 31, 3) := edX1_nameRead_0.2.2.2.2.2.2.2.2.2.2.2.2.2.2.2.2.2.2.2.1
theorem dX1_nameRead_39 : decode cX1_nameRead 39 = .ok (.iconst 1, 1) := edX1_nameRead_0.2.2.2.2.2.2.2.2.2.2.2.2.2.2.2.2.2.2.2.2.1
theorem dX1_nameRead_40 : decode cX1_nameRead 40 = .ok (.if_icmp .ne 8, 3) := edX1_nameRead_0.2.2.2.2.2.2.2.2.2.2.2.2.2.2.2.2.2.2.2.2.2.1
theorem dX1_nameRead_43 : decode cX1_nameRead 43 = .ok (.ldc 139, 2) := edX1_nameRead_0.2.2.2.2.2.2.2.2.2.2.2.2.2.2.2.2.2.2.2.2.2.2.1
theorem dX1_nameRead_45 : decode cX1_nameRead 45 = .ok (.goto 5, 3) := edX1_nameRead_0.2.2.2.2.2.2.2.2.2.2.2.2.2.2.2.2.2.2.2.2.2.2.2.1
theorem dX1_nameRead_48 : decode cX1_nameRead 48 = .ok (.ldc 141, 2) := edX1_nameRead_0.2.2.2.2.2.2.2.2.2.2.2.2.2.2.2.2.2.2.2.2.2.2.2.2.1
theorem dX1_nameRead_50 : decode cX1_nameRead 50 = .ok (.astore_n 1, 1) := edX1_nameRead_0.2.2.2.2.2.2.2.2.2.2.2.2.2.2.2.2.2.2.2.2.2.2.2.2.2.1
theorem dX1_nameRead_51 : decode cX1_nameRead 51 = .ok (.aload_n 1, 1) := edX1_nameRead_0.2.2.2.2.2.2.2.2.2.2.2.2.2.2.2.2.2.2.2.2.2.2.2.2.2.2.1
theorem dX1_nameRead_52 : decode cX1_nameRead 52 = .ok (.aload_n 0, 1) := edX1_nameRead_0.2.2.2.2.2.2.2.2.2.2.2.2.2.2.2.2.2.2.2.2.2.2.2.2.2.2.2.1
theorem dX1_nameRead_53 : decode cX1_nameRead 53 = .ok (.getfield 12, 3) := edX1_nameRead_0.2.2.2.2.2.2.2.2.2.2.2.2.2.2.2.2.2.2.2.2.2.2.2.2.2.2.2.2.1
theorem dX1_nameRead_56 : decode cX1_nameRead 56 = .ok (.getfield 76, 3) := edX1_nameRead_0.2.2.2.2.2.2.2.2.2.2.2.2.2.2.2.2.2.2.2.2.2.2.2.2.2.2.2.2.2.1
theorem dX1_nameRead_59 : decode cX1_nameRead 59 = .ok (.aload_n 0, 1) := edX1_nameRead_0.2.2.2.2.2.2.2.2.2.2.2.2.2.2.2.2.2.2.2.2.2.2.2.2.2.2.2.2.2.2.1
theorem dX1_nameRead_60 : decode cX1_nameRead 60 = .ok (.getfield 25, 3) := edX1_nameRead_0.2.2.2.2.2.2.2.2.2.2.2.2.2.2.2.2.2.2.2.2.2.2.2.2.2.2.2.2.2.2.2.1
theorem edX1_nameRead_63 : (decode cX1_nameRead 63 = .ok (.iaload, 1)) ∧ (decode cX1_nameRead 64 = .ok (.i2c, 1)) ∧ (decode cX1_nameRead 65 = .ok (.invokevirtual 143, 3)) ∧ (decode cX1_nameRead 68 = .ok (.ireturn, 1)) ∧ True := dc_cj [(63, .iaload, 1), (64, .i2c, 1), (65, .invokevirtual 143, 3), (68, .ireturn, 1)] (by decide +kernel)
theorem dX1_nameRead_63 : decode cX1_nameRead 63 = .ok (.iaload, 1) := edX1_nameRead_63.1
theorem dX1_nameRead_64 : decode cX1_nameRead 64 = .ok (.i2c, 1) := edX1_nameRead_63.2.1
theorem dX1_nameRead_65 : decode cX1_nameRead 65 = .ok (.invokevirtual 143, 3) := edX1_nameRead_63.2.2.1
theorem dX1_nameRead_68 : decode cX1_nameRead 68 = .ok (.ireturn, 1) := edX1_nameRead_63.2.2.2.1
theorem edX1_emitOperand_0 : (decode cX1_emitOperand 0 = .ok (.aload_n 0, 1)) ∧ (decode cX1_emitOperand 1 = .ok (.dup, 1)) ∧ (decode cX1_emitOperand 2 = .ok (.getfield 41, 3)) ∧ (decode cX1_emitOperand 5 = .ok (.iconst 1, 1)) ∧ (decode cX1_emitOperand 6 = .ok (.iadd, 1)) ∧ (decode cX1_emitOperand 7 = .ok (.putfield 41, 3)) ∧ (decode cX1_emitOperand 10 = .ok (.aload_n 0, 1)) ∧ (decode cX1_emitOperand 11 = .ok (.iload_n 1, 1)) ∧ (decode cX1_emitOperand 12 = .ok (.invokevirtual 109, 3)) ∧ (decode cX1_emitOperand 15 = .ok (.return_, 1)) ∧ True := dc_cj [(0, .aload_n 0, 1), (1, .dup, 1), (2, .getfield 41, 3), (5, .iconst 1, 1), (6, .iadd, 1), (7, .putfield 41, 3), (10, .aload_n 0, 1), (11, .iload_n 1, 1), (12, .invokevirtual 109, 3), (15, .return_, 1)] (by decide +kernel)
theorem dX1_emitOperand_0 : decode cX1_emitOperand 0 = .ok (.aload_n 0, 1) := edX1_emitOperand_0.1
theorem dX1_emitOperand_1 : decode cX1_emitOperand 1 = .ok (.dup, 1) := edX1_emitOperand_0.2.1
theorem dX1_emitOperand_2 : decode cX1_emitOperand 2 = .ok (.getfield 41, 3) := edX1_emitOperand_0.2.2.1
theorem dX1_emitOperand_5 : decode cX1_emitOperand 5 = .ok (.iconst 1, 1) := edX1_emitOperand_0.2.2.2.1
theorem dX1_emitOperand_6 : decode cX1_emitOperand 6 = .ok (.iadd, 1) := edX1_emitOperand_0.2.2.2.2.1
theorem dX1_emitOperand_7 : decode cX1_emitOperand 7 = .ok (.putfield 41, 3) := edX1_emitOperand_0.2.2.2.2.2.1
theorem dX1_emitOperand_10 : decode cX1_emitOperand 10 = .ok (.aload_n 0, 1) := edX1_emitOperand_0.2.2.2.2.2.2.1
theorem dX1_emitOperand_11 : decode cX1_emitOperand 11 = .ok (.iload_n 1, 1) := edX1_emitOperand_0.2.2.2.2.2.2.2.1
theorem dX1_emitOperand_12 : decode cX1_emitOperand 12 = .ok (.invokevirtual 109, 3) := edX1_emitOperand_0.2.2.2.2.2.2.2.2.1
theorem dX1_emitOperand_15 : decode cX1_emitOperand 15 = .ok (.return_, 1) := edX1_emitOperand_0.2.2.2.2.2.2.2.2.2.1
theorem edX1_emit_0 : (decode cX1_emit 0 = .ok (.aload_n 0, 1)) ∧ (decode cX1_emit 1 = .ok (.getfield 38, 3)) ∧ (decode cX1_emit 4 = .ok (.bipush 96, 2)) ∧ (decode cX1_emit 6 = .ok (.if_icmp .ge 23, 3)) ∧ (decode cX1_emit 9 = .ok (.aload_n 0, 1)) ∧ (decode cX1_emit 10 = .ok (.getfield 34, 3)) ∧ (decode cX1_emit 13 = .ok (.aload_n 0, 1)) ∧ (decode cX1_emit 14 = .ok (.getfield 38, 3)) ∧ (decode cX1_emit 17 = .ok (.iload_n 1, 1)) ∧ (decode cX1_emit 18 = .ok (.iastore, 1)) ∧ (decode cX1_emit 19 = .ok (.aload_n 0, 1)) ∧ (decode cX1_emit 20 = .ok (.dup, 1)) ∧ (decode cX1_emit 21 = .ok (.getfield 38, 3)) ∧ (decode cX1_emit 24 = .ok (.iconst 1, 1)) ∧ (decode cX1_emit 25 = .ok (.iadd, 1)) ∧ (decode cX1_emit 26 = .ok (.putfield 38, 3)) ∧ (decode cX1_emit 29 = .ok (.return_, 1)) ∧ True := dc_cj [(0, .aload_n 0, 1), (1, .getfield 38, 3), (4, .bipush 96, 2), (6, .if_icmp .ge 23, 3), (9, .aload_n 0, 1), (10, .getfield 34, 3), (13, .aload_n 0, 1), (14, .getfield 38, 3), (17, .iload_n 1, 1), (18, .iastore, 1), (19, .aload_n 0, 1), (20, .dup, 1), (21, .getfield 38, 3), (24, .iconst 1, 1), (25, .iadd, 1), (26, .putfield 38, 3), (29, .return_, 1)] (by decide +kernel)
theorem dX1_emit_0 : decode cX1_emit 0 = .ok (.aload_n 0, 1) := edX1_emit_0.1
theorem dX1_emit_1 : decode cX1_emit 1 = .ok (.getfield 38, 3) := edX1_emit_0.2.1
theorem dX1_emit_4 : decode cX1_emit 4 = .ok (.bipush 96, 2) := edX1_emit_0.2.2.1
theorem dX1_emit_6 : decode cX1_emit 6 = .ok (.if_icmp .ge 23, 3) := edX1_emit_0.2.2.2.1
theorem dX1_emit_9 : decode cX1_emit 9 = .ok (.aload_n 0, 1) := edX1_emit_0.2.2.2.2.1
theorem dX1_emit_10 : decode cX1_emit 10 = .ok (.getfield 34, 3) := edX1_emit_0.2.2.2.2.2.1
theorem dX1_emit_13 : decode cX1_emit 13 = .ok (.aload_n 0, 1) := edX1_emit_0.2.2.2.2.2.2.1
theorem dX1_emit_14 : decode cX1_emit 14 = .ok (.getfield 38, 3) := edX1_emit_0.2.2.2.2.2.2.2.1
theorem dX1_emit_17 : decode cX1_emit 17 = .ok (.iload_n 1, 1) := edX1_emit_0.2.2.2.2.2.2.2.2.1
theorem dX1_emit_18 : decode cX1_emit 18 = .ok (.iastore, 1) := edX1_emit_0.2.2.2.2.2.2.2.2.2.1
theorem dX1_emit_19 : decode cX1_emit 19 = .ok (.aload_n 0, 1) := edX1_emit_0.2.2.2.2.2.2.2.2.2.2.1
theorem dX1_emit_20 : decode cX1_emit 20 = .ok (.dup, 1) := edX1_emit_0.2.2.2.2.2.2.2.2.2.2.2.1
theorem dX1_emit_21 : decode cX1_emit 21 = .ok (.getfield 38, 3) := edX1_emit_0.2.2.2.2.2.2.2.2.2.2.2.2.1
theorem dX1_emit_24 : decode cX1_emit 24 = .ok (.iconst 1, 1) := edX1_emit_0.2.2.2.2.2.2.2.2.2.2.2.2.2.1
theorem dX1_emit_25 : decode cX1_emit 25 = .ok (.iadd, 1) := edX1_emit_0.2.2.2.2.2.2.2.2.2.2.2.2.2.2.1
theorem dX1_emit_26 : decode cX1_emit 26 = .ok (.putfield 38, 3) := edX1_emit_0.2.2.2.2.2.2.2.2.2.2.2.2.2.2.2.1
theorem dX1_emit_29 : decode cX1_emit 29 = .ok (.return_, 1) := edX1_emit_0.2.2.2.2.2.2.2.2.2.2.2.2.2.2.2.2.1
theorem edX2_init_0 : (decode cX2_init 0 = .ok (.aload_n 0, 1)) ∧ (decode cX2_init 1 = .ok (.invokespecial 3, 3)) ∧ (decode cX2_init 4 = .ok (.aload_n 0, 1)) ∧ (decode cX2_init 5 = .ok (.iconst (-1), 1)) ∧ (decode cX2_init 6 = .ok (.putfield 9, 3)) ∧ (decode cX2_init 9 = .ok (.aload_n 0, 1)) ∧ (decode cX2_init 10 = .ok (.iconst 0, 1)) ∧ (decode cX2_init 11 = .ok (.putfield 15, 3)) ∧ (decode cX2_init 14 = .ok (.aload_n 0, 1)) ∧ (decode cX2_init 15 = .ok (.bipush 24, 2)) ∧ (decode cX2_init 17 = .ok (.newarray .int, 2)) ∧ (decode cX2_init 19 = .ok (.putfield 18, 3)) ∧ (decode cX2_init 22 = .ok (.return_, 1)) ∧ True := dc_cj [(0, .aload_n 0, 1), (1, .invokespecial 3, 3), (4, .aload_n 0, 1), (5, .iconst (-1), 1), (6, .putfield 9, 3), (9, .aload_n 0, 1), (10, .iconst 0, 1), (11, .putfield 15, 3), (14, .aload_n 0, 1), (15, .bipush 24, 2), (17, .newarray .int, 2), (19, .putfield 18, 3), (22, .return_, 1)] (by decide +kernel)
theorem dX2_init_0 : decode cX2_init 0 = .ok (.aload_n 0, 1) := edX2_init_0.1
theorem dX2_init_1 : decode cX2_init 1 = .ok (.invokespecial 3, 3) := edX2_init_0.2.1
theorem dX2_init_4 : decode cX2_init 4 = .ok (.aload_n 0, 1) := edX2_init_0.2.2.1
theorem dX2_init_5 : decode cX2_init 5 = .ok (.iconst (-1), 1) := edX2_init_0.2.2.2.1
theorem dX2_init_6 : decode cX2_init 6 = .ok (.putfield 9, 3) := edX2_init_0.2.2.2.2.1
theorem dX2_init_9 : decode cX2_init 9 = .ok (.aload_n 0, 1) := edX2_init_0.2.2.2.2.2.1
theorem dX2_init_10 : decode cX2_init 10 = .ok (.iconst 0, 1) := edX2_init_0.2.2.2.2.2.2.1
theorem dX2_init_11 : decode cX2_init 11 = .ok (.putfield 15, 3) := edX2_init_0.2.2.2.2.2.2.2.1
theorem dX2_init_14 : decode cX2_init 14 = .ok (.aload_n 0, 1) := edX2_init_0.2.2.2.2.2.2.2.2.1
theorem dX2_init_15 : decode cX2_init 15 = .ok (.bipush 24, 2) := edX2_init_0.2.2.2.2.2.2.2.2.2.1
theorem dX2_init_17 : decode cX2_init 17 = .ok (.newarray .int, 2) := edX2_init_0.2.2.2.2.2.2.2.2.2.2.1
theorem dX2_init_19 : decode cX2_init 19 = .ok (.putfield 18, 3) := edX2_init_0.2.2.2.2.2.2.2.2.2.2.2.1
theorem dX2_init_22 : decode cX2_init 22 = .ok (.return_, 1) := edX2_init_0.2.2.2.2.2.2.2.2.2.2.2.2.1
theorem edX2_renew_0 : (decode cX2_renew 0 = .ok (.aload_n 0, 1)) ∧ (decode cX2_renew 1 = .ok (.iload_n 1, 1)) ∧ (decode cX2_renew 2 = .ok (.putfield 9, 3)) ∧ (decode cX2_renew 5 = .ok (.aload_n 0, 1)) ∧ (decode cX2_renew 6 = .ok (.iload_n 2, 1)) ∧ (decode cX2_renew 7 = .ok (.putfield 15, 3)) ∧ (decode cX2_renew 10 = .ok (.aload_n 0, 1)) ∧ (decode cX2_renew 11 = .ok (.getfield 18, 3)) ∧ (decode cX2_renew 14 = .ok (.iconst 0, 1)) ∧ (decode cX2_renew 15 = .ok (.invokestatic 22, 3)) ∧ (decode cX2_renew 18 = .ok (.return_, 1)) ∧ True := dc_cj [(0, .aload_n 0, 1), (1, .iload_n 1, 1), (2, .putfield 9, 3), (5, .aload_n 0, 1), (6, .iload_n 2, 1), (7, .putfield 15, 3), (10, .aload_n 0, 1), (11, .getfield 18, 3), (14, .iconst 0, 1), (15, .invokestatic 22, 3), (18, .return_, 1)] (by decide +kernel)
theorem dX2_renew_0 : decode cX2_renew 0 = .ok (.aload_n 0, 1) := edX2_renew_0.1
theorem dX2_renew_1 : decode cX2_renew 1 = .ok (.iload_n 1, 1) := edX2_renew_0.2.1
theorem dX2_renew_2 : decode cX2_renew 2 = .ok (.putfield 9, 3) := edX2_renew_0.2.2.1
theorem dX2_renew_5 : decode cX2_renew 5 = .ok (.aload_n 0, 1) := edX2_renew_0.2.2.2.1
theorem dX2_renew_6 : decode cX2_renew 6 = .ok (.iload_n 2, 1) := edX2_renew_0.2.2.2.2.1
theorem dX2_renew_7 : decode cX2_renew 7 = .ok (.putfield 15, 3) := edX2_renew_0.2.2.2.2.2.1
theorem dX2_renew_10 : decode cX2_renew 10 = .ok (.aload_n 0, 1) := edX2_renew_0.2.2.2.2.2.2.1
theorem dX2_renew_11 : decode cX2_renew 11 = .ok (.getfield 18, 3) := edX2_renew_0.2.2.2.2.2.2.2.1
theorem dX2_renew_14 : decode cX2_renew 14 = .ok (.iconst 0, 1) := edX2_renew_0.2.2.2.2.2.2.2.2.1
theorem dX2_renew_15 : decode cX2_renew 15 = .ok (.invokestatic 22, 3) := edX2_renew_0.2.2.2.2.2.2.2.2.2.1
theorem dX2_renew_18 : decode cX2_renew 18 = .ok (.return_, 1) := edX2_renew_0.2.2.2.2.2.2.2.2.2.2.1
theorem edX2_becomes_0 : (decode cX2_becomes 0 = .ok (.aload_n 0, 1)) ∧ (decode cX2_becomes 1 = .ok (.aload_n 1, 1)) ∧ (decode cX2_becomes 2 = .ok (.getfield 9, 3)) ∧ (decode cX2_becomes 5 = .ok (.putfield 9, 3)) ∧ (decode cX2_becomes 8 = .ok (.aload_n 0, 1)) ∧ (decode cX2_becomes 9 = .ok (.aload_n 1, 1)) ∧ (decode cX2_becomes 10 = .ok (.getfield 15, 3)) ∧ (decode cX2_becomes 13 = .ok (.putfield 15, 3)) ∧ (decode cX2_becomes 16 = .ok (.aload_n 1, 1)) ∧ (decode cX2_becomes 17 = .ok (.getfield 18, 3)) ∧ (decode cX2_becomes 20 = .ok (.iconst 0, 1)) ∧ (decode cX2_becomes 21 = .ok (.aload_n 0, 1)) ∧ (decode cX2_becomes 22 = .ok (.getfield 18, 3)) ∧ (decode cX2_becomes 25 = .ok (.iconst 0, 1)) ∧ (decode cX2_becomes 26 = .ok (.bipush 24, 2)) ∧ (decode cX2_becomes 28 = .ok (.invokestatic 28, 3)) ∧ (decode cX2_becomes 31 = .ok (.return_, 1)) ∧ True := dc_cj [(0, .aload_n 0, 1), (1, .aload_n 1, 1), (2, .getfield 9, 3), (5, .putfield 9, 3), (8, .aload_n 0, 1), (9, .aload_n 1, 1), (10, .getfield 15, 3), (13, .putfield 15, 3), (16, .aload_n 1, 1), (17, .getfield 18, 3), (20, .iconst 0, 1), (21, .aload_n 0, 1), (22, .getfield 18, 3), (25, .iconst 0, 1), (26, .bipush 24, 2), (28, .invokestatic 28, 3), (31, .return_, 1)] (by decide +kernel)
theorem dX2_becomes_0 : decode cX2_becomes 0 = .ok (.aload_n 0, 1) := edX2_becomes_0.1
theorem dX2_becomes_1 : decode cX2_becomes 1 = .ok (.aload_n 1, 1) := edX2_becomes_0.2.1
theorem dX2_becomes_2 : decode cX2_becomes 2 = .ok (.getfield 9, 3) := edX2_becomes_0.2.2.1
theorem dX2_becomes_5 : decode cX2_becomes 5 = .ok (.putfield 9, 3) := edX2_becomes_0.2.2.2.1
theorem dX2_becomes_8 : decode cX2_becomes 8 = .ok (.aload_n 0, 1) := edX2_becomes_0.2.2.2.2.1
theorem dX2_becomes_9 : decode cX2_becomes 9 = .ok (.aload_n 1, 1) := edX2_becomes_0.2.2.2.2.2.1
theorem dX2_becomes_10 : decode cX2_becomes 10 = .ok (.getfield 15, 3) := edX2_becomes_0.2.2.2.2.2.2.1
theorem dX2_becomes_13 : decode cX2_becomes 13 = .ok (.putfield 15, 3) := edX2_becomes_0.2.2.2.2.2.2.2.1
theorem dX2_becomes_16 : decode cX2_becomes 16 = .ok (.aload_n 1, 1) := edX2_becomes_0.2.2.2.2.2.2.2.2.1
theorem dX2_becomes_17 : decode cX2_becomes 17 = .ok (.getfield 18, 3) := edX2_becomes_0.2.2.2.2.2.2.2.2.2.1
theorem dX2_becomes_20 : decode cX2_becomes 20 = .ok (.iconst 0, 1) := edX2_becomes_0.2.2.2.2.2.2.2.2.2.2.1
theorem dX2_becomes_21 : decode cX2_becomes 21 = .ok (.aload_n 0, 1) := edX2_becomes_0.2.2.2.2.2.2.2.2.2.2.2.1
theorem dX2_becomes_22 : decode cX2_becomes 22 = .ok (.getfield 18, 3) := edX2_becomes_0.2.2.2.2.2.2.2.2.2.2.2.2.1
theorem dX2_becomes_25 : decode cX2_becomes 25 = .ok (.iconst 0, 1) := edX2_becomes_0.2.2.2.2.2.2.2.2.2.2.2.2.2.1
theorem dX2_becomes_26 : decode cX2_becomes 26 = .ok (.bipush 24, 2) := edX2_becomes_0.2.2.2.2.2.2.2.2.2.2.2.2.2.2.1
theorem dX2_becomes_28 : decode cX2_becomes 28 = .ok (.invokestatic 28, 3) := edX2_becomes_0.2.2.2.2.2.2.2.2.2.2.2.2.2.2.2.1
theorem dX2_becomes_31 : decode cX2_becomes 31 = .ok (.return_, 1) := edX2_becomes_0.2.2.2.2.2.2.2.2.2.2.2.2.2.2.2.2.1
theorem edX2_isMissing_0 : (decode cX2_isMissing 0 = .ok (.aload_n 0, 1)) ∧ (decode cX2_isMissing 1 = .ok (.getfield 9, 3)) ∧ (decode cX2_isMissing 4 = .ok (.iconst (-1), 1)) ∧ (decode cX2_isMissing 5 = .ok (.if_icmp .ne 7, 3)) ∧ (decode cX2_isMissing 8 = .ok (.iconst 1, 1)) ∧ (decode cX2_isMissing 9 = .ok (.goto 4, 3)) ∧ (decode cX2_isMissing 12 = .ok (.iconst 0, 1)) ∧ (decode cX2_isMissing 13 = .ok (.ireturn, 1)) ∧ True := dc_cj [(0, .aload_n 0, 1), (1, .getfield 9, 3), (4, .iconst (-1), 1), (5, .if_icmp .ne 7, 3), (8, .iconst 1, 1), (9, .goto 4, 3), (12, .iconst 0, 1), (13, .ireturn, 1)] (by decide +kernel)
theorem dX2_isMissing_0 : decode cX2_isMissing 0 = .ok (.aload_n 0, 1) := edX2_isMissing_0.1
theorem dX2_isMissing_1 : decode cX2_isMissing 1 = .ok (.getfield 9, 3) := edX2_isMissing_0.2.1
theorem dX2_isMissing_4 : decode cX2_isMissing 4 = .ok (.iconst (-1), 1) := edX2_isMissing_0.2.2.1
theorem dX2_isMissing_5 : decode cX2_isMissing 5 = .ok (.if_icmp .ne 7, 3) := edX2_isMissing_0.2.2.2.1
theorem dX2_isMissing_8 : decode cX2_isMissing 8 = .ok (.iconst 1, 1) := edX2_isMissing_0.2.2.2.2.1
theorem dX2_isMissing_9 : decode cX2_isMissing 9 = .ok (.goto 4, 3) := edX2_isMissing_0.2.2.2.2.2.1
theorem dX2_isMissing_12 : decode cX2_isMissing 12 = .ok (.iconst 0, 1) := edX2_isMissing_0.2.2.2.2.2.2.1
theorem dX2_isMissing_13 : decode cX2_isMissing 13 = .ok (.ireturn, 1) := edX2_isMissing_0.2.2.2.2.2.2.2.1
theorem edX2_isPlace_0 : (decode cX2_isPlace 0 = .ok (.iload_n 1, 1)) ∧ (decode cX2_isPlace 1 = .ok (.iconst 0, 1)) ∧ (decode cX2_isPlace 2 = .ok (.aload_n 0, 1)) ∧ (decode cX2_isPlace 3 = .ok (.getfield 15, 3)) ∧ (decode cX2_isPlace 6 = .ok (.iconst 1, 1)) ∧ (decode cX2_isPlace 7 = .ok (.isub, 1)) ∧ (decode cX2_isPlace 8 = .ok (.invokestatic 34, 3)) ∧ (decode cX2_isPlace 11 = .ok (.ireturn, 1)) ∧ True := dc_cj [(0, .iload_n 1, 1), (1, .iconst 0, 1), (2, .aload_n 0, 1), (3, .getfield 15, 3), (6, .iconst 1, 1), (7, .isub, 1), (8, .invokestatic 34, 3), (11, .ireturn, 1)] (by decide +kernel)
theorem dX2_isPlace_0 : decode cX2_isPlace 0 = .ok (.iload_n 1, 1) := edX2_isPlace_0.1
theorem dX2_isPlace_1 : decode cX2_isPlace 1 = .ok (.iconst 0, 1) := edX2_isPlace_0.2.1
theorem dX2_isPlace_2 : decode cX2_isPlace 2 = .ok (.aload_n 0, 1) := edX2_isPlace_0.2.2.1
theorem dX2_isPlace_3 : decode cX2_isPlace 3 = .ok (.getfield 15, 3) := edX2_isPlace_0.2.2.2.1
theorem dX2_isPlace_6 : decode cX2_isPlace 6 = .ok (.iconst 1, 1) := edX2_isPlace_0.2.2.2.2.1
theorem dX2_isPlace_7 : decode cX2_isPlace 7 = .ok (.isub, 1) := edX2_isPlace_0.2.2.2.2.2.1
theorem dX2_isPlace_8 : decode cX2_isPlace 8 = .ok (.invokestatic 34, 3) := edX2_isPlace_0.2.2.2.2.2.2.1
theorem dX2_isPlace_11 : decode cX2_isPlace 11 = .ok (.ireturn, 1) := edX2_isPlace_0.2.2.2.2.2.2.2.1
theorem edX2_isNumber_0 : (decode cX2_isNumber 0 = .ok (.aload_n 0, 1)) ∧ (decode cX2_isNumber 1 = .ok (.iload_n 1, 1)) ∧ (decode cX2_isNumber 2 = .ok (.invokevirtual 38, 3)) ∧ (decode cX2_isNumber 5 = .ok (.ifCond .eq 18, 3)) ∧ (decode cX2_isNumber 8 = .ok (.aload_n 0, 1)) ∧ (decode cX2_isNumber 9 = .ok (.getfield 18, 3)) ∧ (decode cX2_isNumber 12 = .ok (.iload_n 1, 1)) ∧ (decode cX2_isNumber 13 = .ok (.iaload, 1)) ∧ (decode cX2_isNumber 14 = .ok (.ldc 42, 2)) ∧ (decode cX2_isNumber 16 = .ok (.if_icmp .eq 7, 3)) ∧ (decode cX2_isNumber 19 = .ok (.iconst 1, 1)) ∧ (decode cX2_isNumber 20 = .ok (.goto 4, 3)) ∧ (decode cX2_isNumber 23 = .ok (.iconst 0, 1)) ∧ (decode cX2_isNumber 24 = .ok (.ireturn, 1)) ∧ True := dc_cj [(0, .aload_n 0, 1), (1, .iload_n 1, 1), (2, .invokevirtual 38, 3), (5, .ifCond .eq 18, 3), (8, .aload_n 0, 1), (9, .getfield 18, 3), (12, .iload_n 1, 1), (13, .iaload, 1), (14, .ldc 42, 2), (16, .if_icmp .eq 7, 3), (19, .iconst 1, 1), (20, .goto 4, 3), (23, .iconst 0, 1), (24, .ireturn, 1)] (by decide +kernel)
theorem dX2_isNumber_0 : decode cX2_isNumber 0 = .ok (.aload_n 0, 1) := edX2_isNumber_0.1
theorem dX2_isNumber_1 : decode cX2_isNumber 1 = .ok (.iload_n 1, 1) := edX2_isNumber_0.2.1
theorem dX2_isNumber_2 : decode cX2_isNumber 2 = .ok (.invokevirtual 38, 3) := edX2_isNumber_0.2.2.1
theorem dX2_isNumber_5 : decode cX2_isNumber 5 = .ok (.ifCond .eq 18, 3) := edX2_isNumber_0.2.2.2.1
theorem dX2_isNumber_8 : decode cX2_isNumber 8 = .ok (.aload_n 0, 1) := edX2_isNumber_0.2.2.2.2.1
theorem dX2_isNumber_9 : decode cX2_isNumber 9 = .ok (.getfield 18, 3) := edX2_isNumber_0.2.2.2.2.2.1
theorem dX2_isNumber_12 : decode cX2_isNumber 12 = .ok (.iload_n 1, 1) := edX2_isNumber_0.2.2.2.2.2.2.1
theorem dX2_isNumber_13 : decode cX2_isNumber 13 = .ok (.iaload, 1) := edX2_isNumber_0.2.2.2.2.2.2.2.1
theorem dX2_isNumber_14 : decode cX2_isNumber 14 = .ok (.ldc 42, 2) := edX2_isNumber_0.2.2.2.2.2.2.2.2.1
theorem dX2_isNumber_16 : decode cX2_isNumber 16 = .ok (.if_icmp .eq 7, 3) := edX2_isNumber_0.2.2.2.2.2.2.2.2.2.1
theorem dX2_isNumber_19 : decode cX2_isNumber 19 = .ok (.iconst 1, 1) := edX2_isNumber_0.2.2.2.2.2.2.2.2.2.2.1
theorem dX2_isNumber_20 : decode cX2_isNumber 20 = .ok (.goto 4, 3) := edX2_isNumber_0.2.2.2.2.2.2.2.2.2.2.2.1
theorem dX2_isNumber_23 : decode cX2_isNumber 23 = .ok (.iconst 0, 1) := edX2_isNumber_0.2.2.2.2.2.2.2.2.2.2.2.2.1
theorem dX2_isNumber_24 : decode cX2_isNumber 24 = .ok (.ireturn, 1) := edX2_isNumber_0.2.2.2.2.2.2.2.2.2.2.2.2.2.1
theorem edX2_hasPlaces_0 : (decode cX2_hasPlaces 0 = .ok (.iload_n 2, 1)) ∧ (decode cX2_hasPlaces 1 = .ok (.iconst 0, 1)) ∧ (decode cX2_hasPlaces 2 = .ok (.aload_n 0, 1)) ∧ (decode cX2_hasPlaces 3 = .ok (.getfield 15, 3)) ∧ (decode cX2_hasPlaces 6 = .ok (.invokestatic 34, 3)) ∧ (decode cX2_hasPlaces 9 = .ok (.ifCond .eq 21, 3)) ∧ (decode cX2_hasPlaces 12 = .ok (.iload_n 1, 1)) ∧ (decode cX2_hasPlaces 13 = .ok (.iconst 0, 1)) ∧ (decode cX2_hasPlaces 14 = .ok (.aload_n 0, 1)) ∧ (decode cX2_hasPlaces 15 = .ok (.getfield 15, 3)) ∧ (decode cX2_hasPlaces 18 = .ok (.iload_n 2, 1)) ∧ (decode cX2_hasPlaces 19 = .ok (.isub, 1)) ∧ (decode cX2_hasPlaces 20 = .ok (.invokestatic 34, 3)) ∧ (decode cX2_hasPlaces 23 = .ok (.ifCond .eq 7, 3)) ∧ (decode cX2_hasPlaces 26 = .ok (.iconst 1, 1)) ∧ (decode cX2_hasPlaces 27 = .ok (.goto 4, 3)) ∧ (decode cX2_hasPlaces 30 = .ok (.iconst 0, 1)) ∧ (decode cX2_hasPlaces 31 = .ok (.ireturn, 1)) ∧ True := dc_cj [(0, .iload_n 2, 1), (1, .iconst 0, 1), (2, .aload_n 0, 1), (3, .getfield 15, 3), (6, .invokestatic 34, 3), (9, .ifCond .eq 21, 3), (12, .iload_n 1, 1), (13, .iconst 0, 1), (14, .aload_n 0, 1), (15, .getfield 15, 3), (18, .iload_n 2, 1), (19, .isub, 1), (20, .invokestatic 34, 3), (23, .ifCond .eq 7, 3), (26, .iconst 1, 1), (27, .goto 4, 3), (30, .iconst 0, 1), (31, .ireturn, 1)] (by decide +kernel)
theorem dX2_hasPlaces_0 : decode cX2_hasPlaces 0 = .ok (.iload_n 2, 1) := edX2_hasPlaces_0.1
theorem dX2_hasPlaces_1 : decode cX2_hasPlaces 1 = .ok (.iconst 0, 1) := edX2_hasPlaces_0.2.1
theorem dX2_hasPlaces_2 : decode cX2_hasPlaces 2 = .ok (.aload_n 0, 1) := edX2_hasPlaces_0.2.2.1
theorem dX2_hasPlaces_3 : decode cX2_hasPlaces 3 = .ok (.getfield 15, 3) := edX2_hasPlaces_0.2.2.2.1
theorem dX2_hasPlaces_6 : decode cX2_hasPlaces 6 = .ok (.invokestatic 34, 3) := edX2_hasPlaces_0.2.2.2.2.1
theorem dX2_hasPlaces_9 : decode cX2_hasPlaces 9 = .ok (.ifCond .eq 21, 3) := edX2_hasPlaces_0.2.2.2.2.2.1
theorem dX2_hasPlaces_12 : decode cX2_hasPlaces 12 = .ok (.iload_n 1, 1) := edX2_hasPlaces_0.2.2.2.2.2.2.1
theorem dX2_hasPlaces_13 : decode cX2_hasPlaces 13 = .ok (.iconst 0, 1) := edX2_hasPlaces_0.2.2.2.2.2.2.2.1
theorem dX2_hasPlaces_14 : decode cX2_hasPlaces 14 = .ok (.aload_n 0, 1) := edX2_hasPlaces_0.2.2.2.2.2.2.2.2.1
theorem dX2_hasPlaces_15 : decode cX2_hasPlaces 15 = .ok (.getfield 15, 3) := edX2_hasPlaces_0.2.2.2.2.2.2.2.2.2.1
theorem dX2_hasPlaces_18 : decode cX2_hasPlaces 18 = .ok (.iload_n 2, 1) := edX2_hasPlaces_0.2.2.2.2.2.2.2.2.2.2.1
theorem dX2_hasPlaces_19 : decode cX2_hasPlaces 19 = .ok (.isub, 1) := edX2_hasPlaces_0.2.2.2.2.2.2.2.2.2.2.2.1
theorem dX2_hasPlaces_20 : decode cX2_hasPlaces 20 = .ok (.invokestatic 34, 3) := edX2_hasPlaces_0.2.2.2.2.2.2.2.2.2.2.2.2.1
theorem dX2_hasPlaces_23 : decode cX2_hasPlaces 23 = .ok (.ifCond .eq 7, 3) := edX2_hasPlaces_0.2.2.2.2.2.2.2.2.2.2.2.2.2.1
theorem dX2_hasPlaces_26 : decode cX2_hasPlaces 26 = .ok (.iconst 1, 1) := edX2_hasPlaces_0.2.2.2.2.2.2.2.2.2.2.2.2.2.2.1
theorem dX2_hasPlaces_27 : decode cX2_hasPlaces 27 = .ok (.goto 4, 3) := edX2_hasPlaces_0.2.2.2.2.2.2.2.2.2.2.2.2.2.2.2.1
theorem dX2_hasPlaces_30 : decode cX2_hasPlaces 30 = .ok (.iconst 0, 1) := edX2_hasPlaces_0.2.2.2.2.2.2.2.2.2.2.2.2.2.2.2.2.1
theorem dX2_hasPlaces_31 : decode cX2_hasPlaces 31 = .ok (.ireturn, 1) := edX2_hasPlaces_0.2.2.2.2.2.2.2.2.2.2.2.2.2.2.2.2.2.1
theorem edX3_init_0 : (decode cX3_init 0 = .ok (.aload_n 0, 1)) ∧ (decode cX3_init 1 = .ok (.invokespecial 3, 3)) ∧ (decode cX3_init 4 = .ok (.aload_n 0, 1)) ∧ (decode cX3_init 5 = .ok (.iconst 0, 1)) ∧ (decode cX3_init 6 = .ok (.putfield 9, 3)) ∧ (decode cX3_init 9 = .ok (.aload_n 0, 1)) ∧ (decode cX3_init 10 = .ok (.iconst 0, 1)) ∧ (decode cX3_init 11 = .ok (.putfield 15, 3)) ∧ (decode cX3_init 14 = .ok (.aload_n 0, 1)) ∧ (decode cX3_init 15 = .ok (.iconst 0, 1)) ∧ (decode cX3_init 16 = .ok (.putfield 18, 3)) ∧ (decode cX3_init 19 = .ok (.aload_n 0, 1)) ∧ (decode cX3_init 20 = .ok (.iconst 0, 1)) ∧ (decode cX3_init 21 = .ok (.putfield 21, 3)) ∧ (decode cX3_init 24 = .ok (.aload_n 0, 1)) ∧ (decode cX3_init 25 = .ok (.new 24, 3)) ∧ (decode cX3_init 28 = .ok (.dup, 1)) ∧ (decode cX3_init 29 = .ok (.invokespecial 26, 3)) ∧ (decode cX3_init 32 = .ok (.putfield 27, 3)) ∧ (decode cX3_init 35 = .ok (.return_, 1)) ∧ True := dc_cj [(0, .aload_n 0, 1), (1, .invokespecial 3, 3), (4, .aload_n 0, 1), (5, .iconst 0, 1), (6, .putfield 9, 3), (9, .aload_n 0, 1), (10, .iconst 0, 1), (11, .putfield 15, 3), (14, .aload_n 0, 1), (15, .iconst 0, 1), (16, .putfield 18, 3), (19, .aload_n 0, 1), (20, .iconst 0, 1), (21, .putfield 21, 3), (24, .aload_n 0, 1), (25, .new 24, 3), (28, .dup, 1), (29, .invokespecial 26, 3), (32, .putfield 27, 3), (35, .return_, 1)] (by decide +kernel)
theorem dX3_init_0 : decode cX3_init 0 = .ok (.aload_n 0, 1) := edX3_init_0.1
theorem dX3_init_1 : decode cX3_init 1 = .ok (.invokespecial 3, 3) := edX3_init_0.2.1
theorem dX3_init_4 : decode cX3_init 4 = .ok (.aload_n 0, 1) := edX3_init_0.2.2.1
theorem dX3_init_5 : decode cX3_init 5 = .ok (.iconst 0, 1) := edX3_init_0.2.2.2.1
theorem dX3_init_6 : decode cX3_init 6 = .ok (.putfield 9, 3) := edX3_init_0.2.2.2.2.1
theorem dX3_init_9 : decode cX3_init 9 = .ok (.aload_n 0, 1) := edX3_init_0.2.2.2.2.2.1
theorem dX3_init_10 : decode cX3_init 10 = .ok (.iconst 0, 1) := edX3_init_0.2.2.2.2.2.2.1
theorem dX3_init_11 : decode cX3_init 11 = .ok (.putfield 15, 3) := edX3_init_0.2.2.2.2.2.2.2.1
theorem dX3_init_14 : decode cX3_init 14 = .ok (.aload_n 0, 1) := edX3_init_0.2.2.2.2.2.2.2.2.1
theorem dX3_init_15 : decode cX3_init 15 = .ok (.iconst 0, 1) := edX3_init_0.2.2.2.2.2.2.2.2.2.1
theorem dX3_init_16 : decode cX3_init 16 = .ok (.putfield 18, 3) := edX3_init_0.2.2.2.2.2.2.2.2.2.2.1
theorem dX3_init_19 : decode cX3_init 19 = .ok (.aload_n 0, 1) := edX3_init_0.2.2.2.2.2.2.2.2.2.2.2.1
theorem dX3_init_20 : decode cX3_init 20 = .ok (.iconst 0, 1) := edX3_init_0.2.2.2.2.2.2.2.2.2.2.2.2.1
theorem dX3_init_21 : decode cX3_init 21 = .ok (.putfield 21, 3) := edX3_init_0.2.2.2.2.2.2.2.2.2.2.2.2.2.1
theorem dX3_init_24 : decode cX3_init 24 = .ok (.aload_n 0, 1) := edX3_init_0.2.2.2.2.2.2.2.2.2.2.2.2.2.2.1
theorem dX3_init_25 : decode cX3_init 25 = .ok (.new 24, 3) := edX3_init_0.2.2.2.2.2.2.2.2.2.2.2.2.2.2.2.1
theorem dX3_init_28 : decode cX3_init 28 = .ok (.dup, 1) := edX3_init_0.2.2.2.2.2.2.2.2.2.2.2.2.2.2.2.2.1
theorem dX3_init_29 : decode cX3_init 29 = .ok (.invokespecial 26, 3) := edX3_init_0.2.2.2.2.2.2.2.2.2.2.2.2.2.2.2.2.2.1
theorem dX3_init_32 : decode cX3_init 32 = .ok (.putfield 27, 3) := edX3_init_0.2.2.2.2.2.2.2.2.2.2.2.2.2.2.2.2.2.2.1
theorem dX3_init_35 : decode cX3_init 35 = .ok (.return_, 1) := edX3_init_0.2.2.2.2.2.2.2.2.2.2.2.2.2.2.2.2.2.2.2.1
theorem edX4_init_0 : (decode cX4_init 0 = .ok (.aload_n 0, 1)) ∧ (decode cX4_init 1 = .ok (.invokespecial 3, 3)) ∧ (decode cX4_init 4 = .ok (.aload_n 0, 1)) ∧ (decode cX4_init 5 = .ok (.bipush 96, 2)) ∧ (decode cX4_init 7 = .ok (.newarray .int, 2)) ∧ (decode cX4_init 9 = .ok (.putfield 9, 3)) ∧ (decode cX4_init 12 = .ok (.aload_n 0, 1)) ∧ (decode cX4_init 13 = .ok (.iconst 0, 1)) ∧ (decode cX4_init 14 = .ok (.putfield 15, 3)) ∧ (decode cX4_init 17 = .ok (.return_, 1)) ∧ True := dc_cj [(0, .aload_n 0, 1), (1, .invokespecial 3, 3), (4, .aload_n 0, 1), (5, .bipush 96, 2), (7, .newarray .int, 2), (9, .putfield 9, 3), (12, .aload_n 0, 1), (13, .iconst 0, 1), (14, .putfield 15, 3), (17, .return_, 1)] (by decide +kernel)
theorem dX4_init_0 : decode cX4_init 0 = .ok (.aload_n 0, 1) := edX4_init_0.1
theorem dX4_init_1 : decode cX4_init 1 = .ok (.invokespecial 3, 3) := edX4_init_0.2.1
theorem dX4_init_4 : decode cX4_init 4 = .ok (.aload_n 0, 1) := edX4_init_0.2.2.1
theorem dX4_init_5 : decode cX4_init 5 = .ok (.bipush 96, 2) := edX4_init_0.2.2.2.1
theorem dX4_init_7 : decode cX4_init 7 = .ok (.newarray .int, 2) := edX4_init_0.2.2.2.2.1
theorem dX4_init_9 : decode cX4_init 9 = .ok (.putfield 9, 3) := edX4_init_0.2.2.2.2.2.1
theorem dX4_init_12 : decode cX4_init 12 = .ok (.aload_n 0, 1) := edX4_init_0.2.2.2.2.2.2.1
theorem dX4_init_13 : decode cX4_init 13 = .ok (.iconst 0, 1) := edX4_init_0.2.2.2.2.2.2.2.1
theorem dX4_init_14 : decode cX4_init 14 = .ok (.putfield 15, 3) := edX4_init_0.2.2.2.2.2.2.2.2.1
theorem dX4_init_17 : decode cX4_init 17 = .ok (.return_, 1) := edX4_init_0.2.2.2.2.2.2.2.2.2.1
theorem edX4_addBytesOf_0 : (decode cX4_addBytesOf 0 = .ok (.bipush 24, 2)) ∧ (decode cX4_addBytesOf 2 = .ok (.istore_n 2, 1)) ∧ (decode cX4_addBytesOf 3 = .ok (.iload_n 2, 1)) ∧ (decode cX4_addBytesOf 4 = .ok (.ifCond .lt 44, 3)) ∧ (decode cX4_addBytesOf 7 = .ok (.aload_n 0, 1)) ∧ (decode cX4_addBytesOf 8 = .ok (.getfield 15, 3)) ∧ (decode cX4_addBytesOf 11 = .ok (.bipush 96, 2)) ∧ (decode cX4_addBytesOf 13 = .ok (.if_icmp .ge 35, 3)) ∧ (decode cX4_addBytesOf 16 = .ok (.aload_n 0, 1)) ∧ (decode cX4_addBytesOf 17 = .ok (.getfield 9, 3)) ∧ (decode cX4_addBytesOf 20 = .ok (.aload_n 0, 1)) ∧ (decode cX4_addBytesOf 21 = .ok (.getfield 15, 3)) ∧ (decode cX4_addBytesOf 24 = .ok (.iload_n 1, 1)) ∧ (decode cX4_addBytesOf 25 = .ok (.iload_n 2, 1)) ∧ (decode cX4_addBytesOf 26 = .ok (.iushr, 1)) ∧ (decode cX4_addBytesOf 27 = .ok (.sipush 255, 3)) ∧ (decode cX4_addBytesOf 30 = .ok (.iand, 1)) ∧ (decode cX4_addBytesOf 31 = .ok (.iastore, 1)) ∧ (decode cX4_addBytesOf 32 = .ok (.aload_n 0, 1)) ∧ (decode cX4_addBytesOf 33 = .ok (.dup, 1)) ∧ (decode cX4_addBytesOf 34 = .ok (.getfield 15, 3)) ∧ (decode cX4_addBytesOf 37 = .ok (.iconst 1, 1)) ∧ (decode cX4_addBytesOf 38 = .ok (.iadd, 1)) ∧ (decode cX4_addBytesOf 39 = .ok (.putfield 15, 3)) ∧ (decode cX4_addBytesOf 42 = .ok (.iinc 2 (-8), 3)) ∧ (decode cX4_addBytesOf 45 = .ok (.goto (-42), 3)) ∧ (decode cX4_addBytesOf 48 = .ok (.return_, 1)) ∧ True := dc_cj [(0, .bipush 24, 2), (2, .istore_n 2, 1), (3, .iload_n 2, 1), (4, .ifCond .lt 44, 3), (7, .aload_n 0, 1), (8, .getfield 15, 3), (11, .bipush 96, 2), (13, .if_icmp .ge 35, 3), (16, .aload_n 0, 1), (17, .getfield 9, 3), (20, .aload_n 0, 1), (21, .getfield 15, 3), (24, .iload_n 1, 1), (25, .iload_n 2, 1), (26, .iushr, 1), (27, .sipush 255, 3), (30, .iand, 1), (31, .iastore, 1), (32, .aload_n 0, 1), (33, .dup, 1), (34, .getfield 15, 3), (37, .iconst 1, 1), (38, .iadd, 1), (39, .putfield 15, 3), (42, .iinc 2 (-8), 3), (45, .goto (-42), 3), (48, .return_, 1)] (by decide +kernel)
theorem dX4_addBytesOf_0 : decode cX4_addBytesOf 0 = .ok (.bipush 24, 2) := edX4_addBytesOf_0.1
theorem dX4_addBytesOf_2 : decode cX4_addBytesOf 2 = .ok (.istore_n 2, 1) := edX4_addBytesOf_0.2.1
theorem dX4_addBytesOf_3 : decode cX4_addBytesOf 3 = .ok (.iload_n 2, 1) := edX4_addBytesOf_0.2.2.1
theorem dX4_addBytesOf_4 : decode cX4_addBytesOf 4 = .ok (.ifCond .lt 44, 3) := edX4_addBytesOf_0.2.2.2.1
theorem dX4_addBytesOf_7 : decode cX4_addBytesOf 7 = .ok (.aload_n 0, 1) := edX4_addBytesOf_0.2.2.2.2.1
theorem dX4_addBytesOf_8 : decode cX4_addBytesOf 8 = .ok (.getfield 15, 3) := edX4_addBytesOf_0.2.2.2.2.2.1
theorem dX4_addBytesOf_11 : decode cX4_addBytesOf 11 = .ok (.bipush 96, 2) := edX4_addBytesOf_0.2.2.2.2.2.2.1
theorem dX4_addBytesOf_13 : decode cX4_addBytesOf 13 = .ok (.if_icmp .ge 35, 3) := edX4_addBytesOf_0.2.2.2.2.2.2.2.1
theorem dX4_addBytesOf_16 : decode cX4_addBytesOf 16 = .ok (.aload_n 0, 1) := edX4_addBytesOf_0.2.2.2.2.2.2.2.2.1
theorem dX4_addBytesOf_17 : decode cX4_addBytesOf 17 = .ok (.getfield 9, 3) := edX4_addBytesOf_0.2.2.2.2.2.2.2.2.2.1
theorem dX4_addBytesOf_20 : decode cX4_addBytesOf 20 = .ok (.aload_n 0, 1) := edX4_addBytesOf_0.2.2.2.2.2.2.2.2.2.2.1
theorem dX4_addBytesOf_21 : decode cX4_addBytesOf 21 = .ok (.getfield 15, 3) := edX4_addBytesOf_0.2.2.2.2.2.2.2.2.2.2.2.1
theorem dX4_addBytesOf_24 : decode cX4_addBytesOf 24 = .ok (.iload_n 1, 1) := edX4_addBytesOf_0.2.2.2.2.2.2.2.2.2.2.2.2.1
theorem dX4_addBytesOf_25 : decode cX4_addBytesOf 25 = .ok (.iload_n 2, 1) := edX4_addBytesOf_0.2.2.2.2.2.2.2.2.2.2.2.2.2.1
theorem dX4_addBytesOf_26 : decode cX4_addBytesOf 26 = .ok (.iushr, 1) := edX4_addBytesOf_0.2.2.2.2.2.2.2.2.2.2.2.2.2.2.1
theorem dX4_addBytesOf_27 : decode cX4_addBytesOf 27 = .ok (.sipush 255, 3) := edX4_addBytesOf_0.2.2.2.2.2.2.2.2.2.2.2.2.2.2.2.1
theorem dX4_addBytesOf_30 : decode cX4_addBytesOf 30 = .ok (.iand, 1) := edX4_addBytesOf_0.2.2.2.2.2.2.2.2.2.2.2.2.2.2.2.2.1
theorem dX4_addBytesOf_31 : decode cX4_addBytesOf 31 = .ok (.iastore, 1) := edX4_addBytesOf_0.2.2.2.2.2.2.2.2.2.2.2.2.2.2.2.2.2.1
theorem dX4_addBytesOf_32 : decode cX4_addBytesOf 32 = .ok (.aload_n 0, 1) := edX4_addBytesOf_0.2.2.2.2.2.2.2.2.2.2.2.2.2.2.2.2.2.2.1
theorem dX4_addBytesOf_33 : decode cX4_addBytesOf 33 = .ok (.dup, 1) := edX4_addBytesOf_0.2.2.2.2.2.2.2.2.2.2.2.2.2.2.2.2.2.2.2.1
theorem dX4_addBytesOf_34 : decode cX4_addBytesOf 34 = .ok (.getfield 15, 3) := edX4_addBytesOf_0.2.2.2.2.2.2.2.2.2.2.2.2.2.2.2.2.2.2.2.2.1
theorem dX4_addBytesOf_37 : decode cX4_addBytesOf 37 = .ok (.iconst 1, 1) := edX4_addBytesOf_0.2.2.2.2.2.2.2.2.2.2.2.2.2.2.2.2.2.2.2.2.2.1
theorem dX4_addBytesOf_38 : decode cX4_addBytesOf 38 = .ok (.iadd, 1) := edX4_addBytesOf_0.2.2.2.2.2.2.2.2.2.2.2.2.2.2.2.2.2.2.2.2.2.2.1
theorem dX4_addBytesOf_39 : decode cX4_addBytesOf 39 = .ok (.putfield 15, 3) := edX4_addBytesOf_0.2.2.2.2.2.2.2.2.2.2.2.2.2.2.2.2.2.2.2.2.2.2.2.1
theorem dX4_addBytesOf_42 : decode cX4_addBytesOf 42 = .ok (.iinc 2 (-8), 3) := edX4_addBytesOf_0.2.2.2.2.2.2.2.2.2.2.2.2.2.2.2.2.2.2.2.2.2.2.2.2.1
theorem dX4_addBytesOf_45 : decode cX4_addBytesOf 45 = .ok (.goto (-42), 3) := edX4_addBytesOf_0.2.2.2.2.2.2.2.2.2.2.2.2.2.2.2.2.2.2.2.2.2.2.2.2.2.1
theorem dX4_addBytesOf_48 : decode cX4_addBytesOf 48 = .ok (.return_, 1) := edX4_addBytesOf_0.2.2.2.2.2.2.2.2.2.2.2.2.2.2.2.2.2.2.2.2.2.2.2.2.2.2.1
theorem edX5_init_0 : (decode cX5_init 0 = .ok (.aload_n 0, 1)) ∧ (decode cX5_init 1 = .ok (.invokespecial 1, 3)) ∧ (decode cX5_init 4 = .ok (.aload_n 0, 1)) ∧ (decode cX5_init 5 = .ok (.iload_n 1, 1)) ∧ (decode cX5_init 6 = .ok (.putfield 7, 3)) ∧ (decode cX5_init 9 = .ok (.aload_n 0, 1)) ∧ (decode cX5_init 10 = .ok (.iload_n 2, 1)) ∧ (decode cX5_init 11 = .ok (.putfield 13, 3)) ∧ (decode cX5_init 14 = .ok (.aload_n 0, 1)) ∧ (decode cX5_init 15 = .ok (.aload_n 3, 1)) ∧ (decode cX5_init 16 = .ok (.putfield 16, 3)) ∧ (decode cX5_init 19 = .ok (.aload_n 0, 1)) ∧ (decode cX5_init 20 = .ok (.iload_n 2, 1)) ∧ (decode cX5_init 21 = .ok (.iconst 1, 1)) ∧ (decode cX5_init 22 = .ok (.invokestatic 20, 3)) ∧ (decode cX5_init 25 = .ok (.newarray .int, 2)) ∧ (decode cX5_init 27 = .ok (.putfield 26, 3)) ∧ (decode cX5_init 30 = .ok (.return_, 1)) ∧ True := dc_cj [(0, .aload_n 0, 1), (1, .invokespecial 1, 3), (4, .aload_n 0, 1), (5, .iload_n 1, 1), (6, .putfield 7, 3), (9, .aload_n 0, 1), (10, .iload_n 2, 1), (11, .putfield 13, 3), (14, .aload_n 0, 1), (15, .aload_n 3, 1), (16, .putfield 16, 3), (19, .aload_n 0, 1), (20, .iload_n 2, 1), (21, .iconst 1, 1), (22, .invokestatic 20, 3), (25, .newarray .int, 2), (27, .putfield 26, 3), (30, .return_, 1)] (by decide +kernel)
theorem dX5_init_0 : decode cX5_init 0 = .ok (.aload_n 0, 1) := edX5_init_0.1
theorem dX5_init_1 : decode cX5_init 1 = .ok (.invokespecial 1, 3) := edX5_init_0.2.1
theorem dX5_init_4 : decode cX5_init 4 = .ok (.aload_n 0, 1) := edX5_init_0.2.2.1
theorem dX5_init_5 : decode cX5_init 5 = .ok (.iload_n 1, 1) := edX5_init_0.2.2.2.1
theorem dX5_init_6 : decode cX5_init 6 = .ok (.putfield 7, 3) := edX5_init_0.2.2.2.2.1
theorem dX5_init_9 : decode cX5_init 9 = .ok (.aload_n 0, 1) := edX5_init_0.2.2.2.2.2.1
theorem dX5_init_10 : decode cX5_init 10 = .ok (.iload_n 2, 1) := edX5_init_0.2.2.2.2.2.2.1
theorem dX5_init_11 : decode cX5_init 11 = .ok (.putfield 13, 3) := edX5_init_0.2.2.2.2.2.2.2.1
theorem dX5_init_14 : decode cX5_init 14 = .ok (.aload_n 0, 1) := edX5_init_0.2.2.2.2.2.2.2.2.1
theorem dX5_init_15 : decode cX5_init 15 = .ok (.aload_n 3, 1) := edX5_init_0.2.2.2.2.2.2.2.2.2.1
theorem dX5_init_16 : decode cX5_init 16 = .ok (.putfield 16, 3) := edX5_init_0.2.2.2.2.2.2.2.2.2.2.1
theorem dX5_init_19 : decode cX5_init 19 = .ok (.aload_n 0, 1) := edX5_init_0.2.2.2.2.2.2.2.2.2.2.2.1
theorem dX5_init_20 : decode cX5_init 20 = .ok (.iload_n 2, 1) := edX5_init_0.2.2.2.2.2.2.2.2.2.2.2.2.1
theorem dX5_init_21 : decode cX5_init 21 = .ok (.iconst 1, 1) := edX5_init_0.2.2.2.2.2.2.2.2.2.2.2.2.2.1
theorem dX5_init_22 : decode cX5_init 22 = .ok (.invokestatic 20, 3) := edX5_init_0.2.2.2.2.2.2.2.2.2.2.2.2.2.2.1
theorem dX5_init_25 : decode cX5_init 25 = .ok (.newarray .int, 2) := edX5_init_0.2.2.2.2.2.2.2.2.2.2.2.2.2.2.2.1
theorem dX5_init_27 : decode cX5_init 27 = .ok (.putfield 26, 3) := edX5_init_0.2.2.2.2.2.2.2.2.2.2.2.2.2.2.2.2.1
theorem dX5_init_30 : decode cX5_init 30 = .ok (.return_, 1) := edX5_init_0.2.2.2.2.2.2.2.2.2.2.2.2.2.2.2.2.2.1
theorem edX5_workOut_0 : (decode cX5_workOut 0 = .ok (.iconst 0, 1)) ∧ (decode cX5_workOut 1 = .ok (.istore 4, 2)) ∧ (decode cX5_workOut 3 = .ok (.iconst 0, 1)) ∧ (decode cX5_workOut 4 = .ok (.istore 5, 2)) ∧ (decode cX5_workOut 6 = .ok (.iload 5, 2)) ∧ (decode cX5_workOut 8 = .ok (.aload_n 0, 1)) ∧ (decode cX5_workOut 9 = .ok (.getfield 16, 3)) ∧ (decode cX5_workOut 12 = .ok (.arraylength, 1)) ∧ (decode cX5_workOut 13 = .ok (.if_icmp .ge 162, 3)) ∧ (decode cX5_workOut 16 = .ok (.aload_n 0, 1)) ∧ (decode cX5_workOut 17 = .ok (.getfield 16, 3)) ∧ (decode cX5_workOut 20 = .ok (.iload 5, 2)) ∧ (decode cX5_workOut 22 = .ok (.iaload, 1)) ∧ (decode cX5_workOut 23 = .ok (.istore 6, 2)) ∧ (decode cX5_workOut 25 = .ok (.iload 6, 2)) ∧ (decode cX5_workOut 27 = .ok (.bipush (-3), 2)) ∧ (decode cX5_workOut 29 = .ok (.if_icmp .lt 58, 3)) ∧ (decode cX5_workOut 32 = .ok (.iload 4, 2)) ∧ (decode cX5_workOut 34 = .ok (.aload_n 0, 1)) ∧ (decode cX5_workOut 35 = .ok (.getfield 26, 3)) ∧ (decode cX5_workOut 38 = .ok (.arraylength, 1)) ∧ (decode cX5_workOut 39 = .ok (.if_icmp .ge 130, 3)) ∧ (decode cX5_workOut 42 = .ok (.aload_n 0, 1)) ∧ (decode cX5_workOut 43 = .ok (.getfield 26, 3)) ∧ (decode cX5_workOut 46 = .ok (.iload 4, 2)) ∧ (decode cX5_workOut 48 = .ok (.iload 6, 2)) ∧ (decode cX5_workOut 50 = .ok (.ifCond .lt 8, 3)) ∧ (decode cX5_workOut 53 = .ok (.iload 6, 2)) ∧ (decode cX5_workOut 55 = .ok (.goto 25, 3)) ∧ (decode cX5_workOut 58 = .ok (.iload 6, 2)) ∧ (decode cX5_workOut 60 = .ok (.iconst (-1), 1)) ∧ (decode cX5_workOut 61 = .ok (.if_icmp .ne 7, 3)) ∧ True := dc_cj [(0, .iconst 0, 1), (1, .istore 4, 2), (3, .iconst 0, 1), (4, .istore 5, 2), (6, .iload 5, 2), (8, .aload_n 0, 1), (9, .getfield 16, 3), (12, .arraylength, 1), (13, .if_icmp .ge 162, 3), (16, .aload_n 0, 1), (17, .getfield 16, 3), (20, .iload 5, 2), (22, .iaload, 1), (23, .istore 6, 2), (25, .iload 6, 2), (27, .bipush (-3), 2), (29, .if_icmp .lt 58, 3), (32, .iload 4, 2), (34, .aload_n 0, 1), (35, .getfield 26, 3), (38, .arraylength, 1), (39, .if_icmp .ge 130, 3), (42, .aload_n 0, 1), (43, .getfield 26, 3), (46, .iload 4, 2), (48, .iload 6, 2), (50, .ifCond .lt 8, 3), (53, .iload 6, 2), (55, .goto 25, 3), (58, .iload 6, 2), (60, .iconst (-1), 1), (61, .if_icmp .ne 7, 3)] (by decide +kernel)
theorem dX5_workOut_0 : decode cX5_workOut 0 = .ok (.iconst 0, 1) := edX5_workOut_0.1
theorem dX5_workOut_1 : decode cX5_workOut 1 = .ok (.istore 4, 2) := edX5_workOut_0.2.1
theorem dX5_workOut_3 : decode cX5_workOut 3 = .ok (.iconst 0, 1) := edX5_workOut_0.2.2.1
theorem dX5_workOut_4 : decode cX5_workOut 4 = .ok (.istore 5, 2) := edX5_workOut_0.2.2.2.1
theorem dX5_workOut_6 : decode cX5_workOut 6 = .ok (.iload 5, 2) := edX5_workOut_0.2.2.2.2.1
theorem dX5_workOut_8 : decode cX5_workOut 8 = .ok (.aload_n 0, 1) := edX5_workOut_0.2.2.2.2.2.1
theorem dX5_workOut_9 : decode cX5_workOut 9 = .ok (.getfield 16, 3) := edX5_workOut_0.2.2.2.2.2.2.1
theorem dX5_workOut_12 : decode cX5_workOut 12 = .ok (.arraylength, 1) := edX5_workOut_0.2.2.2.2.2.2.2.1
theorem dX5_workOut_13 : decode cX5_workOut 13 = .ok (.if_icmp .ge 162, 3) := edX5_workOut_0.2.2.2.2.2.2.2.2.1
theorem dX5_workOut_16 : decode cX5_workOut 16 = .ok (.aload_n 0, 1) := edX5_workOut_0.2.2.2.2.2.2.2.2.2.1
theorem dX5_workOut_17 : decode cX5_workOut 17 = .ok (.getfield 16, 3) := edX5_workOut_0.2.2.2.2.2.2.2.2.2.2.1
theorem dX5_workOut_20 : decode cX5_workOut 20 = .ok (.iload 5, 2) := edX5_workOut_0.2.2.2.2.2.2.2.2.2.2.2.1
theorem dX5_workOut_22 : decode cX5_workOut 22 = .ok (.iaload, 1) := edX5_workOut_0.2.2.2.2.2.2.2.2.2.2.2.2.1
theorem dX5_workOut_23 : decode cX5_workOut 23 = .ok (.istore 6, 2) := edX5_workOut_0.2.2.2.2.2.2.2.2.2.2.2.2.2.1
theorem dX5_workOut_25 : decode cX5_workOut 25 = .ok (.iload 6, 2) := edX5_workOut_0.2.2.2.2.2.2.2.2.2.2.2.2.2.2.1
theorem dX5_workOut_27 : decode cX5_workOut 27 = .ok (.bipush (-3), 2) := edX5_workOut_0.2.2.2.2.2.2.2.2.2.2.2.2.2.2.2.1
theorem dX5_workOut_29 : decode cX5_workOut 29 = .ok (.if_icmp .lt 58, 3) := edX5_workOut_0.2.2.2.2.2.2.2.2.2.2.2.2.2.2.2.2.1
theorem dX5_workOut_32 : decode cX5_workOut 32 = .ok (.iload 4, 2) := edX5_workOut_0.2.2.2.2.2.2.2.2.2.2.2.2.2.2.2.2.2.1
theorem dX5_workOut_34 : decode cX5_workOut 34 = .ok (.aload_n 0, 1) := edX5_workOut_0.2.2.2.2.2.2.2.2.2.2.2.2.2.2.2.2.2.2.1
theorem dX5_workOut_35 : decode cX5_workOut 35 = .ok (.getfield 26, 3) := edX5_workOut_0.2.2.2.2.2.2.2.2.2.2.2.2.2.2.2.2.2.2.2.1
theorem dX5_workOut_38 : decode cX5_workOut 38 = .ok (.arraylength, 1) := edX5_workOut_0.2.2.2.2.2.2.2.2.2.2.2.2.2.2.2.2.2.2.2.2.1
theorem dX5_workOut_39 : decode cX5_workOut 39 = .ok (.if_icmp .ge 130, 3) := edX5_workOut_0.2.2.2.2.2.2.2.2.2.2.2.2.2.2.2.2.2.2.2.2.2.1
theorem dX5_workOut_42 : decode cX5_workOut 42 = .ok (.aload_n 0, 1) := edX5_workOut_0.2.2.2.2.2.2.2.2.2.2.2.2.2.2.2.2.2.2.2.2.2.2.1
theorem dX5_workOut_43 : decode cX5_workOut 43 = .ok (.getfield 26, 3) := edX5_workOut_0.2.2.2.2.2.2.2.2.2.2.2.2.2.2.2.2.2.2.2.2.2.2.2.1
theorem dX5_workOut_46 : decode cX5_workOut 46 = .ok (.iload 4, 2) := edX5_workOut_0.2.2.2.2.2.2.2.2.2.2.2.2.2.2.2.2.2.2.2.2.2.2.2.2.1
theorem dX5_workOut_48 : decode cX5_workOut 48 = .ok (.iload 6, 2) := edX5_workOut_0.2.2.2.2.2.2.2.2.2.2.2.2.2.2.2.2.2.2.2.2.2.2.2.2.2.1
theorem dX5_workOut_50 : decode cX5_workOut 50 = .ok (.ifCond .lt 8, 3) := edX5_workOut_0.2.2.2.2.2.2.2.2.2.2.2.2.2.2.2.2.2.2.2.2.2.2.2.2.2.2.1
theorem dX5_workOut_53 : decode cX5_workOut 53 = .ok (.iload 6, 2) := edX5_workOut_0.2.2.2.2.2.2.2.2.2.2.2.2.2.2.2.2.2.2.2.2.2.2.2.2.2.2.2.1
theorem dX5_workOut_55 : decode cX5_workOut 55 = .ok (.goto 25, 3) := edX5_workOut_0.2.2.2.2.2.2.2.2.2.2.2.2.2.2.2.2.2.2.2.2.2.2.2.2.2.2.2.2.1
theorem dX5_workOut_58 : decode cX5_workOut 58 = .ok (.iload 6, 2) := edX5_workOut_0.2.2.2.2.2.2.2.2.2.2.2.2.2.2.2.2.2.2.2.2.2.2.2.2.2.2.2.2.2.1
theorem dX5_workOut_60 : decode cX5_workOut 60 = .ok (.iconst (-1), 1) := edX5_workOut_0.2.2.2.2.2.2.2.2.2.2.2.2.2.2.2.2.2.2.2.2.2.2.2.2.2.2.2.2.2.2.1
theorem dX5_workOut_61 : decode cX5_workOut 61 = .ok (.if_icmp .ne 7, 3) := edX5_workOut_0.2.2.2.2.2.2.2.2.2.2.2.2.2.2.2.2.2.2.2.2.2.2.2.2.2.2.2.2.2.2.2.1
theorem edX5_workOut_64 : (decode cX5_workOut 64 = .ok (.iload_n 1, 1)) ∧ (decode cX5_workOut 65 = .ok (.goto 15, 3)) ∧ (decode cX5_workOut 68 = .ok (.iload 6, 2)) ∧ (decode cX5_workOut 70 = .ok (.bipush (-2), 2)) ∧ (decode cX5_workOut 72 = .ok (.if_icmp .ne 7, 3)) ∧ (decode cX5_workOut 75 = .ok (.iload_n 2, 1)) ∧ (decode cX5_workOut 76 = .ok (.goto 4, 3)) ∧ (decode cX5_workOut 79 = .ok (.iload_n 3, 1)) ∧ (decode cX5_workOut 80 = .ok (.iastore, 1)) ∧ (decode cX5_workOut 81 = .ok (.iinc 4 1, 3)) ∧ (decode cX5_workOut 84 = .ok (.goto 85, 3)) ∧ (decode cX5_workOut 87 = .ok (.iload 6, 2)) ∧ (decode cX5_workOut 89 = .ok (.bipush (-33), 2)) ∧ (decode cX5_workOut 91 = .ok (.if_icmp .ne 38, 3)) ∧ (decode cX5_workOut 94 = .ok (.iload 4, 2)) ∧ (decode cX5_workOut 96 = .ok (.iconst 1, 1)) ∧ (decode cX5_workOut 97 = .ok (.if_icmp .lt 72, 3)) ∧ (decode cX5_workOut 100 = .ok (.aload_n 0, 1)) ∧ (decode cX5_workOut 101 = .ok (.getfield 26, 3)) ∧ (decode cX5_workOut 104 = .ok (.iload 4, 2)) ∧ (decode cX5_workOut 106 = .ok (.iconst 1, 1)) ∧ (decode cX5_workOut 107 = .ok (.isub, 1)) ∧ (decode cX5_workOut 108 = .ok (.aload_n 0, 1)) ∧ (decode cX5_workOut 109 = .ok (.getfield 26, 3)) ∧ (decode cX5_workOut 112 = .ok (.iload 4, 2)) ∧ (decode cX5_workOut 114 = .ok (.iconst 1, 1)) ∧ (decode cX5_workOut 115 = .ok (.isub, 1)) ∧ (decode cX5_workOut 116 = .ok (.iaload, 1)) ∧ (decode cX5_workOut 117 = .ok (.ifCond .ne 7, 3)) ∧ (decode cX5_workOut 120 = .ok (.iconst 1, 1)) ∧ (decode cX5_workOut 121 = .ok (.goto 4, 3)) ∧ (decode cX5_workOut 124 = .ok (.iconst 0, 1)) ∧ True := dc_cj [(64, .iload_n 1, 1), (65, .goto 15, 3), (68, .iload 6, 2), (70, .bipush (-2), 2), (72, .if_icmp .ne 7, 3), (75, .iload_n 2, 1), (76, .goto 4, 3), (79, .iload_n 3, 1), (80, .iastore, 1), (81, .iinc 4 1, 3), (84, .goto 85, 3), (87, .iload 6, 2), (89, .bipush (-33), 2), (91, .if_icmp .ne 38, 3), (94, .iload 4, 2), (96, .iconst 1, 1), (97, .if_icmp .lt 72, 3), (100, .aload_n 0, 1), (101, .getfield 26, 3), (104, .iload 4, 2), (106, .iconst 1, 1), (107, .isub, 1), (108, .aload_n 0, 1), (109, .getfield 26, 3), (112, .iload 4, 2), (114, .iconst 1, 1), (115, .isub, 1), (116, .iaload, 1), (117, .ifCond .ne 7, 3), (120, .iconst 1, 1), (121, .goto 4, 3), (124, .iconst 0, 1)] (by decide +kernel)
theorem dX5_workOut_64 : decode cX5_workOut 64 = .ok (.iload_n 1, 1) := edX5_workOut_64.1
theorem dX5_workOut_65 : decode cX5_workOut 65 = .ok (.goto 15, 3) := edX5_workOut_64.2.1
theorem dX5_workOut_68 : decode cX5_workOut 68 = .ok (.iload 6, 2) := edX5_workOut_64.2.2.1
theorem dX5_workOut_70 : decode cX5_workOut 70 = .ok (.bipush (-2), 2) := edX5_workOut_64.2.2.2.1
theorem dX5_workOut_72 : decode cX5_workOut 72 = .ok (.if_icmp .ne 7, 3) := edX5_workOut_64.2.2.2.2.1
theorem dX5_workOut_75 : decode cX5_workOut 75 = .ok (.iload_n 2, 1) := edX5_workOut_64.2.2.2.2.2.1
theorem dX5_workOut_76 : decode cX5_workOut 76 = .ok (.goto 4, 3) := edX5_workOut_64.2.2.2.2.2.2.1
theorem dX5_workOut_79 : decode cX5_workOut 79 = .ok (.iload_n 3, 1) := edX5_workOut_64.2.2.2.2.2.2.2.1
theorem dX5_workOut_80 : decode cX5_workOut 80 = .ok (.iastore, 1) := edX5_workOut_64.2.2.2.2.2.2.2.2.1
theorem dX5_workOut_81 : decode cX5_workOut 81 = .ok (.iinc 4 1, 3) := edX5_workOut_64.2.2.2.2.2.2.2.2.2.1
theorem dX5_workOut_84 : decode cX5_workOut 84 = .ok (.goto 85, 3) := edX5_workOut_64.2.2.2.2.2.2.2.2.2.2.1
theorem dX5_workOut_87 : decode cX5_workOut 87 = .ok (.iload 6, 2) := edX5_workOut_64.2.2.2.2.2.2.2.2.2.2.2.1
theorem dX5_workOut_89 : decode cX5_workOut 89 = .ok (.bipush (-33), 2) := edX5_workOut_64.2.2.2.2.2.2.2.2.2.2.2.2.1
theorem dX5_workOut_91 : decode cX5_workOut 91 = .ok (.if_icmp .ne 38, 3) := edX5_workOut_64.2.2.2.2.2.2.2.2.2.2.2.2.2.1
theorem dX5_workOut_94 : decode cX5_workOut 94 = .ok (.iload 4, 2) := edX5_workOut_64.2.2.2.2.2.2.2.2.2.2.2.2.2.2.1
theorem dX5_workOut_96 : decode cX5_workOut 96 = .ok (.iconst 1, 1) := edX5_workOut_64.2.2.2.2.2.2.2.2.2.2.2.2.2.2.2.1
theorem dX5_workOut_97 : decode cX5_workOut 97 = .ok (.if_icmp .lt 72, 3) := edX5_workOut_64.2.2.2.2.2.2.2.2.2.2.2.2.2.2.2.2.1
theorem dX5_workOut_100 : decode cX5_workOut 100 = .ok (.aload_n 0, 1) := edX5_workOut_64.2.2.2.2.2.2.2.2.2.2.2.2.2.2.2.2.2.1
theorem dX5_workOut_101 : decode cX5_workOut 101 = .ok (.getfield 26, 3) := edX5_workOut_64.2.2.2.2.2.2.2.2.2.2.2.2.2.2.2.2.2.2.1
theorem dX5_workOut_104 : decode cX5_workOut 104 = .ok (.iload 4, 2) := edX5_workOut_64.2.2.2.2.2.2.2.2.2.2.2.2.2.2.2.2.2.2.2.1
theorem dX5_workOut_106 : decode cX5_workOut 106 = .ok (.iconst 1, 1) := edX5_workOut_64.2.2.2.2.2.2.2.2.2.2.2.2.2.2.2.2.2.2.2.2.1
theorem dX5_workOut_107 : decode cX5_workOut 107 = .ok (.isub, 1) := edX5_workOut_64.2.2.2.2.2.2.2.2.2.2.2.2.2.2.2.2.2.2.2.2.2.1
theorem dX5_workOut_108 : decode cX5_workOut 108 = .ok (.aload_n 0, 1) := edX5_workOut_64.2.2.2.2.2.2.2.2.2.2.2.2.2.2.2.2.2.2.2.2.2.2.1
theorem dX5_workOut_109 : decode cX5_workOut 109 = .ok (.getfield 26, 3) := edX5_workOut_64.2.2.2.2.2.2.2.2.2.2.2.2.2.2.2.2.2.2.2.2.2.2.2.1
theorem dX5_workOut_112 : decode cX5_workOut 112 = .ok (.iload 4, 2) := edX5_workOut_64.2.2.2.2.2.2.2.2.2.2.2.2.2.2.2.2.2.2.2.2.2.2.2.2.1
theorem dX5_workOut_114 : decode cX5_workOut 114 = .ok (.iconst 1, 1) := edX5_workOut_64.2.2.2.2.2.2.2.2.2.2.2.2.2.2.2.2.2.2.2.2.2.2.2.2.2.1
theorem dX5_workOut_115 : decode cX5_workOut 115 = .ok (.isub, 1) := edX5_workOut_64.2.2.2.2.2.2.2.2.2.2.2.2.2.2.2.2.2.2.2.2.2.2.2.2.2.2.1
theorem dX5_workOut_116 : decode cX5_workOut 116 = .ok (.iaload, 1) := edX5_workOut_64.2.2.2.2.2.2.2.2.2.2.2.2.2.2.2.2.2.2.2.2.2.2.2.2.2.2.2.1
theorem dX5_workOut_117 : decode cX5_workOut 117 = .ok (.ifCond .ne 7, 3) := edX5_workOut_64.2.2.2.2.2.2.2.2.2.2.2.2.2.2.2.2.2.2.2.2.2.2.2.2.2.2.2.2.1
theorem dX5_workOut_120 : decode cX5_workOut 120 = .ok (.iconst 1, 1) := edX5_workOut_64.2.2.2.2.2.2.2.2.2.2.2.2.2.2.2.2.2.2.2.2.2.2.2.2.2.2.2.2.2.1
theorem dX5_workOut_121 : decode cX5_workOut 121 = .ok (.goto 4, 3) := edX5_workOut_64.2.2.2.2.2.2.2.2.2.2.2.2.2.2.2.2.2.2.2.2.2.2.2.2.2.2.2.2.2.2.1
theorem dX5_workOut_124 : decode cX5_workOut 124 = .ok (.iconst 0, 1) := edX5_workOut_64.2.2.2.2.2.2.2.2.2.2.2.2.2.2.2.2.2.2.2.2.2.2.2.2.2.2.2.2.2.2.2.1
theorem edX5_workOut_125 : (decode cX5_workOut 125 = .ok (.iastore, 1)) ∧ (decode cX5_workOut 126 = .ok (.goto 43, 3)) ∧ (decode cX5_workOut 129 = .ok (.iload 4, 2)) ∧ (decode cX5_workOut 131 = .ok (.iconst 2, 1)) ∧ (decode cX5_workOut 132 = .ok (.if_icmp .lt 37, 3)) ∧ (decode cX5_workOut 135 = .ok (.iinc 4 (-1), 3)) ∧ (decode cX5_workOut 138 = .ok (.aload_n 0, 1)) ∧ (decode cX5_workOut 139 = .ok (.getfield 26, 3)) ∧ (decode cX5_workOut 142 = .ok (.iload 4, 2)) ∧ (decode cX5_workOut 144 = .ok (.iconst 1, 1)) ∧ (decode cX5_workOut 145 = .ok (.isub, 1)) ∧ (decode cX5_workOut 146 = .ok (.iload 6, 2)) ∧ (decode cX5_workOut 148 = .ok (.ineg, 1)) ∧ (decode cX5_workOut 149 = .ok (.aload_n 0, 1)) ∧ (decode cX5_workOut 150 = .ok (.getfield 26, 3)) ∧ (decode cX5_workOut 153 = .ok (.iload 4, 2)) ∧ (decode cX5_workOut 155 = .ok (.iconst 1, 1)) ∧ (decode cX5_workOut 156 = .ok (.isub, 1)) ∧ (decode cX5_workOut 157 = .ok (.iaload, 1)) ∧ (decode cX5_workOut 158 = .ok (.aload_n 0, 1)) ∧ (decode cX5_workOut 159 = .ok (.getfield 26, 3)) ∧ (decode cX5_workOut 162 = .ok (.iload 4, 2)) ∧ (decode cX5_workOut 164 = .ok (.iaload, 1)) ∧ (decode cX5_workOut 165 = .ok (.invokestatic 29, 3)) ∧ (decode cX5_workOut 168 = .ok (.iastore, 1)) ∧ (decode cX5_workOut 169 = .ok (.iinc 5 1, 3)) ∧ (decode cX5_workOut 172 = .ok (.goto (-166), 3)) ∧ (decode cX5_workOut 175 = .ok (.aload_n 0, 1)) ∧ (decode cX5_workOut 176 = .ok (.getfield 26, 3)) ∧ (decode cX5_workOut 179 = .ok (.iconst 0, 1)) ∧ (decode cX5_workOut 180 = .ok (.iaload, 1)) ∧ (decode cX5_workOut 181 = .ok (.ireturn, 1)) ∧ True := dc_cj [(125, .iastore, 1), (126, .goto 43, 3), (129, .iload 4, 2), (131, .iconst 2, 1), (132, .if_icmp .lt 37, 3), (135, .iinc 4 (-1), 3), (138, .aload_n 0, 1), (139, .getfield 26, 3), (142, .iload 4, 2), (144, .iconst 1, 1), (145, .isub, 1), (146, .iload 6, 2), (148, .ineg, 1), (149, .aload_n 0, 1), (150, .getfield 26, 3), (153, .iload 4, 2), (155, .iconst 1, 1), (156, .isub, 1), (157, .iaload, 1), (158, .aload_n 0, 1), (159, .getfield 26, 3), (162, .iload 4, 2), (164, .iaload, 1), (165, .invokestatic 29, 3), (168, .iastore, 1), (169, .iinc 5 1, 3), (172, .goto (-166), 3), (175, .aload_n 0, 1), (176, .getfield 26, 3), (179, .iconst 0, 1), (180, .iaload, 1), (181, .ireturn, 1)] (by decide +kernel)
theorem dX5_workOut_125 : decode cX5_workOut 125 = .ok (.iastore, 1) := edX5_workOut_125.1
theorem dX5_workOut_126 : decode cX5_workOut 126 = .ok (.goto 43, 3) := edX5_workOut_125.2.1
theorem dX5_workOut_129 : decode cX5_workOut 129 = .ok (.iload 4, 2) := edX5_workOut_125.2.2.1
theorem dX5_workOut_131 : decode cX5_workOut 131 = .ok (.iconst 2, 1) := edX5_workOut_125.2.2.2.1
theorem dX5_workOut_132 : decode cX5_workOut 132 = .ok (.if_icmp .lt 37, 3) := edX5_workOut_125.2.2.2.2.1
theorem dX5_workOut_135 : decode cX5_workOut 135 = .ok (.iinc 4 (-1), 3) := edX5_workOut_125.2.2.2.2.2.1
theorem dX5_workOut_138 : decode cX5_workOut 138 = .ok (.aload_n 0, 1) := edX5_workOut_125.2.2.2.2.2.2.1
theorem dX5_workOut_139 : decode cX5_workOut 139 = .ok (.getfield 26, 3) := edX5_workOut_125.2.2.2.2.2.2.2.1
theorem dX5_workOut_142 : decode cX5_workOut 142 = .ok (.iload 4, 2) := edX5_workOut_125.2.2.2.2.2.2.2.2.1
theorem dX5_workOut_144 : decode cX5_workOut 144 = .ok (.iconst 1, 1) := edX5_workOut_125.2.2.2.2.2.2.2.2.2.1
theorem dX5_workOut_145 : decode cX5_workOut 145 = .ok (.isub, 1) := edX5_workOut_125.2.2.2.2.2.2.2.2.2.2.1
theorem dX5_workOut_146 : decode cX5_workOut 146 = .ok (.iload 6, 2) := edX5_workOut_125.2.2.2.2.2.2.2.2.2.2.2.1
theorem dX5_workOut_148 : decode cX5_workOut 148 = .ok (.ineg, 1) := edX5_workOut_125.2.2.2.2.2.2.2.2.2.2.2.2.1
theorem dX5_workOut_149 : decode cX5_workOut 149 = .ok (.aload_n 0, 1) := edX5_workOut_125.2.2.2.2.2.2.2.2.2.2.2.2.2.1
theorem dX5_workOut_150 : decode cX5_workOut 150 = .ok (.getfield 26, 3) := edX5_workOut_125.2.2.2.2.2.2.2.2.2.2.2.2.2.2.1
theorem dX5_workOut_153 : decode cX5_workOut 153 = .ok (.iload 4, 2) := edX5_workOut_125.2.2.2.2.2.2.2.2.2.2.2.2.2.2.2.1
theorem dX5_workOut_155 : decode cX5_workOut 155 = .ok (.iconst 1, 1) := edX5_workOut_125.2.2.2.2.2.2.2.2.2.2.2.2.2.2.2.2.1
theorem dX5_workOut_156 : decode cX5_workOut 156 = .ok (.isub, 1) := edX5_workOut_125.2.2.2.2.2.2.2.2.2.2.2.2.2.2.2.2.2.1
theorem dX5_workOut_157 : decode cX5_workOut 157 = .ok (.iaload, 1) := edX5_workOut_125.2.2.2.2.2.2.2.2.2.2.2.2.2.2.2.2.2.2.1
theorem dX5_workOut_158 : decode cX5_workOut 158 = .ok (.aload_n 0, 1) := edX5_workOut_125.2.2.2.2.2.2.2.2.2.2.2.2.2.2.2.2.2.2.2.1
theorem dX5_workOut_159 : decode cX5_workOut 159 = .ok (.getfield 26, 3) := edX5_workOut_125.2.2.2.2.2.2.2.2.2.2.2.2.2.2.2.2.2.2.2.2.1
theorem dX5_workOut_162 : decode cX5_workOut 162 = .ok (.iload 4, 2) := edX5_workOut_125.2.2.2.2.2.2.2.2.2.2.2.2.2.2.2.2.2.2.2.2.2.1
theorem dX5_workOut_164 : decode cX5_workOut 164 = .ok (.iaload, 1) := edX5_workOut_125.2.2.2.2.2.2.2.2.2.2.2.2.2.2.2.2.2.2.2.2.2.2.1
theorem dX5_workOut_165 : decode cX5_workOut 165 = .ok (.invokestatic 29, 3) := edX5_workOut_125.2.2.2.2.2.2.2.2.2.2.2.2.2.2.2.2.2.2.2.2.2.2.2.1
theorem dX5_workOut_168 : decode cX5_workOut 168 = .ok (.iastore, 1) := edX5_workOut_125.2.2.2.2.2.2.2.2.2.2.2.2.2.2.2.2.2.2.2.2.2.2.2.2.1
theorem dX5_workOut_169 : decode cX5_workOut 169 = .ok (.iinc 5 1, 3) := edX5_workOut_125.2.2.2.2.2.2.2.2.2.2.2.2.2.2.2.2.2.2.2.2.2.2.2.2.2.1
theorem dX5_workOut_172 : decode cX5_workOut 172 = .ok (.goto (-166), 3) := edX5_workOut_125.2.2.2.2.2.2.2.2.2.2.2.2.2.2.2.2.2.2.2.2.2.2.2.2.2.2.1
theorem dX5_workOut_175 : decode cX5_workOut 175 = .ok (.aload_n 0, 1) := edX5_workOut_125.2.2.2.2.2.2.2.2.2.2.2.2.2.2.2.2.2.2.2.2.2.2.2.2.2.2.2.1
theorem dX5_workOut_176 : decode cX5_workOut 176 = .ok (.getfield 26, 3) := edX5_workOut_125.2.2.2.2.2.2.2.2.2.2.2.2.2.2.2.2.2.2.2.2.2.2.2.2.2.2.2.2.1
theorem dX5_workOut_179 : decode cX5_workOut 179 = .ok (.iconst 0, 1) := edX5_workOut_125.2.2.2.2.2.2.2.2.2.2.2.2.2.2.2.2.2.2.2.2.2.2.2.2.2.2.2.2.2.1
theorem dX5_workOut_180 : decode cX5_workOut 180 = .ok (.iaload, 1) := edX5_workOut_125.2.2.2.2.2.2.2.2.2.2.2.2.2.2.2.2.2.2.2.2.2.2.2.2.2.2.2.2.2.2.1
theorem dX5_workOut_181 : decode cX5_workOut 181 = .ok (.ireturn, 1) := edX5_workOut_125.2.2.2.2.2.2.2.2.2.2.2.2.2.2.2.2.2.2.2.2.2.2.2.2.2.2.2.2.2.2.2.1
theorem edX5_join_0 : (decode cX5_join 0 = .ok (.iload_n 0, 1)) ∧ (decode cX5_join 1 = .ok (.lookupswitch 168 #[(38, 140), (42, 91), (43, 83), (45, 87), (47, 95), (60, 107), (61, 118), (62, 129), (124, 154)], 83)) ∧ (decode cX5_join 84 = .ok (.iload_n 1, 1)) ∧ (decode cX5_join 85 = .ok (.iload_n 2, 1)) ∧ (decode cX5_join 86 = .ok (.iadd, 1)) ∧ (decode cX5_join 87 = .ok (.ireturn, 1)) ∧ (decode cX5_join 88 = .ok (.iload_n 1, 1)) ∧ (decode cX5_join 89 = .ok (.iload_n 2, 1)) ∧ (decode cX5_join 90 = .ok (.isub, 1)) ∧ (decode cX5_join 91 = .ok (.ireturn, 1)) ∧ (decode cX5_join 92 = .ok (.iload_n 1, 1)) ∧ (decode cX5_join 93 = .ok (.iload_n 2, 1)) ∧ (decode cX5_join 94 = .ok (.imul, 1)) ∧ (decode cX5_join 95 = .ok (.ireturn, 1)) ∧ (decode cX5_join 96 = .ok (.iload_n 2, 1)) ∧ (decode cX5_join 97 = .ok (.ifCond .ne 7, 3)) ∧ (decode cX5_join 100 = .ok (.iconst 0, 1)) ∧ (decode cX5_join 101 = .ok (.goto 6, 3)) ∧ (decode cX5_join 104 = .ok (.iload_n 1, 1)) ∧ (decode cX5_join 105 = .ok (.iload_n 2, 1)) ∧ (decode cX5_join 106 = .ok (.idiv, 1)) ∧ (decode cX5_join 107 = .ok (.ireturn, 1)) ∧ (decode cX5_join 108 = .ok (.iload_n 1, 1)) ∧ (decode cX5_join 109 = .ok (.iload_n 2, 1)) ∧ (decode cX5_join 110 = .ok (.if_icmp .ge 7, 3)) ∧ (decode cX5_join 113 = .ok (.iconst 1, 1)) ∧ (decode cX5_join 114 = .ok (.goto 4, 3)) ∧ (decode cX5_join 117 = .ok (.iconst 0, 1)) ∧ (decode cX5_join 118 = .ok (.ireturn, 1)) ∧ (decode cX5_join 119 = .ok (.iload_n 1, 1)) ∧ (decode cX5_join 120 = .ok (.iload_n 2, 1)) ∧ (decode cX5_join 121 = .ok (.if_icmp .ne 7, 3)) ∧ True := dc_cj [(0, .iload_n 0, 1), (1, .lookupswitch 168 #[(38, 140), (42, 91), (43, 83), (45, 87), (47, 95), (60, 107), (61, 118), (62, 129), (124, 154)], 83), (84, .iload_n 1, 1), (85, .iload_n 2, 1), (86, .iadd, 1), (87, .ireturn, 1), (88, .iload_n 1, 1), (89, .iload_n 2, 1), (90, .isub, 1), (91, .ireturn, 1), (92, .iload_n 1, 1), (93, .iload_n 2, 1), (94, .imul, 1), (95, .ireturn, 1), (96, .iload_n 2, 1), (97, .ifCond .ne 7, 3), (100, .iconst 0, 1), (101, .goto 6, 3), (104, .iload_n 1, 1), (105, .iload_n 2, 1), (106, .idiv, 1), (107, .ireturn, 1), (108, .iload_n 1, 1), (109, .iload_n 2, 1), (110, .if_icmp .ge 7, 3), (113, .iconst 1, 1), (114, .goto 4, 3), (117, .iconst 0, 1), (118, .ireturn, 1), (119, .iload_n 1, 1), (120, .iload_n 2, 1), (121, .if_icmp .ne 7, 3)] (by decide +kernel)
theorem dX5_join_0 : decode cX5_join 0 = .ok (.iload_n 0, 1) := edX5_join_0.1
theorem dX5_join_1 : decode cX5_join 1 = .ok (.lookupswitch 168 #[(38, 140), (42, 91), (43, 83), (45, 87), (47, 95), (60, 107), (61, 118), (62, 129), (124, 154)], 83) := edX5_join_0.2.1
theorem dX5_join_84 : decode cX5_join 84 = .ok (.iload_n 1, 1) := edX5_join_0.2.2.1
theorem dX5_join_85 : decode cX5_join 85 = .ok (.iload_n 2, 1) := edX5_join_0.2.2.2.1
theorem dX5_join_86 : decode cX5_join 86 = .ok (.iadd, 1) := edX5_join_0.2.2.2.2.1
theorem dX5_join_87 : decode cX5_join 87 = .ok (.ireturn, 1) := edX5_join_0.2.2.2.2.2.1
theorem dX5_join_88 : decode cX5_join 88 = .ok (.iload_n 1, 1) := edX5_join_0.2.2.2.2.2.2.1
theorem dX5_join_89 : decode cX5_join 89 = .ok (.iload_n 2, 1) := edX5_join_0.2.2.2.2.2.2.2.1
theorem dX5_join_90 : decode cX5_join 90 = .ok (.isub, 1) := edX5_join_0.2.2.2.2.2.2.2.2.1
theorem dX5_join_91 : decode cX5_join 91 = .ok (.ireturn, 1) := edX5_join_0.2.2.2.2.2.2.2.2.2.1
theorem dX5_join_92 : decode cX5_join 92 = .ok (.iload_n 1, 1) := edX5_join_0.2.2.2.2.2.2.2.2.2.2.1
theorem dX5_join_93 : decode cX5_join 93 = .ok (.iload_n 2, 1) := edX5_join_0.2.2.2.2.2.2.2.2.2.2.2.1
theorem dX5_join_94 : decode cX5_join 94 = .ok (.imul, 1) := edX5_join_0.2.2.2.2.2.2.2.2.2.2.2.2.1
theorem dX5_join_95 : decode cX5_join 95 = .ok (.ireturn, 1) := edX5_join_0.2.2.2.2.2.2.2.2.2.2.2.2.2.1
theorem dX5_join_96 : decode cX5_join 96 = .ok (.iload_n 2, 1) := edX5_join_0.2.2.2.2.2.2.2.2.2.2.2.2.2.2.1
theorem dX5_join_97 : decode cX5_join 97 = .ok (.ifCond .ne 7, 3) := edX5_join_0.2.2.2.2.2.2.2.2.2.2.2.2.2.2.2.1
theorem dX5_join_100 : decode cX5_join 100 = .ok (.iconst 0, 1) := edX5_join_0.2.2.2.2.2.2.2.2.2.2.2.2.2.2.2.2.1
theorem dX5_join_101 : decode cX5_join 101 = .ok (.goto 6, 3) := edX5_join_0.2.2.2.2.2.2.2.2.2.2.2.2.2.2.2.2.2.1
theorem dX5_join_104 : decode cX5_join 104 = .ok (.iload_n 1, 1) := edX5_join_0.2.2.2.2.2.2.2.2.2.2.2.2.2.2.2.2.2.2.1
theorem dX5_join_105 : decode cX5_join 105 = .ok (.iload_n 2, 1) := edX5_join_0.2.2.2.2.2.2.2.2.2.2.2.2.2.2.2.2.2.2.2.1
theorem dX5_join_106 : decode cX5_join 106 = .ok (.idiv, 1) := edX5_join_0.2.2.2.2.2.2.2.2.2.2.2.2.2.2.2.2.2.2.2.2.1
theorem dX5_join_107 : decode cX5_join 107 = .ok (.ireturn, 1) := edX5_join_0.2.2.2.2.2.2.2.2.2.2.2.2.2.2.2.2.2.2.2.2.2.1
theorem dX5_join_108 : decode cX5_join 108 = .ok (.iload_n 1, 1) := edX5_join_0.2.2.2.2.2.2.2.2.2.2.2.2.2.2.2.2.2.2.2.2.2.2.1
theorem dX5_join_109 : decode cX5_join 109 = .ok (.iload_n 2, 1) := edX5_join_0.2.2.2.2.2.2.2.2.2.2.2.2.2.2.2.2.2.2.2.2.2.2.2.1
theorem dX5_join_110 : decode cX5_join 110 = .ok (.if_icmp .ge 7, 3) := edX5_join_0.2.2.2.2.2.2.2.2.2.2.2.2.2.2.2.2.2.2.2.2.2.2.2.2.1
theorem dX5_join_113 : decode cX5_join 113 = .ok (.iconst 1, 1) := edX5_join_0.2.2.2.2.2.2.2.2.2.2.2.2.2.2.2.2.2.2.2.2.2.2.2.2.2.1
theorem dX5_join_114 : decode cX5_join 114 = .ok (.goto 4, 3) := edX5_join_0.2.2.2.2.2.2.2.2.2.2.2.2.2.2.2.2.2.2.2.2.2.2.2.2.2.2.1
theorem dX5_join_117 : decode cX5_join 117 = .ok (.iconst 0, 1) := edX5_join_0.2.2.2.2.2.2.2.2.2.2.2.2.2.2.2.2.2.2.2.2.2.2.2.2.2.2.2.1
theorem dX5_join_118 : decode cX5_join 118 = .ok (.ireturn, 1) := edX5_join_0.2.2.2.2.2.2.2.2.2.2.2.2.2.2.2.2.2.2.2.2.2.2.2.2.2.2.2.2.1
theorem dX5_join_119 : decode cX5_join 119 = .ok (.iload_n 1, 1) := edX5_join_0.2.2.2.2.2.2.2.2.2.2.2.2.2.2.2.2.2.2.2.2.2.2.2.2.2.2.2.2.2.1
theorem dX5_join_120 : decode cX5_join 120 = .ok (.iload_n 2, 1) := edX5_join_0.2.2.2.2.2.2.2.2.2.2.2.2.2.2.2.2.2.2.2.2.2.2.2.2.2.2.2.2.2.2.1
theorem dX5_join_121 : decode cX5_join 121 = .ok (.if_icmp .ne 7, 3) := edX5_join_0.2.2.2.2.2.2.2.2.2.2.2.2.2.2.2.2.2.2.2.2.2.2.2.2.2.2.2.2.2.2.2.1
theorem edX5_join_124 : (decode cX5_join 124 = .ok (.iconst 1, 1)) ∧ (decode cX5_join 125 = .ok (.goto 4, 3)) ∧ (decode cX5_join 128 = .ok (.iconst 0, 1)) ∧ (decode cX5_join 129 = .ok (.ireturn, 1)) ∧ (decode cX5_join 130 = .ok (.iload_n 1, 1)) ∧ (decode cX5_join 131 = .ok (.iload_n 2, 1)) ∧ (decode cX5_join 132 = .ok (.if_icmp .le 7, 3)) ∧ (decode cX5_join 135 = .ok (.iconst 1, 1)) ∧ (decode cX5_join 136 = .ok (.goto 4, 3)) ∧ (decode cX5_join 139 = .ok (.iconst 0, 1)) ∧ (decode cX5_join 140 = .ok (.ireturn, 1)) ∧ (decode cX5_join 141 = .ok (.iload_n 1, 1)) ∧ (decode cX5_join 142 = .ok (.ifCond .eq 11, 3)) ∧ (decode cX5_join 145 = .ok (.iload_n 2, 1)) ∧ (decode cX5_join 146 = .ok (.ifCond .eq 7, 3)) ∧ (decode cX5_join 149 = .ok (.iconst 1, 1)) ∧ (decode cX5_join 150 = .ok (.goto 4, 3)) ∧ (decode cX5_join 153 = .ok (.iconst 0, 1)) ∧ (decode cX5_join 154 = .ok (.ireturn, 1)) ∧ (decode cX5_join 155 = .ok (.iload_n 1, 1)) ∧ (decode cX5_join 156 = .ok (.ifCond .ne 7, 3)) ∧ (decode cX5_join 159 = .ok (.iload_n 2, 1)) ∧ (decode cX5_join 160 = .ok (.ifCond .eq 7, 3)) ∧ (decode cX5_join 163 = .ok (.iconst 1, 1)) ∧ (decode cX5_join 164 = .ok (.goto 4, 3)) ∧ (decode cX5_join 167 = .ok (.iconst 0, 1)) ∧ (decode cX5_join 168 = .ok (.ireturn, 1)) ∧ (decode cX5_join 169 = .ok (.iconst 0, 1)) ∧ (decode cX5_join 170 = .ok (.ireturn, 1)) ∧ True := dc_cj [(124, .iconst 1, 1), (125, .goto 4, 3), (128, .iconst 0, 1), (129, .ireturn, 1), (130, .iload_n 1, 1), (131, .iload_n 2, 1), (132, .if_icmp .le 7, 3), (135, .iconst 1, 1), (136, .goto 4, 3), (139, .iconst 0, 1), (140, .ireturn, 1), (141, .iload_n 1, 1), (142, .ifCond .eq 11, 3), (145, .iload_n 2, 1), (146, .ifCond .eq 7, 3), (149, .iconst 1, 1), (150, .goto 4, 3), (153, .iconst 0, 1), (154, .ireturn, 1), (155, .iload_n 1, 1), (156, .ifCond .ne 7, 3), (159, .iload_n 2, 1), (160, .ifCond .eq 7, 3), (163, .iconst 1, 1), (164, .goto 4, 3), (167, .iconst 0, 1), (168, .ireturn, 1), (169, .iconst 0, 1), (170, .ireturn, 1)] (by decide +kernel)
theorem dX5_join_124 : decode cX5_join 124 = .ok (.iconst 1, 1) := edX5_join_124.1
theorem dX5_join_125 : decode cX5_join 125 = .ok (.goto 4, 3) := edX5_join_124.2.1
theorem dX5_join_128 : decode cX5_join 128 = .ok (.iconst 0, 1) := edX5_join_124.2.2.1
theorem dX5_join_129 : decode cX5_join 129 = .ok (.ireturn, 1) := edX5_join_124.2.2.2.1
theorem dX5_join_130 : decode cX5_join 130 = .ok (.iload_n 1, 1) := edX5_join_124.2.2.2.2.1
theorem dX5_join_131 : decode cX5_join 131 = .ok (.iload_n 2, 1) := edX5_join_124.2.2.2.2.2.1
theorem dX5_join_132 : decode cX5_join 132 = .ok (.if_icmp .le 7, 3) := edX5_join_124.2.2.2.2.2.2.1
theorem dX5_join_135 : decode cX5_join 135 = .ok (.iconst 1, 1) := edX5_join_124.2.2.2.2.2.2.2.1
theorem dX5_join_136 : decode cX5_join 136 = .ok (.goto 4, 3) := edX5_join_124.2.2.2.2.2.2.2.2.1
theorem dX5_join_139 : decode cX5_join 139 = .ok (.iconst 0, 1) := edX5_join_124.2.2.2.2.2.2.2.2.2.1
theorem dX5_join_140 : decode cX5_join 140 = .ok (.ireturn, 1) := edX5_join_124.2.2.2.2.2.2.2.2.2.2.1
theorem dX5_join_141 : decode cX5_join 141 = .ok (.iload_n 1, 1) := edX5_join_124.2.2.2.2.2.2.2.2.2.2.2.1
theorem dX5_join_142 : decode cX5_join 142 = .ok (.ifCond .eq 11, 3) := edX5_join_124.2.2.2.2.2.2.2.2.2.2.2.2.1
theorem dX5_join_145 : decode cX5_join 145 = .ok (.iload_n 2, 1) := edX5_join_124.2.2.2.2.2.2.2.2.2.2.2.2.2.1
theorem dX5_join_146 : decode cX5_join 146 = .ok (.ifCond .eq 7, 3) := edX5_join_124.2.2.2.2.2.2.2.2.2.2.2.2.2.2.1
theorem dX5_join_149 : decode cX5_join 149 = .ok (.iconst 1, 1) := edX5_join_124.2.2.2.2.2.2.2.2.2.2.2.2.2.2.2.1
theorem dX5_join_150 : decode cX5_join 150 = .ok (.goto 4, 3) := edX5_join_124.2.2.2.2.2.2.2.2.2.2.2.2.2.2.2.2.1
theorem dX5_join_153 : decode cX5_join 153 = .ok (.iconst 0, 1) := edX5_join_124.2.2.2.2.2.2.2.2.2.2.2.2.2.2.2.2.2.1
theorem dX5_join_154 : decode cX5_join 154 = .ok (.ireturn, 1) := edX5_join_124.2.2.2.2.2.2.2.2.2.2.2.2.2.2.2.2.2.2.1
theorem dX5_join_155 : decode cX5_join 155 = .ok (.iload_n 1, 1) := edX5_join_124.2.2.2.2.2.2.2.2.2.2.2.2.2.2.2.2.2.2.2.1
theorem dX5_join_156 : decode cX5_join 156 = .ok (.ifCond .ne 7, 3) := edX5_join_124.2.2.2.2.2.2.2.2.2.2.2.2.2.2.2.2.2.2.2.2.1
theorem dX5_join_159 : decode cX5_join 159 = .ok (.iload_n 2, 1) := edX5_join_124.2.2.2.2.2.2.2.2.2.2.2.2.2.2.2.2.2.2.2.2.2.1
theorem dX5_join_160 : decode cX5_join 160 = .ok (.ifCond .eq 7, 3) := edX5_join_124.2.2.2.2.2.2.2.2.2.2.2.2.2.2.2.2.2.2.2.2.2.2.1
theorem dX5_join_163 : decode cX5_join 163 = .ok (.iconst 1, 1) := edX5_join_124.2.2.2.2.2.2.2.2.2.2.2.2.2.2.2.2.2.2.2.2.2.2.2.1
theorem dX5_join_164 : decode cX5_join 164 = .ok (.goto 4, 3) := edX5_join_124.2.2.2.2.2.2.2.2.2.2.2.2.2.2.2.2.2.2.2.2.2.2.2.2.1
theorem dX5_join_167 : decode cX5_join 167 = .ok (.iconst 0, 1) := edX5_join_124.2.2.2.2.2.2.2.2.2.2.2.2.2.2.2.2.2.2.2.2.2.2.2.2.2.1
theorem dX5_join_168 : decode cX5_join 168 = .ok (.ireturn, 1) := edX5_join_124.2.2.2.2.2.2.2.2.2.2.2.2.2.2.2.2.2.2.2.2.2.2.2.2.2.2.1
theorem dX5_join_169 : decode cX5_join 169 = .ok (.iconst 0, 1) := edX5_join_124.2.2.2.2.2.2.2.2.2.2.2.2.2.2.2.2.2.2.2.2.2.2.2.2.2.2.2.1
theorem dX5_join_170 : decode cX5_join 170 = .ok (.ireturn, 1) := edX5_join_124.2.2.2.2.2.2.2.2.2.2.2.2.2.2.2.2.2.2.2.2.2.2.2.2.2.2.2.2.1
theorem edX6_init_0 : (decode cX6_init 0 = .ok (.aload_n 0, 1)) ∧ (decode cX6_init 1 = .ok (.invokespecial 3, 3)) ∧ (decode cX6_init 4 = .ok (.aload_n 0, 1)) ∧ (decode cX6_init 5 = .ok (.iconst 4, 1)) ∧ (decode cX6_init 6 = .ok (.newarray .int, 2)) ∧ (decode cX6_init 8 = .ok (.putfield 9, 3)) ∧ (decode cX6_init 11 = .ok (.aload_n 0, 1)) ∧ (decode cX6_init 12 = .ok (.iconst 0, 1)) ∧ (decode cX6_init 13 = .ok (.putfield 15, 3)) ∧ (decode cX6_init 16 = .ok (.aload_n 0, 1)) ∧ (decode cX6_init 17 = .ok (.iconst 0, 1)) ∧ (decode cX6_init 18 = .ok (.putfield 19, 3)) ∧ (decode cX6_init 21 = .ok (.return_, 1)) ∧ True := dc_cj [(0, .aload_n 0, 1), (1, .invokespecial 3, 3), (4, .aload_n 0, 1), (5, .iconst 4, 1), (6, .newarray .int, 2), (8, .putfield 9, 3), (11, .aload_n 0, 1), (12, .iconst 0, 1), (13, .putfield 15, 3), (16, .aload_n 0, 1), (17, .iconst 0, 1), (18, .putfield 19, 3), (21, .return_, 1)] (by decide +kernel)
theorem dX6_init_0 : decode cX6_init 0 = .ok (.aload_n 0, 1) := edX6_init_0.1
theorem dX6_init_1 : decode cX6_init 1 = .ok (.invokespecial 3, 3) := edX6_init_0.2.1
theorem dX6_init_4 : decode cX6_init 4 = .ok (.aload_n 0, 1) := edX6_init_0.2.2.1
theorem dX6_init_5 : decode cX6_init 5 = .ok (.iconst 4, 1) := edX6_init_0.2.2.2.1
theorem dX6_init_6 : decode cX6_init 6 = .ok (.newarray .int, 2) := edX6_init_0.2.2.2.2.1
theorem dX6_init_8 : decode cX6_init 8 = .ok (.putfield 9, 3) := edX6_init_0.2.2.2.2.2.1
theorem dX6_init_11 : decode cX6_init 11 = .ok (.aload_n 0, 1) := edX6_init_0.2.2.2.2.2.2.1
theorem dX6_init_12 : decode cX6_init 12 = .ok (.iconst 0, 1) := edX6_init_0.2.2.2.2.2.2.2.1
theorem dX6_init_13 : decode cX6_init 13 = .ok (.putfield 15, 3) := edX6_init_0.2.2.2.2.2.2.2.2.1
theorem dX6_init_16 : decode cX6_init 16 = .ok (.aload_n 0, 1) := edX6_init_0.2.2.2.2.2.2.2.2.2.1
theorem dX6_init_17 : decode cX6_init 17 = .ok (.iconst 0, 1) := edX6_init_0.2.2.2.2.2.2.2.2.2.2.1
theorem dX6_init_18 : decode cX6_init 18 = .ok (.putfield 19, 3) := edX6_init_0.2.2.2.2.2.2.2.2.2.2.2.1
theorem dX6_init_21 : decode cX6_init 21 = .ok (.return_, 1) := edX6_init_0.2.2.2.2.2.2.2.2.2.2.2.2.1
theorem edX6_countTaken_0 : (decode cX6_countTaken 0 = .ok (.iconst 0, 1)) ∧ (decode cX6_countTaken 1 = .ok (.istore_n 2, 1)) ∧ (decode cX6_countTaken 2 = .ok (.aload_n 0, 1)) ∧ (decode cX6_countTaken 3 = .ok (.aload_n 1, 1)) ∧ (decode cX6_countTaken 4 = .ok (.invokevirtual 22, 3)) ∧ (decode cX6_countTaken 7 = .ok (.iconst 0, 1)) ∧ (decode cX6_countTaken 8 = .ok (.istore_n 3, 1)) ∧ (decode cX6_countTaken 9 = .ok (.iload_n 3, 1)) ∧ (decode cX6_countTaken 10 = .ok (.sipush 10000, 3)) ∧ (decode cX6_countTaken 13 = .ok (.if_icmp .ge 25, 3)) ∧ (decode cX6_countTaken 16 = .ok (.aload_n 0, 1)) ∧ (decode cX6_countTaken 17 = .ok (.aload_n 1, 1)) ∧ (decode cX6_countTaken 18 = .ok (.invokevirtual 26, 3)) ∧ (decode cX6_countTaken 21 = .ok (.ifCond .lt 6, 3)) ∧ (decode cX6_countTaken 24 = .ok (.iinc 2 1, 3)) ∧ (decode cX6_countTaken 27 = .ok (.aload_n 0, 1)) ∧ (decode cX6_countTaken 28 = .ok (.aload_n 1, 1)) ∧ (decode cX6_countTaken 29 = .ok (.invokevirtual 30, 3)) ∧ (decode cX6_countTaken 32 = .ok (.iinc 3 1, 3)) ∧ (decode cX6_countTaken 35 = .ok (.goto (-26), 3)) ∧ (decode cX6_countTaken 38 = .ok (.iload_n 2, 1)) ∧ (decode cX6_countTaken 39 = .ok (.ireturn, 1)) ∧ True := dc_cj [(0, .iconst 0, 1), (1, .istore_n 2, 1), (2, .aload_n 0, 1), (3, .aload_n 1, 1), (4, .invokevirtual 22, 3), (7, .iconst 0, 1), (8, .istore_n 3, 1), (9, .iload_n 3, 1), (10, .sipush 10000, 3), (13, .if_icmp .ge 25, 3), (16, .aload_n 0, 1), (17, .aload_n 1, 1), (18, .invokevirtual 26, 3), (21, .ifCond .lt 6, 3), (24, .iinc 2 1, 3), (27, .aload_n 0, 1), (28, .aload_n 1, 1), (29, .invokevirtual 30, 3), (32, .iinc 3 1, 3), (35, .goto (-26), 3), (38, .iload_n 2, 1), (39, .ireturn, 1)] (by decide +kernel)
theorem dX6_countTaken_0 : decode cX6_countTaken 0 = .ok (.iconst 0, 1) := edX6_countTaken_0.1
theorem dX6_countTaken_1 : decode cX6_countTaken 1 = .ok (.istore_n 2, 1) := edX6_countTaken_0.2.1
theorem dX6_countTaken_2 : decode cX6_countTaken 2 = .ok (.aload_n 0, 1) := edX6_countTaken_0.2.2.1
theorem dX6_countTaken_3 : decode cX6_countTaken 3 = .ok (.aload_n 1, 1) := edX6_countTaken_0.2.2.2.1
theorem dX6_countTaken_4 : decode cX6_countTaken 4 = .ok (.invokevirtual 22, 3) := edX6_countTaken_0.2.2.2.2.1
theorem dX6_countTaken_7 : decode cX6_countTaken 7 = .ok (.iconst 0, 1) := edX6_countTaken_0.2.2.2.2.2.1
theorem dX6_countTaken_8 : decode cX6_countTaken 8 = .ok (.istore_n 3, 1) := edX6_countTaken_0.2.2.2.2.2.2.1
theorem dX6_countTaken_9 : decode cX6_countTaken 9 = .ok (.iload_n 3, 1) := edX6_countTaken_0.2.2.2.2.2.2.2.1
theorem dX6_countTaken_10 : decode cX6_countTaken 10 = .ok (.sipush 10000, 3) := edX6_countTaken_0.2.2.2.2.2.2.2.2.1
theorem dX6_countTaken_13 : decode cX6_countTaken 13 = .ok (.if_icmp .ge 25, 3) := edX6_countTaken_0.2.2.2.2.2.2.2.2.2.1
theorem dX6_countTaken_16 : decode cX6_countTaken 16 = .ok (.aload_n 0, 1) := edX6_countTaken_0.2.2.2.2.2.2.2.2.2.2.1
theorem dX6_countTaken_17 : decode cX6_countTaken 17 = .ok (.aload_n 1, 1) := edX6_countTaken_0.2.2.2.2.2.2.2.2.2.2.2.1
theorem dX6_countTaken_18 : decode cX6_countTaken 18 = .ok (.invokevirtual 26, 3) := edX6_countTaken_0.2.2.2.2.2.2.2.2.2.2.2.2.1
theorem dX6_countTaken_21 : decode cX6_countTaken 21 = .ok (.ifCond .lt 6, 3) := edX6_countTaken_0.2.2.2.2.2.2.2.2.2.2.2.2.2.1
theorem dX6_countTaken_24 : decode cX6_countTaken 24 = .ok (.iinc 2 1, 3) := edX6_countTaken_0.2.2.2.2.2.2.2.2.2.2.2.2.2.2.1
theorem dX6_countTaken_27 : decode cX6_countTaken 27 = .ok (.aload_n 0, 1) := edX6_countTaken_0.2.2.2.2.2.2.2.2.2.2.2.2.2.2.2.1
theorem dX6_countTaken_28 : decode cX6_countTaken 28 = .ok (.aload_n 1, 1) := edX6_countTaken_0.2.2.2.2.2.2.2.2.2.2.2.2.2.2.2.2.1
theorem dX6_countTaken_29 : decode cX6_countTaken 29 = .ok (.invokevirtual 30, 3) := edX6_countTaken_0.2.2.2.2.2.2.2.2.2.2.2.2.2.2.2.2.2.1
theorem dX6_countTaken_32 : decode cX6_countTaken 32 = .ok (.iinc 3 1, 3) := edX6_countTaken_0.2.2.2.2.2.2.2.2.2.2.2.2.2.2.2.2.2.2.1
theorem dX6_countTaken_35 : decode cX6_countTaken 35 = .ok (.goto (-26), 3) := edX6_countTaken_0.2.2.2.2.2.2.2.2.2.2.2.2.2.2.2.2.2.2.2.1
theorem dX6_countTaken_38 : decode cX6_countTaken 38 = .ok (.iload_n 2, 1) := edX6_countTaken_0.2.2.2.2.2.2.2.2.2.2.2.2.2.2.2.2.2.2.2.2.1
theorem dX6_countTaken_39 : decode cX6_countTaken 39 = .ok (.ireturn, 1) := edX6_countTaken_0.2.2.2.2.2.2.2.2.2.2.2.2.2.2.2.2.2.2.2.2.2.1
theorem edX6_fairest_0 : (decode cX6_fairest 0 = .ok (.iconst (-1), 1)) ∧ (decode cX6_fairest 1 = .ok (.istore_n 2, 1)) ∧ (decode cX6_fairest 2 = .ok (.iconst (-1), 1)) ∧ (decode cX6_fairest 3 = .ok (.istore_n 3, 1)) ∧ (decode cX6_fairest 4 = .ok (.aload_n 0, 1)) ∧ (decode cX6_fairest 5 = .ok (.aload_n 1, 1)) ∧ (decode cX6_fairest 6 = .ok (.invokevirtual 22, 3)) ∧ (decode cX6_fairest 9 = .ok (.iconst 0, 1)) ∧ (decode cX6_fairest 10 = .ok (.istore 4, 2)) ∧ (decode cX6_fairest 12 = .ok (.iload 4, 2)) ∧ (decode cX6_fairest 14 = .ok (.sipush 10000, 3)) ∧ (decode cX6_fairest 17 = .ok (.if_icmp .ge 33, 3)) ∧ (decode cX6_fairest 20 = .ok (.aload_n 0, 1)) ∧ (decode cX6_fairest 21 = .ok (.aload_n 1, 1)) ∧ (decode cX6_fairest 22 = .ok (.invokevirtual 26, 3)) ∧ (decode cX6_fairest 25 = .ok (.istore 5, 2)) ∧ (decode cX6_fairest 27 = .ok (.iload 5, 2)) ∧ (decode cX6_fairest 29 = .ok (.iload_n 3, 1)) ∧ (decode cX6_fairest 30 = .ok (.if_icmp .le 9, 3)) ∧ (decode cX6_fairest 33 = .ok (.iload 4, 2)) ∧ (decode cX6_fairest 35 = .ok (.istore_n 2, 1)) ∧ (decode cX6_fairest 36 = .ok (.iload 5, 2)) ∧ (decode cX6_fairest 38 = .ok (.istore_n 3, 1)) ∧ (decode cX6_fairest 39 = .ok (.aload_n 0, 1)) ∧ (decode cX6_fairest 40 = .ok (.aload_n 1, 1)) ∧ (decode cX6_fairest 41 = .ok (.invokevirtual 30, 3)) ∧ (decode cX6_fairest 44 = .ok (.iinc 4 1, 3)) ∧ (decode cX6_fairest 47 = .ok (.goto (-35), 3)) ∧ (decode cX6_fairest 50 = .ok (.iload_n 2, 1)) ∧ (decode cX6_fairest 51 = .ok (.ireturn, 1)) ∧ True := dc_cj [(0, .iconst (-1), 1), (1, .istore_n 2, 1), (2, .iconst (-1), 1), (3, .istore_n 3, 1), (4, .aload_n 0, 1), (5, .aload_n 1, 1), (6, .invokevirtual 22, 3), (9, .iconst 0, 1), (10, .istore 4, 2), (12, .iload 4, 2), (14, .sipush 10000, 3), (17, .if_icmp .ge 33, 3), (20, .aload_n 0, 1), (21, .aload_n 1, 1), (22, .invokevirtual 26, 3), (25, .istore 5, 2), (27, .iload 5, 2), (29, .iload_n 3, 1), (30, .if_icmp .le 9, 3), (33, .iload 4, 2), (35, .istore_n 2, 1), (36, .iload 5, 2), (38, .istore_n 3, 1), (39, .aload_n 0, 1), (40, .aload_n 1, 1), (41, .invokevirtual 30, 3), (44, .iinc 4 1, 3), (47, .goto (-35), 3), (50, .iload_n 2, 1), (51, .ireturn, 1)] (by decide +kernel)
theorem dX6_fairest_0 : decode cX6_fairest 0 = .ok (.iconst (-1), 1) := edX6_fairest_0.1
theorem dX6_fairest_1 : decode cX6_fairest 1 = .ok (.istore_n 2, 1) := edX6_fairest_0.2.1
theorem dX6_fairest_2 : decode cX6_fairest 2 = .ok (.iconst (-1), 1) := edX6_fairest_0.2.2.1
theorem dX6_fairest_3 : decode cX6_fairest 3 = .ok (.istore_n 3, 1) := edX6_fairest_0.2.2.2.1
theorem dX6_fairest_4 : decode cX6_fairest 4 = .ok (.aload_n 0, 1) := edX6_fairest_0.2.2.2.2.1
theorem dX6_fairest_5 : decode cX6_fairest 5 = .ok (.aload_n 1, 1) := edX6_fairest_0.2.2.2.2.2.1
theorem dX6_fairest_6 : decode cX6_fairest 6 = .ok (.invokevirtual 22, 3) := edX6_fairest_0.2.2.2.2.2.2.1
theorem dX6_fairest_9 : decode cX6_fairest 9 = .ok (.iconst 0, 1) := edX6_fairest_0.2.2.2.2.2.2.2.1
theorem dX6_fairest_10 : decode cX6_fairest 10 = .ok (.istore 4, 2) := edX6_fairest_0.2.2.2.2.2.2.2.2.1
theorem dX6_fairest_12 : decode cX6_fairest 12 = .ok (.iload 4, 2) := edX6_fairest_0.2.2.2.2.2.2.2.2.2.1
theorem dX6_fairest_14 : decode cX6_fairest 14 = .ok (.sipush 10000, 3) := edX6_fairest_0.2.2.2.2.2.2.2.2.2.2.1
theorem dX6_fairest_17 : decode cX6_fairest 17 = .ok (.if_icmp .ge 33, 3) := edX6_fairest_0.2.2.2.2.2.2.2.2.2.2.2.1
theorem dX6_fairest_20 : decode cX6_fairest 20 = .ok (.aload_n 0, 1) := edX6_fairest_0.2.2.2.2.2.2.2.2.2.2.2.2.1
theorem dX6_fairest_21 : decode cX6_fairest 21 = .ok (.aload_n 1, 1) := edX6_fairest_0.2.2.2.2.2.2.2.2.2.2.2.2.2.1
theorem dX6_fairest_22 : decode cX6_fairest 22 = .ok (.invokevirtual 26, 3) := edX6_fairest_0.2.2.2.2.2.2.2.2.2.2.2.2.2.2.1
theorem dX6_fairest_25 : decode cX6_fairest 25 = .ok (.istore 5, 2) := edX6_fairest_0.2.2.2.2.2.2.2.2.2.2.2.2.2.2.2.1
theorem dX6_fairest_27 : decode cX6_fairest 27 = .ok (.iload 5, 2) := edX6_fairest_0.2.2.2.2.2.2.2.2.2.2.2.2.2.2.2.2.1
theorem dX6_fairest_29 : decode cX6_fairest 29 = .ok (.iload_n 3, 1) := edX6_fairest_0.2.2.2.2.2.2.2.2.2.2.2.2.2.2.2.2.2.1
theorem dX6_fairest_30 : decode cX6_fairest 30 = .ok (.if_icmp .le 9, 3) := edX6_fairest_0.2.2.2.2.2.2.2.2.2.2.2.2.2.2.2.2.2.2.1
theorem dX6_fairest_33 : decode cX6_fairest 33 = .ok (.iload 4, 2) := edX6_fairest_0.2.2.2.2.2.2.2.2.2.2.2.2.2.2.2.2.2.2.2.1
theorem dX6_fairest_35 : decode cX6_fairest 35 = .ok (.istore_n 2, 1) := edX6_fairest_0.2.2.2.2.2.2.2.2.2.2.2.2.2.2.2.2.2.2.2.2.1
theorem dX6_fairest_36 : decode cX6_fairest 36 = .ok (.iload 5, 2) := edX6_fairest_0.2.2.2.2.2.2.2.2.2.2.2.2.2.2.2.2.2.2.2.2.2.1
theorem dX6_fairest_38 : decode cX6_fairest 38 = .ok (.istore_n 3, 1) := edX6_fairest_0.2.2.2.2.2.2.2.2.2.2.2.2.2.2.2.2.2.2.2.2.2.2.1
theorem dX6_fairest_39 : decode cX6_fairest 39 = .ok (.aload_n 0, 1) := edX6_fairest_0.2.2.2.2.2.2.2.2.2.2.2.2.2.2.2.2.2.2.2.2.2.2.2.1
theorem dX6_fairest_40 : decode cX6_fairest 40 = .ok (.aload_n 1, 1) := edX6_fairest_0.2.2.2.2.2.2.2.2.2.2.2.2.2.2.2.2.2.2.2.2.2.2.2.2.1
theorem dX6_fairest_41 : decode cX6_fairest 41 = .ok (.invokevirtual 30, 3) := edX6_fairest_0.2.2.2.2.2.2.2.2.2.2.2.2.2.2.2.2.2.2.2.2.2.2.2.2.2.1
theorem dX6_fairest_44 : decode cX6_fairest 44 = .ok (.iinc 4 1, 3) := edX6_fairest_0.2.2.2.2.2.2.2.2.2.2.2.2.2.2.2.2.2.2.2.2.2.2.2.2.2.2.1
theorem dX6_fairest_47 : decode cX6_fairest 47 = .ok (.goto (-35), 3) := edX6_fairest_0.2.2.2.2.2.2.2.2.2.2.2.2.2.2.2.2.2.2.2.2.2.2.2.2.2.2.2.1
theorem dX6_fairest_50 : decode cX6_fairest 50 = .ok (.iload_n 2, 1) := edX6_fairest_0.2.2.2.2.2.2.2.2.2.2.2.2.2.2.2.2.2.2.2.2.2.2.2.2.2.2.2.2.1
theorem dX6_fairest_51 : decode cX6_fairest 51 = .ok (.ireturn, 1) := edX6_fairest_0.2.2.2.2.2.2.2.2.2.2.2.2.2.2.2.2.2.2.2.2.2.2.2.2.2.2.2.2.2.1
theorem edX6_nearest_0 : (decode cX6_nearest 0 = .ok (.iconst (-1), 1)) ∧ (decode cX6_nearest 1 = .ok (.istore_n 2, 1)) ∧ (decode cX6_nearest 2 = .ok (.iconst 0, 1)) ∧ (decode cX6_nearest 3 = .ok (.istore_n 3, 1)) ∧ (decode cX6_nearest 4 = .ok (.aload_n 0, 1)) ∧ (decode cX6_nearest 5 = .ok (.aload_n 1, 1)) ∧ (decode cX6_nearest 6 = .ok (.invokevirtual 22, 3)) ∧ (decode cX6_nearest 9 = .ok (.iconst 0, 1)) ∧ (decode cX6_nearest 10 = .ok (.istore 4, 2)) ∧ (decode cX6_nearest 12 = .ok (.iload 4, 2)) ∧ (decode cX6_nearest 14 = .ok (.sipush 10000, 3)) ∧ (decode cX6_nearest 17 = .ok (.if_icmp .ge 45, 3)) ∧ (decode cX6_nearest 20 = .ok (.aload_n 0, 1)) ∧ (decode cX6_nearest 21 = .ok (.aload_n 1, 1)) ∧ (decode cX6_nearest 22 = .ok (.invokevirtual 26, 3)) ∧ (decode cX6_nearest 25 = .ok (.ifCond .lt 26, 3)) ∧ (decode cX6_nearest 28 = .ok (.aload_n 0, 1)) ∧ (decode cX6_nearest 29 = .ok (.aload_n 1, 1)) ∧ (decode cX6_nearest 30 = .ok (.invokevirtual 33, 3)) ∧ (decode cX6_nearest 33 = .ok (.istore 5, 2)) ∧ (decode cX6_nearest 35 = .ok (.iload_n 2, 1)) ∧ (decode cX6_nearest 36 = .ok (.ifCond .lt 9, 3)) ∧ (decode cX6_nearest 39 = .ok (.iload 5, 2)) ∧ (decode cX6_nearest 41 = .ok (.iload_n 3, 1)) ∧ (decode cX6_nearest 42 = .ok (.if_icmp .ge 9, 3)) ∧ (decode cX6_nearest 45 = .ok (.iload 4, 2)) ∧ (decode cX6_nearest 47 = .ok (.istore_n 2, 1)) ∧ (decode cX6_nearest 48 = .ok (.iload 5, 2)) ∧ (decode cX6_nearest 50 = .ok (.istore_n 3, 1)) ∧ (decode cX6_nearest 51 = .ok (.aload_n 0, 1)) ∧ (decode cX6_nearest 52 = .ok (.aload_n 1, 1)) ∧ (decode cX6_nearest 53 = .ok (.invokevirtual 30, 3)) ∧ True := dc_cj [(0, .iconst (-1), 1), (1, .istore_n 2, 1), (2, .iconst 0, 1), (3, .istore_n 3, 1), (4, .aload_n 0, 1), (5, .aload_n 1, 1), (6, .invokevirtual 22, 3), (9, .iconst 0, 1), (10, .istore 4, 2), (12, .iload 4, 2), (14, .sipush 10000, 3), (17, .if_icmp .ge 45, 3), (20, .aload_n 0, 1), (21, .aload_n 1, 1), (22, .invokevirtual 26, 3), (25, .ifCond .lt 26, 3), (28, .aload_n 0, 1), (29, .aload_n 1, 1), (30, .invokevirtual 33, 3), (33, .istore 5, 2), (35, .iload_n 2, 1), (36, .ifCond .lt 9, 3), (39, .iload 5, 2), (41, .iload_n 3, 1), (42, .if_icmp .ge 9, 3), (45, .iload 4, 2), (47, .istore_n 2, 1), (48, .iload 5, 2), (50, .istore_n 3, 1), (51, .aload_n 0, 1), (52, .aload_n 1, 1), (53, .invokevirtual 30, 3)] (by decide +kernel)
theorem dX6_nearest_0 : decode cX6_nearest 0 = .ok (.iconst (-1), 1) := edX6_nearest_0.1
theorem dX6_nearest_1 : decode cX6_nearest 1 = .ok (.istore_n 2, 1) := edX6_nearest_0.2.1
theorem dX6_nearest_2 : decode cX6_nearest 2 = .ok (.iconst 0, 1) := edX6_nearest_0.2.2.1
theorem dX6_nearest_3 : decode cX6_nearest 3 = .ok (.istore_n 3, 1) := edX6_nearest_0.2.2.2.1
theorem dX6_nearest_4 : decode cX6_nearest 4 = .ok (.aload_n 0, 1) := edX6_nearest_0.2.2.2.2.1
theorem dX6_nearest_5 : decode cX6_nearest 5 = .ok (.aload_n 1, 1) := edX6_nearest_0.2.2.2.2.2.1
theorem dX6_nearest_6 : decode cX6_nearest 6 = .ok (.invokevirtual 22, 3) := edX6_nearest_0.2.2.2.2.2.2.1
theorem dX6_nearest_9 : decode cX6_nearest 9 = .ok (.iconst 0, 1) := edX6_nearest_0.2.2.2.2.2.2.2.1
theorem dX6_nearest_10 : decode cX6_nearest 10 = .ok (.istore 4, 2) := edX6_nearest_0.2.2.2.2.2.2.2.2.1
theorem dX6_nearest_12 : decode cX6_nearest 12 = .ok (.iload 4, 2) := edX6_nearest_0.2.2.2.2.2.2.2.2.2.1
theorem dX6_nearest_14 : decode cX6_nearest 14 = .ok (.sipush 10000, 3) := edX6_nearest_0.2.2.2.2.2.2.2.2.2.2.1
theorem dX6_nearest_17 : decode cX6_nearest 17 = .ok (.if_icmp .ge 45, 3) := edX6_nearest_0.2.2.2.2.2.2.2.2.2.2.2.1
theorem dX6_nearest_20 : decode cX6_nearest 20 = .ok (.aload_n 0, 1) := edX6_nearest_0.2.2.2.2.2.2.2.2.2.2.2.2.1
theorem dX6_nearest_21 : decode cX6_nearest 21 = .ok (.aload_n 1, 1) := edX6_nearest_0.2.2.2.2.2.2.2.2.2.2.2.2.2.1
theorem dX6_nearest_22 : decode cX6_nearest 22 = .ok (.invokevirtual 26, 3) := edX6_nearest_0.2.2.2.2.2.2.2.2.2.2.2.2.2.2.1
theorem dX6_nearest_25 : decode cX6_nearest 25 = .ok (.ifCond .lt 26, 3) := edX6_nearest_0.2.2.2.2.2.2.2.2.2.2.2.2.2.2.2.1
theorem dX6_nearest_28 : decode cX6_nearest 28 = .ok (.aload_n 0, 1) := edX6_nearest_0.2.2.2.2.2.2.2.2.2.2.2.2.2.2.2.2.1
theorem dX6_nearest_29 : decode cX6_nearest 29 = .ok (.aload_n 1, 1) := edX6_nearest_0.2.2.2.2.2.2.2.2.2.2.2.2.2.2.2.2.2.1
theorem dX6_nearest_30 : decode cX6_nearest 30 = .ok (.invokevirtual 33, 3) := edX6_nearest_0.2.2.2.2.2.2.2.2.2.2.2.2.2.2.2.2.2.2.1
theorem dX6_nearest_33 : decode cX6_nearest 33 = .ok (.istore 5, 2) := edX6_nearest_0.2.2.2.2.2.2.2.2.2.2.2.2.2.2.2.2.2.2.2.1
theorem dX6_nearest_35 : decode cX6_nearest 35 = .ok (.iload_n 2, 1) := edX6_nearest_0.2.2.2.2.2.2.2.2.2.2.2.2.2.2.2.2.2.2.2.2.1
theorem dX6_nearest_36 : decode cX6_nearest 36 = .ok (.ifCond .lt 9, 3) := edX6_nearest_0.2.2.2.2.2.2.2.2.2.2.2.2.2.2.2.2.2.2.2.2.2.1
theorem dX6_nearest_39 : decode cX6_nearest 39 = .ok (.iload 5, 2) := edX6_nearest_0.2.2.2.2.2.2.2.2.2.2.2.2.2.2.2.2.2.2.2.2.2.2.1
theorem dX6_nearest_41 : decode cX6_nearest 41 = .ok (.iload_n 3, 1) := edX6_nearest_0.2.2.2.2.2.2.2.2.2.2.2.2.2.2.2.2.2.2.2.2.2.2.2.1
theorem dX6_nearest_42 : decode cX6_nearest 42 = .ok (.if_icmp .ge 9, 3) := edX6_nearest_0.2.2.2.2.2.2.2.2.2.2.2.2.2.2.2.2.2.2.2.2.2.2.2.2.1
theorem dX6_nearest_45 : decode cX6_nearest 45 = .ok (.iload 4, 2) := edX6_nearest_0.2.2.2.2.2.2.2.2.2.2.2.2.2.2.2.2.2.2.2.2.2.2.2.2.2.1
theorem dX6_nearest_47 : decode cX6_nearest 47 = .ok (.istore_n 2, 1) := edX6_nearest_0.2.2.2.2.2.2.2.2.2.2.2.2.2.2.2.2.2.2.2.2.2.2.2.2.2.2.1
theorem dX6_nearest_48 : decode cX6_nearest 48 = .ok (.iload 5, 2) := edX6_nearest_0.2.2.2.2.2.2.2.2.2.2.2.2.2.2.2.2.2.2.2.2.2.2.2.2.2.2.2.1
theorem dX6_nearest_50 : decode cX6_nearest 50 = .ok (.istore_n 3, 1) := edX6_nearest_0.2.2.2.2.2.2.2.2.2.2.2.2.2.2.2.2.2.2.2.2.2.2.2.2.2.2.2.2.1
theorem dX6_nearest_51 : decode cX6_nearest 51 = .ok (.aload_n 0, 1) := edX6_nearest_0.2.2.2.2.2.2.2.2.2.2.2.2.2.2.2.2.2.2.2.2.2.2.2.2.2.2.2.2.2.1
theorem dX6_nearest_52 : decode cX6_nearest 52 = .ok (.aload_n 1, 1) := edX6_nearest_0.2.2.2.2.2.2.2.2.2.2.2.2.2.2.2.2.2.2.2.2.2.2.2.2.2.2.2.2.2.2.1
theorem dX6_nearest_53 : decode cX6_nearest 53 = .ok (.invokevirtual 30, 3) := edX6_nearest_0.2.2.2.2.2.2.2.2.2.2.2.2.2.2.2.2.2.2.2.2.2.2.2.2.2.2.2.2.2.2.2.1
theorem edX6_nearest_56 : (decode cX6_nearest 56 = .ok (.iinc 4 1, 3)) ∧ (decode cX6_nearest 59 = .ok (.goto (-47), 3)) ∧ (decode cX6_nearest 62 = .ok (.iload_n 2, 1)) ∧ (decode cX6_nearest 63 = .ok (.ireturn, 1)) ∧ True := dc_cj [(56, .iinc 4 1, 3), (59, .goto (-47), 3), (62, .iload_n 2, 1), (63, .ireturn, 1)] (by decide +kernel)
theorem dX6_nearest_56 : decode cX6_nearest 56 = .ok (.iinc 4 1, 3) := edX6_nearest_56.1
theorem dX6_nearest_59 : decode cX6_nearest 59 = .ok (.goto (-47), 3) := edX6_nearest_56.2.1
theorem dX6_nearest_62 : decode cX6_nearest 62 = .ok (.iload_n 2, 1) := edX6_nearest_56.2.2.1
theorem dX6_nearest_63 : decode cX6_nearest 63 = .ok (.ireturn, 1) := edX6_nearest_56.2.2.2.1
theorem edX6_start_0 : (decode cX6_start 0 = .ok (.aload_n 0, 1)) ∧ (decode cX6_start 1 = .ok (.iconst 0, 1)) ∧ (decode cX6_start 2 = .ok (.putfield 15, 3)) ∧ (decode cX6_start 5 = .ok (.aload_n 0, 1)) ∧ (decode cX6_start 6 = .ok (.iconst 0, 1)) ∧ (decode cX6_start 7 = .ok (.putfield 19, 3)) ∧ (decode cX6_start 10 = .ok (.iconst 0, 1)) ∧ (decode cX6_start 11 = .ok (.istore_n 2, 1)) ∧ (decode cX6_start 12 = .ok (.iload_n 2, 1)) ∧ (decode cX6_start 13 = .ok (.iconst 4, 1)) ∧ (decode cX6_start 14 = .ok (.if_icmp .ge 38, 3)) ∧ (decode cX6_start 17 = .ok (.aload_n 0, 1)) ∧ (decode cX6_start 18 = .ok (.getfield 9, 3)) ∧ (decode cX6_start 21 = .ok (.iload_n 2, 1)) ∧ (decode cX6_start 22 = .ok (.iconst 0, 1)) ∧ (decode cX6_start 23 = .ok (.iastore, 1)) ∧ (decode cX6_start 24 = .ok (.aload_n 0, 1)) ∧ (decode cX6_start 25 = .ok (.dup, 1)) ∧ (decode cX6_start 26 = .ok (.getfield 19, 3)) ∧ (decode cX6_start 29 = .ok (.bipush 9, 2)) ∧ (decode cX6_start 31 = .ok (.aload_n 1, 1)) ∧ (decode cX6_start 32 = .ok (.getfield 36, 3)) ∧ (decode cX6_start 35 = .ok (.iconst 1, 1)) ∧ (decode cX6_start 36 = .ok (.iload_n 2, 1)) ∧ (decode cX6_start 37 = .ok (.invokestatic 41, 3)) ∧ (decode cX6_start 40 = .ok (.iaload, 1)) ∧ (decode cX6_start 41 = .ok (.imul, 1)) ∧ (decode cX6_start 42 = .ok (.iadd, 1)) ∧ (decode cX6_start 43 = .ok (.putfield 19, 3)) ∧ (decode cX6_start 46 = .ok (.iinc 2 1, 3)) ∧ (decode cX6_start 49 = .ok (.goto (-37), 3)) ∧ (decode cX6_start 52 = .ok (.return_, 1)) ∧ True := dc_cj [(0, .aload_n 0, 1), (1, .iconst 0, 1), (2, .putfield 15, 3), (5, .aload_n 0, 1), (6, .iconst 0, 1), (7, .putfield 19, 3), (10, .iconst 0, 1), (11, .istore_n 2, 1), (12, .iload_n 2, 1), (13, .iconst 4, 1), (14, .if_icmp .ge 38, 3), (17, .aload_n 0, 1), (18, .getfield 9, 3), (21, .iload_n 2, 1), (22, .iconst 0, 1), (23, .iastore, 1), (24, .aload_n 0, 1), (25, .dup, 1), (26, .getfield 19, 3), (29, .bipush 9, 2), (31, .aload_n 1, 1), (32, .getfield 36, 3), (35, .iconst 1, 1), (36, .iload_n 2, 1), (37, .invokestatic 41, 3), (40, .iaload, 1), (41, .imul, 1), (42, .iadd, 1), (43, .putfield 19, 3), (46, .iinc 2 1, 3), (49, .goto (-37), 3), (52, .return_, 1)] (by decide +kernel)
theorem dX6_start_0 : decode cX6_start 0 = .ok (.aload_n 0, 1) := edX6_start_0.1
theorem dX6_start_1 : decode cX6_start 1 = .ok (.iconst 0, 1) := edX6_start_0.2.1
theorem dX6_start_2 : decode cX6_start 2 = .ok (.putfield 15, 3) := edX6_start_0.2.2.1
theorem dX6_start_5 : decode cX6_start 5 = .ok (.aload_n 0, 1) := edX6_start_0.2.2.2.1
theorem dX6_start_6 : decode cX6_start 6 = .ok (.iconst 0, 1) := edX6_start_0.2.2.2.2.1
theorem dX6_start_7 : decode cX6_start 7 = .ok (.putfield 19, 3) := edX6_start_0.2.2.2.2.2.1
theorem dX6_start_10 : decode cX6_start 10 = .ok (.iconst 0, 1) := edX6_start_0.2.2.2.2.2.2.1
theorem dX6_start_11 : decode cX6_start 11 = .ok (.istore_n 2, 1) := edX6_start_0.2.2.2.2.2.2.2.1
theorem dX6_start_12 : decode cX6_start 12 = .ok (.iload_n 2, 1) := edX6_start_0.2.2.2.2.2.2.2.2.1
theorem dX6_start_13 : decode cX6_start 13 = .ok (.iconst 4, 1) := edX6_start_0.2.2.2.2.2.2.2.2.2.1
theorem dX6_start_14 : decode cX6_start 14 = .ok (.if_icmp .ge 38, 3) := edX6_start_0.2.2.2.2.2.2.2.2.2.2.1
theorem dX6_start_17 : decode cX6_start 17 = .ok (.aload_n 0, 1) := edX6_start_0.2.2.2.2.2.2.2.2.2.2.2.1
theorem dX6_start_18 : decode cX6_start 18 = .ok (.getfield 9, 3) := edX6_start_0.2.2.2.2.2.2.2.2.2.2.2.2.1
theorem dX6_start_21 : decode cX6_start 21 = .ok (.iload_n 2, 1) := edX6_start_0.2.2.2.2.2.2.2.2.2.2.2.2.2.1
theorem dX6_start_22 : decode cX6_start 22 = .ok (.iconst 0, 1) := edX6_start_0.2.2.2.2.2.2.2.2.2.2.2.2.2.2.1
theorem dX6_start_23 : decode cX6_start 23 = .ok (.iastore, 1) := edX6_start_0.2.2.2.2.2.2.2.2.2.2.2.2.2.2.2.1
theorem dX6_start_24 : decode cX6_start 24 = .ok (.aload_n 0, 1) := edX6_start_0.2.2.2.2.2.2.2.2.2.2.2.2.2.2.2.2.1
theorem dX6_start_25 : decode cX6_start 25 = .ok (.dup, 1) := edX6_start_0.2.2.2.2.2.2.2.2.2.2.2.2.2.2.2.2.2.1
theorem dX6_start_26 : decode cX6_start 26 = .ok (.getfield 19, 3) := edX6_start_0.2.2.2.2.2.2.2.2.2.2.2.2.2.2.2.2.2.2.1
theorem dX6_start_29 : decode cX6_start 29 = .ok (.bipush 9, 2) := edX6_start_0.2.2.2.2.2.2.2.2.2.2.2.2.2.2.2.2.2.2.2.1
theorem dX6_start_31 : decode cX6_start 31 = .ok (.aload_n 1, 1) := edX6_start_0.2.2.2.2.2.2.2.2.2.2.2.2.2.2.2.2.2.2.2.2.1
theorem dX6_start_32 : decode cX6_start 32 = .ok (.getfield 36, 3) := edX6_start_0.2.2.2.2.2.2.2.2.2.2.2.2.2.2.2.2.2.2.2.2.2.1
theorem dX6_start_35 : decode cX6_start 35 = .ok (.iconst 1, 1) := edX6_start_0.2.2.2.2.2.2.2.2.2.2.2.2.2.2.2.2.2.2.2.2.2.2.1
theorem dX6_start_36 : decode cX6_start 36 = .ok (.iload_n 2, 1) := edX6_start_0.2.2.2.2.2.2.2.2.2.2.2.2.2.2.2.2.2.2.2.2.2.2.2.1
theorem dX6_start_37 : decode cX6_start 37 = .ok (.invokestatic 41, 3) := edX6_start_0.2.2.2.2.2.2.2.2.2.2.2.2.2.2.2.2.2.2.2.2.2.2.2.2.1
theorem dX6_start_40 : decode cX6_start 40 = .ok (.iaload, 1) := edX6_start_0.2.2.2.2.2.2.2.2.2.2.2.2.2.2.2.2.2.2.2.2.2.2.2.2.2.1
theorem dX6_start_41 : decode cX6_start 41 = .ok (.imul, 1) := edX6_start_0.2.2.2.2.2.2.2.2.2.2.2.2.2.2.2.2.2.2.2.2.2.2.2.2.2.2.1
theorem dX6_start_42 : decode cX6_start 42 = .ok (.iadd, 1) := edX6_start_0.2.2.2.2.2.2.2.2.2.2.2.2.2.2.2.2.2.2.2.2.2.2.2.2.2.2.2.1
theorem dX6_start_43 : decode cX6_start 43 = .ok (.putfield 19, 3) := edX6_start_0.2.2.2.2.2.2.2.2.2.2.2.2.2.2.2.2.2.2.2.2.2.2.2.2.2.2.2.2.1
theorem dX6_start_46 : decode cX6_start 46 = .ok (.iinc 2 1, 3) := edX6_start_0.2.2.2.2.2.2.2.2.2.2.2.2.2.2.2.2.2.2.2.2.2.2.2.2.2.2.2.2.2.1
theorem dX6_start_49 : decode cX6_start 49 = .ok (.goto (-37), 3) := edX6_start_0.2.2.2.2.2.2.2.2.2.2.2.2.2.2.2.2.2.2.2.2.2.2.2.2.2.2.2.2.2.2.1
theorem dX6_start_52 : decode cX6_start 52 = .ok (.return_, 1) := edX6_start_0.2.2.2.2.2.2.2.2.2.2.2.2.2.2.2.2.2.2.2.2.2.2.2.2.2.2.2.2.2.2.2.1
theorem edX6_step_0 : (decode cX6_step 0 = .ok (.iconst 3, 1)) ∧ (decode cX6_step 1 = .ok (.istore_n 2, 1)) ∧ (decode cX6_step 2 = .ok (.iload_n 2, 1)) ∧ (decode cX6_step 3 = .ok (.ifCond .lt 109, 3)) ∧ (decode cX6_step 6 = .ok (.aload_n 1, 1)) ∧ (decode cX6_step 7 = .ok (.getfield 36, 3)) ∧ (decode cX6_step 10 = .ok (.iconst 0, 1)) ∧ (decode cX6_step 11 = .ok (.iload_n 2, 1)) ∧ (decode cX6_step 12 = .ok (.invokestatic 41, 3)) ∧ (decode cX6_step 15 = .ok (.iaload, 1)) ∧ (decode cX6_step 16 = .ok (.istore_n 3, 1)) ∧ (decode cX6_step 17 = .ok (.aload_n 1, 1)) ∧ (decode cX6_step 18 = .ok (.getfield 36, 3)) ∧ (decode cX6_step 21 = .ok (.iconst 1, 1)) ∧ (decode cX6_step 22 = .ok (.iload_n 2, 1)) ∧ (decode cX6_step 23 = .ok (.invokestatic 41, 3)) ∧ (decode cX6_step 26 = .ok (.iaload, 1)) ∧ (decode cX6_step 27 = .ok (.istore 4, 2)) ∧ (decode cX6_step 29 = .ok (.aload_n 0, 1)) ∧ (decode cX6_step 30 = .ok (.getfield 9, 3)) ∧ (decode cX6_step 33 = .ok (.iload_n 2, 1)) ∧ (decode cX6_step 34 = .ok (.iaload, 1)) ∧ (decode cX6_step 35 = .ok (.bipush 9, 2)) ∧ (decode cX6_step 37 = .ok (.if_icmp .ge 35, 3)) ∧ (decode cX6_step 40 = .ok (.aload_n 0, 1)) ∧ (decode cX6_step 41 = .ok (.getfield 9, 3)) ∧ (decode cX6_step 44 = .ok (.iload_n 2, 1)) ∧ (decode cX6_step 45 = .ok (.dup2, 1)) ∧ (decode cX6_step 46 = .ok (.iaload, 1)) ∧ (decode cX6_step 47 = .ok (.iconst 1, 1)) ∧ (decode cX6_step 48 = .ok (.iadd, 1)) ∧ (decode cX6_step 49 = .ok (.iastore, 1)) ∧ True := dc_cj [(0, .iconst 3, 1), (1, .istore_n 2, 1), (2, .iload_n 2, 1), (3, .ifCond .lt 109, 3), (6, .aload_n 1, 1), (7, .getfield 36, 3), (10, .iconst 0, 1), (11, .iload_n 2, 1), (12, .invokestatic 41, 3), (15, .iaload, 1), (16, .istore_n 3, 1), (17, .aload_n 1, 1), (18, .getfield 36, 3), (21, .iconst 1, 1), (22, .iload_n 2, 1), (23, .invokestatic 41, 3), (26, .iaload, 1), (27, .istore 4, 2), (29, .aload_n 0, 1), (30, .getfield 9, 3), (33, .iload_n 2, 1), (34, .iaload, 1), (35, .bipush 9, 2), (37, .if_icmp .ge 35, 3), (40, .aload_n 0, 1), (41, .getfield 9, 3), (44, .iload_n 2, 1), (45, .dup2, 1), (46, .iaload, 1), (47, .iconst 1, 1), (48, .iadd, 1), (49, .iastore, 1)] (by decide +kernel)
theorem dX6_step_0 : decode cX6_step 0 = .ok (.iconst 3, 1) := edX6_step_0.1
theorem dX6_step_1 : decode cX6_step 1 = .ok (.istore_n 2, 1) := edX6_step_0.2.1
theorem dX6_step_2 : decode cX6_step 2 = .ok (.iload_n 2, 1) := edX6_step_0.2.2.1
theorem dX6_step_3 : decode cX6_step 3 = .ok (.ifCond .lt 109, 3) := edX6_step_0.2.2.2.1
theorem dX6_step_6 : decode cX6_step 6 = .ok (.aload_n 1, 1) := edX6_step_0.2.2.2.2.1
theorem dX6_step_7 : decode cX6_step 7 = .ok (.getfield 36, 3) := edX6_step_0.2.2.2.2.2.1
theorem dX6_step_10 : decode cX6_step 10 = .ok (.iconst 0, 1) := edX6_step_0.2.2.2.2.2.2.1
theorem dX6_step_11 : decode cX6_step 11 = .ok (.iload_n 2, 1) := edX6_step_0.2.2.2.2.2.2.2.1
theorem dX6_step_12 : decode cX6_step 12 = .ok (.invokestatic 41, 3) := edX6_step_0.2.2.2.2.2.2.2.2.1
theorem dX6_step_15 : decode cX6_step 15 = .ok (.iaload, 1) := edX6_step_0.2.2.2.2.2.2.2.2.2.1
theorem dX6_step_16 : decode cX6_step 16 = .ok (.istore_n 3, 1) := edX6_step_0.2.2.2.2.2.2.2.2.2.2.1
theorem dX6_step_17 : decode cX6_step 17 = .ok (.aload_n 1, 1) := edX6_step_0.2.2.2.2.2.2.2.2.2.2.2.1
theorem dX6_step_18 : decode cX6_step 18 = .ok (.getfield 36, 3) := edX6_step_0.2.2.2.2.2.2.2.2.2.2.2.2.1
theorem dX6_step_21 : decode cX6_step 21 = .ok (.iconst 1, 1) := edX6_step_0.2.2.2.2.2.2.2.2.2.2.2.2.2.1
theorem dX6_step_22 : decode cX6_step 22 = .ok (.iload_n 2, 1) := edX6_step_0.2.2.2.2.2.2.2.2.2.2.2.2.2.2.1
theorem dX6_step_23 : decode cX6_step 23 = .ok (.invokestatic 41, 3) := edX6_step_0.2.2.2.2.2.2.2.2.2.2.2.2.2.2.2.1
theorem dX6_step_26 : decode cX6_step 26 = .ok (.iaload, 1) := edX6_step_0.2.2.2.2.2.2.2.2.2.2.2.2.2.2.2.2.1
theorem dX6_step_27 : decode cX6_step 27 = .ok (.istore 4, 2) := edX6_step_0.2.2.2.2.2.2.2.2.2.2.2.2.2.2.2.2.2.1
theorem dX6_step_29 : decode cX6_step 29 = .ok (.aload_n 0, 1) := edX6_step_0.2.2.2.2.2.2.2.2.2.2.2.2.2.2.2.2.2.2.1
theorem dX6_step_30 : decode cX6_step 30 = .ok (.getfield 9, 3) := edX6_step_0.2.2.2.2.2.2.2.2.2.2.2.2.2.2.2.2.2.2.2.1
theorem dX6_step_33 : decode cX6_step 33 = .ok (.iload_n 2, 1) := edX6_step_0.2.2.2.2.2.2.2.2.2.2.2.2.2.2.2.2.2.2.2.2.1
theorem dX6_step_34 : decode cX6_step 34 = .ok (.iaload, 1) := edX6_step_0.2.2.2.2.2.2.2.2.2.2.2.2.2.2.2.2.2.2.2.2.2.1
theorem dX6_step_35 : decode cX6_step 35 = .ok (.bipush 9, 2) := edX6_step_0.2.2.2.2.2.2.2.2.2.2.2.2.2.2.2.2.2.2.2.2.2.2.1
theorem dX6_step_37 : decode cX6_step 37 = .ok (.if_icmp .ge 35, 3) := edX6_step_0.2.2.2.2.2.2.2.2.2.2.2.2.2.2.2.2.2.2.2.2.2.2.2.1
theorem dX6_step_40 : decode cX6_step 40 = .ok (.aload_n 0, 1) := edX6_step_0.2.2.2.2.2.2.2.2.2.2.2.2.2.2.2.2.2.2.2.2.2.2.2.2.1
theorem dX6_step_41 : decode cX6_step 41 = .ok (.getfield 9, 3) := edX6_step_0.2.2.2.2.2.2.2.2.2.2.2.2.2.2.2.2.2.2.2.2.2.2.2.2.2.1
theorem dX6_step_44 : decode cX6_step 44 = .ok (.iload_n 2, 1) := edX6_step_0.2.2.2.2.2.2.2.2.2.2.2.2.2.2.2.2.2.2.2.2.2.2.2.2.2.2.1
theorem dX6_step_45 : decode cX6_step 45 = .ok (.dup2, 1) := edX6_step_0.2.2.2.2.2.2.2.2.2.2.2.2.2.2.2.2.2.2.2.2.2.2.2.2.2.2.2.1
theorem dX6_step_46 : decode cX6_step 46 = .ok (.iaload, 1) := edX6_step_0.2.2.2.2.2.2.2.2.2.2.2.2.2.2.2.2.2.2.2.2.2.2.2.2.2.2.2.2.1
theorem dX6_step_47 : decode cX6_step 47 = .ok (.iconst 1, 1) := edX6_step_0.2.2.2.2.2.2.2.2.2.2.2.2.2.2.2.2.2.2.2.2.2.2.2.2.2.2.2.2.2.1
theorem dX6_step_48 : decode cX6_step 48 = .ok (.iadd, 1) := edX6_step_0.2.2.2.2.2.2.2.2.2.2.2.2.2.2.2.2.2.2.2.2.2.2.2.2.2.2.2.2.2.2.1
theorem dX6_step_49 : decode cX6_step 49 = .ok (.iastore, 1) := edX6_step_0.2.2.2.2.2.2.2.2.2.2.2.2.2.2.2.2.2.2.2.2.2.2.2.2.2.2.2.2.2.2.2.1
theorem edX6_step_50 : (decode cX6_step 50 = .ok (.aload_n 0, 1)) ∧ (decode cX6_step 51 = .ok (.dup, 1)) ∧ (decode cX6_step 52 = .ok (.getfield 15, 3)) ∧ (decode cX6_step 55 = .ok (.iload_n 3, 1)) ∧ (decode cX6_step 56 = .ok (.iadd, 1)) ∧ (decode cX6_step 57 = .ok (.putfield 15, 3)) ∧ (decode cX6_step 60 = .ok (.aload_n 0, 1)) ∧ (decode cX6_step 61 = .ok (.dup, 1)) ∧ (decode cX6_step 62 = .ok (.getfield 19, 3)) ∧ (decode cX6_step 65 = .ok (.iload 4, 2)) ∧ (decode cX6_step 67 = .ok (.isub, 1)) ∧ (decode cX6_step 68 = .ok (.putfield 19, 3)) ∧ (decode cX6_step 71 = .ok (.return_, 1)) ∧ (decode cX6_step 72 = .ok (.aload_n 0, 1)) ∧ (decode cX6_step 73 = .ok (.getfield 9, 3)) ∧ (decode cX6_step 76 = .ok (.iload_n 2, 1)) ∧ (decode cX6_step 77 = .ok (.iconst 0, 1)) ∧ (decode cX6_step 78 = .ok (.iastore, 1)) ∧ (decode cX6_step 79 = .ok (.aload_n 0, 1)) ∧ (decode cX6_step 80 = .ok (.dup, 1)) ∧ (decode cX6_step 81 = .ok (.getfield 15, 3)) ∧ (decode cX6_step 84 = .ok (.bipush 9, 2)) ∧ (decode cX6_step 86 = .ok (.iload_n 3, 1)) ∧ (decode cX6_step 87 = .ok (.imul, 1)) ∧ (decode cX6_step 88 = .ok (.isub, 1)) ∧ (decode cX6_step 89 = .ok (.putfield 15, 3)) ∧ (decode cX6_step 92 = .ok (.aload_n 0, 1)) ∧ (decode cX6_step 93 = .ok (.dup, 1)) ∧ (decode cX6_step 94 = .ok (.getfield 19, 3)) ∧ (decode cX6_step 97 = .ok (.bipush 9, 2)) ∧ (decode cX6_step 99 = .ok (.iload 4, 2)) ∧ (decode cX6_step 101 = .ok (.imul, 1)) ∧ True := dc_cj [(50, .aload_n 0, 1), (51, .dup, 1), (52, .getfield 15, 3), (55, .iload_n 3, 1), (56, .iadd, 1), (57, .putfield 15, 3), (60, .aload_n 0, 1), (61, .dup, 1), (62, .getfield 19, 3), (65, .iload 4, 2), (67, .isub, 1), (68, .putfield 19, 3), (71, .return_, 1), (72, .aload_n 0, 1), (73, .getfield 9, 3), (76, .iload_n 2, 1), (77, .iconst 0, 1), (78, .iastore, 1), (79, .aload_n 0, 1), (80, .dup, 1), (81, .getfield 15, 3), (84, .bipush 9, 2), (86, .iload_n 3, 1), (87, .imul, 1), (88, .isub, 1), (89, .putfield 15, 3), (92, .aload_n 0, 1), (93, .dup, 1), (94, .getfield 19, 3), (97, .bipush 9, 2), (99, .iload 4, 2), (101, .imul, 1)] (by decide +kernel)
theorem dX6_step_50 : decode cX6_step 50 = .ok (.aload_n 0, 1) := edX6_step_50.1
theorem dX6_step_51 : decode cX6_step 51 = .ok (.dup, 1) := edX6_step_50.2.1
theorem dX6_step_52 : decode cX6_step 52 = .ok (.getfield 15, 3) := edX6_step_50.2.2.1
theorem dX6_step_55 : decode cX6_step 55 = .ok (.iload_n 3, 1) := edX6_step_50.2.2.2.1
theorem dX6_step_56 : decode cX6_step 56 = .ok (.iadd, 1) := edX6_step_50.2.2.2.2.1
theorem dX6_step_57 : decode cX6_step 57 = .ok (.putfield 15, 3) := edX6_step_50.2.2.2.2.2.1
theorem dX6_step_60 : decode cX6_step 60 = .ok (.aload_n 0, 1) := edX6_step_50.2.2.2.2.2.2.1
theorem dX6_step_61 : decode cX6_step 61 = .ok (.dup, 1) := edX6_step_50.2.2.2.2.2.2.2.1
theorem dX6_step_62 : decode cX6_step 62 = .ok (.getfield 19, 3) := edX6_step_50.2.2.2.2.2.2.2.2.1
theorem dX6_step_65 : decode cX6_step 65 = .ok (.iload 4, 2) := edX6_step_50.2.2.2.2.2.2.2.2.2.1
theorem dX6_step_67 : decode cX6_step 67 = .ok (.isub, 1) := edX6_step_50.2.2.2.2.2.2.2.2.2.2.1
theorem dX6_step_68 : decode cX6_step 68 = .ok (.putfield 19, 3) := edX6_step_50.2.2.2.2.2.2.2.2.2.2.2.1
theorem dX6_step_71 : decode cX6_step 71 = .ok (.return_, 1) := edX6_step_50.2.2.2.2.2.2.2.2.2.2.2.2.1
theorem dX6_step_72 : decode cX6_step 72 = .ok (.aload_n 0, 1) := edX6_step_50.2.2.2.2.2.2.2.2.2.2.2.2.2.1
theorem dX6_step_73 : decode cX6_step 73 = .ok (.getfield 9, 3) := edX6_step_50.2.2.2.2.2.2.2.2.2.2.2.2.2.2.1
theorem dX6_step_76 : decode cX6_step 76 = .ok (.iload_n 2, 1) := edX6_step_50.2.2.2.2.2.2.2.2.2.2.2.2.2.2.2.1
theorem dX6_step_77 : decode cX6_step 77 = .ok (.iconst 0, 1) := edX6_step_50.2.2.2.2.2.2.2.2.2.2.2.2.2.2.2.2.1
theorem dX6_step_78 : decode cX6_step 78 = .ok (.iastore, 1) := edX6_step_50.2.2.2.2.2.2.2.2.2.2.2.2.2.2.2.2.2.1
theorem dX6_step_79 : decode cX6_step 79 = .ok (.aload_n 0, 1) := edX6_step_50.2.2.2.2.2.2.2.2.2.2.2.2.2.2.2.2.2.2.1
theorem dX6_step_80 : decode cX6_step 80 = .ok (.dup, 1) := edX6_step_50.2.2.2.2.2.2.2.2.2.2.2.2.2.2.2.2.2.2.2.1
theorem dX6_step_81 : decode cX6_step 81 = .ok (.getfield 15, 3) := edX6_step_50.2.2.2.2.2.2.2.2.2.2.2.2.2.2.2.2.2.2.2.2.1
theorem dX6_step_84 : decode cX6_step 84 = .ok (.bipush 9, 2) := edX6_step_50.2.2.2.2.2.2.2.2.2.2.2.2.2.2.2.2.2.2.2.2.2.1
theorem dX6_step_86 : decode cX6_step 86 = .ok (.iload_n 3, 1) := edX6_step_50.2.2.2.2.2.2.2.2.2.2.2.2.2.2.2.2.2.2.2.2.2.2.1
theorem dX6_step_87 : decode cX6_step 87 = .ok (.imul, 1) := edX6_step_50.2.2.2.2.2.2.2.2.2.2.2.2.2.2.2.2.2.2.2.2.2.2.2.1
theorem dX6_step_88 : decode cX6_step 88 = .ok (.isub, 1) := edX6_step_50.2.2.2.2.2.2.2.2.2.2.2.2.2.2.2.2.2.2.2.2.2.2.2.2.1
theorem dX6_step_89 : decode cX6_step 89 = .ok (.putfield 15, 3) := edX6_step_50.2.2.2.2.2.2.2.2.2.2.2.2.2.2.2.2.2.2.2.2.2.2.2.2.2.1
theorem dX6_step_92 : decode cX6_step 92 = .ok (.aload_n 0, 1) := edX6_step_50.2.2.2.2.2.2.2.2.2.2.2.2.2.2.2.2.2.2.2.2.2.2.2.2.2.2.1
theorem dX6_step_93 : decode cX6_step 93 = .ok (.dup, 1) := edX6_step_50.2.2.2.2.2.2.2.2.2.2.2.2.2.2.2.2.2.2.2.2.2.2.2.2.2.2.2.1
theorem dX6_step_94 : decode cX6_step 94 = .ok (.getfield 19, 3) := edX6_step_50.2.2.2.2.2.2.2.2.2.2.2.2.2.2.2.2.2.2.2.2.2.2.2.2.2.2.2.2.1
theorem dX6_step_97 : decode cX6_step 97 = .ok (.bipush 9, 2) := edX6_step_50.2.2.2.2.2.2.2.2.2.2.2.2.2.2.2.2.2.2.2.2.2.2.2.2.2.2.2.2.2.1
theorem dX6_step_99 : decode cX6_step 99 = .ok (.iload 4, 2) := edX6_step_50.2.2.2.2.2.2.2.2.2.2.2.2.2.2.2.2.2.2.2.2.2.2.2.2.2.2.2.2.2.2.1
theorem dX6_step_101 : decode cX6_step 101 = .ok (.imul, 1) := edX6_step_50.2.2.2.2.2.2.2.2.2.2.2.2.2.2.2.2.2.2.2.2.2.2.2.2.2.2.2.2.2.2.2.1
theorem edX6_step_102 : (decode cX6_step 102 = .ok (.iadd, 1)) ∧ (decode cX6_step 103 = .ok (.putfield 19, 3)) ∧ (decode cX6_step 106 = .ok (.iinc 2 (-1), 3)) ∧ (decode cX6_step 109 = .ok (.goto (-107), 3)) ∧ (decode cX6_step 112 = .ok (.return_, 1)) ∧ True := dc_cj [(102, .iadd, 1), (103, .putfield 19, 3), (106, .iinc 2 (-1), 3), (109, .goto (-107), 3), (112, .return_, 1)] (by decide +kernel)
theorem dX6_step_102 : decode cX6_step 102 = .ok (.iadd, 1) := edX6_step_102.1
theorem dX6_step_103 : decode cX6_step 103 = .ok (.putfield 19, 3) := edX6_step_102.2.1
theorem dX6_step_106 : decode cX6_step 106 = .ok (.iinc 2 (-1), 3) := edX6_step_102.2.2.1
theorem dX6_step_109 : decode cX6_step 109 = .ok (.goto (-107), 3) := edX6_step_102.2.2.2.1
theorem dX6_step_112 : decode cX6_step 112 = .ok (.return_, 1) := edX6_step_102.2.2.2.2.1
theorem edX6_spare_0 : (decode cX6_spare 0 = .ok (.aload_n 0, 1)) ∧ (decode cX6_spare 1 = .ok (.getfield 15, 3)) ∧ (decode cX6_spare 4 = .ok (.aload_n 1, 1)) ∧ (decode cX6_spare 5 = .ok (.getfield 45, 3)) ∧ (decode cX6_spare 8 = .ok (.iconst 0, 1)) ∧ (decode cX6_spare 9 = .ok (.iaload, 1)) ∧ (decode cX6_spare 10 = .ok (.isub, 1)) ∧ (decode cX6_spare 11 = .ok (.aload_n 0, 1)) ∧ (decode cX6_spare 12 = .ok (.getfield 19, 3)) ∧ (decode cX6_spare 15 = .ok (.aload_n 1, 1)) ∧ (decode cX6_spare 16 = .ok (.getfield 45, 3)) ∧ (decode cX6_spare 19 = .ok (.iconst 1, 1)) ∧ (decode cX6_spare 20 = .ok (.iaload, 1)) ∧ (decode cX6_spare 21 = .ok (.isub, 1)) ∧ (decode cX6_spare 22 = .ok (.invokestatic 48, 3)) ∧ (decode cX6_spare 25 = .ok (.ireturn, 1)) ∧ True := dc_cj [(0, .aload_n 0, 1), (1, .getfield 15, 3), (4, .aload_n 1, 1), (5, .getfield 45, 3), (8, .iconst 0, 1), (9, .iaload, 1), (10, .isub, 1), (11, .aload_n 0, 1), (12, .getfield 19, 3), (15, .aload_n 1, 1), (16, .getfield 45, 3), (19, .iconst 1, 1), (20, .iaload, 1), (21, .isub, 1), (22, .invokestatic 48, 3), (25, .ireturn, 1)] (by decide +kernel)
theorem dX6_spare_0 : decode cX6_spare 0 = .ok (.aload_n 0, 1) := edX6_spare_0.1
theorem dX6_spare_1 : decode cX6_spare 1 = .ok (.getfield 15, 3) := edX6_spare_0.2.1
theorem dX6_spare_4 : decode cX6_spare 4 = .ok (.aload_n 1, 1) := edX6_spare_0.2.2.1
theorem dX6_spare_5 : decode cX6_spare 5 = .ok (.getfield 45, 3) := edX6_spare_0.2.2.2.1
theorem dX6_spare_8 : decode cX6_spare 8 = .ok (.iconst 0, 1) := edX6_spare_0.2.2.2.2.1
theorem dX6_spare_9 : decode cX6_spare 9 = .ok (.iaload, 1) := edX6_spare_0.2.2.2.2.2.1
theorem dX6_spare_10 : decode cX6_spare 10 = .ok (.isub, 1) := edX6_spare_0.2.2.2.2.2.2.1
theorem dX6_spare_11 : decode cX6_spare 11 = .ok (.aload_n 0, 1) := edX6_spare_0.2.2.2.2.2.2.2.1
theorem dX6_spare_12 : decode cX6_spare 12 = .ok (.getfield 19, 3) := edX6_spare_0.2.2.2.2.2.2.2.2.1
theorem dX6_spare_15 : decode cX6_spare 15 = .ok (.aload_n 1, 1) := edX6_spare_0.2.2.2.2.2.2.2.2.2.1
theorem dX6_spare_16 : decode cX6_spare 16 = .ok (.getfield 45, 3) := edX6_spare_0.2.2.2.2.2.2.2.2.2.2.1
theorem dX6_spare_19 : decode cX6_spare 19 = .ok (.iconst 1, 1) := edX6_spare_0.2.2.2.2.2.2.2.2.2.2.2.1
theorem dX6_spare_20 : decode cX6_spare 20 = .ok (.iaload, 1) := edX6_spare_0.2.2.2.2.2.2.2.2.2.2.2.2.1
theorem dX6_spare_21 : decode cX6_spare 21 = .ok (.isub, 1) := edX6_spare_0.2.2.2.2.2.2.2.2.2.2.2.2.2.1
theorem dX6_spare_22 : decode cX6_spare 22 = .ok (.invokestatic 48, 3) := edX6_spare_0.2.2.2.2.2.2.2.2.2.2.2.2.2.2.1
theorem dX6_spare_25 : decode cX6_spare 25 = .ok (.ireturn, 1) := edX6_spare_0.2.2.2.2.2.2.2.2.2.2.2.2.2.2.2.1
theorem edX6_distanceTo_0 : (decode cX6_distanceTo 0 = .ok (.iconst 0, 1)) ∧ (decode cX6_distanceTo 1 = .ok (.istore_n 2, 1)) ∧ (decode cX6_distanceTo 2 = .ok (.iconst 0, 1)) ∧ (decode cX6_distanceTo 3 = .ok (.istore_n 3, 1)) ∧ (decode cX6_distanceTo 4 = .ok (.iload_n 3, 1)) ∧ (decode cX6_distanceTo 5 = .ok (.iconst 4, 1)) ∧ (decode cX6_distanceTo 6 = .ok (.if_icmp .ge 28, 3)) ∧ (decode cX6_distanceTo 9 = .ok (.iload_n 2, 1)) ∧ (decode cX6_distanceTo 10 = .ok (.aload_n 0, 1)) ∧ (decode cX6_distanceTo 11 = .ok (.getfield 9, 3)) ∧ (decode cX6_distanceTo 14 = .ok (.iload_n 3, 1)) ∧ (decode cX6_distanceTo 15 = .ok (.iaload, 1)) ∧ (decode cX6_distanceTo 16 = .ok (.aload_n 1, 1)) ∧ (decode cX6_distanceTo 17 = .ok (.getfield 53, 3)) ∧ (decode cX6_distanceTo 20 = .ok (.iload_n 3, 1)) ∧ (decode cX6_distanceTo 21 = .ok (.iaload, 1)) ∧ (decode cX6_distanceTo 22 = .ok (.isub, 1)) ∧ (decode cX6_distanceTo 23 = .ok (.invokestatic 56, 3)) ∧ (decode cX6_distanceTo 26 = .ok (.iadd, 1)) ∧ (decode cX6_distanceTo 27 = .ok (.istore_n 2, 1)) ∧ (decode cX6_distanceTo 28 = .ok (.iinc 3 1, 3)) ∧ (decode cX6_distanceTo 31 = .ok (.goto (-27), 3)) ∧ (decode cX6_distanceTo 34 = .ok (.iload_n 2, 1)) ∧ (decode cX6_distanceTo 35 = .ok (.ireturn, 1)) ∧ True := dc_cj [(0, .iconst 0, 1), (1, .istore_n 2, 1), (2, .iconst 0, 1), (3, .istore_n 3, 1), (4, .iload_n 3, 1), (5, .iconst 4, 1), (6, .if_icmp .ge 28, 3), (9, .iload_n 2, 1), (10, .aload_n 0, 1), (11, .getfield 9, 3), (14, .iload_n 3, 1), (15, .iaload, 1), (16, .aload_n 1, 1), (17, .getfield 53, 3), (20, .iload_n 3, 1), (21, .iaload, 1), (22, .isub, 1), (23, .invokestatic 56, 3), (26, .iadd, 1), (27, .istore_n 2, 1), (28, .iinc 3 1, 3), (31, .goto (-27), 3), (34, .iload_n 2, 1), (35, .ireturn, 1)] (by decide +kernel)
theorem dX6_distanceTo_0 : decode cX6_distanceTo 0 = .ok (.iconst 0, 1) := edX6_distanceTo_0.1
theorem dX6_distanceTo_1 : decode cX6_distanceTo 1 = .ok (.istore_n 2, 1) := edX6_distanceTo_0.2.1
theorem dX6_distanceTo_2 : decode cX6_distanceTo 2 = .ok (.iconst 0, 1) := edX6_distanceTo_0.2.2.1
theorem dX6_distanceTo_3 : decode cX6_distanceTo 3 = .ok (.istore_n 3, 1) := edX6_distanceTo_0.2.2.2.1
theorem dX6_distanceTo_4 : decode cX6_distanceTo 4 = .ok (.iload_n 3, 1) := edX6_distanceTo_0.2.2.2.2.1
theorem dX6_distanceTo_5 : decode cX6_distanceTo 5 = .ok (.iconst 4, 1) := edX6_distanceTo_0.2.2.2.2.2.1
theorem dX6_distanceTo_6 : decode cX6_distanceTo 6 = .ok (.if_icmp .ge 28, 3) := edX6_distanceTo_0.2.2.2.2.2.2.1
theorem dX6_distanceTo_9 : decode cX6_distanceTo 9 = .ok (.iload_n 2, 1) := edX6_distanceTo_0.2.2.2.2.2.2.2.1
theorem dX6_distanceTo_10 : decode cX6_distanceTo 10 = .ok (.aload_n 0, 1) := edX6_distanceTo_0.2.2.2.2.2.2.2.2.1
theorem dX6_distanceTo_11 : decode cX6_distanceTo 11 = .ok (.getfield 9, 3) := edX6_distanceTo_0.2.2.2.2.2.2.2.2.2.1
theorem dX6_distanceTo_14 : decode cX6_distanceTo 14 = .ok (.iload_n 3, 1) := edX6_distanceTo_0.2.2.2.2.2.2.2.2.2.2.1
theorem dX6_distanceTo_15 : decode cX6_distanceTo 15 = .ok (.iaload, 1) := edX6_distanceTo_0.2.2.2.2.2.2.2.2.2.2.2.1
theorem dX6_distanceTo_16 : decode cX6_distanceTo 16 = .ok (.aload_n 1, 1) := edX6_distanceTo_0.2.2.2.2.2.2.2.2.2.2.2.2.1
theorem dX6_distanceTo_17 : decode cX6_distanceTo 17 = .ok (.getfield 53, 3) := edX6_distanceTo_0.2.2.2.2.2.2.2.2.2.2.2.2.2.1
theorem dX6_distanceTo_20 : decode cX6_distanceTo 20 = .ok (.iload_n 3, 1) := edX6_distanceTo_0.2.2.2.2.2.2.2.2.2.2.2.2.2.2.1
theorem dX6_distanceTo_21 : decode cX6_distanceTo 21 = .ok (.iaload, 1) := edX6_distanceTo_0.2.2.2.2.2.2.2.2.2.2.2.2.2.2.2.1
theorem dX6_distanceTo_22 : decode cX6_distanceTo 22 = .ok (.isub, 1) := edX6_distanceTo_0.2.2.2.2.2.2.2.2.2.2.2.2.2.2.2.2.1
theorem dX6_distanceTo_23 : decode cX6_distanceTo 23 = .ok (.invokestatic 56, 3) := edX6_distanceTo_0.2.2.2.2.2.2.2.2.2.2.2.2.2.2.2.2.2.1
theorem dX6_distanceTo_26 : decode cX6_distanceTo 26 = .ok (.iadd, 1) := edX6_distanceTo_0.2.2.2.2.2.2.2.2.2.2.2.2.2.2.2.2.2.2.1
theorem dX6_distanceTo_27 : decode cX6_distanceTo 27 = .ok (.istore_n 2, 1) := edX6_distanceTo_0.2.2.2.2.2.2.2.2.2.2.2.2.2.2.2.2.2.2.2.1
theorem dX6_distanceTo_28 : decode cX6_distanceTo 28 = .ok (.iinc 3 1, 3) := edX6_distanceTo_0.2.2.2.2.2.2.2.2.2.2.2.2.2.2.2.2.2.2.2.2.1
theorem dX6_distanceTo_31 : decode cX6_distanceTo 31 = .ok (.goto (-27), 3) := edX6_distanceTo_0.2.2.2.2.2.2.2.2.2.2.2.2.2.2.2.2.2.2.2.2.2.1
theorem dX6_distanceTo_34 : decode cX6_distanceTo 34 = .ok (.iload_n 2, 1) := edX6_distanceTo_0.2.2.2.2.2.2.2.2.2.2.2.2.2.2.2.2.2.2.2.2.2.2.1
theorem dX6_distanceTo_35 : decode cX6_distanceTo 35 = .ok (.ireturn, 1) := edX6_distanceTo_0.2.2.2.2.2.2.2.2.2.2.2.2.2.2.2.2.2.2.2.2.2.2.2.1
theorem edX7_init_0 : (decode cX7_init 0 = .ok (.aload_n 0, 1)) ∧ (decode cX7_init 1 = .ok (.invokespecial 1, 3)) ∧ (decode cX7_init 4 = .ok (.aload_n 0, 1)) ∧ (decode cX7_init 5 = .ok (.new 7, 3)) ∧ (decode cX7_init 8 = .ok (.dup, 1)) ∧ (decode cX7_init 9 = .ok (.invokespecial 9, 3)) ∧ (decode cX7_init 12 = .ok (.putfield 10, 3)) ∧ (decode cX7_init 15 = .ok (.aload_n 0, 1)) ∧ (decode cX7_init 16 = .ok (.new 7, 3)) ∧ (decode cX7_init 19 = .ok (.dup, 1)) ∧ (decode cX7_init 20 = .ok (.invokespecial 9, 3)) ∧ (decode cX7_init 23 = .ok (.putfield 16, 3)) ∧ (decode cX7_init 26 = .ok (.aload_n 0, 1)) ∧ (decode cX7_init 27 = .ok (.new 7, 3)) ∧ (decode cX7_init 30 = .ok (.dup, 1)) ∧ (decode cX7_init 31 = .ok (.invokespecial 9, 3)) ∧ (decode cX7_init 34 = .ok (.putfield 19, 3)) ∧ (decode cX7_init 37 = .ok (.aload_n 0, 1)) ∧ (decode cX7_init 38 = .ok (.iconst 0, 1)) ∧ (decode cX7_init 39 = .ok (.putfield 22, 3)) ∧ (decode cX7_init 42 = .ok (.aload_n 0, 1)) ∧ (decode cX7_init 43 = .ok (.new 26, 3)) ∧ (decode cX7_init 46 = .ok (.dup, 1)) ∧ (decode cX7_init 47 = .ok (.invokespecial 28, 3)) ∧ (decode cX7_init 50 = .ok (.putfield 29, 3)) ∧ (decode cX7_init 53 = .ok (.aload_n 0, 1)) ∧ (decode cX7_init 54 = .ok (.new 33, 3)) ∧ (decode cX7_init 57 = .ok (.dup, 1)) ∧ (decode cX7_init 58 = .ok (.invokespecial 35, 3)) ∧ (decode cX7_init 61 = .ok (.putfield 36, 3)) ∧ (decode cX7_init 64 = .ok (.aload_n 0, 1)) ∧ (decode cX7_init 65 = .ok (.aload_n 0, 1)) ∧ True := dc_cj [(0, .aload_n 0, 1), (1, .invokespecial 1, 3), (4, .aload_n 0, 1), (5, .new 7, 3), (8, .dup, 1), (9, .invokespecial 9, 3), (12, .putfield 10, 3), (15, .aload_n 0, 1), (16, .new 7, 3), (19, .dup, 1), (20, .invokespecial 9, 3), (23, .putfield 16, 3), (26, .aload_n 0, 1), (27, .new 7, 3), (30, .dup, 1), (31, .invokespecial 9, 3), (34, .putfield 19, 3), (37, .aload_n 0, 1), (38, .iconst 0, 1), (39, .putfield 22, 3), (42, .aload_n 0, 1), (43, .new 26, 3), (46, .dup, 1), (47, .invokespecial 28, 3), (50, .putfield 29, 3), (53, .aload_n 0, 1), (54, .new 33, 3), (57, .dup, 1), (58, .invokespecial 35, 3), (61, .putfield 36, 3), (64, .aload_n 0, 1), (65, .aload_n 0, 1)] (by decide +kernel)
theorem dX7_init_0 : decode cX7_init 0 = .ok (.aload_n 0, 1) := edX7_init_0.1
theorem dX7_init_1 : decode cX7_init 1 = .ok (.invokespecial 1, 3) := edX7_init_0.2.1
theorem dX7_init_4 : decode cX7_init 4 = .ok (.aload_n 0, 1) := edX7_init_0.2.2.1
theorem dX7_init_5 : decode cX7_init 5 = .ok (.new 7, 3) := edX7_init_0.2.2.2.1
theorem dX7_init_8 : decode cX7_init 8 = .ok (.dup, 1) := edX7_init_0.2.2.2.2.1
theorem dX7_init_9 : decode cX7_init 9 = .ok (.invokespecial 9, 3) := edX7_init_0.2.2.2.2.2.1
theorem dX7_init_12 : decode cX7_init 12 = .ok (.putfield 10, 3) := edX7_init_0.2.2.2.2.2.2.1
theorem dX7_init_15 : decode cX7_init 15 = .ok (.aload_n 0, 1) := edX7_init_0.2.2.2.2.2.2.2.1
theorem dX7_init_16 : decode cX7_init 16 = .ok (.new 7, 3) := edX7_init_0.2.2.2.2.2.2.2.2.1
theorem dX7_init_19 : decode cX7_init 19 = .ok (.dup, 1) := edX7_init_0.2.2.2.2.2.2.2.2.2.1
theorem dX7_init_20 : decode cX7_init 20 = .ok (.invokespecial 9, 3) := edX7_init_0.2.2.2.2.2.2.2.2.2.2.1
theorem dX7_init_23 : decode cX7_init 23 = .ok (.putfield 16, 3) := edX7_init_0.2.2.2.2.2.2.2.2.2.2.2.1
theorem dX7_init_26 : decode cX7_init 26 = .ok (.aload_n 0, 1) := edX7_init_0.2.2.2.2.2.2.2.2.2.2.2.2.1
theorem dX7_init_27 : decode cX7_init 27 = .ok (.new 7, 3) := edX7_init_0.2.2.2.2.2.2.2.2.2.2.2.2.2.1
theorem dX7_init_30 : decode cX7_init 30 = .ok (.dup, 1) := edX7_init_0.2.2.2.2.2.2.2.2.2.2.2.2.2.2.1
theorem dX7_init_31 : decode cX7_init 31 = .ok (.invokespecial 9, 3) := edX7_init_0.2.2.2.2.2.2.2.2.2.2.2.2.2.2.2.1
theorem dX7_init_34 : decode cX7_init 34 = .ok (.putfield 19, 3) := edX7_init_0.2.2.2.2.2.2.2.2.2.2.2.2.2.2.2.2.1
theorem dX7_init_37 : decode cX7_init 37 = .ok (.aload_n 0, 1) := edX7_init_0.2.2.2.2.2.2.2.2.2.2.2.2.2.2.2.2.2.1
theorem dX7_init_38 : decode cX7_init 38 = .ok (.iconst 0, 1) := edX7_init_0.2.2.2.2.2.2.2.2.2.2.2.2.2.2.2.2.2.2.1
theorem dX7_init_39 : decode cX7_init 39 = .ok (.putfield 22, 3) := edX7_init_0.2.2.2.2.2.2.2.2.2.2.2.2.2.2.2.2.2.2.2.1
theorem dX7_init_42 : decode cX7_init 42 = .ok (.aload_n 0, 1) := edX7_init_0.2.2.2.2.2.2.2.2.2.2.2.2.2.2.2.2.2.2.2.2.1
theorem dX7_init_43 : decode cX7_init 43 = .ok (.new 26, 3) := edX7_init_0.2.2.2.2.2.2.2.2.2.2.2.2.2.2.2.2.2.2.2.2.2.1
theorem dX7_init_46 : decode cX7_init 46 = .ok (.dup, 1) := edX7_init_0.2.2.2.2.2.2.2.2.2.2.2.2.2.2.2.2.2.2.2.2.2.2.1
theorem dX7_init_47 : decode cX7_init 47 = .ok (.invokespecial 28, 3) := edX7_init_0.2.2.2.2.2.2.2.2.2.2.2.2.2.2.2.2.2.2.2.2.2.2.2.1
theorem dX7_init_50 : decode cX7_init 50 = .ok (.putfield 29, 3) := edX7_init_0.2.2.2.2.2.2.2.2.2.2.2.2.2.2.2.2.2.2.2.2.2.2.2.2.1
theorem dX7_init_53 : decode cX7_init 53 = .ok (.aload_n 0, 1) := edX7_init_0.2.2.2.2.2.2.2.2.2.2.2.2.2.2.2.2.2.2.2.2.2.2.2.2.2.1
theorem dX7_init_54 : decode cX7_init 54 = .ok (.new 33, 3) := edX7_init_0.2.2.2.2.2.2.2.2.2.2.2.2.2.2.2.2.2.2.2.2.2.2.2.2.2.2.1
theorem dX7_init_57 : decode cX7_init 57 = .ok (.dup, 1) := edX7_init_0.2.2.2.2.2.2.2.2.2.2.2.2.2.2.2.2.2.2.2.2.2.2.2.2.2.2.2.1
theorem dX7_init_58 : decode cX7_init 58 = .ok (.invokespecial 35, 3) := edX7_init_0.2.2.2.2.2.2.2.2.2.2.2.2.2.2.2.2.2.2.2.2.2.2.2.2.2.2.2.2.1
theorem dX7_init_61 : decode cX7_init 61 = .ok (.putfield 36, 3) := edX7_init_0.2.2.2.2.2.2.2.2.2.2.2.2.2.2.2.2.2.2.2.2.2.2.2.2.2.2.2.2.2.1
theorem dX7_init_64 : decode cX7_init 64 = .ok (.aload_n 0, 1) := edX7_init_0.2.2.2.2.2.2.2.2.2.2.2.2.2.2.2.2.2.2.2.2.2.2.2.2.2.2.2.2.2.2.1
theorem dX7_init_65 : decode cX7_init 65 = .ok (.aload_n 0, 1) := edX7_init_0.2.2.2.2.2.2.2.2.2.2.2.2.2.2.2.2.2.2.2.2.2.2.2.2.2.2.2.2.2.2.2.1
theorem edX7_init_66 : (decode cX7_init 66 = .ok (.getfield 36, 3)) ∧ (decode cX7_init 69 = .ok (.getfield 40, 3)) ∧ (decode cX7_init 72 = .ok (.putfield 44, 3)) ∧ (decode cX7_init 75 = .ok (.aload_n 0, 1)) ∧ (decode cX7_init 76 = .ok (.iconst 4, 1)) ∧ (decode cX7_init 77 = .ok (.anewarray 45, 3)) ∧ (decode cX7_init 80 = .ok (.putfield 47, 3)) ∧ (decode cX7_init 83 = .ok (.aload_n 0, 1)) ∧ (decode cX7_init 84 = .ok (.iconst 5, 1)) ∧ (decode cX7_init 85 = .ok (.anewarray 51, 3)) ∧ (decode cX7_init 88 = .ok (.putfield 53, 3)) ∧ (decode cX7_init 91 = .ok (.aload_n 0, 1)) ∧ (decode cX7_init 92 = .ok (.bipush 60, 2)) ∧ (decode cX7_init 94 = .ok (.newarray .int, 2)) ∧ (decode cX7_init 96 = .ok (.putfield 57, 3)) ∧ (decode cX7_init 99 = .ok (.aload_n 0, 1)) ∧ (decode cX7_init 100 = .ok (.iconst 0, 1)) ∧ (decode cX7_init 101 = .ok (.putfield 61, 3)) ∧ (decode cX7_init 104 = .ok (.iconst 0, 1)) ∧ (decode cX7_init 105 = .ok (.istore_n 1, 1)) ∧ (decode cX7_init 106 = .ok (.iload_n 1, 1)) ∧ (decode cX7_init 107 = .ok (.iconst 4, 1)) ∧ (decode cX7_init 108 = .ok (.if_icmp .ge 22, 3)) ∧ (decode cX7_init 111 = .ok (.aload_n 0, 1)) ∧ (decode cX7_init 112 = .ok (.getfield 47, 3)) ∧ (decode cX7_init 115 = .ok (.iload_n 1, 1)) ∧ (decode cX7_init 116 = .ok (.new 45, 3)) ∧ (decode cX7_init 119 = .ok (.dup, 1)) ∧ (decode cX7_init 120 = .ok (.invokespecial 65, 3)) ∧ (decode cX7_init 123 = .ok (.aastore, 1)) ∧ (decode cX7_init 124 = .ok (.iinc 1 1, 3)) ∧ (decode cX7_init 127 = .ok (.goto (-21), 3)) ∧ True := dc_cj [(66, .getfield 36, 3), (69, .getfield 40, 3), (72, .putfield 44, 3), (75, .aload_n 0, 1), (76, .iconst 4, 1), (77, .anewarray 45, 3), (80, .putfield 47, 3), (83, .aload_n 0, 1), (84, .iconst 5, 1), (85, .anewarray 51, 3), (88, .putfield 53, 3), (91, .aload_n 0, 1), (92, .bipush 60, 2), (94, .newarray .int, 2), (96, .putfield 57, 3), (99, .aload_n 0, 1), (100, .iconst 0, 1), (101, .putfield 61, 3), (104, .iconst 0, 1), (105, .istore_n 1, 1), (106, .iload_n 1, 1), (107, .iconst 4, 1), (108, .if_icmp .ge 22, 3), (111, .aload_n 0, 1), (112, .getfield 47, 3), (115, .iload_n 1, 1), (116, .new 45, 3), (119, .dup, 1), (120, .invokespecial 65, 3), (123, .aastore, 1), (124, .iinc 1 1, 3), (127, .goto (-21), 3)] (by decide +kernel)
theorem dX7_init_66 : decode cX7_init 66 = .ok (.getfield 36, 3) := edX7_init_66.1
theorem dX7_init_69 : decode cX7_init 69 = .ok (.getfield 40, 3) := edX7_init_66.2.1
theorem dX7_init_72 : decode cX7_init 72 = .ok (.putfield 44, 3) := edX7_init_66.2.2.1
theorem dX7_init_75 : decode cX7_init 75 = .ok (.aload_n 0, 1) := edX7_init_66.2.2.2.1
theorem dX7_init_76 : decode cX7_init 76 = .ok (.iconst 4, 1) := edX7_init_66.2.2.2.2.1
theorem dX7_init_77 : decode cX7_init 77 = .ok (.anewarray 45, 3) := edX7_init_66.2.2.2.2.2.1
theorem dX7_init_80 : decode cX7_init 80 = .ok (.putfield 47, 3) := edX7_init_66.2.2.2.2.2.2.1
theorem dX7_init_83 : decode cX7_init 83 = .ok (.aload_n 0, 1) := edX7_init_66.2.2.2.2.2.2.2.1
theorem dX7_init_84 : decode cX7_init 84 = .ok (.iconst 5, 1) := edX7_init_66.2.2.2.2.2.2.2.2.1
theorem dX7_init_85 : decode cX7_init 85 = .ok (.anewarray 51, 3) := edX7_init_66.2.2.2.2.2.2.2.2.2.1
theorem dX7_init_88 : decode cX7_init 88 = .ok (.putfield 53, 3) := edX7_init_66.2.2.2.2.2.2.2.2.2.2.1
theorem dX7_init_91 : decode cX7_init 91 = .ok (.aload_n 0, 1) := edX7_init_66.2.2.2.2.2.2.2.2.2.2.2.1
theorem dX7_init_92 : decode cX7_init 92 = .ok (.bipush 60, 2) := edX7_init_66.2.2.2.2.2.2.2.2.2.2.2.2.1
theorem dX7_init_94 : decode cX7_init 94 = .ok (.newarray .int, 2) := edX7_init_66.2.2.2.2.2.2.2.2.2.2.2.2.2.1
theorem dX7_init_96 : decode cX7_init 96 = .ok (.putfield 57, 3) := edX7_init_66.2.2.2.2.2.2.2.2.2.2.2.2.2.2.1
theorem dX7_init_99 : decode cX7_init 99 = .ok (.aload_n 0, 1) := edX7_init_66.2.2.2.2.2.2.2.2.2.2.2.2.2.2.2.1
theorem dX7_init_100 : decode cX7_init 100 = .ok (.iconst 0, 1) := edX7_init_66.2.2.2.2.2.2.2.2.2.2.2.2.2.2.2.2.1
theorem dX7_init_101 : decode cX7_init 101 = .ok (.putfield 61, 3) := edX7_init_66.2.2.2.2.2.2.2.2.2.2.2.2.2.2.2.2.2.1
theorem dX7_init_104 : decode cX7_init 104 = .ok (.iconst 0, 1) := edX7_init_66.2.2.2.2.2.2.2.2.2.2.2.2.2.2.2.2.2.2.1
theorem dX7_init_105 : decode cX7_init 105 = .ok (.istore_n 1, 1) := edX7_init_66.2.2.2.2.2.2.2.2.2.2.2.2.2.2.2.2.2.2.2.1
theorem dX7_init_106 : decode cX7_init 106 = .ok (.iload_n 1, 1) := edX7_init_66.2.2.2.2.2.2.2.2.2.2.2.2.2.2.2.2.2.2.2.2.1
theorem dX7_init_107 : decode cX7_init 107 = .ok (.iconst 4, 1) := edX7_init_66.2.2.2.2.2.2.2.2.2.2.2.2.2.2.2.2.2.2.2.2.2.1
theorem dX7_init_108 : decode cX7_init 108 = .ok (.if_icmp .ge 22, 3) := edX7_init_66.2.2.2.2.2.2.2.2.2.2.2.2.2.2.2.2.2.2.2.2.2.2.1
theorem dX7_init_111 : decode cX7_init 111 = .ok (.aload_n 0, 1) := edX7_init_66.2.2.2.2.2.2.2.2.2.2.2.2.2.2.2.2.2.2.2.2.2.2.2.1
theorem dX7_init_112 : decode cX7_init 112 = .ok (.getfield 47, 3) := edX7_init_66.2.2.2.2.2.2.2.2.2.2.2.2.2.2.2.2.2.2.2.2.2.2.2.2.1
theorem dX7_init_115 : decode cX7_init 115 = .ok (.iload_n 1, 1) := edX7_init_66.2.2.2.2.2.2.2.2.2.2.2.2.2.2.2.2.2.2.2.2.2.2.2.2.2.1
theorem dX7_init_116 : decode cX7_init 116 = .ok (.new 45, 3) := edX7_init_66.2.2.2.2.2.2.2.2.2.2.2.2.2.2.2.2.2.2.2.2.2.2.2.2.2.2.1
theorem dX7_init_119 : decode cX7_init 119 = .ok (.dup, 1) := edX7_init_66.2.2.2.2.2.2.2.2.2.2.2.2.2.2.2.2.2.2.2.2.2.2.2.2.2.2.2.1
theorem dX7_init_120 : decode cX7_init 120 = .ok (.invokespecial 65, 3) := edX7_init_66.2.2.2.2.2.2.2.2.2.2.2.2.2.2.2.2.2.2.2.2.2.2.2.2.2.2.2.2.1
theorem dX7_init_123 : decode cX7_init 123 = .ok (.aastore, 1) := edX7_init_66.2.2.2.2.2.2.2.2.2.2.2.2.2.2.2.2.2.2.2.2.2.2.2.2.2.2.2.2.2.1
theorem dX7_init_124 : decode cX7_init 124 = .ok (.iinc 1 1, 3) := edX7_init_66.2.2.2.2.2.2.2.2.2.2.2.2.2.2.2.2.2.2.2.2.2.2.2.2.2.2.2.2.2.2.1
theorem dX7_init_127 : decode cX7_init 127 = .ok (.goto (-21), 3) := edX7_init_66.2.2.2.2.2.2.2.2.2.2.2.2.2.2.2.2.2.2.2.2.2.2.2.2.2.2.2.2.2.2.2.1
theorem edX7_init_130 : (decode cX7_init 130 = .ok (.iconst 0, 1)) ∧ (decode cX7_init 131 = .ok (.istore_n 1, 1)) ∧ (decode cX7_init 132 = .ok (.iload_n 1, 1)) ∧ (decode cX7_init 133 = .ok (.iconst 5, 1)) ∧ (decode cX7_init 134 = .ok (.if_icmp .ge 22, 3)) ∧ (decode cX7_init 137 = .ok (.aload_n 0, 1)) ∧ (decode cX7_init 138 = .ok (.getfield 53, 3)) ∧ (decode cX7_init 141 = .ok (.iload_n 1, 1)) ∧ (decode cX7_init 142 = .ok (.new 51, 3)) ∧ (decode cX7_init 145 = .ok (.dup, 1)) ∧ (decode cX7_init 146 = .ok (.invokespecial 66, 3)) ∧ (decode cX7_init 149 = .ok (.aastore, 1)) ∧ (decode cX7_init 150 = .ok (.iinc 1 1, 3)) ∧ (decode cX7_init 153 = .ok (.goto (-21), 3)) ∧ (decode cX7_init 156 = .ok (.return_, 1)) ∧ True := dc_cj [(130, .iconst 0, 1), (131, .istore_n 1, 1), (132, .iload_n 1, 1), (133, .iconst 5, 1), (134, .if_icmp .ge 22, 3), (137, .aload_n 0, 1), (138, .getfield 53, 3), (141, .iload_n 1, 1), (142, .new 51, 3), (145, .dup, 1), (146, .invokespecial 66, 3), (149, .aastore, 1), (150, .iinc 1 1, 3), (153, .goto (-21), 3), (156, .return_, 1)] (by decide +kernel)
theorem dX7_init_130 : decode cX7_init 130 = .ok (.iconst 0, 1) := edX7_init_130.1
theorem dX7_init_131 : decode cX7_init 131 = .ok (.istore_n 1, 1) := edX7_init_130.2.1
theorem dX7_init_132 : decode cX7_init 132 = .ok (.iload_n 1, 1) := edX7_init_130.2.2.1
theorem dX7_init_133 : decode cX7_init 133 = .ok (.iconst 5, 1) := edX7_init_130.2.2.2.1
theorem dX7_init_134 : decode cX7_init 134 = .ok (.if_icmp .ge 22, 3) := edX7_init_130.2.2.2.2.1
theorem dX7_init_137 : decode cX7_init 137 = .ok (.aload_n 0, 1) := edX7_init_130.2.2.2.2.2.1
theorem dX7_init_138 : decode cX7_init 138 = .ok (.getfield 53, 3) := edX7_init_130.2.2.2.2.2.2.1
theorem dX7_init_141 : decode cX7_init 141 = .ok (.iload_n 1, 1) := edX7_init_130.2.2.2.2.2.2.2.1
theorem dX7_init_142 : decode cX7_init 142 = .ok (.new 51, 3) := edX7_init_130.2.2.2.2.2.2.2.2.1
theorem dX7_init_145 : decode cX7_init 145 = .ok (.dup, 1) := edX7_init_130.2.2.2.2.2.2.2.2.2.1
theorem dX7_init_146 : decode cX7_init 146 = .ok (.invokespecial 66, 3) := edX7_init_130.2.2.2.2.2.2.2.2.2.2.1
theorem dX7_init_149 : decode cX7_init 149 = .ok (.aastore, 1) := edX7_init_130.2.2.2.2.2.2.2.2.2.2.2.1
theorem dX7_init_150 : decode cX7_init 150 = .ok (.iinc 1 1, 3) := edX7_init_130.2.2.2.2.2.2.2.2.2.2.2.2.1
theorem dX7_init_153 : decode cX7_init 153 = .ok (.goto (-21), 3) := edX7_init_130.2.2.2.2.2.2.2.2.2.2.2.2.2.1
theorem dX7_init_156 : decode cX7_init 156 = .ok (.return_, 1) := edX7_init_130.2.2.2.2.2.2.2.2.2.2.2.2.2.2.1
theorem edX7_friend_0 : (decode cX7_friend 0 = .ok (.iload_n 1, 1)) ∧ (decode cX7_friend 1 = .ok (.invokestatic 67, 3)) ∧ (decode cX7_friend 4 = .ok (.ifCond .eq 20, 3)) ∧ (decode cX7_friend 7 = .ok (.iload_n 2, 1)) ∧ (decode cX7_friend 8 = .ok (.invokestatic 71, 3)) ∧ (decode cX7_friend 11 = .ok (.ifCond .eq 13, 3)) ∧ (decode cX7_friend 14 = .ok (.iload_n 3, 1)) ∧ (decode cX7_friend 15 = .ok (.iconst 0, 1)) ∧ (decode cX7_friend 16 = .ok (.bipush 99, 2)) ∧ (decode cX7_friend 18 = .ok (.invokestatic 74, 3)) ∧ (decode cX7_friend 21 = .ok (.ifCond .ne 6, 3)) ∧ (decode cX7_friend 24 = .ok (.ldc 78, 2)) ∧ (decode cX7_friend 26 = .ok (.ireturn, 1)) ∧ (decode cX7_friend 27 = .ok (.aload_n 0, 1)) ∧ (decode cX7_friend 28 = .ok (.getfield 10, 3)) ∧ (decode cX7_friend 31 = .ok (.getfield 79, 3)) ∧ (decode cX7_friend 34 = .ok (.bipush 8, 2)) ∧ (decode cX7_friend 36 = .ok (.if_icmp .lt 6, 3)) ∧ (decode cX7_friend 39 = .ok (.ldc 82, 2)) ∧ (decode cX7_friend 41 = .ok (.ireturn, 1)) ∧ (decode cX7_friend 42 = .ok (.aload_n 0, 1)) ∧ (decode cX7_friend 43 = .ok (.getfield 10, 3)) ∧ (decode cX7_friend 46 = .ok (.iload_n 1, 1)) ∧ (decode cX7_friend 47 = .ok (.iload_n 2, 1)) ∧ (decode cX7_friend 48 = .ok (.iload_n 3, 1)) ∧ (decode cX7_friend 49 = .ok (.invokevirtual 83, 3)) ∧ (decode cX7_friend 52 = .ok (.aload_n 0, 1)) ∧ (decode cX7_friend 53 = .ok (.getfield 10, 3)) ∧ (decode cX7_friend 56 = .ok (.getfield 79, 3)) ∧ (decode cX7_friend 59 = .ok (.iconst 1, 1)) ∧ (decode cX7_friend 60 = .ok (.isub, 1)) ∧ (decode cX7_friend 61 = .ok (.ireturn, 1)) ∧ True := dc_cj [(0, .iload_n 1, 1), (1, .invokestatic 67, 3), (4, .ifCond .eq 20, 3), (7, .iload_n 2, 1), (8, .invokestatic 71, 3), (11, .ifCond .eq 13, 3), (14, .iload_n 3, 1), (15, .iconst 0, 1), (16, .bipush 99, 2), (18, .invokestatic 74, 3), (21, .ifCond .ne 6, 3), (24, .ldc 78, 2), (26, .ireturn, 1), (27, .aload_n 0, 1), (28, .getfield 10, 3), (31, .getfield 79, 3), (34, .bipush 8, 2), (36, .if_icmp .lt 6, 3), (39, .ldc 82, 2), (41, .ireturn, 1), (42, .aload_n 0, 1), (43, .getfield 10, 3), (46, .iload_n 1, 1), (47, .iload_n 2, 1), (48, .iload_n 3, 1), (49, .invokevirtual 83, 3), (52, .aload_n 0, 1), (53, .getfield 10, 3), (56, .getfield 79, 3), (59, .iconst 1, 1), (60, .isub, 1), (61, .ireturn, 1)] (by decide +kernel)
theorem dX7_friend_0 : decode cX7_friend 0 = .ok (.iload_n 1, 1) := edX7_friend_0.1
theorem dX7_friend_1 : decode cX7_friend 1 = .ok (.invokestatic 67, 3) := edX7_friend_0.2.1
theorem dX7_friend_4 : decode cX7_friend 4 = .ok (.ifCond .eq 20, 3) := edX7_friend_0.2.2.1
theorem dX7_friend_7 : decode cX7_friend 7 = .ok (.iload_n 2, 1) := edX7_friend_0.2.2.2.1
theorem dX7_friend_8 : decode cX7_friend 8 = .ok (.invokestatic 71, 3) := edX7_friend_0.2.2.2.2.1
theorem dX7_friend_11 : decode cX7_friend 11 = .ok (.ifCond .eq 13, 3) := edX7_friend_0.2.2.2.2.2.1
theorem dX7_friend_14 : decode cX7_friend 14 = .ok (.iload_n 3, 1) := edX7_friend_0.2.2.2.2.2.2.1
theorem dX7_friend_15 : decode cX7_friend 15 = .ok (.iconst 0, 1) := edX7_friend_0.2.2.2.2.2.2.2.1
theorem dX7_friend_16 : decode cX7_friend 16 = .ok (.bipush 99, 2) := edX7_friend_0.2.2.2.2.2.2.2.2.1
theorem dX7_friend_18 : decode cX7_friend 18 = .ok (.invokestatic 74, 3) := edX7_friend_0.2.2.2.2.2.2.2.2.2.1
theorem dX7_friend_21 : decode cX7_friend 21 = .ok (.ifCond .ne 6, 3) := edX7_friend_0.2.2.2.2.2.2.2.2.2.2.1
theorem dX7_friend_24 : decode cX7_friend 24 = .ok (.ldc 78, 2) := edX7_friend_0.2.2.2.2.2.2.2.2.2.2.2.1
theorem dX7_friend_26 : decode cX7_friend 26 = .ok (.ireturn, 1) := edX7_friend_0.2.2.2.2.2.2.2.2.2.2.2.2.1
theorem dX7_friend_27 : decode cX7_friend 27 = .ok (.aload_n 0, 1) := edX7_friend_0.2.2.2.2.2.2.2.2.2.2.2.2.2.1
theorem dX7_friend_28 : decode cX7_friend 28 = .ok (.getfield 10, 3) := edX7_friend_0.2.2.2.2.2.2.2.2.2.2.2.2.2.2.1
theorem dX7_friend_31 : decode cX7_friend 31 = .ok (.getfield 79, 3) := edX7_friend_0.2.2.2.2.2.2.2.2.2.2.2.2.2.2.2.1
theorem dX7_friend_34 : decode cX7_friend 34 = .ok (.bipush 8, 2) := edX7_friend_0.2.2.2.2.2.2.2.2.2.2.2.2.2.2.2.2.1
theorem dX7_friend_36 : decode cX7_friend 36 = .ok (.if_icmp .lt 6, 3) := edX7_friend_0.2.2.2.2.2.2.2.2.2.2.2.2.2.2.2.2.2.1
theorem dX7_friend_39 : decode cX7_friend 39 = .ok (.ldc 82, 2) := edX7_friend_0.2.2.2.2.2.2.2.2.2.2.2.2.2.2.2.2.2.2.1
theorem dX7_friend_41 : decode cX7_friend 41 = .ok (.ireturn, 1) := edX7_friend_0.2.2.2.2.2.2.2.2.2.2.2.2.2.2.2.2.2.2.2.1
theorem dX7_friend_42 : decode cX7_friend 42 = .ok (.aload_n 0, 1) := edX7_friend_0.2.2.2.2.2.2.2.2.2.2.2.2.2.2.2.2.2.2.2.2.1
theorem dX7_friend_43 : decode cX7_friend 43 = .ok (.getfield 10, 3) := edX7_friend_0.2.2.2.2.2.2.2.2.2.2.2.2.2.2.2.2.2.2.2.2.2.1
theorem dX7_friend_46 : decode cX7_friend 46 = .ok (.iload_n 1, 1) := edX7_friend_0.2.2.2.2.2.2.2.2.2.2.2.2.2.2.2.2.2.2.2.2.2.2.1
theorem dX7_friend_47 : decode cX7_friend 47 = .ok (.iload_n 2, 1) := edX7_friend_0.2.2.2.2.2.2.2.2.2.2.2.2.2.2.2.2.2.2.2.2.2.2.2.1
theorem dX7_friend_48 : decode cX7_friend 48 = .ok (.iload_n 3, 1) := edX7_friend_0.2.2.2.2.2.2.2.2.2.2.2.2.2.2.2.2.2.2.2.2.2.2.2.2.1
theorem dX7_friend_49 : decode cX7_friend 49 = .ok (.invokevirtual 83, 3) := edX7_friend_0.2.2.2.2.2.2.2.2.2.2.2.2.2.2.2.2.2.2.2.2.2.2.2.2.2.1
theorem dX7_friend_52 : decode cX7_friend 52 = .ok (.aload_n 0, 1) := edX7_friend_0.2.2.2.2.2.2.2.2.2.2.2.2.2.2.2.2.2.2.2.2.2.2.2.2.2.2.1
theorem dX7_friend_53 : decode cX7_friend 53 = .ok (.getfield 10, 3) := edX7_friend_0.2.2.2.2.2.2.2.2.2.2.2.2.2.2.2.2.2.2.2.2.2.2.2.2.2.2.2.1
theorem dX7_friend_56 : decode cX7_friend 56 = .ok (.getfield 79, 3) := edX7_friend_0.2.2.2.2.2.2.2.2.2.2.2.2.2.2.2.2.2.2.2.2.2.2.2.2.2.2.2.2.1
theorem dX7_friend_59 : decode cX7_friend 59 = .ok (.iconst 1, 1) := edX7_friend_0.2.2.2.2.2.2.2.2.2.2.2.2.2.2.2.2.2.2.2.2.2.2.2.2.2.2.2.2.2.1
theorem dX7_friend_60 : decode cX7_friend 60 = .ok (.isub, 1) := edX7_friend_0.2.2.2.2.2.2.2.2.2.2.2.2.2.2.2.2.2.2.2.2.2.2.2.2.2.2.2.2.2.2.1
theorem dX7_friend_61 : decode cX7_friend 61 = .ok (.ireturn, 1) := edX7_friend_0.2.2.2.2.2.2.2.2.2.2.2.2.2.2.2.2.2.2.2.2.2.2.2.2.2.2.2.2.2.2.2.1
theorem edX7_told_0 : (decode cX7_told 0 = .ok (.aload_n 0, 1)) ∧ (decode cX7_told 1 = .ok (.getfield 10, 3)) ∧ (decode cX7_told 4 = .ok (.iload_n 1, 1)) ∧ (decode cX7_told 5 = .ok (.invokevirtual 87, 3)) ∧ (decode cX7_told 8 = .ok (.ifCond .ne 6, 3)) ∧ (decode cX7_told 11 = .ok (.ldc 78, 2)) ∧ (decode cX7_told 13 = .ok (.ireturn, 1)) ∧ (decode cX7_told 14 = .ok (.iload_n 2, 1)) ∧ (decode cX7_told 15 = .ok (.tableswitch 138 0 7 #[45, 55, 65, 75, 85, 95, 104, 116], 45)) ∧ (decode cX7_told 60 = .ok (.aload_n 0, 1)) ∧ (decode cX7_told 61 = .ok (.getfield 10, 3)) ∧ (decode cX7_told 64 = .ok (.getfield 90, 3)) ∧ (decode cX7_told 67 = .ok (.iload_n 1, 1)) ∧ (decode cX7_told 68 = .ok (.iaload, 1)) ∧ (decode cX7_told 69 = .ok (.ireturn, 1)) ∧ (decode cX7_told 70 = .ok (.aload_n 0, 1)) ∧ (decode cX7_told 71 = .ok (.getfield 10, 3)) ∧ (decode cX7_told 74 = .ok (.getfield 93, 3)) ∧ (decode cX7_told 77 = .ok (.iload_n 1, 1)) ∧ (decode cX7_told 78 = .ok (.iaload, 1)) ∧ (decode cX7_told 79 = .ok (.ireturn, 1)) ∧ (decode cX7_told 80 = .ok (.aload_n 0, 1)) ∧ (decode cX7_told 81 = .ok (.getfield 10, 3)) ∧ (decode cX7_told 84 = .ok (.getfield 96, 3)) ∧ (decode cX7_told 87 = .ok (.iload_n 1, 1)) ∧ (decode cX7_told 88 = .ok (.iaload, 1)) ∧ (decode cX7_told 89 = .ok (.ireturn, 1)) ∧ (decode cX7_told 90 = .ok (.aload_n 0, 1)) ∧ (decode cX7_told 91 = .ok (.getfield 10, 3)) ∧ (decode cX7_told 94 = .ok (.getfield 99, 3)) ∧ (decode cX7_told 97 = .ok (.iload_n 1, 1)) ∧ (decode cX7_told 98 = .ok (.iaload, 1)) ∧ True := dc_cj [(0, .aload_n 0, 1), (1, .getfield 10, 3), (4, .iload_n 1, 1), (5, .invokevirtual 87, 3), (8, .ifCond .ne 6, 3), (11, .ldc 78, 2), (13, .ireturn, 1), (14, .iload_n 2, 1), (15, .tableswitch 138 0 7 #[45, 55, 65, 75, 85, 95, 104, 116], 45), (60, .aload_n 0, 1), (61, .getfield 10, 3), (64, .getfield 90, 3), (67, .iload_n 1, 1), (68, .iaload, 1), (69, .ireturn, 1), (70, .aload_n 0, 1), (71, .getfield 10, 3), (74, .getfield 93, 3), (77, .iload_n 1, 1), (78, .iaload, 1), (79, .ireturn, 1), (80, .aload_n 0, 1), (81, .getfield 10, 3), (84, .getfield 96, 3), (87, .iload_n 1, 1), (88, .iaload, 1), (89, .ireturn, 1), (90, .aload_n 0, 1), (91, .getfield 10, 3), (94, .getfield 99, 3), (97, .iload_n 1, 1), (98, .iaload, 1)] (by decide +kernel)
theorem dX7_told_0 : decode cX7_told 0 = .ok (.aload_n 0, 1) := edX7_told_0.1
theorem dX7_told_1 : decode cX7_told 1 = .ok (.getfield 10, 3) := edX7_told_0.2.1
theorem dX7_told_4 : decode cX7_told 4 = .ok (.iload_n 1, 1) := edX7_told_0.2.2.1
theorem dX7_told_5 : decode cX7_told 5 = .ok (.invokevirtual 87, 3) := edX7_told_0.2.2.2.1
theorem dX7_told_8 : decode cX7_told 8 = .ok (.ifCond .ne 6, 3) := edX7_told_0.2.2.2.2.1
theorem dX7_told_11 : decode cX7_told 11 = .ok (.ldc 78, 2) := edX7_told_0.2.2.2.2.2.1
theorem dX7_told_13 : decode cX7_told 13 = .ok (.ireturn, 1) := edX7_told_0.2.2.2.2.2.2.1
theorem dX7_told_14 : decode cX7_told 14 = .ok (.iload_n 2, 1) := edX7_told_0.2.2.2.2.2.2.2.1
theorem dX7_told_15 : decode cX7_told 15 = .ok (.tableswitch 138 0 7 #[45, 55, 65, 75, 85, 95, 104, 116], 45) := edX7_told_0.2.2.2.2.2.2.2.2.1
theorem dX7_told_60 : decode cX7_told 60 = .ok (.aload_n 0, 1) := edX7_told_0.2.2.2.2.2.2.2.2.2.1
theorem dX7_told_61 : decode cX7_told 61 = .ok (.getfield 10, 3) := edX7_told_0.2.2.2.2.2.2.2.2.2.2.1
theorem dX7_told_64 : decode cX7_told 64 = .ok (.getfield 90, 3) := edX7_told_0.2.2.2.2.2.2.2.2.2.2.2.1
theorem dX7_told_67 : decode cX7_told 67 = .ok (.iload_n 1, 1) := edX7_told_0.2.2.2.2.2.2.2.2.2.2.2.2.1
theorem dX7_told_68 : decode cX7_told 68 = .ok (.iaload, 1) := edX7_told_0.2.2.2.2.2.2.2.2.2.2.2.2.2.1
theorem dX7_told_69 : decode cX7_told 69 = .ok (.ireturn, 1) := edX7_told_0.2.2.2.2.2.2.2.2.2.2.2.2.2.2.1
theorem dX7_told_70 : decode cX7_told 70 = .ok (.aload_n 0, 1) := edX7_told_0.2.2.2.2.2.2.2.2.2.2.2.2.2.2.2.1
theorem dX7_told_71 : decode cX7_told 71 = .ok (.getfield 10, 3) := edX7_told_0.2.2.2.2.2.2.2.2.2.2.2.2.2.2.2.2.1
theorem dX7_told_74 : decode cX7_told 74 = .ok (.getfield 93, 3) := edX7_told_0.2.2.2.2.2.2.2.2.2.2.2.2.2.2.2.2.2.1
theorem dX7_told_77 : decode cX7_told 77 = .ok (.iload_n 1, 1) := edX7_told_0.2.2.2.2.2.2.2.2.2.2.2.2.2.2.2.2.2.2.1
theorem dX7_told_78 : decode cX7_told 78 = .ok (.iaload, 1) := edX7_told_0.2.2.2.2.2.2.2.2.2.2.2.2.2.2.2.2.2.2.2.1
theorem dX7_told_79 : decode cX7_told 79 = .ok (.ireturn, 1) := edX7_told_0.2.2.2.2.2.2.2.2.2.2.2.2.2.2.2.2.2.2.2.2.1
theorem dX7_told_80 : decode cX7_told 80 = .ok (.aload_n 0, 1) := edX7_told_0.2.2.2.2.2.2.2.2.2.2.2.2.2.2.2.2.2.2.2.2.2.1
theorem dX7_told_81 : decode cX7_told 81 = .ok (.getfield 10, 3) := edX7_told_0.2.2.2.2.2.2.2.2.2.2.2.2.2.2.2.2.2.2.2.2.2.2.1
theorem dX7_told_84 : decode cX7_told 84 = .ok (.getfield 96, 3) := edX7_told_0.2.2.2.2.2.2.2.2.2.2.2.2.2.2.2.2.2.2.2.2.2.2.2.1
theorem dX7_told_87 : decode cX7_told 87 = .ok (.iload_n 1, 1) := edX7_told_0.2.2.2.2.2.2.2.2.2.2.2.2.2.2.2.2.2.2.2.2.2.2.2.2.1
theorem dX7_told_88 : decode cX7_told 88 = .ok (.iaload, 1) := edX7_told_0.2.2.2.2.2.2.2.2.2.2.2.2.2.2.2.2.2.2.2.2.2.2.2.2.2.1
theorem dX7_told_89 : decode cX7_told 89 = .ok (.ireturn, 1) := edX7_told_0.2.2.2.2.2.2.2.2.2.2.2.2.2.2.2.2.2.2.2.2.2.2.2.2.2.2.1
theorem dX7_told_90 : decode cX7_told 90 = .ok (.aload_n 0, 1) := edX7_told_0.2.2.2.2.2.2.2.2.2.2.2.2.2.2.2.2.2.2.2.2.2.2.2.2.2.2.2.1
theorem dX7_told_91 : decode cX7_told 91 = .ok (.getfield 10, 3) := edX7_told_0.2.2.2.2.2.2.2.2.2.2.2.2.2.2.2.2.2.2.2.2.2.2.2.2.2.2.2.2.1
theorem dX7_told_94 : decode cX7_told 94 = .ok (.getfield 99, 3) := edX7_told_0.2.2.2.2.2.2.2.2.2.2.2.2.2.2.2.2.2.2.2.2.2.2.2.2.2.2.2.2.2.1
theorem dX7_told_97 : decode cX7_told 97 = .ok (.iload_n 1, 1) := edX7_told_0.2.2.2.2.2.2.2.2.2.2.2.2.2.2.2.2.2.2.2.2.2.2.2.2.2.2.2.2.2.2.1
theorem dX7_told_98 : decode cX7_told 98 = .ok (.iaload, 1) := edX7_told_0.2.2.2.2.2.2.2.2.2.2.2.2.2.2.2.2.2.2.2.2.2.2.2.2.2.2.2.2.2.2.2.1
theorem edX7_told_99 : (decode cX7_told 99 = .ok (.ireturn, 1)) ∧ (decode cX7_told 100 = .ok (.aload_n 0, 1)) ∧ (decode cX7_told 101 = .ok (.getfield 10, 3)) ∧ (decode cX7_told 104 = .ok (.getfield 102, 3)) ∧ (decode cX7_told 107 = .ok (.iload_n 1, 1)) ∧ (decode cX7_told 108 = .ok (.iaload, 1)) ∧ (decode cX7_told 109 = .ok (.ireturn, 1)) ∧ (decode cX7_told 110 = .ok (.aload_n 0, 1)) ∧ (decode cX7_told 111 = .ok (.getfield 10, 3)) ∧ (decode cX7_told 114 = .ok (.iload_n 1, 1)) ∧ (decode cX7_told 115 = .ok (.invokevirtual 105, 3)) ∧ (decode cX7_told 118 = .ok (.ireturn, 1)) ∧ (decode cX7_told 119 = .ok (.aload_n 0, 1)) ∧ (decode cX7_told 120 = .ok (.getfield 10, 3)) ∧ (decode cX7_told 123 = .ok (.iload_n 1, 1)) ∧ (decode cX7_told 124 = .ok (.invokevirtual 109, 3)) ∧ (decode cX7_told 127 = .ok (.invokestatic 112, 3)) ∧ (decode cX7_told 130 = .ok (.ireturn, 1)) ∧ (decode cX7_told 131 = .ok (.aload_n 0, 1)) ∧ (decode cX7_told 132 = .ok (.getfield 10, 3)) ∧ (decode cX7_told 135 = .ok (.getfield 90, 3)) ∧ (decode cX7_told 138 = .ok (.iload_n 1, 1)) ∧ (decode cX7_told 139 = .ok (.iaload, 1)) ∧ (decode cX7_told 140 = .ok (.aload_n 0, 1)) ∧ (decode cX7_told 141 = .ok (.getfield 10, 3)) ∧ (decode cX7_told 144 = .ok (.getfield 96, 3)) ∧ (decode cX7_told 147 = .ok (.iload_n 1, 1)) ∧ (decode cX7_told 148 = .ok (.iaload, 1)) ∧ (decode cX7_told 149 = .ok (.invokestatic 115, 3)) ∧ (decode cX7_told 152 = .ok (.ireturn, 1)) ∧ (decode cX7_told 153 = .ok (.ldc 78, 2)) ∧ (decode cX7_told 155 = .ok (.ireturn, 1)) ∧ True := dc_cj [(99, .ireturn, 1), (100, .aload_n 0, 1), (101, .getfield 10, 3), (104, .getfield 102, 3), (107, .iload_n 1, 1), (108, .iaload, 1), (109, .ireturn, 1), (110, .aload_n 0, 1), (111, .getfield 10, 3), (114, .iload_n 1, 1), (115, .invokevirtual 105, 3), (118, .ireturn, 1), (119, .aload_n 0, 1), (120, .getfield 10, 3), (123, .iload_n 1, 1), (124, .invokevirtual 109, 3), (127, .invokestatic 112, 3), (130, .ireturn, 1), (131, .aload_n 0, 1), (132, .getfield 10, 3), (135, .getfield 90, 3), (138, .iload_n 1, 1), (139, .iaload, 1), (140, .aload_n 0, 1), (141, .getfield 10, 3), (144, .getfield 96, 3), (147, .iload_n 1, 1), (148, .iaload, 1), (149, .invokestatic 115, 3), (152, .ireturn, 1), (153, .ldc 78, 2), (155, .ireturn, 1)] (by decide +kernel)
theorem dX7_told_99 : decode cX7_told 99 = .ok (.ireturn, 1) := edX7_told_99.1
theorem dX7_told_100 : decode cX7_told 100 = .ok (.aload_n 0, 1) := edX7_told_99.2.1
theorem dX7_told_101 : decode cX7_told 101 = .ok (.getfield 10, 3) := edX7_told_99.2.2.1
theorem dX7_told_104 : decode cX7_told 104 = .ok (.getfield 102, 3) := edX7_told_99.2.2.2.1
theorem dX7_told_107 : decode cX7_told 107 = .ok (.iload_n 1, 1) := edX7_told_99.2.2.2.2.1
theorem dX7_told_108 : decode cX7_told 108 = .ok (.iaload, 1) := edX7_told_99.2.2.2.2.2.1
theorem dX7_told_109 : decode cX7_told 109 = .ok (.ireturn, 1) := edX7_told_99.2.2.2.2.2.2.1
theorem dX7_told_110 : decode cX7_told 110 = .ok (.aload_n 0, 1) := edX7_told_99.2.2.2.2.2.2.2.1
theorem dX7_told_111 : decode cX7_told 111 = .ok (.getfield 10, 3) := edX7_told_99.2.2.2.2.2.2.2.2.1
theorem dX7_told_114 : decode cX7_told 114 = .ok (.iload_n 1, 1) := edX7_told_99.2.2.2.2.2.2.2.2.2.1
theorem dX7_told_115 : decode cX7_told 115 = .ok (.invokevirtual 105, 3) := edX7_told_99.2.2.2.2.2.2.2.2.2.2.1
theorem dX7_told_118 : decode cX7_told 118 = .ok (.ireturn, 1) := edX7_told_99.2.2.2.2.2.2.2.2.2.2.2.1
theorem dX7_told_119 : decode cX7_told 119 = .ok (.aload_n 0, 1) := edX7_told_99.2.2.2.2.2.2.2.2.2.2.2.2.1
theorem dX7_told_120 : decode cX7_told 120 = .ok (.getfield 10, 3) := edX7_told_99.2.2.2.2.2.2.2.2.2.2.2.2.2.1
theorem dX7_told_123 : decode cX7_told 123 = .ok (.iload_n 1, 1) := edX7_told_99.2.2.2.2.2.2.2.2.2.2.2.2.2.2.1
theorem dX7_told_124 : decode cX7_told 124 = .ok (.invokevirtual 109, 3) := edX7_told_99.2.2.2.2.2.2.2.2.2.2.2.2.2.2.2.1
theorem dX7_told_127 : decode cX7_told 127 = .ok (.invokestatic 112, 3) := edX7_told_99.2.2.2.2.2.2.2.2.2.2.2.2.2.2.2.2.1
theorem dX7_told_130 : decode cX7_told 130 = .ok (.ireturn, 1) := edX7_told_99.2.2.2.2.2.2.2.2.2.2.2.2.2.2.2.2.2.1
theorem dX7_told_131 : decode cX7_told 131 = .ok (.aload_n 0, 1) := edX7_told_99.2.2.2.2.2.2.2.2.2.2.2.2.2.2.2.2.2.2.1
theorem dX7_told_132 : decode cX7_told 132 = .ok (.getfield 10, 3) := edX7_told_99.2.2.2.2.2.2.2.2.2.2.2.2.2.2.2.2.2.2.2.1
theorem dX7_told_135 : decode cX7_told 135 = .ok (.getfield 90, 3) := edX7_told_99.2.2.2.2.2.2.2.2.2.2.2.2.2.2.2.2.2.2.2.2.1
theorem dX7_told_138 : decode cX7_told 138 = .ok (.iload_n 1, 1) := edX7_told_99.2.2.2.2.2.2.2.2.2.2.2.2.2.2.2.2.2.2.2.2.2.1
theorem dX7_told_139 : decode cX7_told 139 = .ok (.iaload, 1) := edX7_told_99.2.2.2.2.2.2.2.2.2.2.2.2.2.2.2.2.2.2.2.2.2.2.1
theorem dX7_told_140 : decode cX7_told 140 = .ok (.aload_n 0, 1) := edX7_told_99.2.2.2.2.2.2.2.2.2.2.2.2.2.2.2.2.2.2.2.2.2.2.2.1
theorem dX7_told_141 : decode cX7_told 141 = .ok (.getfield 10, 3) := edX7_told_99.2.2.2.2.2.2.2.2.2.2.2.2.2.2.2.2.2.2.2.2.2.2.2.2.1
theorem dX7_told_144 : decode cX7_told 144 = .ok (.getfield 96, 3) := edX7_told_99.2.2.2.2.2.2.2.2.2.2.2.2.2.2.2.2.2.2.2.2.2.2.2.2.2.1
theorem dX7_told_147 : decode cX7_told 147 = .ok (.iload_n 1, 1) := edX7_told_99.2.2.2.2.2.2.2.2.2.2.2.2.2.2.2.2.2.2.2.2.2.2.2.2.2.2.1
theorem dX7_told_148 : decode cX7_told 148 = .ok (.iaload, 1) := edX7_told_99.2.2.2.2.2.2.2.2.2.2.2.2.2.2.2.2.2.2.2.2.2.2.2.2.2.2.2.1
theorem dX7_told_149 : decode cX7_told 149 = .ok (.invokestatic 115, 3) := edX7_told_99.2.2.2.2.2.2.2.2.2.2.2.2.2.2.2.2.2.2.2.2.2.2.2.2.2.2.2.2.1
theorem dX7_told_152 : decode cX7_told 152 = .ok (.ireturn, 1) := edX7_told_99.2.2.2.2.2.2.2.2.2.2.2.2.2.2.2.2.2.2.2.2.2.2.2.2.2.2.2.2.2.1
theorem dX7_told_153 : decode cX7_told 153 = .ok (.ldc 78, 2) := edX7_told_99.2.2.2.2.2.2.2.2.2.2.2.2.2.2.2.2.2.2.2.2.2.2.2.2.2.2.2.2.2.2.1
theorem dX7_told_155 : decode cX7_told 155 = .ok (.ireturn, 1) := edX7_told_99.2.2.2.2.2.2.2.2.2.2.2.2.2.2.2.2.2.2.2.2.2.2.2.2.2.2.2.2.2.2.2.1
theorem edX7_as_0 : (decode cX7_as 0 = .ok (.aload_n 0, 1)) ∧ (decode cX7_as 1 = .ok (.getfield 10, 3)) ∧ (decode cX7_as 4 = .ok (.iload_n 1, 1)) ∧ (decode cX7_as 5 = .ok (.invokevirtual 87, 3)) ∧ (decode cX7_as 8 = .ok (.ifCond .eq 10, 3)) ∧ (decode cX7_as 11 = .ok (.iload_n 2, 1)) ∧ (decode cX7_as 12 = .ok (.invokestatic 67, 3)) ∧ (decode cX7_as 15 = .ok (.ifCond .ne 6, 3)) ∧ (decode cX7_as 18 = .ok (.ldc 78, 2)) ∧ (decode cX7_as 20 = .ok (.ireturn, 1)) ∧ (decode cX7_as 21 = .ok (.aload_n 0, 1)) ∧ (decode cX7_as 22 = .ok (.getfield 10, 3)) ∧ (decode cX7_as 25 = .ok (.getfield 90, 3)) ∧ (decode cX7_as 28 = .ok (.iload_n 1, 1)) ∧ (decode cX7_as 29 = .ok (.iaload, 1)) ∧ (decode cX7_as 30 = .ok (.iload_n 2, 1)) ∧ (decode cX7_as 31 = .ok (.invokestatic 119, 3)) ∧ (decode cX7_as 34 = .ok (.ifCond .eq 15, 3)) ∧ (decode cX7_as 37 = .ok (.aload_n 0, 1)) ∧ (decode cX7_as 38 = .ok (.getfield 10, 3)) ∧ (decode cX7_as 41 = .ok (.getfield 96, 3)) ∧ (decode cX7_as 44 = .ok (.iload_n 1, 1)) ∧ (decode cX7_as 45 = .ok (.iaload, 1)) ∧ (decode cX7_as 46 = .ok (.goto 5, 3)) ∧ (decode cX7_as 49 = .ok (.ldc 123, 2)) ∧ (decode cX7_as 51 = .ok (.ireturn, 1)) ∧ True := dc_cj [(0, .aload_n 0, 1), (1, .getfield 10, 3), (4, .iload_n 1, 1), (5, .invokevirtual 87, 3), (8, .ifCond .eq 10, 3), (11, .iload_n 2, 1), (12, .invokestatic 67, 3), (15, .ifCond .ne 6, 3), (18, .ldc 78, 2), (20, .ireturn, 1), (21, .aload_n 0, 1), (22, .getfield 10, 3), (25, .getfield 90, 3), (28, .iload_n 1, 1), (29, .iaload, 1), (30, .iload_n 2, 1), (31, .invokestatic 119, 3), (34, .ifCond .eq 15, 3), (37, .aload_n 0, 1), (38, .getfield 10, 3), (41, .getfield 96, 3), (44, .iload_n 1, 1), (45, .iaload, 1), (46, .goto 5, 3), (49, .ldc 123, 2), (51, .ireturn, 1)] (by decide +kernel)
theorem dX7_as_0 : decode cX7_as 0 = .ok (.aload_n 0, 1) := edX7_as_0.1
theorem dX7_as_1 : decode cX7_as 1 = .ok (.getfield 10, 3) := edX7_as_0.2.1
theorem dX7_as_4 : decode cX7_as 4 = .ok (.iload_n 1, 1) := edX7_as_0.2.2.1
theorem dX7_as_5 : decode cX7_as 5 = .ok (.invokevirtual 87, 3) := edX7_as_0.2.2.2.1
theorem dX7_as_8 : decode cX7_as 8 = .ok (.ifCond .eq 10, 3) := edX7_as_0.2.2.2.2.1
theorem dX7_as_11 : decode cX7_as 11 = .ok (.iload_n 2, 1) := edX7_as_0.2.2.2.2.2.1
theorem dX7_as_12 : decode cX7_as 12 = .ok (.invokestatic 67, 3) := edX7_as_0.2.2.2.2.2.2.1
theorem dX7_as_15 : decode cX7_as 15 = .ok (.ifCond .ne 6, 3) := edX7_as_0.2.2.2.2.2.2.2.1
theorem dX7_as_18 : decode cX7_as 18 = .ok (.ldc 78, 2) := edX7_as_0.2.2.2.2.2.2.2.2.1
theorem dX7_as_20 : decode cX7_as 20 = .ok (.ireturn, 1) := edX7_as_0.2.2.2.2.2.2.2.2.2.1
theorem dX7_as_21 : decode cX7_as 21 = .ok (.aload_n 0, 1) := edX7_as_0.2.2.2.2.2.2.2.2.2.2.1
theorem dX7_as_22 : decode cX7_as 22 = .ok (.getfield 10, 3) := edX7_as_0.2.2.2.2.2.2.2.2.2.2.2.1
theorem dX7_as_25 : decode cX7_as 25 = .ok (.getfield 90, 3) := edX7_as_0.2.2.2.2.2.2.2.2.2.2.2.2.1
theorem dX7_as_28 : decode cX7_as 28 = .ok (.iload_n 1, 1) := edX7_as_0.2.2.2.2.2.2.2.2.2.2.2.2.2.1
theorem dX7_as_29 : decode cX7_as 29 = .ok (.iaload, 1) := edX7_as_0.2.2.2.2.2.2.2.2.2.2.2.2.2.2.1
theorem dX7_as_30 : decode cX7_as 30 = .ok (.iload_n 2, 1) := edX7_as_0.2.2.2.2.2.2.2.2.2.2.2.2.2.2.2.1
theorem dX7_as_31 : decode cX7_as 31 = .ok (.invokestatic 119, 3) := edX7_as_0.2.2.2.2.2.2.2.2.2.2.2.2.2.2.2.2.1
theorem dX7_as_34 : decode cX7_as 34 = .ok (.ifCond .eq 15, 3) := edX7_as_0.2.2.2.2.2.2.2.2.2.2.2.2.2.2.2.2.2.1
theorem dX7_as_37 : decode cX7_as 37 = .ok (.aload_n 0, 1) := edX7_as_0.2.2.2.2.2.2.2.2.2.2.2.2.2.2.2.2.2.2.1
theorem dX7_as_38 : decode cX7_as 38 = .ok (.getfield 10, 3) := edX7_as_0.2.2.2.2.2.2.2.2.2.2.2.2.2.2.2.2.2.2.2.1
theorem dX7_as_41 : decode cX7_as 41 = .ok (.getfield 96, 3) := edX7_as_0.2.2.2.2.2.2.2.2.2.2.2.2.2.2.2.2.2.2.2.2.1
theorem dX7_as_44 : decode cX7_as 44 = .ok (.iload_n 1, 1) := edX7_as_0.2.2.2.2.2.2.2.2.2.2.2.2.2.2.2.2.2.2.2.2.2.1
theorem dX7_as_45 : decode cX7_as 45 = .ok (.iaload, 1) := edX7_as_0.2.2.2.2.2.2.2.2.2.2.2.2.2.2.2.2.2.2.2.2.2.2.1
theorem dX7_as_46 : decode cX7_as 46 = .ok (.goto 5, 3) := edX7_as_0.2.2.2.2.2.2.2.2.2.2.2.2.2.2.2.2.2.2.2.2.2.2.2.1
theorem dX7_as_49 : decode cX7_as 49 = .ok (.ldc 123, 2) := edX7_as_0.2.2.2.2.2.2.2.2.2.2.2.2.2.2.2.2.2.2.2.2.2.2.2.2.1
theorem dX7_as_51 : decode cX7_as 51 = .ok (.ireturn, 1) := edX7_as_0.2.2.2.2.2.2.2.2.2.2.2.2.2.2.2.2.2.2.2.2.2.2.2.2.2.1
theorem edX7_turns_0 : (decode cX7_turns 0 = .ok (.aload_n 0, 1)) ∧ (decode cX7_turns 1 = .ok (.getfield 10, 3)) ∧ (decode cX7_turns 4 = .ok (.iload_n 1, 1)) ∧ (decode cX7_turns 5 = .ok (.invokevirtual 87, 3)) ∧ (decode cX7_turns 8 = .ok (.ifCond .eq 10, 3)) ∧ (decode cX7_turns 11 = .ok (.iload_n 2, 1)) ∧ (decode cX7_turns 12 = .ok (.invokestatic 67, 3)) ∧ (decode cX7_turns 15 = .ok (.ifCond .ne 6, 3)) ∧ (decode cX7_turns 18 = .ok (.ldc 78, 2)) ∧ (decode cX7_turns 20 = .ok (.ireturn, 1)) ∧ (decode cX7_turns 21 = .ok (.aload_n 0, 1)) ∧ (decode cX7_turns 22 = .ok (.getfield 10, 3)) ∧ (decode cX7_turns 25 = .ok (.getfield 90, 3)) ∧ (decode cX7_turns 28 = .ok (.iload_n 1, 1)) ∧ (decode cX7_turns 29 = .ok (.iaload, 1)) ∧ (decode cX7_turns 30 = .ok (.istore_n 3, 1)) ∧ (decode cX7_turns 31 = .ok (.aload_n 0, 1)) ∧ (decode cX7_turns 32 = .ok (.getfield 10, 3)) ∧ (decode cX7_turns 35 = .ok (.getfield 90, 3)) ∧ (decode cX7_turns 38 = .ok (.iload_n 1, 1)) ∧ (decode cX7_turns 39 = .ok (.iload_n 2, 1)) ∧ (decode cX7_turns 40 = .ok (.iastore, 1)) ∧ (decode cX7_turns 41 = .ok (.iload_n 3, 1)) ∧ (decode cX7_turns 42 = .ok (.ireturn, 1)) ∧ True := dc_cj [(0, .aload_n 0, 1), (1, .getfield 10, 3), (4, .iload_n 1, 1), (5, .invokevirtual 87, 3), (8, .ifCond .eq 10, 3), (11, .iload_n 2, 1), (12, .invokestatic 67, 3), (15, .ifCond .ne 6, 3), (18, .ldc 78, 2), (20, .ireturn, 1), (21, .aload_n 0, 1), (22, .getfield 10, 3), (25, .getfield 90, 3), (28, .iload_n 1, 1), (29, .iaload, 1), (30, .istore_n 3, 1), (31, .aload_n 0, 1), (32, .getfield 10, 3), (35, .getfield 90, 3), (38, .iload_n 1, 1), (39, .iload_n 2, 1), (40, .iastore, 1), (41, .iload_n 3, 1), (42, .ireturn, 1)] (by decide +kernel)
theorem dX7_turns_0 : decode cX7_turns 0 = .ok (.aload_n 0, 1) := edX7_turns_0.1
theorem dX7_turns_1 : decode cX7_turns 1 = .ok (.getfield 10, 3) := edX7_turns_0.2.1
theorem dX7_turns_4 : decode cX7_turns 4 = .ok (.iload_n 1, 1) := edX7_turns_0.2.2.1
theorem dX7_turns_5 : decode cX7_turns 5 = .ok (.invokevirtual 87, 3) := edX7_turns_0.2.2.2.1
theorem dX7_turns_8 : decode cX7_turns 8 = .ok (.ifCond .eq 10, 3) := edX7_turns_0.2.2.2.2.1
theorem dX7_turns_11 : decode cX7_turns 11 = .ok (.iload_n 2, 1) := edX7_turns_0.2.2.2.2.2.1
theorem dX7_turns_12 : decode cX7_turns 12 = .ok (.invokestatic 67, 3) := edX7_turns_0.2.2.2.2.2.2.1
theorem dX7_turns_15 : decode cX7_turns 15 = .ok (.ifCond .ne 6, 3) := edX7_turns_0.2.2.2.2.2.2.2.1
theorem dX7_turns_18 : decode cX7_turns 18 = .ok (.ldc 78, 2) := edX7_turns_0.2.2.2.2.2.2.2.2.1
theorem dX7_turns_20 : decode cX7_turns 20 = .ok (.ireturn, 1) := edX7_turns_0.2.2.2.2.2.2.2.2.2.1
theorem dX7_turns_21 : decode cX7_turns 21 = .ok (.aload_n 0, 1) := edX7_turns_0.2.2.2.2.2.2.2.2.2.2.1
theorem dX7_turns_22 : decode cX7_turns 22 = .ok (.getfield 10, 3) := edX7_turns_0.2.2.2.2.2.2.2.2.2.2.2.1
theorem dX7_turns_25 : decode cX7_turns 25 = .ok (.getfield 90, 3) := edX7_turns_0.2.2.2.2.2.2.2.2.2.2.2.2.1
theorem dX7_turns_28 : decode cX7_turns 28 = .ok (.iload_n 1, 1) := edX7_turns_0.2.2.2.2.2.2.2.2.2.2.2.2.2.1
theorem dX7_turns_29 : decode cX7_turns 29 = .ok (.iaload, 1) := edX7_turns_0.2.2.2.2.2.2.2.2.2.2.2.2.2.2.1
theorem dX7_turns_30 : decode cX7_turns 30 = .ok (.istore_n 3, 1) := edX7_turns_0.2.2.2.2.2.2.2.2.2.2.2.2.2.2.2.1
theorem dX7_turns_31 : decode cX7_turns 31 = .ok (.aload_n 0, 1) := edX7_turns_0.2.2.2.2.2.2.2.2.2.2.2.2.2.2.2.2.1
theorem dX7_turns_32 : decode cX7_turns 32 = .ok (.getfield 10, 3) := edX7_turns_0.2.2.2.2.2.2.2.2.2.2.2.2.2.2.2.2.2.1
theorem dX7_turns_35 : decode cX7_turns 35 = .ok (.getfield 90, 3) := edX7_turns_0.2.2.2.2.2.2.2.2.2.2.2.2.2.2.2.2.2.2.1
theorem dX7_turns_38 : decode cX7_turns 38 = .ok (.iload_n 1, 1) := edX7_turns_0.2.2.2.2.2.2.2.2.2.2.2.2.2.2.2.2.2.2.2.1
theorem dX7_turns_39 : decode cX7_turns 39 = .ok (.iload_n 2, 1) := edX7_turns_0.2.2.2.2.2.2.2.2.2.2.2.2.2.2.2.2.2.2.2.2.1
theorem dX7_turns_40 : decode cX7_turns 40 = .ok (.iastore, 1) := edX7_turns_0.2.2.2.2.2.2.2.2.2.2.2.2.2.2.2.2.2.2.2.2.2.1
theorem dX7_turns_41 : decode cX7_turns 41 = .ok (.iload_n 3, 1) := edX7_turns_0.2.2.2.2.2.2.2.2.2.2.2.2.2.2.2.2.2.2.2.2.2.2.1
theorem dX7_turns_42 : decode cX7_turns 42 = .ok (.ireturn, 1) := edX7_turns_0.2.2.2.2.2.2.2.2.2.2.2.2.2.2.2.2.2.2.2.2.2.2.2.1
