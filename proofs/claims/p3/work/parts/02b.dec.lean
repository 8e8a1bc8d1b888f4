theorem edX6_nearest_42 : (decode cX6_nearest 42 = .ok (.if_icmp .ge 9, 3)) ∧ (decode cX6_nearest 45 = .ok (.iload 4, 2)) ∧ (decode cX6_nearest 47 = .ok (.istore_n 2, 1)) ∧ (decode cX6_nearest 48 = .ok (.iload 5, 2)) ∧ (decode cX6_nearest 50 = .ok (.istore_n 3, 1)) ∧ (decode cX6_nearest 51 = .ok (.aload_n 0, 1)) ∧ (decode cX6_nearest 52 = .ok (.aload_n 1, 1)) ∧ (decode cX6_nearest 53 = .ok (.invokevirtual 30, 3)) ∧ (decode cX6_nearest 56 = .ok (.iinc 4 1, 3)) ∧ (decode cX6_nearest 59 = .ok (.goto (-47), 3)) ∧ (decode cX6_nearest 62 = .ok (.iload_n 2, 1)) ∧ (decode cX6_nearest 63 = .ok (.ireturn, 1)) := by decide +kernel
theorem dX6_nearest_42 : decode cX6_nearest 42 = .ok (.if_icmp .ge 9, 3) := edX6_nearest_42.1
theorem dX6_nearest_45 : decode cX6_nearest 45 = .ok (.iload 4, 2) := edX6_nearest_42.2.1
theorem dX6_nearest_47 : decode cX6_nearest 47 = .ok (.istore_n 2, 1) := edX6_nearest_42.2.2.1
theorem dX6_nearest_48 : decode cX6_nearest 48 = .ok (.iload 5, 2) := edX6_nearest_42.2.2.2.1
theorem dX6_nearest_50 : decode cX6_nearest 50 = .ok (.istore_n 3, 1) := edX6_nearest_42.2.2.2.2.1
theorem dX6_nearest_51 : decode cX6_nearest 51 = .ok (.aload_n 0, 1) := edX6_nearest_42.2.2.2.2.2.1
theorem dX6_nearest_52 : decode cX6_nearest 52 = .ok (.aload_n 1, 1) := edX6_nearest_42.2.2.2.2.2.2.1
theorem dX6_nearest_53 : decode cX6_nearest 53 = .ok (.invokevirtual 30, 3) := edX6_nearest_42.2.2.2.2.2.2.2.1
theorem dX6_nearest_56 : decode cX6_nearest 56 = .ok (.iinc 4 1, 3) := edX6_nearest_42.2.2.2.2.2.2.2.2.1
theorem dX6_nearest_59 : decode cX6_nearest 59 = .ok (.goto (-47), 3) := edX6_nearest_42.2.2.2.2.2.2.2.2.2.1
theorem dX6_nearest_62 : decode cX6_nearest 62 = .ok (.iload_n 2, 1) := edX6_nearest_42.2.2.2.2.2.2.2.2.2.2.1
theorem dX6_nearest_63 : decode cX6_nearest 63 = .ok (.ireturn, 1) := edX6_nearest_42.2.2.2.2.2.2.2.2.2.2.2
theorem edX6_start_0 : (decode cX6_start 0 = .ok (.aload_n 0, 1)) ∧ (decode cX6_start 1 = .ok (.iconst 0, 1)) ∧ (decode cX6_start 2 = .ok (.putfield 15, 3)) ∧ (decode cX6_start 5 = .ok (.aload_n 0, 1)) ∧ (decode cX6_start 6 = .ok (.iconst 0, 1)) ∧ (decode cX6_start 7 = .ok (.putfield 19, 3)) ∧ (decode cX6_start 10 = .ok (.iconst 0, 1)) ∧ (decode cX6_start 11 = .ok (.istore_n 2, 1)) ∧ (decode cX6_start 12 = .ok (.iload_n 2, 1)) ∧ (decode cX6_start 13 = .ok (.iconst 4, 1)) ∧ (decode cX6_start 14 = .ok (.if_icmp .ge 38, 3)) ∧ (decode cX6_start 17 = .ok (.aload_n 0, 1)) ∧ (decode cX6_start 18 = .ok (.getfield 9, 3)) ∧ (decode cX6_start 21 = .ok (.iload_n 2, 1)) ∧ (decode cX6_start 22 = .ok (.iconst 0, 1)) ∧ (decode cX6_start 23 = .ok (.iastore, 1)) ∧ (decode cX6_start 24 = .ok (.aload_n 0, 1)) ∧ (decode cX6_start 25 = .ok (.dup, 1)) ∧ (decode cX6_start 26 = .ok (.getfield 19, 3)) ∧ (decode cX6_start 29 = .ok (.bipush 9, 2)) ∧ (decode cX6_start 31 = .ok (.aload_n 1, 1)) ∧ (decode cX6_start 32 = .ok (.getfield 36, 3)) ∧ (decode cX6_start 35 = .ok (.iconst 1, 1)) ∧ (decode cX6_start 36 = .ok (.iload_n 2, 1)) := by decide +kernel
theorem dX6_start_0 : decode cX6_start 0 = .ok (.aload_n 0, 1) := edX6_start_0.1
theorem dX6_start_1 : decode cX6_start 1 = .ok (.iconst 0, 1) := edX6_start_0.2.1
theorem dX6_start_2 : decode cX6_start 2 = .ok (.putfield 15, 3) := edX6_start_0.2.2.1
theorem dX6_start_5 : decode cX6_start 5 = .ok (.aload_n 0, 1) := edX6_start_0.2.2.2.1
theorem dX6_start_6 : decode cX6_start 6 = .ok (.iconst 0, 1) := edX6_start_0.2.2.2.2.1
theorem dX6_start_7 : decode cX6_start 7 = .ok (.putfield 19, 3) := edX6_start_0.2.2.2.2.2.1
theorem dX6_start_10 : decode cX6_start 10 = .ok (.iconst 0, 1) := edX6_start_0.2.2.2.2.2.2.1
theorem dX6_start_11 : decode cX6_start 11 = .ok (.istore_n 2, 1) := edX6_start_0.2.2.2.2.2.2.2.1
theorem dX6_start_12 : decode cX6_start 12 = .ok (.iload_n 2, 1) := edX6_start_0.2.2.2.2.2.2.2.2.1
theorem dX6_start_13 : decode cX6_start 13 = .ok (.iconst 4, 1) := edX6_start_0.2.2.2.2.2.2.2.2.2.1
theorem dX6_start_14 : decode cX6_start 14 = .ok (.if_icmp .ge 38, 3) := edX6_start_0.2.2.2.2.2.2.2.2.2.2.1
theorem dX6_start_17 : decode cX6_start 17 = .ok (.aload_n 0, 1) := edX6_start_0.2.2.2.2.2.2.2.2.2.2.2.1
theorem dX6_start_18 : decode cX6_start 18 = .ok (.getfield 9, 3) := edX6_start_0.2.2.2.2.2.2.2.2.2.2.2.2.1
theorem dX6_start_21 : decode cX6_start 21 = .ok (.iload_n 2, 1) := edX6_start_0.2.2.2.2.2.2.2.2.2.2.2.2.2.1
theorem dX6_start_22 : decode cX6_start 22 = .ok (.iconst 0, 1) := edX6_start_0.2.2.2.2.2.2.2.2.2.2.2.2.2.2.1
theorem dX6_start_23 : decode cX6_start 23 = .ok (.iastore, 1) := edX6_start_0.2.2.2.2.2.2.2.2.2.2.2.2.2.2.2.1
theorem dX6_start_24 : decode cX6_start 24 = .ok (.aload_n 0, 1) := edX6_start_0.2.2.2.2.2.2.2.2.2.2.2.2.2.2.2.2.1
theorem dX6_start_25 : decode cX6_start 25 = .ok (.dup, 1) := edX6_start_0.2.2.2.2.2.2.2.2.2.2.2.2.2.2.2.2.2.1
theorem dX6_start_26 : decode cX6_start 26 = .ok (.getfield 19, 3) := edX6_start_0.2.2.2.2.2.2.2.2.2.2.2.2.2.2.2.2.2.2.1
theorem dX6_start_29 : decode cX6_start 29 = .ok (.bipush 9, 2) := edX6_start_0.2.2.2.2.2.2.2.2.2.2.2.2.2.2.2.2.2.2.2.1
theorem dX6_start_31 : decode cX6_start 31 = .ok (.aload_n 1, 1) := edX6_start_0.2.2.2.2.2.2.2.2.2.2.2.2.2.2.2.2.2.2.2.2.1
theorem dX6_start_32 : decode cX6_start 32 = .ok (.getfield 36, 3) := edX6_start_0.2.2.2.2.2.2.2.2.2.2.2.2.2.2.2.2.2.2.2.2.2.1
theorem dX6_start_35 : decode cX6_start 35 = .ok (.iconst 1, 1) := edX6_start_0.2.2.2.2.2.2.2.2.2.2.2.2.2.2.2.2.2.2.2.2.2.2.1
theorem dX6_start_36 : decode cX6_start 36 = .ok (.iload_n 2, 1) := edX6_start_0.2.2.2.2.2.2.2.2.2.2.2.2.2.2.2.2.2.2.2.2.2.2.2
theorem edX6_start_37 : (decode cX6_start 37 = .ok (.invokestatic 41, 3)) ∧ (decode cX6_start 40 = .ok (.iaload, 1)) ∧ (decode cX6_start 41 = .ok (.imul, 1)) ∧ (decode cX6_start 42 = .ok (.iadd, 1)) ∧ (decode cX6_start 43 = .ok (.putfield 19, 3)) ∧ (decode cX6_start 46 = .ok (.iinc 2 1, 3)) ∧ (decode cX6_start 49 = .ok (.goto (-37), 3)) ∧ (decode cX6_start 52 = .ok (.return_, 1)) := by decide +kernel
theorem dX6_start_37 : decode cX6_start 37 = .ok (.invokestatic 41, 3) := edX6_start_37.1
theorem dX6_start_40 : decode cX6_start 40 = .ok (.iaload, 1) := edX6_start_37.2.1
theorem dX6_start_41 : decode cX6_start 41 = .ok (.imul, 1) := edX6_start_37.2.2.1
theorem dX6_start_42 : decode cX6_start 42 = .ok (.iadd, 1) := edX6_start_37.2.2.2.1
theorem dX6_start_43 : decode cX6_start 43 = .ok (.putfield 19, 3) := edX6_start_37.2.2.2.2.1
theorem dX6_start_46 : decode cX6_start 46 = .ok (.iinc 2 1, 3) := edX6_start_37.2.2.2.2.2.1
theorem dX6_start_49 : decode cX6_start 49 = .ok (.goto (-37), 3) := edX6_start_37.2.2.2.2.2.2.1
theorem dX6_start_52 : decode cX6_start 52 = .ok (.return_, 1) := edX6_start_37.2.2.2.2.2.2.2
theorem edX6_step_0 : (decode cX6_step 0 = .ok (.iconst 3, 1)) ∧ (decode cX6_step 1 = .ok (.istore_n 2, 1)) ∧ (decode cX6_step 2 = .ok (.iload_n 2, 1)) ∧ (decode cX6_step 3 = .ok (.ifCond .lt 109, 3)) ∧ (decode cX6_step 6 = .ok (.aload_n 1, 1)) ∧ (decode cX6_step 7 = .ok (.getfield 36, 3)) ∧ (decode cX6_step 10 = .ok (.iconst 0, 1)) ∧ (decode cX6_step 11 = .ok (.iload_n 2, 1)) ∧ (decode cX6_step 12 = .ok (.invokestatic 41, 3)) ∧ (decode cX6_step 15 = .ok (.iaload, 1)) ∧ (decode cX6_step 16 = .ok (.istore_n 3, 1)) ∧ (decode cX6_step 17 = .ok (.aload_n 1, 1)) ∧ (decode cX6_step 18 = .ok (.getfield 36, 3)) ∧ (decode cX6_step 21 = .ok (.iconst 1, 1)) ∧ (decode cX6_step 22 = .ok (.iload_n 2, 1)) ∧ (decode cX6_step 23 = .ok (.invokestatic 41, 3)) ∧ (decode cX6_step 26 = .ok (.iaload, 1)) ∧ (decode cX6_step 27 = .ok (.istore 4, 2)) ∧ (decode cX6_step 29 = .ok (.aload_n 0, 1)) ∧ (decode cX6_step 30 = .ok (.getfield 9, 3)) ∧ (decode cX6_step 33 = .ok (.iload_n 2, 1)) ∧ (decode cX6_step 34 = .ok (.iaload, 1)) ∧ (decode cX6_step 35 = .ok (.bipush 9, 2)) ∧ (decode cX6_step 37 = .ok (.if_icmp .ge 35, 3)) := by decide +kernel
theorem dX6_step_0 : decode cX6_step 0 = .ok (.iconst 3, 1) := edX6_step_0.1
theorem dX6_step_1 : decode cX6_step 1 = .ok (.istore_n 2, 1) := edX6_step_0.2.1
theorem dX6_step_2 : decode cX6_step 2 = .ok (.iload_n 2, 1) := edX6_step_0.2.2.1
theorem dX6_step_3 : decode cX6_step 3 = .ok (.ifCond .lt 109, 3) := edX6_step_0.2.2.2.1
theorem dX6_step_6 : decode cX6_step 6 = .ok (.aload_n 1, 1) := edX6_step_0.2.2.2.2.1
theorem dX6_step_7 : decode cX6_step 7 = .ok (.getfield 36, 3) := edX6_step_0.2.2.2.2.2.1
theorem dX6_step_10 : decode cX6_step 10 = .ok (.iconst 0, 1) := edX6_step_0.2.2.2.2.2.2.1
theorem dX6_step_11 : decode cX6_step 11 = .ok (.iload_n 2, 1) := edX6_step_0.2.2.2.2.2.2.2.1
theorem dX6_step_12 : decode cX6_step 12 = .ok (.invokestatic 41, 3) := edX6_step_0.2.2.2.2.2.2.2.2.1
theorem dX6_step_15 : decode cX6_step 15 = .ok (.iaload, 1) := edX6_step_0.2.2.2.2.2.2.2.2.2.1
theorem dX6_step_16 : decode cX6_step 16 = .ok (.istore_n 3, 1) := edX6_step_0.2.2.2.2.2.2.2.2.2.2.1
theorem dX6_step_17 : decode cX6_step 17 = .ok (.aload_n 1, 1) := edX6_step_0.2.2.2.2.2.2.2.2.2.2.2.1
theorem dX6_step_18 : decode cX6_step 18 = .ok (.getfield 36, 3) := edX6_step_0.2.2.2.2.2.2.2.2.2.2.2.2.1
theorem dX6_step_21 : decode cX6_step 21 = .ok (.iconst 1, 1) := edX6_step_0.2.2.2.2.2.2.2.2.2.2.2.2.2.1
theorem dX6_step_22 : decode cX6_step 22 = .ok (.iload_n 2, 1) := edX6_step_0.2.2.2.2.2.2.2.2.2.2.2.2.2.2.1
theorem dX6_step_23 : decode cX6_step 23 = .ok (.invokestatic 41, 3) := edX6_step_0.2.2.2.2.2.2.2.2.2.2.2.2.2.2.2.1
theorem dX6_step_26 : decode cX6_step 26 = .ok (.iaload, 1) := edX6_step_0.2.2.2.2.2.2.2.2.2.2.2.2.2.2.2.2.1
theorem dX6_step_27 : decode cX6_step 27 = .ok (.istore 4, 2) := edX6_step_0.2.2.2.2.2.2.2.2.2.2.2.2.2.2.2.2.2.1
theorem dX6_step_29 : decode cX6_step 29 = .ok (.aload_n 0, 1) := edX6_step_0.2.2.2.2.2.2.2.2.2.2.2.2.2.2.2.2.2.2.1
theorem dX6_step_30 : decode cX6_step 30 = .ok (.getfield 9, 3) := edX6_step_0.2.2.2.2.2.2.2.2.2.2.2.2.2.2.2.2.2.2.2.1
theorem dX6_step_33 : decode cX6_step 33 = .ok (.iload_n 2, 1) := edX6_step_0.2.2.2.2.2.2.2.2.2.2.2.2.2.2.2.2.2.2.2.2.1
theorem dX6_step_34 : decode cX6_step 34 = .ok (.iaload, 1) := edX6_step_0.2.2.2.2.2.2.2.2.2.2.2.2.2.2.2.2.2.2.2.2.2.1
theorem dX6_step_35 : decode cX6_step 35 = .ok (.bipush 9, 2) := edX6_step_0.2.2.2.2.2.2.2.2.2.2.2.2.2.2.2.2.2.2.2.2.2.2.1
theorem dX6_step_37 : decode cX6_step 37 = .ok (.if_icmp .ge 35, 3) := edX6_step_0.2.2.2.2.2.2.2.2.2.2.2.2.2.2.2.2.2.2.2.2.2.2.2
theorem edX6_step_40 : (decode cX6_step 40 = .ok (.aload_n 0, 1)) ∧ (decode cX6_step 41 = .ok (.getfield 9, 3)) ∧ (decode cX6_step 44 = .ok (.iload_n 2, 1)) ∧ (decode cX6_step 45 = .ok (.dup2, 1)) ∧ (decode cX6_step 46 = .ok (.iaload, 1)) ∧ (decode cX6_step 47 = .ok (.iconst 1, 1)) ∧ (decode cX6_step 48 = .ok (.iadd, 1)) ∧ (decode cX6_step 49 = .ok (.iastore, 1)) ∧ (decode cX6_step 50 = .ok (.aload_n 0, 1)) ∧ (decode cX6_step 51 = .ok (.dup, 1)) ∧ (decode cX6_step 52 = .ok (.getfield 15, 3)) ∧ (decode cX6_step 55 = .ok (.iload_n 3, 1)) ∧ (decode cX6_step 56 = .ok (.iadd, 1)) ∧ (decode cX6_step 57 = .ok (.putfield 15, 3)) ∧ (decode cX6_step 60 = .ok (.aload_n 0, 1)) ∧ (decode cX6_step 61 = .ok (.dup, 1)) ∧ (decode cX6_step 62 = .ok (.getfield 19, 3)) ∧ (decode cX6_step 65 = .ok (.iload 4, 2)) ∧ (decode cX6_step 67 = .ok (.isub, 1)) ∧ (decode cX6_step 68 = .ok (.putfield 19, 3)) ∧ (decode cX6_step 71 = .ok (.return_, 1)) ∧ (decode cX6_step 72 = .ok (.aload_n 0, 1)) ∧ (decode cX6_step 73 = .ok (.getfield 9, 3)) ∧ (decode cX6_step 76 = .ok (.iload_n 2, 1)) := by decide +kernel
theorem dX6_step_40 : decode cX6_step 40 = .ok (.aload_n 0, 1) := edX6_step_40.1
theorem dX6_step_41 : decode cX6_step 41 = .ok (.getfield 9, 3) := edX6_step_40.2.1
theorem dX6_step_44 : decode cX6_step 44 = .ok (.iload_n 2, 1) := edX6_step_40.2.2.1
theorem dX6_step_45 : decode cX6_step 45 = .ok (.dup2, 1) := edX6_step_40.2.2.2.1
theorem dX6_step_46 : decode cX6_step 46 = .ok (.iaload, 1) := edX6_step_40.2.2.2.2.1
theorem dX6_step_47 : decode cX6_step 47 = .ok (.iconst 1, 1) := edX6_step_40.2.2.2.2.2.1
theorem dX6_step_48 : decode cX6_step 48 = .ok (.iadd, 1) := edX6_step_40.2.2.2.2.2.2.1
theorem dX6_step_49 : decode cX6_step 49 = .ok (.iastore, 1) := edX6_step_40.2.2.2.2.2.2.2.1
theorem dX6_step_50 : decode cX6_step 50 = .ok (.aload_n 0, 1) := edX6_step_40.2.2.2.2.2.2.2.2.1
theorem dX6_step_51 : decode cX6_step 51 = .ok (.dup, 1) := edX6_step_40.2.2.2.2.2.2.2.2.2.1
theorem dX6_step_52 : decode cX6_step 52 = .ok (.getfield 15, 3) := edX6_step_40.2.2.2.2.2.2.2.2.2.2.1
theorem dX6_step_55 : decode cX6_step 55 = .ok (.iload_n 3, 1) := edX6_step_40.2.2.2.2.2.2.2.2.2.2.2.1
theorem dX6_step_56 : decode cX6_step 56 = .ok (.iadd, 1) := edX6_step_40.2.2.2.2.2.2.2.2.2.2.2.2.1
theorem dX6_step_57 : decode cX6_step 57 = .ok (.putfield 15, 3) := edX6_step_40.2.2.2.2.2.2.2.2.2.2.2.2.2.1
theorem dX6_step_60 : decode cX6_step 60 = .ok (.aload_n 0, 1) := edX6_step_40.2.2.2.2.2.2.2.2.2.2.2.2.2.2.1
theorem dX6_step_61 : decode cX6_step 61 = .ok (.dup, 1) := edX6_step_40.2.2.2.2.2.2.2.2.2.2.2.2.2.2.2.1
theorem dX6_step_62 : decode cX6_step 62 = .ok (.getfield 19, 3) := edX6_step_40.2.2.2.2.2.2.2.2.2.2.2.2.2.2.2.2.1
theorem dX6_step_65 : decode cX6_step 65 = .ok (.iload 4, 2) := edX6_step_40.2.2.2.2.2.2.2.2.2.2.2.2.2.2.2.2.2.1
theorem dX6_step_67 : decode cX6_step 67 = .ok (.isub, 1) := edX6_step_40.2.2.2.2.2.2.2.2.2.2.2.2.2.2.2.2.2.2.1
theorem dX6_step_68 : decode cX6_step 68 = .ok (.putfield 19, 3) := edX6_step_40.2.2.2.2.2.2.2.2.2.2.2.2.2.2.2.2.2.2.2.1
theorem dX6_step_71 : decode cX6_step 71 = .ok (.return_, 1) := edX6_step_40.2.2.2.2.2.2.2.2.2.2.2.2.2.2.2.2.2.2.2.2.1
theorem dX6_step_72 : decode cX6_step 72 = .ok (.aload_n 0, 1) := edX6_step_40.2.2.2.2.2.2.2.2.2.2.2.2.2.2.2.2.2.2.2.2.2.1
theorem dX6_step_73 : decode cX6_step 73 = .ok (.getfield 9, 3) := edX6_step_40.2.2.2.2.2.2.2.2.2.2.2.2.2.2.2.2.2.2.2.2.2.2.1
theorem dX6_step_76 : decode cX6_step 76 = .ok (.iload_n 2, 1) := edX6_step_40.2.2.2.2.2.2.2.2.2.2.2.2.2.2.2.2.2.2.2.2.2.2.2
theorem edX6_step_77 : (decode cX6_step 77 = .ok (.iconst 0, 1)) ∧ (decode cX6_step 78 = .ok (.iastore, 1)) ∧ (decode cX6_step 79 = .ok (.aload_n 0, 1)) ∧ (decode cX6_step 80 = .ok (.dup, 1)) ∧ (decode cX6_step 81 = .ok (.getfield 15, 3)) ∧ (decode cX6_step 84 = .ok (.bipush 9, 2)) ∧ (decode cX6_step 86 = .ok (.iload_n 3, 1)) ∧ (decode cX6_step 87 = .ok (.imul, 1)) ∧ (decode cX6_step 88 = .ok (.isub, 1)) ∧ (decode cX6_step 89 = .ok (.putfield 15, 3)) ∧ (decode cX6_step 92 = .ok (.aload_n 0, 1)) ∧ (decode cX6_step 93 = .ok (.dup, 1)) ∧ (decode cX6_step 94 = .ok (.getfield 19, 3)) ∧ (decode cX6_step 97 = .ok (.bipush 9, 2)) ∧ (decode cX6_step 99 = .ok (.iload 4, 2)) ∧ (decode cX6_step 101 = .ok (.imul, 1)) ∧ (decode cX6_step 102 = .ok (.iadd, 1)) ∧ (decode cX6_step 103 = .ok (.putfield 19, 3)) ∧ (decode cX6_step 106 = .ok (.iinc 2 (-1), 3)) ∧ (decode cX6_step 109 = .ok (.goto (-107), 3)) ∧ (decode cX6_step 112 = .ok (.return_, 1)) := by decide +kernel
theorem dX6_step_77 : decode cX6_step 77 = .ok (.iconst 0, 1) := edX6_step_77.1
theorem dX6_step_78 : decode cX6_step 78 = .ok (.iastore, 1) := edX6_step_77.2.1
theorem dX6_step_79 : decode cX6_step 79 = .ok (.aload_n 0, 1) := edX6_step_77.2.2.1
theorem dX6_step_80 : decode cX6_step 80 = .ok (.dup, 1) := edX6_step_77.2.2.2.1
theorem dX6_step_81 : decode cX6_step 81 = .ok (.getfield 15, 3) := edX6_step_77.2.2.2.2.1
theorem dX6_step_84 : decode cX6_step 84 = .ok (.bipush 9, 2) := edX6_step_77.2.2.2.2.2.1
theorem dX6_step_86 : decode cX6_step 86 = .ok (.iload_n 3, 1) := edX6_step_77.2.2.2.2.2.2.1
theorem dX6_step_87 : decode cX6_step 87 = .ok (.imul, 1) := edX6_step_77.2.2.2.2.2.2.2.1
theorem dX6_step_88 : decode cX6_step 88 = .ok (.isub, 1) := edX6_step_77.2.2.2.2.2.2.2.2.1
theorem dX6_step_89 : decode cX6_step 89 = .ok (.putfield 15, 3) := edX6_step_77.2.2.2.2.2.2.2.2.2.1
theorem dX6_step_92 : decode cX6_step 92 = .ok (.aload_n 0, 1) := edX6_step_77.2.2.2.2.2.2.2.2.2.2.1
theorem dX6_step_93 : decode cX6_step 93 = .ok (.dup, 1) := edX6_step_77.2.2.2.2.2.2.2.2.2.2.2.1
theorem dX6_step_94 : decode cX6_step 94 = .ok (.getfield 19, 3) := edX6_step_77.2.2.2.2.2.2.2.2.2.2.2.2.1
theorem dX6_step_97 : decode cX6_step 97 = .ok (.bipush 9, 2) := edX6_step_77.2.2.2.2.2.2.2.2.2.2.2.2.2.1
theorem dX6_step_99 : decode cX6_step 99 = .ok (.iload 4, 2) := edX6_step_77.2.2.2.2.2.2.2.2.2.2.2.2.2.2.1
theorem dX6_step_101 : decode cX6_step 101 = .ok (.imul, 1) := edX6_step_77.2.2.2.2.2.2.2.2.2.2.2.2.2.2.2.1
theorem dX6_step_102 : decode cX6_step 102 = .ok (.iadd, 1) := edX6_step_77.2.2.2.2.2.2.2.2.2.2.2.2.2.2.2.2.1
theorem dX6_step_103 : decode cX6_step 103 = .ok (.putfield 19, 3) := edX6_step_77.2.2.2.2.2.2.2.2.2.2.2.2.2.2.2.2.2.1
theorem dX6_step_106 : decode cX6_step 106 = .ok (.iinc 2 (-1), 3) := edX6_step_77.2.2.2.2.2.2.2.2.2.2.2.2.2.2.2.2.2.2.1
theorem dX6_step_109 : decode cX6_step 109 = .ok (.goto (-107), 3) := edX6_step_77.2.2.2.2.2.2.2.2.2.2.2.2.2.2.2.2.2.2.2.1
theorem dX6_step_112 : decode cX6_step 112 = .ok (.return_, 1) := edX6_step_77.2.2.2.2.2.2.2.2.2.2.2.2.2.2.2.2.2.2.2.2
theorem edX6_spare_0 : (decode cX6_spare 0 = .ok (.aload_n 0, 1)) ∧ (decode cX6_spare 1 = .ok (.getfield 15, 3)) ∧ (decode cX6_spare 4 = .ok (.aload_n 1, 1)) ∧ (decode cX6_spare 5 = .ok (.getfield 45, 3)) ∧ (decode cX6_spare 8 = .ok (.iconst 0, 1)) ∧ (decode cX6_spare 9 = .ok (.iaload, 1)) ∧ (decode cX6_spare 10 = .ok (.isub, 1)) ∧ (decode cX6_spare 11 = .ok (.aload_n 0, 1)) ∧ (decode cX6_spare 12 = .ok (.getfield 19, 3)) ∧ (decode cX6_spare 15 = .ok (.aload_n 1, 1)) ∧ (decode cX6_spare 16 = .ok (.getfield 45, 3)) ∧ (decode cX6_spare 19 = .ok (.iconst 1, 1)) ∧ (decode cX6_spare 20 = .ok (.iaload, 1)) ∧ (decode cX6_spare 21 = .ok (.isub, 1)) ∧ (decode cX6_spare 22 = .ok (.invokestatic 48, 3)) ∧ (decode cX6_spare 25 = .ok (.ireturn, 1)) := by decide +kernel
theorem dX6_spare_0 : decode cX6_spare 0 = .ok (.aload_n 0, 1) := edX6_spare_0.1
theorem dX6_spare_1 : decode cX6_spare 1 = .ok (.getfield 15, 3) := edX6_spare_0.2.1
theorem dX6_spare_4 : decode cX6_spare 4 = .ok (.aload_n 1, 1) := edX6_spare_0.2.2.1
theorem dX6_spare_5 : decode cX6_spare 5 = .ok (.getfield 45, 3) := edX6_spare_0.2.2.2.1
theorem dX6_spare_8 : decode cX6_spare 8 = .ok (.iconst 0, 1) := edX6_spare_0.2.2.2.2.1
theorem dX6_spare_9 : decode cX6_spare 9 = .ok (.iaload, 1) := edX6_spare_0.2.2.2.2.2.1
theorem dX6_spare_10 : decode cX6_spare 10 = .ok (.isub, 1) := edX6_spare_0.2.2.2.2.2.2.1
theorem dX6_spare_11 : decode cX6_spare 11 = .ok (.aload_n 0, 1) := edX6_spare_0.2.2.2.2.2.2.2.1
theorem dX6_spare_12 : decode cX6_spare 12 = .ok (.getfield 19, 3) := edX6_spare_0.2.2.2.2.2.2.2.2.1
theorem dX6_spare_15 : decode cX6_spare 15 = .ok (.aload_n 1, 1) := edX6_spare_0.2.2.2.2.2.2.2.2.2.1
theorem dX6_spare_16 : decode cX6_spare 16 = .ok (.getfield 45, 3) := edX6_spare_0.2.2.2.2.2.2.2.2.2.2.1
theorem dX6_spare_19 : decode cX6_spare 19 = .ok (.iconst 1, 1) := edX6_spare_0.2.2.2.2.2.2.2.2.2.2.2.1
theorem dX6_spare_20 : decode cX6_spare 20 = .ok (.iaload, 1) := edX6_spare_0.2.2.2.2.2.2.2.2.2.2.2.2.1
theorem dX6_spare_21 : decode cX6_spare 21 = .ok (.isub, 1) := edX6_spare_0.2.2.2.2.2.2.2.2.2.2.2.2.2.1
theorem dX6_spare_22 : decode cX6_spare 22 = .ok (.invokestatic 48, 3) := edX6_spare_0.2.2.2.2.2.2.2.2.2.2.2.2.2.2.1
theorem dX6_spare_25 : decode cX6_spare 25 = .ok (.ireturn, 1) := edX6_spare_0.2.2.2.2.2.2.2.2.2.2.2.2.2.2.2
theorem edX6_distanceTo_0 : (decode cX6_distanceTo 0 = .ok (.iconst 0, 1)) ∧ (decode cX6_distanceTo 1 = .ok (.istore_n 2, 1)) ∧ (decode cX6_distanceTo 2 = .ok (.iconst 0, 1)) ∧ (decode cX6_distanceTo 3 = .ok (.istore_n 3, 1)) ∧ (decode cX6_distanceTo 4 = .ok (.iload_n 3, 1)) ∧ (decode cX6_distanceTo 5 = .ok (.iconst 4, 1)) ∧ (decode cX6_distanceTo 6 = .ok (.if_icmp .ge 28, 3)) ∧ (decode cX6_distanceTo 9 = .ok (.iload_n 2, 1)) ∧ (decode cX6_distanceTo 10 = .ok (.aload_n 0, 1)) ∧ (decode cX6_distanceTo 11 = .ok (.getfield 9, 3)) ∧ (decode cX6_distanceTo 14 = .ok (.iload_n 3, 1)) ∧ (decode cX6_distanceTo 15 = .ok (.iaload, 1)) ∧ (decode cX6_distanceTo 16 = .ok (.aload_n 1, 1)) ∧ (decode cX6_distanceTo 17 = .ok (.getfield 53, 3)) ∧ (decode cX6_distanceTo 20 = .ok (.iload_n 3, 1)) ∧ (decode cX6_distanceTo 21 = .ok (.iaload, 1)) ∧ (decode cX6_distanceTo 22 = .ok (.isub, 1)) ∧ (decode cX6_distanceTo 23 = .ok (.invokestatic 56, 3)) ∧ (decode cX6_distanceTo 26 = .ok (.iadd, 1)) ∧ (decode cX6_distanceTo 27 = .ok (.istore_n 2, 1)) ∧ (decode cX6_distanceTo 28 = .ok (.iinc 3 1, 3)) ∧ (decode cX6_distanceTo 31 = .ok (.goto (-27), 3)) ∧ (decode cX6_distanceTo 34 = .ok (.iload_n 2, 1)) ∧ (decode cX6_distanceTo 35 = .ok (.ireturn, 1)) := by decide +kernel
theorem dX6_distanceTo_0 : decode cX6_distanceTo 0 = .ok (.iconst 0, 1) := edX6_distanceTo_0.1
theorem dX6_distanceTo_1 : decode cX6_distanceTo 1 = .ok (.istore_n 2, 1) := edX6_distanceTo_0.2.1
theorem dX6_distanceTo_2 : decode cX6_distanceTo 2 = .ok (.iconst 0, 1) := edX6_distanceTo_0.2.2.1
theorem dX6_distanceTo_3 : decode cX6_distanceTo 3 = .ok (.istore_n 3, 1) := edX6_distanceTo_0.2.2.2.1
theorem dX6_distanceTo_4 : decode cX6_distanceTo 4 = .ok (.iload_n 3, 1) := edX6_distanceTo_0.2.2.2.2.1
theorem dX6_distanceTo_5 : decode cX6_distanceTo 5 = .ok (.iconst 4, 1) := edX6_distanceTo_0.2.2.2.2.2.1
theorem dX6_distanceTo_6 : decode cX6_distanceTo 6 = .ok (.if_icmp .ge 28, 3) := edX6_distanceTo_0.2.2.2.2.2.2.1
theorem dX6_distanceTo_9 : decode cX6_distanceTo 9 = .ok (.iload_n 2, 1) := edX6_distanceTo_0.2.2.2.2.2.2.2.1
theorem dX6_distanceTo_10 : decode cX6_distanceTo 10 = .ok (.aload_n 0, 1) := edX6_distanceTo_0.2.2.2.2.2.2.2.2.1
theorem dX6_distanceTo_11 : decode cX6_distanceTo 11 = .ok (.getfield 9, 3) := edX6_distanceTo_0.2.2.2.2.2.2.2.2.2.1
theorem dX6_distanceTo_14 : decode cX6_distanceTo 14 = .ok (.iload_n 3, 1) := edX6_distanceTo_0.2.2.2.2.2.2.2.2.2.2.1
theorem dX6_distanceTo_15 : decode cX6_distanceTo 15 = .ok (.iaload, 1) := edX6_distanceTo_0.2.2.2.2.2.2.2.2.2.2.2.1
theorem dX6_distanceTo_16 : decode cX6_distanceTo 16 = .ok (.aload_n 1, 1) := edX6_distanceTo_0.2.2.2.2.2.2.2.2.2.2.2.2.1
theorem dX6_distanceTo_17 : decode cX6_distanceTo 17 = .ok (.getfield 53, 3) := edX6_distanceTo_0.2.2.2.2.2.2.2.2.2.2.2.2.2.1
theorem dX6_distanceTo_20 : decode cX6_distanceTo 20 = .ok (.iload_n 3, 1) := edX6_distanceTo_0.2.2.2.2.2.2.2.2.2.2.2.2.2.2.1
theorem dX6_distanceTo_21 : decode cX6_distanceTo 21 = .ok (.iaload, 1) := edX6_distanceTo_0.2.2.2.2.2.2.2.2.2.2.2.2.2.2.2.1
theorem dX6_distanceTo_22 : decode cX6_distanceTo 22 = .ok (.isub, 1) := edX6_distanceTo_0.2.2.2.2.2.2.2.2.2.2.2.2.2.2.2.2.1
theorem dX6_distanceTo_23 : decode cX6_distanceTo 23 = .ok (.invokestatic 56, 3) := edX6_distanceTo_0.2.2.2.2.2.2.2.2.2.2.2.2.2.2.2.2.2.1
theorem dX6_distanceTo_26 : decode cX6_distanceTo 26 = .ok (.iadd, 1) := edX6_distanceTo_0.2.2.2.2.2.2.2.2.2.2.2.2.2.2.2.2.2.2.1
theorem dX6_distanceTo_27 : decode cX6_distanceTo 27 = .ok (.istore_n 2, 1) := edX6_distanceTo_0.2.2.2.2.2.2.2.2.2.2.2.2.2.2.2.2.2.2.2.1
theorem dX6_distanceTo_28 : decode cX6_distanceTo 28 = .ok (.iinc 3 1, 3) := edX6_distanceTo_0.2.2.2.2.2.2.2.2.2.2.2.2.2.2.2.2.2.2.2.2.1
theorem dX6_distanceTo_31 : decode cX6_distanceTo 31 = .ok (.goto (-27), 3) := edX6_distanceTo_0.2.2.2.2.2.2.2.2.2.2.2.2.2.2.2.2.2.2.2.2.2.1
theorem dX6_distanceTo_34 : decode cX6_distanceTo 34 = .ok (.iload_n 2, 1) := edX6_distanceTo_0.2.2.2.2.2.2.2.2.2.2.2.2.2.2.2.2.2.2.2.2.2.2.1
theorem dX6_distanceTo_35 : decode cX6_distanceTo 35 = .ok (.ireturn, 1) := edX6_distanceTo_0.2.2.2.2.2.2.2.2.2.2.2.2.2.2.2.2.2.2.2.2.2.2.2
theorem edX7_init_0 : (decode cX7_init 0 = .ok (.aload_n 0, 1)) ∧ (decode cX7_init 1 = .ok (.invokespecial 1, 3)) ∧ (decode cX7_init 4 = .ok (.aload_n 0, 1)) ∧ (decode cX7_init 5 = .ok (.new 7, 3)) ∧ (decode cX7_init 8 = .ok (.dup, 1)) ∧ (decode cX7_init 9 = .ok (.invokespecial 9, 3)) ∧ (decode cX7_init 12 = .ok (.putfield 10, 3)) ∧ (decode cX7_init 15 = .ok (.aload_n 0, 1)) ∧ (decode cX7_init 16 = .ok (.new 7, 3)) ∧ (decode cX7_init 19 = .ok (.dup, 1)) ∧ (decode cX7_init 20 = .ok (.invokespecial 9, 3)) ∧ (decode cX7_init 23 = .ok (.putfield 16, 3)) ∧ (decode cX7_init 26 = .ok (.aload_n 0, 1)) ∧ (decode cX7_init 27 = .ok (.new 7, 3)) ∧ (decode cX7_init 30 = .ok (.dup, 1)) ∧ (decode cX7_init 31 = .ok (.invokespecial 9, 3)) ∧ (decode cX7_init 34 = .ok (.putfield 19, 3)) ∧ (decode cX7_init 37 = .ok (.aload_n 0, 1)) ∧ (decode cX7_init 38 = .ok (.iconst 0, 1)) ∧ (decode cX7_init 39 = .ok (.putfield 22, 3)) ∧ (decode cX7_init 42 = .ok (.aload_n 0, 1)) ∧ (decode cX7_init 43 = .ok (.new 26, 3)) ∧ (decode cX7_init 46 = .ok (.dup, 1)) ∧ (decode cX7_init 47 = .ok (.invokespecial 28, 3)) := by decide +kernel
theorem dX7_init_0 : decode cX7_init 0 = .ok (.aload_n 0, 1) := edX7_init_0.1
theorem dX7_init_1 : decode cX7_init 1 = .ok (.invokespecial 1, 3) := edX7_init_0.2.1
theorem dX7_init_4 : decode cX7_init 4 = .ok (.aload_n 0, 1) := edX7_init_0.2.2.1
theorem dX7_init_5 : decode cX7_init 5 = .ok (.new 7, 3) := edX7_init_0.2.2.2.1
theorem dX7_init_8 : decode cX7_init 8 = .ok (.dup, 1) := edX7_init_0.2.2.2.2.1
theorem dX7_init_9 : decode cX7_init 9 = .ok (.invokespecial 9, 3) := edX7_init_0.2.2.2.2.2.1
theorem dX7_init_12 : decode cX7_init 12 = .ok (.putfield 10, 3) := edX7_init_0.2.2.2.2.2.2.1
theorem dX7_init_15 : decode cX7_init 15 = .ok (.aload_n 0, 1) := edX7_init_0.2.2.2.2.2.2.2.1
theorem dX7_init_16 : decode cX7_init 16 = .ok (.new 7, 3) := edX7_init_0.2.2.2.2.2.2.2.2.1
theorem dX7_init_19 : decode cX7_init 19 = .ok (.dup, 1) := edX7_init_0.2.2.2.2.2.2.2.2.2.1
theorem dX7_init_20 : decode cX7_init 20 = .ok (.invokespecial 9, 3) := edX7_init_0.2.2.2.2.2.2.2.2.2.2.1
theorem dX7_init_23 : decode cX7_init 23 = .ok (.putfield 16, 3) := edX7_init_0.2.2.2.2.2.2.2.2.2.2.2.1
theorem dX7_init_26 : decode cX7_init 26 = .ok (.aload_n 0, 1) := edX7_init_0.2.2.2.2.2.2.2.2.2.2.2.2.1
theorem dX7_init_27 : decode cX7_init 27 = .ok (.new 7, 3) := edX7_init_0.2.2.2.2.2.2.2.2.2.2.2.2.2.1
theorem dX7_init_30 : decode cX7_init 30 = .ok (.dup, 1) := edX7_init_0.2.2.2.2.2.2.2.2.2.2.2.2.2.2.1
theorem dX7_init_31 : decode cX7_init 31 = .ok (.invokespecial 9, 3) := edX7_init_0.2.2.2.2.2.2.2.2.2.2.2.2.2.2.2.1
theorem dX7_init_34 : decode cX7_init 34 = .ok (.putfield 19, 3) := edX7_init_0.2.2.2.2.2.2.2.2.2.2.2.2.2.2.2.2.1
theorem dX7_init_37 : decode cX7_init 37 = .ok (.aload_n 0, 1) := edX7_init_0.2.2.2.2.2.2.2.2.2.2.2.2.2.2.2.2.2.1
theorem dX7_init_38 : decode cX7_init 38 = .ok (.iconst 0, 1) := edX7_init_0.2.2.2.2.2.2.2.2.2.2.2.2.2.2.2.2.2.2.1
theorem dX7_init_39 : decode cX7_init 39 = .ok (.putfield 22, 3) := edX7_init_0.2.2.2.2.2.2.2.2.2.2.2.2.2.2.2.2.2.2.2.1
theorem dX7_init_42 : decode cX7_init 42 = .ok (.aload_n 0, 1) := edX7_init_0.2.2.2.2.2.2.2.2.2.2.2.2.2.2.2.2.2.2.2.2.1
theorem dX7_init_43 : decode cX7_init 43 = .ok (.new 26, 3) := edX7_init_0.2.2.2.2.2.2.2.2.2.2.2.2.2.2.2.2.2.2.2.2.2.1
theorem dX7_init_46 : decode cX7_init 46 = .ok (.dup, 1) := edX7_init_0.2.2.2.2.2.2.2.2.2.2.2.2.2.2.2.2.2.2.2.2.2.2.1
theorem dX7_init_47 : decode cX7_init 47 = .ok (.invokespecial 28, 3) := edX7_init_0.2.2.2.2.2.2.2.2.2.2.2.2.2.2.2.2.2.2.2.2.2.2.2
theorem edX7_init_50 : (decode cX7_init 50 = .ok (.putfield 29, 3)) ∧ (decode cX7_init 53 = .ok (.aload_n 0, 1)) ∧ (decode cX7_init 54 = .ok (.new 33, 3)) ∧ (decode cX7_init 57 = .ok (.dup, 1)) ∧ (decode cX7_init 58 = .ok (.invokespecial 35, 3)) ∧ (decode cX7_init 61 = .ok (.putfield 36, 3)) ∧ (decode cX7_init 64 = .ok (.aload_n 0, 1)) ∧ (decode cX7_init 65 = .ok (.aload_n 0, 1)) ∧ (decode cX7_init 66 = .ok (.getfield 36, 3)) ∧ (decode cX7_init 69 = .ok (.getfield 40, 3)) ∧ (decode cX7_init 72 = .ok (.putfield 44, 3)) ∧ (decode cX7_init 75 = .ok (.aload_n 0, 1)) ∧ (decode cX7_init 76 = .ok (.iconst 4, 1)) ∧ (decode cX7_init 77 = .ok (.anewarray 45, 3)) ∧ (decode cX7_init 80 = .ok (.putfield 47, 3)) ∧ (decode cX7_init 83 = .ok (.aload_n 0, 1)) ∧ (decode cX7_init 84 = .ok (.iconst 5, 1)) ∧ (decode cX7_init 85 = .ok (.anewarray 51, 3)) ∧ (decode cX7_init 88 = .ok (.putfield 53, 3)) ∧ (decode cX7_init 91 = .ok (.aload_n 0, 1)) ∧ (decode cX7_init 92 = .ok (.bipush 60, 2)) ∧ (decode cX7_init 94 = .ok (.newarray .int, 2)) ∧ (decode cX7_init 96 = .ok (.putfield 57, 3)) ∧ (decode cX7_init 99 = .ok (.aload_n 0, 1)) := by decide +kernel
theorem dX7_init_50 : decode cX7_init 50 = .ok (.putfield 29, 3) := edX7_init_50.1
theorem dX7_init_53 : decode cX7_init 53 = .ok (.aload_n 0, 1) := edX7_init_50.2.1
theorem dX7_init_54 : decode cX7_init 54 = .ok (.new 33, 3) := edX7_init_50.2.2.1
theorem dX7_init_57 : decode cX7_init 57 = .ok (.dup, 1) := edX7_init_50.2.2.2.1
theorem dX7_init_58 : decode cX7_init 58 = .ok (.invokespecial 35, 3) := edX7_init_50.2.2.2.2.1
theorem dX7_init_61 : decode cX7_init 61 = .ok (.putfield 36, 3) := edX7_init_50.2.2.2.2.2.1
theorem dX7_init_64 : decode cX7_init 64 = .ok (.aload_n 0, 1) := edX7_init_50.2.2.2.2.2.2.1
theorem dX7_init_65 : decode cX7_init 65 = .ok (.aload_n 0, 1) := edX7_init_50.2.2.2.2.2.2.2.1
theorem dX7_init_66 : decode cX7_init 66 = .ok (.getfield 36, 3) := edX7_init_50.2.2.2.2.2.2.2.2.1
theorem dX7_init_69 : decode cX7_init 69 = .ok (.getfield 40, 3) := edX7_init_50.2.2.2.2.2.2.2.2.2.1
theorem dX7_init_72 : decode cX7_init 72 = .ok (.putfield 44, 3) := edX7_init_50.2.2.2.2.2.2.2.2.2.2.1
theorem dX7_init_75 : decode cX7_init 75 = .ok (.aload_n 0, 1) := edX7_init_50.2.2.2.2.2.2.2.2.2.2.2.1
theorem dX7_init_76 : decode cX7_init 76 = .ok (.iconst 4, 1) := edX7_init_50.2.2.2.2.2.2.2.2.2.2.2.2.1
theorem dX7_init_77 : decode cX7_init 77 = .ok (.anewarray 45, 3) := edX7_init_50.2.2.2.2.2.2.2.2.2.2.2.2.2.1
theorem dX7_init_80 : decode cX7_init 80 = .ok (.putfield 47, 3) := edX7_init_50.2.2.2.2.2.2.2.2.2.2.2.2.2.2.1
theorem dX7_init_83 : decode cX7_init 83 = .ok (.aload_n 0, 1) := edX7_init_50.2.2.2.2.2.2.2.2.2.2.2.2.2.2.2.1
theorem dX7_init_84 : decode cX7_init 84 = .ok (.iconst 5, 1) := edX7_init_50.2.2.2.2.2.2.2.2.2.2.2.2.2.2.2.2.1
theorem dX7_init_85 : decode cX7_init 85 = .ok (.anewarray 51, 3) := edX7_init_50.2.2.2.2.2.2.2.2.2.2.2.2.2.2.2.2.2.1
theorem dX7_init_88 : decode cX7_init 88 = .ok (.putfield 53, 3) := edX7_init_50.2.2.2.2.2.2.2.2.2.2.2.2.2.2.2.2.2.2.1
theorem dX7_init_91 : decode cX7_init 91 = .ok (.aload_n 0, 1) := edX7_init_50.2.2.2.2.2.2.2.2.2.2.2.2.2.2.2.2.2.2.2.1
theorem dX7_init_92 : decode cX7_init 92 = .ok (.bipush 60, 2) := edX7_init_50.2.2.2.2.2.2.2.2.2.2.2.2.2.2.2.2.2.2.2.2.1
theorem dX7_init_94 : decode cX7_init 94 = .ok (.newarray .int, 2) := edX7_init_50.2.2.2.2.2.2.2.2.2.2.2.2.2.2.2.2.2.2.2.2.2.1
theorem dX7_init_96 : decode cX7_init 96 = .ok (.putfield 57, 3) := edX7_init_50.2.2.2.2.2.2.2.2.2.2.2.2.2.2.2.2.2.2.2.2.2.2.1
theorem dX7_init_99 : decode cX7_init 99 = .ok (.aload_n 0, 1) := edX7_init_50.2.2.2.2.2.2.2.2.2.2.2.2.2.2.2.2.2.2.2.2.2.2.2
theorem edX7_init_100 : (decode cX7_init 100 = .ok (.iconst 0, 1)) ∧ (decode cX7_init 101 = .ok (.putfield 61, 3)) ∧ (decode cX7_init 104 = .ok (.iconst 0, 1)) ∧ (decode cX7_init 105 = .ok (.istore_n 1, 1)) ∧ (decode cX7_init 106 = .ok (.iload_n 1, 1)) ∧ (decode cX7_init 107 = .ok (.iconst 4, 1)) ∧ (decode cX7_init 108 = .ok (.if_icmp .ge 22, 3)) ∧ (decode cX7_init 111 = .ok (.aload_n 0, 1)) ∧ (decode cX7_init 112 = .ok (.getfield 47, 3)) ∧ (decode cX7_init 115 = .ok (.iload_n 1, 1)) ∧ (decode cX7_init 116 = .ok (.new 45, 3)) ∧ (decode cX7_init 119 = .ok (.dup, 1)) ∧ (decode cX7_init 120 = .ok (.invokespecial 65, 3)) ∧ (decode cX7_init 123 = .ok (.aastore, 1)) ∧ (decode cX7_init 124 = .ok (.iinc 1 1, 3)) ∧ (decode cX7_init 127 = .ok (.goto (-21), 3)) ∧ (decode cX7_init 130 = .ok (.iconst 0, 1)) ∧ (decode cX7_init 131 = .ok (.istore_n 1, 1)) ∧ (decode cX7_init 132 = .ok (.iload_n 1, 1)) ∧ (decode cX7_init 133 = .ok (.iconst 5, 1)) ∧ (decode cX7_init 134 = .ok (.if_icmp .ge 22, 3)) ∧ (decode cX7_init 137 = .ok (.aload_n 0, 1)) ∧ (decode cX7_init 138 = .ok (.getfield 53, 3)) ∧ (decode cX7_init 141 = .ok (.iload_n 1, 1)) := by decide +kernel
theorem dX7_init_100 : decode cX7_init 100 = .ok (.iconst 0, 1) := edX7_init_100.1
theorem dX7_init_101 : decode cX7_init 101 = .ok (.putfield 61, 3) := edX7_init_100.2.1
theorem dX7_init_104 : decode cX7_init 104 = .ok (.iconst 0, 1) := edX7_init_100.2.2.1
theorem dX7_init_105 : decode cX7_init 105 = .ok (.istore_n 1, 1) := edX7_init_100.2.2.2.1
theorem dX7_init_106 : decode cX7_init 106 = .ok (.iload_n 1, 1) := edX7_init_100.2.2.2.2.1
theorem dX7_init_107 : decode cX7_init 107 = .ok (.iconst 4, 1) := edX7_init_100.2.2.2.2.2.1
theorem dX7_init_108 : decode cX7_init 108 = .ok (.if_icmp .ge 22, 3) := edX7_init_100.2.2.2.2.2.2.1
theorem dX7_init_111 : decode cX7_init 111 = .ok (.aload_n 0, 1) := edX7_init_100.2.2.2.2.2.2.2.1
theorem dX7_init_112 : decode cX7_init 112 = .ok (.getfield 47, 3) := edX7_init_100.2.2.2.2.2.2.2.2.1
theorem dX7_init_115 : decode cX7_init 115 = .ok (.iload_n 1, 1) := edX7_init_100.2.2.2.2.2.2.2.2.2.1
theorem dX7_init_116 : decode cX7_init 116 = .ok (.new 45, 3) := edX7_init_100.2.2.2.2.2.2.2.2.2.2.1
theorem dX7_init_119 : decode cX7_init 119 = .ok (.dup, 1) := edX7_init_100.2.2.2.2.2.2.2.2.2.2.2.1
theorem dX7_init_120 : decode cX7_init 120 = .ok (.invokespecial 65, 3) := edX7_init_100.2.2.2.2.2.2.2.2.2.2.2.2.1
theorem dX7_init_123 : decode cX7_init 123 = .ok (.aastore, 1) := edX7_init_100.2.2.2.2.2.2.2.2.2.2.2.2.2.1
theorem dX7_init_124 : decode cX7_init 124 = .ok (.iinc 1 1, 3) := edX7_init_100.2.2.2.2.2.2.2.2.2.2.2.2.2.2.1
theorem dX7_init_127 : decode cX7_init 127 = .ok (.goto (-21), 3) := edX7_init_100.2.2.2.2.2.2.2.2.2.2.2.2.2.2.2.1
theorem dX7_init_130 : decode cX7_init 130 = .ok (.iconst 0, 1) := edX7_init_100.2.2.2.2.2.2.2.2.2.2.2.2.2.2.2.2.1
theorem dX7_init_131 : decode cX7_init 131 = .ok (.istore_n 1, 1) := edX7_init_100.2.2.2.2.2.2.2.2.2.2.2.2.2.2.2.2.2.1
theorem dX7_init_132 : decode cX7_init 132 = .ok (.iload_n 1, 1) := edX7_init_100.2.2.2.2.2.2.2.2.2.2.2.2.2.2.2.2.2.2.1
theorem dX7_init_133 : decode cX7_init 133 = .ok (.iconst 5, 1) := edX7_init_100.2.2.2.2.2.2.2.2.2.2.2.2.2.2.2.2.2.2.2.1
theorem dX7_init_134 : decode cX7_init 134 = .ok (.if_icmp .ge 22, 3) := edX7_init_100.2.2.2.2.2.2.2.2.2.2.2.2.2.2.2.2.2.2.2.2.1
theorem dX7_init_137 : decode cX7_init 137 = .ok (.aload_n 0, 1) := edX7_init_100.2.2.2.2.2.2.2.2.2.2.2.2.2.2.2.2.2.2.2.2.2.1
theorem dX7_init_138 : decode cX7_init 138 = .ok (.getfield 53, 3) := edX7_init_100.2.2.2.2.2.2.2.2.2.2.2.2.2.2.2.2.2.2.2.2.2.2.1
theorem dX7_init_141 : decode cX7_init 141 = .ok (.iload_n 1, 1) := edX7_init_100.2.2.2.2.2.2.2.2.2.2.2.2.2.2.2.2.2.2.2.2.2.2.2
theorem edX7_init_142 : (decode cX7_init 142 = .ok (.new 51, 3)) ∧ (decode cX7_init 145 = .ok (.dup, 1)) ∧ (decode cX7_init 146 = .ok (.invokespecial 66, 3)) ∧ (decode cX7_init 149 = .ok (.aastore, 1)) ∧ (decode cX7_init 150 = .ok (.iinc 1 1, 3)) ∧ (decode cX7_init 153 = .ok (.goto (-21), 3)) ∧ (decode cX7_init 156 = .ok (.return_, 1)) := by decide +kernel
theorem dX7_init_142 : decode cX7_init 142 = .ok (.new 51, 3) := edX7_init_142.1
theorem dX7_init_145 : decode cX7_init 145 = .ok (.dup, 1) := edX7_init_142.2.1
theorem dX7_init_146 : decode cX7_init 146 = .ok (.invokespecial 66, 3) := edX7_init_142.2.2.1
theorem dX7_init_149 : decode cX7_init 149 = .ok (.aastore, 1) := edX7_init_142.2.2.2.1
theorem dX7_init_150 : decode cX7_init 150 = .ok (.iinc 1 1, 3) := edX7_init_142.2.2.2.2.1
theorem dX7_init_153 : decode cX7_init 153 = .ok (.goto (-21), 3) := edX7_init_142.2.2.2.2.2.1
theorem dX7_init_156 : decode cX7_init 156 = .ok (.return_, 1) := edX7_init_142.2.2.2.2.2.2
theorem edX7_friend_0 : (decode cX7_friend 0 = .ok (.iload_n 1, 1)) ∧ (decode cX7_friend 1 = .ok (.invokestatic 67, 3)) ∧ (decode cX7_friend 4 = .ok (.ifCond .eq 20, 3)) ∧ (decode cX7_friend 7 = .ok (.iload_n 2, 1)) ∧ (decode cX7_friend 8 = .ok (.invokestatic 71, 3)) ∧ (decode cX7_friend 11 = .ok (.ifCond .eq 13, 3)) ∧ (decode cX7_friend 14 = .ok (.iload_n 3, 1)) ∧ (decode cX7_friend 15 = .ok (.iconst 0, 1)) ∧ (decode cX7_friend 16 = .ok (.bipush 99, 2)) ∧ (decode cX7_friend 18 = .ok (.invokestatic 74, 3)) ∧ (decode cX7_friend 21 = .ok (.ifCond .ne 6, 3)) ∧ (decode cX7_friend 24 = .ok (.ldc 78, 2)) ∧ (decode cX7_friend 26 = .ok (.ireturn, 1)) ∧ (decode cX7_friend 27 = .ok (.aload_n 0, 1)) ∧ (decode cX7_friend 28 = .ok (.getfield 10, 3)) ∧ (decode cX7_friend 31 = .ok (.getfield 79, 3)) ∧ (decode cX7_friend 34 = .ok (.bipush 8, 2)) ∧ (decode cX7_friend 36 = .ok (.if_icmp .lt 6, 3)) ∧ (decode cX7_friend 39 = .ok (.ldc 82, 2)) ∧ (decode cX7_friend 41 = .ok (.ireturn, 1)) ∧ (decode cX7_friend 42 = .ok (.aload_n 0, 1)) ∧ (decode cX7_friend 43 = .ok (.getfield 10, 3)) ∧ (decode cX7_friend 46 = .ok (.iload_n 1, 1)) ∧ (decode cX7_friend 47 = .ok (.iload_n 2, 1)) := by decide +kernel
theorem dX7_friend_0 : decode cX7_friend 0 = .ok (.iload_n 1, 1) := edX7_friend_0.1
theorem dX7_friend_1 : decode cX7_friend 1 = .ok (.invokestatic 67, 3) := edX7_friend_0.2.1
theorem dX7_friend_4 : decode cX7_friend 4 = .ok (.ifCond .eq 20, 3) := edX7_friend_0.2.2.1
theorem dX7_friend_7 : decode cX7_friend 7 = .ok (.iload_n 2, 1) := edX7_friend_0.2.2.2.1
theorem dX7_friend_8 : decode cX7_friend 8 = .ok (.invokestatic 71, 3) := edX7_friend_0.2.2.2.2.1
theorem dX7_friend_11 : decode cX7_friend 11 = .ok (.ifCond .eq 13, 3) := edX7_friend_0.2.2.2.2.2.1
theorem dX7_friend_14 : decode cX7_friend 14 = .ok (.iload_n 3, 1) := edX7_friend_0.2.2.2.2.2.2.1
theorem dX7_friend_15 : decode cX7_friend 15 = .ok (.iconst 0, 1) := edX7_friend_0.2.2.2.2.2.2.2.1
theorem dX7_friend_16 : decode cX7_friend 16 = .ok (.bipush 99, 2) := edX7_friend_0.2.2.2.2.2.2.2.2.1
theorem dX7_friend_18 : decode cX7_friend 18 = .ok (.invokestatic 74, 3) := edX7_friend_0.2.2.2.2.2.2.2.2.2.1
theorem dX7_friend_21 : decode cX7_friend 21 = .ok (.ifCond .ne 6, 3) := edX7_friend_0.2.2.2.2.2.2.2.2.2.2.1
theorem dX7_friend_24 : decode cX7_friend 24 = .ok (.ldc 78, 2) := edX7_friend_0.2.2.2.2.2.2.2.2.2.2.2.1
theorem dX7_friend_26 : decode cX7_friend 26 = .ok (.ireturn, 1) := edX7_friend_0.2.2.2.2.2.2.2.2.2.2.2.2.1
theorem dX7_friend_27 : decode cX7_friend 27 = .ok (.aload_n 0, 1) := edX7_friend_0.2.2.2.2.2.2.2.2.2.2.2.2.2.1
theorem dX7_friend_28 : decode cX7_friend 28 = .ok (.getfield 10, 3) := edX7_friend_0.2.2.2.2.2.2.2.2.2.2.2.2.2.2.1
theorem dX7_friend_31 : decode cX7_friend 31 = .ok (.getfield 79, 3) := edX7_friend_0.2.2.2.2.2.2.2.2.2.2.2.2.2.2.2.1
theorem dX7_friend_34 : decode cX7_friend 34 = .ok (.bipush 8, 2) := edX7_friend_0.2.2.2.2.2.2.2.2.2.2.2.2.2.2.2.2.1
theorem dX7_friend_36 : decode cX7_friend 36 = .ok (.if_icmp .lt 6, 3) := edX7_friend_0.2.2.2.2.2.2.2.2.2.2.2.2.2.2.2.2.2.1
theorem dX7_friend_39 : decode cX7_friend 39 = .ok (.ldc 82, 2) := edX7_friend_0.2.2.2.2.2.2.2.2.2.2.2.2.2.2.2.2.2.2.1
theorem dX7_friend_41 : decode cX7_friend 41 = .ok (.ireturn, 1) := edX7_friend_0.2.2.2.2.2.2.2.2.2.2.2.2.2.2.2.2.2.2.2.1
theorem dX7_friend_42 : decode cX7_friend 42 = .ok (.aload_n 0, 1) := edX7_friend_0.2.2.2.2.2.2.2.2.2.2.2.2.2.2.2.2.2.2.2.2.1
theorem dX7_friend_43 : decode cX7_friend 43 = .ok (.getfield 10, 3) := edX7_friend_0.2.2.2.2.2.2.2.2.2.2.2.2.2.2.2.2.2.2.2.2.2.1
theorem dX7_friend_46 : decode cX7_friend 46 = .ok (.iload_n 1, 1) := edX7_friend_0.2.2.2.2.2.2.2.2.2.2.2.2.2.2.2.2.2.2.2.2.2.2.1
theorem dX7_friend_47 : decode cX7_friend 47 = .ok (.iload_n 2, 1) := edX7_friend_0.2.2.2.2.2.2.2.2.2.2.2.2.2.2.2.2.2.2.2.2.2.2.2
theorem edX7_friend_48 : (decode cX7_friend 48 = .ok (.iload_n 3, 1)) ∧ (decode cX7_friend 49 = .ok (.invokevirtual 83, 3)) ∧ (decode cX7_friend 52 = .ok (.aload_n 0, 1)) ∧ (decode cX7_friend 53 = .ok (.getfield 10, 3)) ∧ (decode cX7_friend 56 = .ok (.getfield 79, 3)) ∧ (decode cX7_friend 59 = .ok (.iconst 1, 1)) ∧ (decode cX7_friend 60 = .ok (.isub, 1)) ∧ (decode cX7_friend 61 = .ok (.ireturn, 1)) := by decide +kernel
theorem dX7_friend_48 : decode cX7_friend 48 = .ok (.iload_n 3, 1) := edX7_friend_48.1
theorem dX7_friend_49 : decode cX7_friend 49 = .ok (.invokevirtual 83, 3) := edX7_friend_48.2.1
theorem dX7_friend_52 : decode cX7_friend 52 = .ok (.aload_n 0, 1) := edX7_friend_48.2.2.1
theorem dX7_friend_53 : decode cX7_friend 53 = .ok (.getfield 10, 3) := edX7_friend_48.2.2.2.1
theorem dX7_friend_56 : decode cX7_friend 56 = .ok (.getfield 79, 3) := edX7_friend_48.2.2.2.2.1
theorem dX7_friend_59 : decode cX7_friend 59 = .ok (.iconst 1, 1) := edX7_friend_48.2.2.2.2.2.1
theorem dX7_friend_60 : decode cX7_friend 60 = .ok (.isub, 1) := edX7_friend_48.2.2.2.2.2.2.1
theorem dX7_friend_61 : decode cX7_friend 61 = .ok (.ireturn, 1) := edX7_friend_48.2.2.2.2.2.2.2
theorem edX7_told_0 : (decode cX7_told 0 = .ok (.aload_n 0, 1)) ∧ (decode cX7_told 1 = .ok (.getfield 10, 3)) ∧ (decode cX7_told 4 = .ok (.iload_n 1, 1)) ∧ (decode cX7_told 5 = .ok (.invokevirtual 87, 3)) ∧ (decode cX7_told 8 = .ok (.ifCond .ne 6, 3)) ∧ (decode cX7_told 11 = .ok (.ldc 78, 2)) ∧ (decode cX7_told 13 = .ok (.ireturn, 1)) ∧ (decode cX7_told 14 = .ok (.iload_n 2, 1)) ∧ (decode cX7_told 15 = .ok (.tableswitch 138 0 7 #[45, 55, 65, 75, 85, 95, 104, 116], 45)) ∧ (decode cX7_told 60 = .ok (.aload_n 0, 1)) ∧ (decode cX7_told 61 = .ok (.getfield 10, 3)) ∧ (decode cX7_told 64 = .ok (.getfield 90, 3)) ∧ (decode cX7_told 67 = .ok (.iload_n 1, 1)) ∧ (decode cX7_told 68 = .ok (.iaload, 1)) ∧ (decode cX7_told 69 = .ok (.ireturn, 1)) ∧ (decode cX7_told 70 = .ok (.aload_n 0, 1)) ∧ (decode cX7_told 71 = .ok (.getfield 10, 3)) ∧ (decode cX7_told 74 = .ok (.getfield 93, 3)) ∧ (decode cX7_told 77 = .ok (.iload_n 1, 1)) ∧ (decode cX7_told 78 = .ok (.iaload, 1)) ∧ (decode cX7_told 79 = .ok (.ireturn, 1)) ∧ (decode cX7_told 80 = .ok (.aload_n 0, 1)) ∧ (decode cX7_told 81 = .ok (.getfield 10, 3)) ∧ (decode cX7_told 84 = .ok (.getfield 96, 3)) := by decide +kernel
theorem dX7_told_0 : decode cX7_told 0 = .ok (.aload_n 0, 1) := edX7_told_0.1
theorem dX7_told_1 : decode cX7_told 1 = .ok (.getfield 10, 3) := edX7_told_0.2.1
theorem dX7_told_4 : decode cX7_told 4 = .ok (.iload_n 1, 1) := edX7_told_0.2.2.1
theorem dX7_told_5 : decode cX7_told 5 = .ok (.invokevirtual 87, 3) := edX7_told_0.2.2.2.1
theorem dX7_told_8 : decode cX7_told 8 = .ok (.ifCond .ne 6, 3) := edX7_told_0.2.2.2.2.1
theorem dX7_told_11 : decode cX7_told 11 = .ok (.ldc 78, 2) := edX7_told_0.2.2.2.2.2.1
theorem dX7_told_13 : decode cX7_told 13 = .ok (.ireturn, 1) := edX7_told_0.2.2.2.2.2.2.1
theorem dX7_told_14 : decode cX7_told 14 = .ok (.iload_n 2, 1) := edX7_told_0.2.2.2.2.2.2.2.1
theorem dX7_told_15 : decode cX7_told 15 = .ok (.tableswitch 138 0 7 #[45, 55, 65, 75, 85, 95, 104, 116], 45) := edX7_told_0.2.2.2.2.2.2.2.2.1
theorem dX7_told_60 : decode cX7_told 60 = .ok (.aload_n 0, 1) := edX7_told_0.2.2.2.2.2.2.2.2.2.1
theorem dX7_told_61 : decode cX7_told 61 = .ok (.getfield 10, 3) := edX7_told_0.2.2.2.2.2.2.2.2.2.2.1
theorem dX7_told_64 : decode cX7_told 64 = .ok (.getfield 90, 3) := edX7_told_0.2.2.2.2.2.2.2.2.2.2.2.1
theorem dX7_told_67 : decode cX7_told 67 = .ok (.iload_n 1, 1) := edX7_told_0.2.2.2.2.2.2.2.2.2.2.2.2.1
theorem dX7_told_68 : decode cX7_told 68 = .ok (.iaload, 1) := edX7_told_0.2.2.2.2.2.2.2.2.2.2.2.2.2.1
theorem dX7_told_69 : decode cX7_told 69 = .ok (.ireturn, 1) := edX7_told_0.2.2.2.2.2.2.2.2.2.2.2.2.2.2.1
theorem dX7_told_70 : decode cX7_told 70 = .ok (.aload_n 0, 1) := edX7_told_0.2.2.2.2.2.2.2.2.2.2.2.2.2.2.2.1
theorem dX7_told_71 : decode cX7_told 71 = .ok (.getfield 10, 3) := edX7_told_0.2.2.2.2.2.2.2.2.2.2.2.2.2.2.2.2.1
theorem dX7_told_74 : decode cX7_told 74 = .ok (.getfield 93, 3) := edX7_told_0.2.2.2.2.2.2.2.2.2.2.2.2.2.2.2.2.2.1
theorem dX7_told_77 : decode cX7_told 77 = .ok (.iload_n 1, 1) := edX7_told_0.2.2.2.2.2.2.2.2.2.2.2.2.2.2.2.2.2.2.1
theorem dX7_told_78 : decode cX7_told 78 = .ok (.iaload, 1) := edX7_told_0.2.2.2.2.2.2.2.2.2.2.2.2.2.2.2.2.2.2.2.1
theorem dX7_told_79 : decode cX7_told 79 = .ok (.ireturn, 1) := edX7_told_0.2.2.2.2.2.2.2.2.2.2.2.2.2.2.2.2.2.2.2.2.1
theorem dX7_told_80 : decode cX7_told 80 = .ok (.aload_n 0, 1) := edX7_told_0.2.2.2.2.2.2.2.2.2.2.2.2.2.2.2.2.2.2.2.2.2.1
theorem dX7_told_81 : decode cX7_told 81 = .ok (.getfield 10, 3) := edX7_told_0.2.2.2.2.2.2.2.2.2.2.2.2.2.2.2.2.2.2.2.2.2.2.1
theorem dX7_told_84 : decode cX7_told 84 = .ok (.getfield 96, 3) := edX7_told_0.2.2.2.2.2.2.2.2.2.2.2.2.2.2.2.2.2.2.2.2.2.2.2
theorem edX7_told_87 : (decode cX7_told 87 = .ok (.iload_n 1, 1)) ∧ (decode cX7_told 88 = .ok (.iaload, 1)) ∧ (decode cX7_told 89 = .ok (.ireturn, 1)) ∧ (decode cX7_told 90 = .ok (.aload_n 0, 1)) ∧ (decode cX7_told 91 = .ok (.getfield 10, 3)) ∧ (decode cX7_told 94 = .ok (.getfield 99, 3)) ∧ (decode cX7_told 97 = .ok (.iload_n 1, 1)) ∧ (decode cX7_told 98 = .ok (.iaload, 1)) ∧ (decode cX7_told 99 = .ok (.ireturn, 1)) ∧ (decode cX7_told 100 = .ok (.aload_n 0, 1)) ∧ (decode cX7_told 101 = .ok (.getfield 10, 3)) ∧ (decode cX7_told 104 = .ok (.getfield 102, 3)) ∧ (decode cX7_told 107 = .ok (.iload_n 1, 1)) ∧ (decode cX7_told 108 = .ok (.iaload, 1)) ∧ (decode cX7_told 109 = .ok (.ireturn, 1)) ∧ (decode cX7_told 110 = .ok (.aload_n 0, 1)) ∧ (decode cX7_told 111 = .ok (.getfield 10, 3)) ∧ (decode cX7_told 114 = .ok (.iload_n 1, 1)) ∧ (decode cX7_told 115 = .ok (.invokevirtual 105, 3)) ∧ (decode cX7_told 118 = .ok (.ireturn, 1)) ∧ (decode cX7_told 119 = .ok (.aload_n 0, 1)) ∧ (decode cX7_told 120 = .ok (.getfield 10, 3)) ∧ (decode cX7_told 123 = .ok (.iload_n 1, 1)) ∧ (decode cX7_told 124 = .ok (.invokevirtual 109, 3)) := by decide +kernel
theorem dX7_told_87 : decode cX7_told 87 = .ok (.iload_n 1, 1) := edX7_told_87.1
theorem dX7_told_88 : decode cX7_told 88 = .ok (.iaload, 1) := edX7_told_87.2.1
theorem dX7_told_89 : decode cX7_told 89 = .ok (.ireturn, 1) := edX7_told_87.2.2.1
theorem dX7_told_90 : decode cX7_told 90 = .ok (.aload_n 0, 1) := edX7_told_87.2.2.2.1
theorem dX7_told_91 : decode cX7_told 91 = .ok (.getfield 10, 3) := edX7_told_87.2.2.2.2.1
theorem dX7_told_94 : decode cX7_told 94 = .ok (.getfield 99, 3) := edX7_told_87.2.2.2.2.2.1
theorem dX7_told_97 : decode cX7_told 97 = .ok (.iload_n 1, 1) := edX7_told_87.2.2.2.2.2.2.1
theorem dX7_told_98 : decode cX7_told 98 = .ok (.iaload, 1) := edX7_told_87.2.2.2.2.2.2.2.1
theorem dX7_told_99 : decode cX7_told 99 = .ok (.ireturn, 1) := edX7_told_87.2.2.2.2.2.2.2.2.1
theorem dX7_told_100 : decode cX7_told 100 = .ok (.aload_n 0, 1) := edX7_told_87.2.2.2.2.2.2.2.2.2.1
theorem dX7_told_101 : decode cX7_told 101 = .ok (.getfield 10, 3) := edX7_told_87.2.2.2.2.2.2.2.2.2.2.1
theorem dX7_told_104 : decode cX7_told 104 = .ok (.getfield 102, 3) := edX7_told_87.2.2.2.2.2.2.2.2.2.2.2.1
theorem dX7_told_107 : decode cX7_told 107 = .ok (.iload_n 1, 1) := edX7_told_87.2.2.2.2.2.2.2.2.2.2.2.2.1
theorem dX7_told_108 : decode cX7_told 108 = .ok (.iaload, 1) := edX7_told_87.2.2.2.2.2.2.2.2.2.2.2.2.2.1
theorem dX7_told_109 : decode cX7_told 109 = .ok (.ireturn, 1) := edX7_told_87.2.2.2.2.2.2.2.2.2.2.2.2.2.2.1
theorem dX7_told_110 : decode cX7_told 110 = .ok (.aload_n 0, 1) := edX7_told_87.2.2.2.2.2.2.2.2.2.2.2.2.2.2.2.1
theorem dX7_told_111 : decode cX7_told 111 = .ok (.getfield 10, 3) := edX7_told_87.2.2.2.2.2.2.2.2.2.2.2.2.2.2.2.2.1
theorem dX7_told_114 : decode cX7_told 114 = .ok (.iload_n 1, 1) := edX7_told_87.2.2.2.2.2.2.2.2.2.2.2.2.2.2.2.2.2.1
theorem dX7_told_115 : decode cX7_told 115 = .ok (.invokevirtual 105, 3) := edX7_told_87.2.2.2.2.2.2.2.2.2.2.2.2.2.2.2.2.2.2.1
theorem dX7_told_118 : decode cX7_told 118 = .ok (.ireturn, 1) := edX7_told_87.2.2.2.2.2.2.2.2.2.2.2.2.2.2.2.2.2.2.2.1
theorem dX7_told_119 : decode cX7_told 119 = .ok (.aload_n 0, 1) := edX7_told_87.2.2.2.2.2.2.2.2.2.2.2.2.2.2.2.2.2.2.2.2.1
theorem dX7_told_120 : decode cX7_told 120 = .ok (.getfield 10, 3) := edX7_told_87.2.2.2.2.2.2.2.2.2.2.2.2.2.2.2.2.2.2.2.2.2.1
theorem dX7_told_123 : decode cX7_told 123 = .ok (.iload_n 1, 1) := edX7_told_87.2.2.2.2.2.2.2.2.2.2.2.2.2.2.2.2.2.2.2.2.2.2.1
theorem dX7_told_124 : decode cX7_told 124 = .ok (.invokevirtual 109, 3) := edX7_told_87.2.2.2.2.2.2.2.2.2.2.2.2.2.2.2.2.2.2.2.2.2.2.2
theorem edX7_told_127 : (decode cX7_told 127 = .ok (.invokestatic 112, 3)) ∧ (decode cX7_told 130 = .ok (.ireturn, 1)) ∧ (decode cX7_told 131 = .ok (.aload_n 0, 1)) ∧ (decode cX7_told 132 = .ok (.getfield 10, 3)) ∧ (decode cX7_told 135 = .ok (.getfield 90, 3)) ∧ (decode cX7_told 138 = .ok (.iload_n 1, 1)) ∧ (decode cX7_told 139 = .ok (.iaload, 1)) ∧ (decode cX7_told 140 = .ok (.aload_n 0, 1)) ∧ (decode cX7_told 141 = .ok (.getfield 10, 3)) ∧ (decode cX7_told 144 = .ok (.getfield 96, 3)) ∧ (decode cX7_told 147 = .ok (.iload_n 1, 1)) ∧ (decode cX7_told 148 = .ok (.iaload, 1)) ∧ (decode cX7_told 149 = .ok (.invokestatic 115, 3)) ∧ (decode cX7_told 152 = .ok (.ireturn, 1)) ∧ (decode cX7_told 153 = .ok (.ldc 78, 2)) ∧ (decode cX7_told 155 = .ok (.ireturn, 1)) := by decide +kernel
theorem dX7_told_127 : decode cX7_told 127 = .ok (.invokestatic 112, 3) := edX7_told_127.1
theorem dX7_told_130 : decode cX7_told 130 = .ok (.ireturn, 1) := edX7_told_127.2.1
theorem dX7_told_131 : decode cX7_told 131 = .ok (.aload_n 0, 1) := edX7_told_127.2.2.1
theorem dX7_told_132 : decode cX7_told 132 = .ok (.getfield 10, 3) := edX7_told_127.2.2.2.1
theorem dX7_told_135 : decode cX7_told 135 = .ok (.getfield 90, 3) := edX7_told_127.2.2.2.2.1
theorem dX7_told_138 : decode cX7_told 138 = .ok (.iload_n 1, 1) := edX7_told_127.2.2.2.2.2.1
theorem dX7_told_139 : decode cX7_told 139 = .ok (.iaload, 1) := edX7_told_127.2.2.2.2.2.2.1
theorem dX7_told_140 : decode cX7_told 140 = .ok (.aload_n 0, 1) := edX7_told_127.2.2.2.2.2.2.2.1
theorem dX7_told_141 : decode cX7_told 141 = .ok (.getfield 10, 3) := edX7_told_127.2.2.2.2.2.2.2.2.1
theorem dX7_told_144 : decode cX7_told 144 = .ok (.getfield 96, 3) := edX7_told_127.2.2.2.2.2.2.2.2.2.1
theorem dX7_told_147 : decode cX7_told 147 = .ok (.iload_n 1, 1) := edX7_told_127.2.2.2.2.2.2.2.2.2.2.1
theorem dX7_told_148 : decode cX7_told 148 = .ok (.iaload, 1) := edX7_told_127.2.2.2.2.2.2.2.2.2.2.2.1
theorem dX7_told_149 : decode cX7_told 149 = .ok (.invokestatic 115, 3) := edX7_told_127.2.2.2.2.2.2.2.2.2.2.2.2.1
theorem dX7_told_152 : decode cX7_told 152 = .ok (.ireturn, 1) := edX7_told_127.2.2.2.2.2.2.2.2.2.2.2.2.2.1
theorem dX7_told_153 : decode cX7_told 153 = .ok (.ldc 78, 2) := edX7_told_127.2.2.2.2.2.2.2.2.2.2.2.2.2.2.1
theorem dX7_told_155 : decode cX7_told 155 = .ok (.ireturn, 1) := edX7_told_127.2.2.2.2.2.2.2.2.2.2.2.2.2.2.2
theorem edX7_as_0 : (decode cX7_as 0 = .ok (.aload_n 0, 1)) ∧ (decode cX7_as 1 = .ok (.getfield 10, 3)) ∧ (decode cX7_as 4 = .ok (.iload_n 1, 1)) ∧ (decode cX7_as 5 = .ok (.invokevirtual 87, 3)) ∧ (decode cX7_as 8 = .ok (.ifCond .eq 10, 3)) ∧ (decode cX7_as 11 = .ok (.iload_n 2, 1)) ∧ (decode cX7_as 12 = .ok (.invokestatic 67, 3)) ∧ (decode cX7_as 15 = .ok (.ifCond .ne 6, 3)) ∧ (decode cX7_as 18 = .ok (.ldc 78, 2)) ∧ (decode cX7_as 20 = .ok (.ireturn, 1)) ∧ (decode cX7_as 21 = .ok (.aload_n 0, 1)) ∧ (decode cX7_as 22 = .ok (.getfield 10, 3)) ∧ (decode cX7_as 25 = .ok (.getfield 90, 3)) ∧ (decode cX7_as 28 = .ok (.iload_n 1, 1)) ∧ (decode cX7_as 29 = .ok (.iaload, 1)) ∧ (decode cX7_as 30 = .ok (.iload_n 2, 1)) ∧ (decode cX7_as 31 = .ok (.invokestatic 119, 3)) ∧ (decode cX7_as 34 = .ok (.ifCond .eq 15, 3)) ∧ (decode cX7_as 37 = .ok (.aload_n 0, 1)) ∧ (decode cX7_as 38 = .ok (.getfield 10, 3)) ∧ (decode cX7_as 41 = .ok (.getfield 96, 3)) ∧ (decode cX7_as 44 = .ok (.iload_n 1, 1)) ∧ (decode cX7_as 45 = .ok (.iaload, 1)) ∧ (decode cX7_as 46 = .ok (.goto 5, 3)) := by decide +kernel
theorem dX7_as_0 : decode cX7_as 0 = .ok (.aload_n 0, 1) := edX7_as_0.1
theorem dX7_as_1 : decode cX7_as 1 = .ok (.getfield 10, 3) := edX7_as_0.2.1
theorem dX7_as_4 : decode cX7_as 4 = .ok (.iload_n 1, 1) := edX7_as_0.2.2.1
theorem dX7_as_5 : decode cX7_as 5 = .ok (.invokevirtual 87, 3) := edX7_as_0.2.2.2.1
theorem dX7_as_8 : decode cX7_as 8 = .ok (.ifCond .eq 10, 3) := edX7_as_0.2.2.2.2.1
theorem dX7_as_11 : decode cX7_as 11 = .ok (.iload_n 2, 1) := edX7_as_0.2.2.2.2.2.1
theorem dX7_as_12 : decode cX7_as 12 = .ok (.invokestatic 67, 3) := edX7_as_0.2.2.2.2.2.2.1
theorem dX7_as_15 : decode cX7_as 15 = .ok (.ifCond .ne 6, 3) := edX7_as_0.2.2.2.2.2.2.2.1
theorem dX7_as_18 : decode cX7_as 18 = .ok (.ldc 78, 2) := edX7_as_0.2.2.2.2.2.2.2.2.1
theorem dX7_as_20 : decode cX7_as 20 = .ok (.ireturn, 1) := edX7_as_0.2.2.2.2.2.2.2.2.2.1
theorem dX7_as_21 : decode cX7_as 21 = .ok (.aload_n 0, 1) := edX7_as_0.2.2.2.2.2.2.2.2.2.2.1
theorem dX7_as_22 : decode cX7_as 22 = .ok (.getfield 10, 3) := edX7_as_0.2.2.2.2.2.2.2.2.2.2.2.1
theorem dX7_as_25 : decode cX7_as 25 = .ok (.getfield 90, 3) := edX7_as_0.2.2.2.2.2.2.2.2.2.2.2.2.1
theorem dX7_as_28 : decode cX7_as 28 = .ok (.iload_n 1, 1) := edX7_as_0.2.2.2.2.2.2.2.2.2.2.2.2.2.1
theorem dX7_as_29 : decode cX7_as 29 = .ok (.iaload, 1) := edX7_as_0.2.2.2.2.2.2.2.2.2.2.2.2.2.2.1
theorem dX7_as_30 : decode cX7_as 30 = .ok (.iload_n 2, 1) := edX7_as_0.2.2.2.2.2.2.2.2.2.2.2.2.2.2.2.1
theorem dX7_as_31 : decode cX7_as 31 = .ok (.invokestatic 119, 3) := edX7_as_0.2.2.2.2.2.2.2.2.2.2.2.2.2.2.2.2.1
theorem dX7_as_34 : decode cX7_as 34 = .ok (.ifCond .eq 15, 3) := edX7_as_0.2.2.2.2.2.2.2.2.2.2.2.2.2.2.2.2.2.1
theorem dX7_as_37 : decode cX7_as 37 = .ok (.aload_n 0, 1) := edX7_as_0.2.2.2.2.2.2.2.2.2.2.2.2.2.2.2.2.2.2.1
theorem dX7_as_38 : decode cX7_as 38 = .ok (.getfield 10, 3) := edX7_as_0.2.2.2.2.2.2.2.2.2.2.2.2.2.2.2.2.2.2.2.1
theorem dX7_as_41 : decode cX7_as 41 = .ok (.getfield 96, 3) := edX7_as_0.2.2.2.2.2.2.2.2.2.2.2.2.2.2.2.2.2.2.2.2.1
theorem dX7_as_44 : decode cX7_as 44 = .ok (.iload_n 1, 1) := edX7_as_0.2.2.2.2.2.2.2.2.2.2.2.2.2.2.2.2.2.2.2.2.2.1
theorem dX7_as_45 : decode cX7_as 45 = .ok (.iaload, 1) := edX7_as_0.2.2.2.2.2.2.2.2.2.2.2.2.2.2.2.2.2.2.2.2.2.2.1
theorem dX7_as_46 : decode cX7_as 46 = .ok (.goto 5, 3) := edX7_as_0.2.2.2.2.2.2.2.2.2.2.2.2.2.2.2.2.2.2.2.2.2.2.2
theorem edX7_as_49 : (decode cX7_as 49 = .ok (.ldc 123, 2)) ∧ (decode cX7_as 51 = .ok (.ireturn, 1)) := by decide +kernel
theorem dX7_as_49 : decode cX7_as 49 = .ok (.ldc 123, 2) := edX7_as_49.1
theorem dX7_as_51 : decode cX7_as 51 = .ok (.ireturn, 1) := edX7_as_49.2
theorem edX7_turns_0 : (decode cX7_turns 0 = .ok (.aload_n 0, 1)) ∧ (decode cX7_turns 1 = .ok (.getfield 10, 3)) ∧ (decode cX7_turns 4 = .ok (.iload_n 1, 1)) ∧ (decode cX7_turns 5 = .ok (.invokevirtual 87, 3)) ∧ (decode cX7_turns 8 = .ok (.ifCond .eq 10, 3)) ∧ (decode cX7_turns 11 = .ok (.iload_n 2, 1)) ∧ (decode cX7_turns 12 = .ok (.invokestatic 67, 3)) ∧ (decode cX7_turns 15 = .ok (.ifCond .ne 6, 3)) ∧ (decode cX7_turns 18 = .ok (.ldc 78, 2)) ∧ (decode cX7_turns 20 = .ok (.ireturn, 1)) ∧ (decode cX7_turns 21 = .ok (.aload_n 0, 1)) ∧ (decode cX7_turns 22 = .ok (.getfield 10, 3)) ∧ (decode cX7_turns 25 = .ok (.getfield 90, 3)) ∧ (decode cX7_turns 28 = .ok (.iload_n 1, 1)) ∧ (decode cX7_turns 29 = .ok (.iaload, 1)) ∧ (decode cX7_turns 30 = .ok (.istore_n 3, 1)) ∧ (decode cX7_turns 31 = .ok (.aload_n 0, 1)) ∧ (decode cX7_turns 32 = .ok (.getfield 10, 3)) ∧ (decode cX7_turns 35 = .ok (.getfield 90, 3)) ∧ (decode cX7_turns 38 = .ok (.iload_n 1, 1)) ∧ (decode cX7_turns 39 = .ok (.iload_n 2, 1)) ∧ (decode cX7_turns 40 = .ok (.iastore, 1)) ∧ (decode cX7_turns 41 = .ok (.iload_n 3, 1)) ∧ (decode cX7_turns 42 = .ok (.ireturn, 1)) := by decide +kernel
theorem dX7_turns_0 : decode cX7_turns 0 = .ok (.aload_n 0, 1) := edX7_turns_0.1
theorem dX7_turns_1 : decode cX7_turns 1 = .ok (.getfield 10, 3) := edX7_turns_0.2.1
theorem dX7_turns_4 : decode cX7_turns 4 = .ok (.iload_n 1, 1) := edX7_turns_0.2.2.1
theorem dX7_turns_5 : decode cX7_turns 5 = .ok (.invokevirtual 87, 3) := edX7_turns_0.2.2.2.1
theorem dX7_turns_8 : decode cX7_turns 8 = .ok (.ifCond .eq 10, 3) := edX7_turns_0.2.2.2.2.1
theorem dX7_turns_11 : decode cX7_turns 11 = .ok (.iload_n 2, 1) := edX7_turns_0.2.2.2.2.2.1
theorem dX7_turns_12 : decode cX7_turns 12 = .ok (.invokestatic 67, 3) := edX7_turns_0.2.2.2.2.2.2.1
theorem dX7_turns_15 : decode cX7_turns 15 = .ok (.ifCond .ne 6, 3) := edX7_turns_0.2.2.2.2.2.2.2.1
theorem dX7_turns_18 : decode cX7_turns 18 = .ok (.ldc 78, 2) := edX7_turns_0.2.2.2.2.2.2.2.2.1
theorem dX7_turns_20 : decode cX7_turns 20 = .ok (.ireturn, 1) := edX7_turns_0.2.2.2.2.2.2.2.2.2.1
theorem dX7_turns_21 : decode cX7_turns 21 = .ok (.aload_n 0, 1) := edX7_turns_0.2.2.2.2.2.2.2.2.2.2.1
theorem dX7_turns_22 : decode cX7_turns 22 = .ok (.getfield 10, 3) := edX7_turns_0.2.2.2.2.2.2.2.2.2.2.2.1
theorem dX7_turns_25 : decode cX7_turns 25 = .ok (.getfield 90, 3) := edX7_turns_0.2.2.2.2.2.2.2.2.2.2.2.2.1
theorem dX7_turns_28 : decode cX7_turns 28 = .ok (.iload_n 1, 1) := edX7_turns_0.2.2.2.2.2.2.2.2.2.2.2.2.2.1
theorem dX7_turns_29 : decode cX7_turns 29 = .ok (.iaload, 1) := edX7_turns_0.2.2.2.2.2.2.2.2.2.2.2.2.2.2.1
theorem dX7_turns_30 : decode cX7_turns 30 = .ok (.istore_n 3, 1) := edX7_turns_0.2.2.2.2.2.2.2.2.2.2.2.2.2.2.2.1
theorem dX7_turns_31 : decode cX7_turns 31 = .ok (.aload_n 0, 1) := edX7_turns_0.2.2.2.2.2.2.2.2.2.2.2.2.2.2.2.2.1
theorem dX7_turns_32 : decode cX7_turns 32 = .ok (.getfield 10, 3) := edX7_turns_0.2.2.2.2.2.2.2.2.2.2.2.2.2.2.2.2.2.1
theorem dX7_turns_35 : decode cX7_turns 35 = .ok (.getfield 90, 3) := edX7_turns_0.2.2.2.2.2.2.2.2.2.2.2.2.2.2.2.2.2.2.1
theorem dX7_turns_38 : decode cX7_turns 38 = .ok (.iload_n 1, 1) := edX7_turns_0.2.2.2.2.2.2.2.2.2.2.2.2.2.2.2.2.2.2.2.1
theorem dX7_turns_39 : decode cX7_turns 39 = .ok (.iload_n 2, 1) := edX7_turns_0.2.2.2.2.2.2.2.2.2.2.2.2.2.2.2.2.2.2.2.2.1
theorem dX7_turns_40 : decode cX7_turns 40 = .ok (.iastore, 1) := edX7_turns_0.2.2.2.2.2.2.2.2.2.2.2.2.2.2.2.2.2.2.2.2.2.1
theorem dX7_turns_41 : decode cX7_turns 41 = .ok (.iload_n 3, 1) := edX7_turns_0.2.2.2.2.2.2.2.2.2.2.2.2.2.2.2.2.2.2.2.2.2.2.1
theorem dX7_turns_42 : decode cX7_turns 42 = .ok (.ireturn, 1) := edX7_turns_0.2.2.2.2.2.2.2.2.2.2.2.2.2.2.2.2.2.2.2.2.2.2.2
theorem edX7_set_0 : (decode cX7_set 0 = .ok (.aload_n 0, 1)) ∧ (decode cX7_set 1 = .ok (.getfield 10, 3)) ∧ (decode cX7_set 4 = .ok (.iload_n 1, 1)) ∧ (decode cX7_set 5 = .ok (.invokevirtual 87, 3)) ∧ (decode cX7_set 8 = .ok (.ifCond .ne 6, 3)) ∧ (decode cX7_set 11 = .ok (.ldc 78, 2)) ∧ (decode cX7_set 13 = .ok (.ireturn, 1)) ∧ (decode cX7_set 14 = .ok (.iload_n 2, 1)) ∧ (decode cX7_set 15 = .ok (.iconst 1, 1)) ∧ (decode cX7_set 16 = .ok (.if_icmp .ne 34, 3)) ∧ (decode cX7_set 19 = .ok (.iload_n 3, 1)) ∧ (decode cX7_set 20 = .ok (.invokestatic 71, 3)) ∧ (decode cX7_set 23 = .ok (.ifCond .eq 27, 3)) ∧ (decode cX7_set 26 = .ok (.aload_n 0, 1)) ∧ (decode cX7_set 27 = .ok (.getfield 10, 3)) ∧ (decode cX7_set 30 = .ok (.getfield 93, 3)) ∧ (decode cX7_set 33 = .ok (.iload_n 1, 1)) ∧ (decode cX7_set 34 = .ok (.iaload, 1)) ∧ (decode cX7_set 35 = .ok (.istore 4, 2)) ∧ (decode cX7_set 37 = .ok (.aload_n 0, 1)) ∧ (decode cX7_set 38 = .ok (.getfield 10, 3)) ∧ (decode cX7_set 41 = .ok (.getfield 93, 3)) ∧ (decode cX7_set 44 = .ok (.iload_n 1, 1)) ∧ (decode cX7_set 45 = .ok (.iload_n 3, 1)) := by decide +kernel
theorem dX7_set_0 : decode cX7_set 0 = .ok (.aload_n 0, 1) := edX7_set_0.1
theorem dX7_set_1 : decode cX7_set 1 = .ok (.getfield 10, 3) := edX7_set_0.2.1
theorem dX7_set_4 : decode cX7_set 4 = .ok (.iload_n 1, 1) := edX7_set_0.2.2.1
theorem dX7_set_5 : decode cX7_set 5 = .ok (.invokevirtual 87, 3) := edX7_set_0.2.2.2.1
theorem dX7_set_8 : decode cX7_set 8 = .ok (.ifCond .ne 6, 3) := edX7_set_0.2.2.2.2.1
theorem dX7_set_11 : decode cX7_set 11 = .ok (.ldc 78, 2) := edX7_set_0.2.2.2.2.2.1
theorem dX7_set_13 : decode cX7_set 13 = .ok (.ireturn, 1) := edX7_set_0.2.2.2.2.2.2.1
theorem dX7_set_14 : decode cX7_set 14 = .ok (.iload_n 2, 1) := edX7_set_0.2.2.2.2.2.2.2.1
theorem dX7_set_15 : decode cX7_set 15 = .ok (.iconst 1, 1) := edX7_set_0.2.2.2.2.2.2.2.2.1
theorem dX7_set_16 : decode cX7_set 16 = .ok (.if_icmp .ne 34, 3) := edX7_set_0.2.2.2.2.2.2.2.2.2.1
theorem dX7_set_19 : decode cX7_set 19 = .ok (.iload_n 3, 1) := edX7_set_0.2.2.2.2.2.2.2.2.2.2.1
theorem dX7_set_20 : decode cX7_set 20 = .ok (.invokestatic 71, 3) := edX7_set_0.2.2.2.2.2.2.2.2.2.2.2.1
theorem dX7_set_23 : decode cX7_set 23 = .ok (.ifCond .eq 27, 3) := edX7_set_0.2.2.2.2.2.2.2.2.2.2.2.2.1
theorem dX7_set_26 : decode cX7_set 26 = .ok (.aload_n 0, 1) := edX7_set_0.2.2.2.2.2.2.2.2.2.2.2.2.2.1
theorem dX7_set_27 : decode cX7_set 27 = .ok (.getfield 10, 3) := edX7_set_0.2.2.2.2.2.2.2.2.2.2.2.2.2.2.1
theorem dX7_set_30 : decode cX7_set 30 = .ok (.getfield 93, 3) := edX7_set_0.2.2.2.2.2.2.2.2.2.2.2.2.2.2.2.1
theorem dX7_set_33 : decode cX7_set 33 = .ok (.iload_n 1, 1) := edX7_set_0.2.2.2.2.2.2.2.2.2.2.2.2.2.2.2.2.1
theorem dX7_set_34 : decode cX7_set 34 = .ok (.iaload, 1) := edX7_set_0.2.2.2.2.2.2.2.2.2.2.2.2.2.2.2.2.2.1
theorem dX7_set_35 : decode cX7_set 35 = .ok (.istore 4, 2) := edX7_set_0.2.2.2.2.2.2.2.2.2.2.2.2.2.2.2.2.2.2.1
theorem dX7_set_37 : decode cX7_set 37 = .ok (.aload_n 0, 1) := edX7_set_0.2.2.2.2.2.2.2.2.2.2.2.2.2.2.2.2.2.2.2.1
theorem dX7_set_38 : decode cX7_set 38 = .ok (.getfield 10, 3) := edX7_set_0.2.2.2.2.2.2.2.2.2.2.2.2.2.2.2.2.2.2.2.2.1
theorem dX7_set_41 : decode cX7_set 41 = .ok (.getfield 93, 3) := edX7_set_0.2.2.2.2.2.2.2.2.2.2.2.2.2.2.2.2.2.2.2.2.2.1
theorem dX7_set_44 : decode cX7_set 44 = .ok (.iload_n 1, 1) := edX7_set_0.2.2.2.2.2.2.2.2.2.2.2.2.2.2.2.2.2.2.2.2.2.2.1
theorem dX7_set_45 : decode cX7_set 45 = .ok (.iload_n 3, 1) := edX7_set_0.2.2.2.2.2.2.2.2.2.2.2.2.2.2.2.2.2.2.2.2.2.2.2
theorem edX7_set_46 : (decode cX7_set 46 = .ok (.iastore, 1)) ∧ (decode cX7_set 47 = .ok (.iload 4, 2)) ∧ (decode cX7_set 49 = .ok (.ireturn, 1)) ∧ (decode cX7_set 50 = .ok (.iload_n 2, 1)) ∧ (decode cX7_set 51 = .ok (.iconst 2, 1)) ∧ (decode cX7_set 52 = .ok (.if_icmp .ne 37, 3)) ∧ (decode cX7_set 55 = .ok (.iload_n 3, 1)) ∧ (decode cX7_set 56 = .ok (.iconst 0, 1)) ∧ (decode cX7_set 57 = .ok (.bipush 99, 2)) ∧ (decode cX7_set 59 = .ok (.invokestatic 74, 3)) ∧ (decode cX7_set 62 = .ok (.ifCond .eq 27, 3)) ∧ (decode cX7_set 65 = .ok (.aload_n 0, 1)) ∧ (decode cX7_set 66 = .ok (.getfield 10, 3)) ∧ (decode cX7_set 69 = .ok (.getfield 96, 3)) ∧ (decode cX7_set 72 = .ok (.iload_n 1, 1)) ∧ (decode cX7_set 73 = .ok (.iaload, 1)) ∧ (decode cX7_set 74 = .ok (.istore 4, 2)) ∧ (decode cX7_set 76 = .ok (.aload_n 0, 1)) ∧ (decode cX7_set 77 = .ok (.getfield 10, 3)) ∧ (decode cX7_set 80 = .ok (.getfield 96, 3)) ∧ (decode cX7_set 83 = .ok (.iload_n 1, 1)) ∧ (decode cX7_set 84 = .ok (.iload_n 3, 1)) ∧ (decode cX7_set 85 = .ok (.iastore, 1)) ∧ (decode cX7_set 86 = .ok (.iload 4, 2)) := by decide +kernel
theorem dX7_set_46 : decode cX7_set 46 = .ok (.iastore, 1) := edX7_set_46.1
theorem dX7_set_47 : decode cX7_set 47 = .ok (.iload 4, 2) := edX7_set_46.2.1
theorem dX7_set_49 : decode cX7_set 49 = .ok (.ireturn, 1) := edX7_set_46.2.2.1
theorem dX7_set_50 : decode cX7_set 50 = .ok (.iload_n 2, 1) := edX7_set_46.2.2.2.1
theorem dX7_set_51 : decode cX7_set 51 = .ok (.iconst 2, 1) := edX7_set_46.2.2.2.2.1
theorem dX7_set_52 : decode cX7_set 52 = .ok (.if_icmp .ne 37, 3) := edX7_set_46.2.2.2.2.2.1
theorem dX7_set_55 : decode cX7_set 55 = .ok (.iload_n 3, 1) := edX7_set_46.2.2.2.2.2.2.1
theorem dX7_set_56 : decode cX7_set 56 = .ok (.iconst 0, 1) := edX7_set_46.2.2.2.2.2.2.2.1
theorem dX7_set_57 : decode cX7_set 57 = .ok (.bipush 99, 2) := edX7_set_46.2.2.2.2.2.2.2.2.1
theorem dX7_set_59 : decode cX7_set 59 = .ok (.invokestatic 74, 3) := edX7_set_46.2.2.2.2.2.2.2.2.2.1
theorem dX7_set_62 : decode cX7_set 62 = .ok (.ifCond .eq 27, 3) := edX7_set_46.2.2.2.2.2.2.2.2.2.2.1
theorem dX7_set_65 : decode cX7_set 65 = .ok (.aload_n 0, 1) := edX7_set_46.2.2.2.2.2.2.2.2.2.2.2.1
theorem dX7_set_66 : decode cX7_set 66 = .ok (.getfield 10, 3) := edX7_set_46.2.2.2.2.2.2.2.2.2.2.2.2.1
theorem dX7_set_69 : decode cX7_set 69 = .ok (.getfield 96, 3) := edX7_set_46.2.2.2.2.2.2.2.2.2.2.2.2.2.1
theorem dX7_set_72 : decode cX7_set 72 = .ok (.iload_n 1, 1) := edX7_set_46.2.2.2.2.2.2.2.2.2.2.2.2.2.2.1
theorem dX7_set_73 : decode cX7_set 73 = .ok (.iaload, 1) := edX7_set_46.2.2.2.2.2.2.2.2.2.2.2.2.2.2.2.1
theorem dX7_set_74 : decode cX7_set 74 = .ok (.istore 4, 2) := edX7_set_46.2.2.2.2.2.2.2.2.2.2.2.2.2.2.2.2.1
theorem dX7_set_76 : decode cX7_set 76 = .ok (.aload_n 0, 1) := edX7_set_46.2.2.2.2.2.2.2.2.2.2.2.2.2.2.2.2.2.1
theorem dX7_set_77 : decode cX7_set 77 = .ok (.getfield 10, 3) := edX7_set_46.2.2.2.2.2.2.2.2.2.2.2.2.2.2.2.2.2.2.1
theorem dX7_set_80 : decode cX7_set 80 = .ok (.getfield 96, 3) := edX7_set_46.2.2.2.2.2.2.2.2.2.2.2.2.2.2.2.2.2.2.2.1
theorem dX7_set_83 : decode cX7_set 83 = .ok (.iload_n 1, 1) := edX7_set_46.2.2.2.2.2.2.2.2.2.2.2.2.2.2.2.2.2.2.2.2.1
theorem dX7_set_84 : decode cX7_set 84 = .ok (.iload_n 3, 1) := edX7_set_46.2.2.2.2.2.2.2.2.2.2.2.2.2.2.2.2.2.2.2.2.2.1
theorem dX7_set_85 : decode cX7_set 85 = .ok (.iastore, 1) := edX7_set_46.2.2.2.2.2.2.2.2.2.2.2.2.2.2.2.2.2.2.2.2.2.2.1
theorem dX7_set_86 : decode cX7_set 86 = .ok (.iload 4, 2) := edX7_set_46.2.2.2.2.2.2.2.2.2.2.2.2.2.2.2.2.2.2.2.2.2.2.2
theorem edX7_set_88 : (decode cX7_set 88 = .ok (.ireturn, 1)) ∧ (decode cX7_set 89 = .ok (.ldc 78, 2)) ∧ (decode cX7_set 91 = .ok (.ireturn, 1)) := by decide +kernel
theorem dX7_set_88 : decode cX7_set 88 = .ok (.ireturn, 1) := edX7_set_88.1
theorem dX7_set_89 : decode cX7_set 89 = .ok (.ldc 78, 2) := edX7_set_88.2.1
theorem dX7_set_91 : decode cX7_set 91 = .ok (.ireturn, 1) := edX7_set_88.2.2
theorem edX7_stand_0 : (decode cX7_stand 0 = .ok (.iload_n 1, 1)) ∧ (decode cX7_stand 1 = .ok (.invokestatic 124, 3)) ∧ (decode cX7_stand 4 = .ok (.ifCond .eq 13, 3)) ∧ (decode cX7_stand 7 = .ok (.iload_n 2, 1)) ∧ (decode cX7_stand 8 = .ok (.iconst 0, 1)) ∧ (decode cX7_stand 9 = .ok (.bipush 9, 2)) ∧ (decode cX7_stand 11 = .ok (.invokestatic 74, 3)) ∧ (decode cX7_stand 14 = .ok (.ifCond .ne 6, 3)) ∧ (decode cX7_stand 17 = .ok (.ldc 78, 2)) ∧ (decode cX7_stand 19 = .ok (.ireturn, 1)) ∧ (decode cX7_stand 20 = .ok (.aload_n 0, 1)) ∧ (decode cX7_stand 21 = .ok (.getfield 10, 3)) ∧ (decode cX7_stand 24 = .ok (.getfield 127, 3)) ∧ (decode cX7_stand 27 = .ok (.iload_n 1, 1)) ∧ (decode cX7_stand 28 = .ok (.iaload, 1)) ∧ (decode cX7_stand 29 = .ok (.istore_n 3, 1)) ∧ (decode cX7_stand 30 = .ok (.aload_n 0, 1)) ∧ (decode cX7_stand 31 = .ok (.getfield 10, 3)) ∧ (decode cX7_stand 34 = .ok (.getfield 127, 3)) ∧ (decode cX7_stand 37 = .ok (.iload_n 1, 1)) ∧ (decode cX7_stand 38 = .ok (.iload_n 2, 1)) ∧ (decode cX7_stand 39 = .ok (.iastore, 1)) ∧ (decode cX7_stand 40 = .ok (.iload_n 3, 1)) ∧ (decode cX7_stand 41 = .ok (.ireturn, 1)) := by decide +kernel
theorem dX7_stand_0 : decode cX7_stand 0 = .ok (.iload_n 1, 1) := edX7_stand_0.1
theorem dX7_stand_1 : decode cX7_stand 1 = .ok (.invokestatic 124, 3) := edX7_stand_0.2.1
theorem dX7_stand_4 : decode cX7_stand 4 = .ok (.ifCond .eq 13, 3) := edX7_stand_0.2.2.1
theorem dX7_stand_7 : decode cX7_stand 7 = .ok (.iload_n 2, 1) := edX7_stand_0.2.2.2.1
theorem dX7_stand_8 : decode cX7_stand 8 = .ok (.iconst 0, 1) := edX7_stand_0.2.2.2.2.1
theorem dX7_stand_9 : decode cX7_stand 9 = .ok (.bipush 9, 2) := edX7_stand_0.2.2.2.2.2.1
theorem dX7_stand_11 : decode cX7_stand 11 = .ok (.invokestatic 74, 3) := edX7_stand_0.2.2.2.2.2.2.1
theorem dX7_stand_14 : decode cX7_stand 14 = .ok (.ifCond .ne 6, 3) := edX7_stand_0.2.2.2.2.2.2.2.1
theorem dX7_stand_17 : decode cX7_stand 17 = .ok (.ldc 78, 2) := edX7_stand_0.2.2.2.2.2.2.2.2.1
theorem dX7_stand_19 : decode cX7_stand 19 = .ok (.ireturn, 1) := edX7_stand_0.2.2.2.2.2.2.2.2.2.1
theorem dX7_stand_20 : decode cX7_stand 20 = .ok (.aload_n 0, 1) := edX7_stand_0.2.2.2.2.2.2.2.2.2.2.1
theorem dX7_stand_21 : decode cX7_stand 21 = .ok (.getfield 10, 3) := edX7_stand_0.2.2.2.2.2.2.2.2.2.2.2.1
theorem dX7_stand_24 : decode cX7_stand 24 = .ok (.getfield 127, 3) := edX7_stand_0.2.2.2.2.2.2.2.2.2.2.2.2.1
theorem dX7_stand_27 : decode cX7_stand 27 = .ok (.iload_n 1, 1) := edX7_stand_0.2.2.2.2.2.2.2.2.2.2.2.2.2.1
theorem dX7_stand_28 : decode cX7_stand 28 = .ok (.iaload, 1) := edX7_stand_0.2.2.2.2.2.2.2.2.2.2.2.2.2.2.1
theorem dX7_stand_29 : decode cX7_stand 29 = .ok (.istore_n 3, 1) := edX7_stand_0.2.2.2.2.2.2.2.2.2.2.2.2.2.2.2.1
theorem dX7_stand_30 : decode cX7_stand 30 = .ok (.aload_n 0, 1) := edX7_stand_0.2.2.2.2.2.2.2.2.2.2.2.2.2.2.2.2.1
theorem dX7_stand_31 : decode cX7_stand 31 = .ok (.getfield 10, 3) := edX7_stand_0.2.2.2.2.2.2.2.2.2.2.2.2.2.2.2.2.2.1
theorem dX7_stand_34 : decode cX7_stand 34 = .ok (.getfield 127, 3) := edX7_stand_0.2.2.2.2.2.2.2.2.2.2.2.2.2.2.2.2.2.2.1
theorem dX7_stand_37 : decode cX7_stand 37 = .ok (.iload_n 1, 1) := edX7_stand_0.2.2.2.2.2.2.2.2.2.2.2.2.2.2.2.2.2.2.2.1
theorem dX7_stand_38 : decode cX7_stand 38 = .ok (.iload_n 2, 1) := edX7_stand_0.2.2.2.2.2.2.2.2.2.2.2.2.2.2.2.2.2.2.2.2.1
theorem dX7_stand_39 : decode cX7_stand 39 = .ok (.iastore, 1) := edX7_stand_0.2.2.2.2.2.2.2.2.2.2.2.2.2.2.2.2.2.2.2.2.2.1
theorem dX7_stand_40 : decode cX7_stand 40 = .ok (.iload_n 3, 1) := edX7_stand_0.2.2.2.2.2.2.2.2.2.2.2.2.2.2.2.2.2.2.2.2.2.2.1
theorem dX7_stand_41 : decode cX7_stand 41 = .ok (.ireturn, 1) := edX7_stand_0.2.2.2.2.2.2.2.2.2.2.2.2.2.2.2.2.2.2.2.2.2.2.2
theorem edX7_care_0 : (decode cX7_care 0 = .ok (.iload_n 1, 1)) ∧ (decode cX7_care 1 = .ok (.invokestatic 71, 3)) ∧ (decode cX7_care 4 = .ok (.ifCond .eq 20, 3)) ∧ (decode cX7_care 7 = .ok (.iload_n 2, 1)) ∧ (decode cX7_care 8 = .ok (.invokestatic 124, 3)) ∧ (decode cX7_care 11 = .ok (.ifCond .eq 13, 3)) ∧ (decode cX7_care 14 = .ok (.iload_n 3, 1)) ∧ (decode cX7_care 15 = .ok (.iconst 0, 1)) ∧ (decode cX7_care 16 = .ok (.bipush 9, 2)) ∧ (decode cX7_care 18 = .ok (.invokestatic 74, 3)) ∧ (decode cX7_care 21 = .ok (.ifCond .ne 6, 3)) ∧ (decode cX7_care 24 = .ok (.ldc 78, 2)) ∧ (decode cX7_care 26 = .ok (.ireturn, 1)) ∧ (decode cX7_care 27 = .ok (.aload_n 0, 1)) ∧ (decode cX7_care 28 = .ok (.getfield 10, 3)) ∧ (decode cX7_care 31 = .ok (.getfield 130, 3)) ∧ (decode cX7_care 34 = .ok (.iload_n 1, 1)) ∧ (decode cX7_care 35 = .ok (.iload_n 2, 1)) ∧ (decode cX7_care 36 = .ok (.invokestatic 133, 3)) ∧ (decode cX7_care 39 = .ok (.iaload, 1)) ∧ (decode cX7_care 40 = .ok (.istore 4, 2)) ∧ (decode cX7_care 42 = .ok (.aload_n 0, 1)) ∧ (decode cX7_care 43 = .ok (.getfield 10, 3)) ∧ (decode cX7_care 46 = .ok (.getfield 130, 3)) := by decide +kernel
theorem dX7_care_0 : decode cX7_care 0 = .ok (.iload_n 1, 1) := edX7_care_0.1
theorem dX7_care_1 : decode cX7_care 1 = .ok (.invokestatic 71, 3) := edX7_care_0.2.1
theorem dX7_care_4 : decode cX7_care 4 = .ok (.ifCond .eq 20, 3) := edX7_care_0.2.2.1
theorem dX7_care_7 : decode cX7_care 7 = .ok (.iload_n 2, 1) := edX7_care_0.2.2.2.1
theorem dX7_care_8 : decode cX7_care 8 = .ok (.invokestatic 124, 3) := edX7_care_0.2.2.2.2.1
theorem dX7_care_11 : decode cX7_care 11 = .ok (.ifCond .eq 13, 3) := edX7_care_0.2.2.2.2.2.1
theorem dX7_care_14 : decode cX7_care 14 = .ok (.iload_n 3, 1) := edX7_care_0.2.2.2.2.2.2.1
theorem dX7_care_15 : decode cX7_care 15 = .ok (.iconst 0, 1) := edX7_care_0.2.2.2.2.2.2.2.1
theorem dX7_care_16 : decode cX7_care 16 = .ok (.bipush 9, 2) := edX7_care_0.2.2.2.2.2.2.2.2.1
theorem dX7_care_18 : decode cX7_care 18 = .ok (.invokestatic 74, 3) := edX7_care_0.2.2.2.2.2.2.2.2.2.1
theorem dX7_care_21 : decode cX7_care 21 = .ok (.ifCond .ne 6, 3) := edX7_care_0.2.2.2.2.2.2.2.2.2.2.1
theorem dX7_care_24 : decode cX7_care 24 = .ok (.ldc 78, 2) := edX7_care_0.2.2.2.2.2.2.2.2.2.2.2.1
theorem dX7_care_26 : decode cX7_care 26 = .ok (.ireturn, 1) := edX7_care_0.2.2.2.2.2.2.2.2.2.2.2.2.1
theorem dX7_care_27 : decode cX7_care 27 = .ok (.aload_n 0, 1) := edX7_care_0.2.2.2.2.2.2.2.2.2.2.2.2.2.1
theorem dX7_care_28 : decode cX7_care 28 = .ok (.getfield 10, 3) := edX7_care_0.2.2.2.2.2.2.2.2.2.2.2.2.2.2.1
theorem dX7_care_31 : decode cX7_care 31 = .ok (.getfield 130, 3) := edX7_care_0.2.2.2.2.2.2.2.2.2.2.2.2.2.2.2.1
theorem dX7_care_34 : decode cX7_care 34 = .ok (.iload_n 1, 1) := edX7_care_0.2.2.2.2.2.2.2.2.2.2.2.2.2.2.2.2.1
theorem dX7_care_35 : decode cX7_care 35 = .ok (.iload_n 2, 1) := edX7_care_0.2.2.2.2.2.2.2.2.2.2.2.2.2.2.2.2.2.1
theorem dX7_care_36 : decode cX7_care 36 = .ok (.invokestatic 133, 3) := edX7_care_0.2.2.2.2.2.2.2.2.2.2.2.2.2.2.2.2.2.2.1
theorem dX7_care_39 : decode cX7_care 39 = .ok (.iaload, 1) := edX7_care_0.2.2.2.2.2.2.2.2.2.2.2.2.2.2.2.2.2.2.2.1
theorem dX7_care_40 : decode cX7_care 40 = .ok (.istore 4, 2) := edX7_care_0.2.2.2.2.2.2.2.2.2.2.2.2.2.2.2.2.2.2.2.2.1
theorem dX7_care_42 : decode cX7_care 42 = .ok (.aload_n 0, 1) := edX7_care_0.2.2.2.2.2.2.2.2.2.2.2.2.2.2.2.2.2.2.2.2.2.1
theorem dX7_care_43 : decode cX7_care 43 = .ok (.getfield 10, 3) := edX7_care_0.2.2.2.2.2.2.2.2.2.2.2.2.2.2.2.2.2.2.2.2.2.2.1
theorem dX7_care_46 : decode cX7_care 46 = .ok (.getfield 130, 3) := edX7_care_0.2.2.2.2.2.2.2.2.2.2.2.2.2.2.2.2.2.2.2.2.2.2.2
theorem edX7_care_49 : (decode cX7_care 49 = .ok (.iload_n 1, 1)) ∧ (decode cX7_care 50 = .ok (.iload_n 2, 1)) ∧ (decode cX7_care 51 = .ok (.invokestatic 133, 3)) ∧ (decode cX7_care 54 = .ok (.iload_n 3, 1)) ∧ (decode cX7_care 55 = .ok (.iastore, 1)) ∧ (decode cX7_care 56 = .ok (.iload 4, 2)) ∧ (decode cX7_care 58 = .ok (.ireturn, 1)) := by decide +kernel
theorem dX7_care_49 : decode cX7_care 49 = .ok (.iload_n 1, 1) := edX7_care_49.1
theorem dX7_care_50 : decode cX7_care 50 = .ok (.iload_n 2, 1) := edX7_care_49.2.1
theorem dX7_care_51 : decode cX7_care 51 = .ok (.invokestatic 133, 3) := edX7_care_49.2.2.1
theorem dX7_care_54 : decode cX7_care 54 = .ok (.iload_n 3, 1) := edX7_care_49.2.2.2.1
theorem dX7_care_55 : decode cX7_care 55 = .ok (.iastore, 1) := edX7_care_49.2.2.2.2.1
theorem dX7_care_56 : decode cX7_care 56 = .ok (.iload 4, 2) := edX7_care_49.2.2.2.2.2.1
theorem dX7_care_58 : decode cX7_care 58 = .ok (.ireturn, 1) := edX7_care_49.2.2.2.2.2.2
theorem edX7_honour_0 : (decode cX7_honour 0 = .ok (.iload_n 1, 1)) ∧ (decode cX7_honour 1 = .ok (.invokestatic 71, 3)) ∧ (decode cX7_honour 4 = .ok (.ifCond .eq 14, 3)) ∧ (decode cX7_honour 7 = .ok (.iload_n 2, 1)) ∧ (decode cX7_honour 8 = .ok (.iconst 0, 1)) ∧ (decode cX7_honour 9 = .ok (.sipush 400, 3)) ∧ (decode cX7_honour 12 = .ok (.invokestatic 74, 3)) ∧ (decode cX7_honour 15 = .ok (.ifCond .ne 6, 3)) ∧ (decode cX7_honour 18 = .ok (.ldc 78, 2)) ∧ (decode cX7_honour 20 = .ok (.ireturn, 1)) ∧ (decode cX7_honour 21 = .ok (.aload_n 0, 1)) ∧ (decode cX7_honour 22 = .ok (.getfield 10, 3)) ∧ (decode cX7_honour 25 = .ok (.getfield 136, 3)) ∧ (decode cX7_honour 28 = .ok (.iload_n 1, 1)) ∧ (decode cX7_honour 29 = .ok (.iaload, 1)) ∧ (decode cX7_honour 30 = .ok (.istore_n 3, 1)) ∧ (decode cX7_honour 31 = .ok (.aload_n 0, 1)) ∧ (decode cX7_honour 32 = .ok (.getfield 10, 3)) ∧ (decode cX7_honour 35 = .ok (.getfield 136, 3)) ∧ (decode cX7_honour 38 = .ok (.iload_n 1, 1)) ∧ (decode cX7_honour 39 = .ok (.iload_n 2, 1)) ∧ (decode cX7_honour 40 = .ok (.iastore, 1)) ∧ (decode cX7_honour 41 = .ok (.iload_n 3, 1)) ∧ (decode cX7_honour 42 = .ok (.ireturn, 1)) := by decide +kernel
theorem dX7_honour_0 : decode cX7_honour 0 = .ok (.iload_n 1, 1) := edX7_honour_0.1
theorem dX7_honour_1 : decode cX7_honour 1 = .ok (.invokestatic 71, 3) := edX7_honour_0.2.1
theorem dX7_honour_4 : decode cX7_honour 4 = .ok (.ifCond .eq 14, 3) := edX7_honour_0.2.2.1
theorem dX7_honour_7 : decode cX7_honour 7 = .ok (.iload_n 2, 1) := edX7_honour_0.2.2.2.1
theorem dX7_honour_8 : decode cX7_honour 8 = .ok (.iconst 0, 1) := edX7_honour_0.2.2.2.2.1
theorem dX7_honour_9 : decode cX7_honour 9 = .ok (.sipush 400, 3) := edX7_honour_0.2.2.2.2.2.1
theorem dX7_honour_12 : decode cX7_honour 12 = .ok (.invokestatic 74, 3) := edX7_honour_0.2.2.2.2.2.2.1
theorem dX7_honour_15 : decode cX7_honour 15 = .ok (.ifCond .ne 6, 3) := edX7_honour_0.2.2.2.2.2.2.2.1
theorem dX7_honour_18 : decode cX7_honour 18 = .ok (.ldc 78, 2) := edX7_honour_0.2.2.2.2.2.2.2.2.1
theorem dX7_honour_20 : decode cX7_honour 20 = .ok (.ireturn, 1) := edX7_honour_0.2.2.2.2.2.2.2.2.2.1
theorem dX7_honour_21 : decode cX7_honour 21 = .ok (.aload_n 0, 1) := edX7_honour_0.2.2.2.2.2.2.2.2.2.2.1
theorem dX7_honour_22 : decode cX7_honour 22 = .ok (.getfield 10, 3) := edX7_honour_0.2.2.2.2.2.2.2.2.2.2.2.1
theorem dX7_honour_25 : decode cX7_honour 25 = .ok (.getfield 136, 3) := edX7_honour_0.2.2.2.2.2.2.2.2.2.2.2.2.1
theorem dX7_honour_28 : decode cX7_honour 28 = .ok (.iload_n 1, 1) := edX7_honour_0.2.2.2.2.2.2.2.2.2.2.2.2.2.1
theorem dX7_honour_29 : decode cX7_honour 29 = .ok (.iaload, 1) := edX7_honour_0.2.2.2.2.2.2.2.2.2.2.2.2.2.2.1
theorem dX7_honour_30 : decode cX7_honour 30 = .ok (.istore_n 3, 1) := edX7_honour_0.2.2.2.2.2.2.2.2.2.2.2.2.2.2.2.1
theorem dX7_honour_31 : decode cX7_honour 31 = .ok (.aload_n 0, 1) := edX7_honour_0.2.2.2.2.2.2.2.2.2.2.2.2.2.2.2.2.1
theorem dX7_honour_32 : decode cX7_honour 32 = .ok (.getfield 10, 3) := edX7_honour_0.2.2.2.2.2.2.2.2.2.2.2.2.2.2.2.2.2.1
theorem dX7_honour_35 : decode cX7_honour 35 = .ok (.getfield 136, 3) := edX7_honour_0.2.2.2.2.2.2.2.2.2.2.2.2.2.2.2.2.2.2.1
theorem dX7_honour_38 : decode cX7_honour 38 = .ok (.iload_n 1, 1) := edX7_honour_0.2.2.2.2.2.2.2.2.2.2.2.2.2.2.2.2.2.2.2.1
theorem dX7_honour_39 : decode cX7_honour 39 = .ok (.iload_n 2, 1) := edX7_honour_0.2.2.2.2.2.2.2.2.2.2.2.2.2.2.2.2.2.2.2.2.1
theorem dX7_honour_40 : decode cX7_honour 40 = .ok (.iastore, 1) := edX7_honour_0.2.2.2.2.2.2.2.2.2.2.2.2.2.2.2.2.2.2.2.2.2.1
theorem dX7_honour_41 : decode cX7_honour 41 = .ok (.iload_n 3, 1) := edX7_honour_0.2.2.2.2.2.2.2.2.2.2.2.2.2.2.2.2.2.2.2.2.2.2.1
theorem dX7_honour_42 : decode cX7_honour 42 = .ok (.ireturn, 1) := edX7_honour_0.2.2.2.2.2.2.2.2.2.2.2.2.2.2.2.2.2.2.2.2.2.2.2
theorem edX7_rule_0 : (decode cX7_rule 0 = .ok (.iload_n 1, 1)) ∧ (decode cX7_rule 1 = .ok (.ifCond .ne 31, 3)) ∧ (decode cX7_rule 4 = .ok (.iload_n 2, 1)) ∧ (decode cX7_rule 5 = .ok (.iconst 0, 1)) ∧ (decode cX7_rule 6 = .ok (.bipush 99, 2)) ∧ (decode cX7_rule 8 = .ok (.invokestatic 74, 3)) ∧ (decode cX7_rule 11 = .ok (.ifCond .eq 21, 3)) ∧ (decode cX7_rule 14 = .ok (.aload_n 0, 1)) ∧ (decode cX7_rule 15 = .ok (.getfield 10, 3)) ∧ (decode cX7_rule 18 = .ok (.getfield 139, 3)) ∧ (decode cX7_rule 21 = .ok (.istore_n 3, 1)) ∧ (decode cX7_rule 22 = .ok (.aload_n 0, 1)) ∧ (decode cX7_rule 23 = .ok (.getfield 10, 3)) ∧ (decode cX7_rule 26 = .ok (.iload_n 2, 1)) ∧ (decode cX7_rule 27 = .ok (.putfield 139, 3)) ∧ (decode cX7_rule 30 = .ok (.iload_n 3, 1)) ∧ (decode cX7_rule 31 = .ok (.ireturn, 1)) ∧ (decode cX7_rule 32 = .ok (.iload_n 1, 1)) ∧ (decode cX7_rule 33 = .ok (.iconst 1, 1)) ∧ (decode cX7_rule 34 = .ok (.if_icmp .ne 31, 3)) ∧ (decode cX7_rule 37 = .ok (.iload_n 2, 1)) ∧ (decode cX7_rule 38 = .ok (.iconst 1, 1)) ∧ (decode cX7_rule 39 = .ok (.bipush 99, 2)) ∧ (decode cX7_rule 41 = .ok (.invokestatic 74, 3)) := by decide +kernel
theorem dX7_rule_0 : decode cX7_rule 0 = .ok (.iload_n 1, 1) := edX7_rule_0.1
theorem dX7_rule_1 : decode cX7_rule 1 = .ok (.ifCond .ne 31, 3) := edX7_rule_0.2.1
theorem dX7_rule_4 : decode cX7_rule 4 = .ok (.iload_n 2, 1) := edX7_rule_0.2.2.1
theorem dX7_rule_5 : decode cX7_rule 5 = .ok (.iconst 0, 1) := edX7_rule_0.2.2.2.1
theorem dX7_rule_6 : decode cX7_rule 6 = .ok (.bipush 99, 2) := edX7_rule_0.2.2.2.2.1
theorem dX7_rule_8 : decode cX7_rule 8 = .ok (.invokestatic 74, 3) := edX7_rule_0.2.2.2.2.2.1
theorem dX7_rule_11 : decode cX7_rule 11 = .ok (.ifCond .eq 21, 3) := edX7_rule_0.2.2.2.2.2.2.1
theorem dX7_rule_14 : decode cX7_rule 14 = .ok (.aload_n 0, 1) := edX7_rule_0.2.2.2.2.2.2.2.1
theorem dX7_rule_15 : decode cX7_rule 15 = .ok (.getfield 10, 3) := edX7_rule_0.2.2.2.2.2.2.2.2.1
theorem dX7_rule_18 : decode cX7_rule 18 = .ok (.getfield 139, 3) := edX7_rule_0.2.2.2.2.2.2.2.2.2.1
theorem dX7_rule_21 : decode cX7_rule 21 = .ok (.istore_n 3, 1) := edX7_rule_0.2.2.2.2.2.2.2.2.2.2.1
theorem dX7_rule_22 : decode cX7_rule 22 = .ok (.aload_n 0, 1) := edX7_rule_0.2.2.2.2.2.2.2.2.2.2.2.1
theorem dX7_rule_23 : decode cX7_rule 23 = .ok (.getfield 10, 3) := edX7_rule_0.2.2.2.2.2.2.2.2.2.2.2.2.1
theorem dX7_rule_26 : decode cX7_rule 26 = .ok (.iload_n 2, 1) := edX7_rule_0.2.2.2.2.2.2.2.2.2.2.2.2.2.1
theorem dX7_rule_27 : decode cX7_rule 27 = .ok (.putfield 139, 3) := edX7_rule_0.2.2.2.2.2.2.2.2.2.2.2.2.2.2.1
theorem dX7_rule_30 : decode cX7_rule 30 = .ok (.iload_n 3, 1) := edX7_rule_0.2.2.2.2.2.2.2.2.2.2.2.2.2.2.2.1
theorem dX7_rule_31 : decode cX7_rule 31 = .ok (.ireturn, 1) := edX7_rule_0.2.2.2.2.2.2.2.2.2.2.2.2.2.2.2.2.1
theorem dX7_rule_32 : decode cX7_rule 32 = .ok (.iload_n 1, 1) := edX7_rule_0.2.2.2.2.2.2.2.2.2.2.2.2.2.2.2.2.2.1
theorem dX7_rule_33 : decode cX7_rule 33 = .ok (.iconst 1, 1) := edX7_rule_0.2.2.2.2.2.2.2.2.2.2.2.2.2.2.2.2.2.2.1
theorem dX7_rule_34 : decode cX7_rule 34 = .ok (.if_icmp .ne 31, 3) := edX7_rule_0.2.2.2.2.2.2.2.2.2.2.2.2.2.2.2.2.2.2.2.1
theorem dX7_rule_37 : decode cX7_rule 37 = .ok (.iload_n 2, 1) := edX7_rule_0.2.2.2.2.2.2.2.2.2.2.2.2.2.2.2.2.2.2.2.2.1
theorem dX7_rule_38 : decode cX7_rule 38 = .ok (.iconst 1, 1) := edX7_rule_0.2.2.2.2.2.2.2.2.2.2.2.2.2.2.2.2.2.2.2.2.2.1
theorem dX7_rule_39 : decode cX7_rule 39 = .ok (.bipush 99, 2) := edX7_rule_0.2.2.2.2.2.2.2.2.2.2.2.2.2.2.2.2.2.2.2.2.2.2.1
theorem dX7_rule_41 : decode cX7_rule 41 = .ok (.invokestatic 74, 3) := edX7_rule_0.2.2.2.2.2.2.2.2.2.2.2.2.2.2.2.2.2.2.2.2.2.2.2
theorem edX7_rule_44 : (decode cX7_rule 44 = .ok (.ifCond .eq 21, 3)) ∧ (decode cX7_rule 47 = .ok (.aload_n 0, 1)) ∧ (decode cX7_rule 48 = .ok (.getfield 10, 3)) ∧ (decode cX7_rule 51 = .ok (.getfield 142, 3)) ∧ (decode cX7_rule 54 = .ok (.istore_n 3, 1)) ∧ (decode cX7_rule 55 = .ok (.aload_n 0, 1)) ∧ (decode cX7_rule 56 = .ok (.getfield 10, 3)) ∧ (decode cX7_rule 59 = .ok (.iload_n 2, 1)) ∧ (decode cX7_rule 60 = .ok (.putfield 142, 3)) ∧ (decode cX7_rule 63 = .ok (.iload_n 3, 1)) ∧ (decode cX7_rule 64 = .ok (.ireturn, 1)) ∧ (decode cX7_rule 65 = .ok (.iload_n 1, 1)) ∧ (decode cX7_rule 66 = .ok (.iconst 2, 1)) ∧ (decode cX7_rule 67 = .ok (.if_icmp .ne 31, 3)) ∧ (decode cX7_rule 70 = .ok (.iload_n 2, 1)) ∧ (decode cX7_rule 71 = .ok (.iconst 0, 1)) ∧ (decode cX7_rule 72 = .ok (.bipush 100, 2)) ∧ (decode cX7_rule 74 = .ok (.invokestatic 74, 3)) ∧ (decode cX7_rule 77 = .ok (.ifCond .eq 21, 3)) ∧ (decode cX7_rule 80 = .ok (.aload_n 0, 1)) ∧ (decode cX7_rule 81 = .ok (.getfield 10, 3)) ∧ (decode cX7_rule 84 = .ok (.getfield 145, 3)) ∧ (decode cX7_rule 87 = .ok (.istore_n 3, 1)) ∧ (decode cX7_rule 88 = .ok (.aload_n 0, 1)) := by decide +kernel
theorem dX7_rule_44 : decode cX7_rule 44 = .ok (.ifCond .eq 21, 3) := edX7_rule_44.1
theorem dX7_rule_47 : decode cX7_rule 47 = .ok (.aload_n 0, 1) := edX7_rule_44.2.1
theorem dX7_rule_48 : decode cX7_rule 48 = .ok (.getfield 10, 3) := edX7_rule_44.2.2.1
theorem dX7_rule_51 : decode cX7_rule 51 = .ok (.getfield 142, 3) := edX7_rule_44.2.2.2.1
theorem dX7_rule_54 : decode cX7_rule 54 = .ok (.istore_n 3, 1) := edX7_rule_44.2.2.2.2.1
theorem dX7_rule_55 : decode cX7_rule 55 = .ok (.aload_n 0, 1) := edX7_rule_44.2.2.2.2.2.1
theorem dX7_rule_56 : decode cX7_rule 56 = .ok (.getfield 10, 3) := edX7_rule_44.2.2.2.2.2.2.1
theorem dX7_rule_59 : decode cX7_rule 59 = .ok (.iload_n 2, 1) := edX7_rule_44.2.2.2.2.2.2.2.1
theorem dX7_rule_60 : decode cX7_rule 60 = .ok (.putfield 142, 3) := edX7_rule_44.2.2.2.2.2.2.2.2.1
theorem dX7_rule_63 : decode cX7_rule 63 = .ok (.iload_n 3, 1) := edX7_rule_44.2.2.2.2.2.2.2.2.2.1
theorem dX7_rule_64 : decode cX7_rule 64 = .ok (.ireturn, 1) := edX7_rule_44.2.2.2.2.2.2.2.2.2.2.1
theorem dX7_rule_65 : decode cX7_rule 65 = .ok (.iload_n 1, 1) := edX7_rule_44.2.2.2.2.2.2.2.2.2.2.2.1
theorem dX7_rule_66 : decode cX7_rule 66 = .ok (.iconst 2, 1) := edX7_rule_44.2.2.2.2.2.2.2.2.2.2.2.2.1
theorem dX7_rule_67 : decode cX7_rule 67 = .ok (.if_icmp .ne 31, 3) := edX7_rule_44.2.2.2.2.2.2.2.2.2.2.2.2.2.1
theorem dX7_rule_70 : decode cX7_rule 70 = .ok (.iload_n 2, 1) := edX7_rule_44.2.2.2.2.2.2.2.2.2.2.2.2.2.2.1
theorem dX7_rule_71 : decode cX7_rule 71 = .ok (.iconst 0, 1) := edX7_rule_44.2.2.2.2.2.2.2.2.2.2.2.2.2.2.2.1
theorem dX7_rule_72 : decode cX7_rule 72 = .ok (.bipush 100, 2) := edX7_rule_44.2.2.2.2.2.2.2.2.2.2.2.2.2.2.2.2.1
theorem dX7_rule_74 : decode cX7_rule 74 = .ok (.invokestatic 74, 3) := edX7_rule_44.2.2.2.2.2.2.2.2.2.2.2.2.2.2.2.2.2.1
theorem dX7_rule_77 : decode cX7_rule 77 = .ok (.ifCond .eq 21, 3) := edX7_rule_44.2.2.2.2.2.2.2.2.2.2.2.2.2.2.2.2.2.2.1
theorem dX7_rule_80 : decode cX7_rule 80 = .ok (.aload_n 0, 1) := edX7_rule_44.2.2.2.2.2.2.2.2.2.2.2.2.2.2.2.2.2.2.2.1
theorem dX7_rule_81 : decode cX7_rule 81 = .ok (.getfield 10, 3) := edX7_rule_44.2.2.2.2.2.2.2.2.2.2.2.2.2.2.2.2.2.2.2.2.1
theorem dX7_rule_84 : decode cX7_rule 84 = .ok (.getfield 145, 3) := edX7_rule_44.2.2.2.2.2.2.2.2.2.2.2.2.2.2.2.2.2.2.2.2.2.1
theorem dX7_rule_87 : decode cX7_rule 87 = .ok (.istore_n 3, 1) := edX7_rule_44.2.2.2.2.2.2.2.2.2.2.2.2.2.2.2.2.2.2.2.2.2.2.1
theorem dX7_rule_88 : decode cX7_rule 88 = .ok (.aload_n 0, 1) := edX7_rule_44.2.2.2.2.2.2.2.2.2.2.2.2.2.2.2.2.2.2.2.2.2.2.2
theorem edX7_rule_89 : (decode cX7_rule 89 = .ok (.getfield 10, 3)) ∧ (decode cX7_rule 92 = .ok (.iload_n 2, 1)) ∧ (decode cX7_rule 93 = .ok (.putfield 145, 3)) ∧ (decode cX7_rule 96 = .ok (.iload_n 3, 1)) ∧ (decode cX7_rule 97 = .ok (.ireturn, 1)) ∧ (decode cX7_rule 98 = .ok (.ldc 78, 2)) ∧ (decode cX7_rule 100 = .ok (.ireturn, 1)) := by decide +kernel
theorem dX7_rule_89 : decode cX7_rule 89 = .ok (.getfield 10, 3) := edX7_rule_89.1
theorem dX7_rule_92 : decode cX7_rule 92 = .ok (.iload_n 2, 1) := edX7_rule_89.2.1
theorem dX7_rule_93 : decode cX7_rule 93 = .ok (.putfield 145, 3) := edX7_rule_89.2.2.1
theorem dX7_rule_96 : decode cX7_rule 96 = .ok (.iload_n 3, 1) := edX7_rule_89.2.2.2.1
theorem dX7_rule_97 : decode cX7_rule 97 = .ok (.ireturn, 1) := edX7_rule_89.2.2.2.2.1
theorem dX7_rule_98 : decode cX7_rule 98 = .ok (.ldc 78, 2) := edX7_rule_89.2.2.2.2.2.1
theorem dX7_rule_100 : decode cX7_rule 100 = .ok (.ireturn, 1) := edX7_rule_89.2.2.2.2.2.2
theorem edX7_deal_0 : (decode cX7_deal 0 = .ok (.iload_n 1, 1)) ∧ (decode cX7_deal 1 = .ok (.iconst 1, 1)) ∧ (decode cX7_deal 2 = .ok (.bipush 8, 2)) ∧ (decode cX7_deal 4 = .ok (.invokestatic 74, 3)) ∧ (decode cX7_deal 7 = .ok (.ifCond .ne 6, 3)) ∧ (decode cX7_deal 10 = .ok (.ldc 78, 2)) ∧ (decode cX7_deal 12 = .ok (.ireturn, 1)) ∧ (decode cX7_deal 13 = .ok (.iload_n 1, 1)) ∧ (decode cX7_deal 14 = .ok (.bipush 8, 2)) ∧ (decode cX7_deal 16 = .ok (.aload_n 0, 1)) ∧ (decode cX7_deal 17 = .ok (.getfield 10, 3)) ∧ (decode cX7_deal 20 = .ok (.getfield 79, 3)) ∧ (decode cX7_deal 23 = .ok (.isub, 1)) ∧ (decode cX7_deal 24 = .ok (.invokestatic 148, 3)) ∧ (decode cX7_deal 27 = .ok (.istore_n 2, 1)) ∧ (decode cX7_deal 28 = .ok (.iconst 0, 1)) ∧ (decode cX7_deal 29 = .ok (.istore_n 3, 1)) ∧ (decode cX7_deal 30 = .ok (.iload_n 3, 1)) ∧ (decode cX7_deal 31 = .ok (.iload_n 2, 1)) ∧ (decode cX7_deal 32 = .ok (.if_icmp .ge 57, 3)) ∧ (decode cX7_deal 35 = .ok (.aload_n 0, 1)) ∧ (decode cX7_deal 36 = .ok (.getfield 10, 3)) ∧ (decode cX7_deal 39 = .ok (.invokevirtual 153, 3)) ∧ (decode cX7_deal 42 = .ok (.bipush 6, 2)) := by decide +kernel
theorem dX7_deal_0 : decode cX7_deal 0 = .ok (.iload_n 1, 1) := edX7_deal_0.1
theorem dX7_deal_1 : decode cX7_deal 1 = .ok (.iconst 1, 1) := edX7_deal_0.2.1
theorem dX7_deal_2 : decode cX7_deal 2 = .ok (.bipush 8, 2) := edX7_deal_0.2.2.1
theorem dX7_deal_4 : decode cX7_deal 4 = .ok (.invokestatic 74, 3) := edX7_deal_0.2.2.2.1
theorem dX7_deal_7 : decode cX7_deal 7 = .ok (.ifCond .ne 6, 3) := edX7_deal_0.2.2.2.2.1
theorem dX7_deal_10 : decode cX7_deal 10 = .ok (.ldc 78, 2) := edX7_deal_0.2.2.2.2.2.1
theorem dX7_deal_12 : decode cX7_deal 12 = .ok (.ireturn, 1) := edX7_deal_0.2.2.2.2.2.2.1
theorem dX7_deal_13 : decode cX7_deal 13 = .ok (.iload_n 1, 1) := edX7_deal_0.2.2.2.2.2.2.2.1
theorem dX7_deal_14 : decode cX7_deal 14 = .ok (.bipush 8, 2) := edX7_deal_0.2.2.2.2.2.2.2.2.1
theorem dX7_deal_16 : decode cX7_deal 16 = .ok (.aload_n 0, 1) := edX7_deal_0.2.2.2.2.2.2.2.2.2.1
theorem dX7_deal_17 : decode cX7_deal 17 = .ok (.getfield 10, 3) := edX7_deal_0.2.2.2.2.2.2.2.2.2.2.1
theorem dX7_deal_20 : decode cX7_deal 20 = .ok (.getfield 79, 3) := edX7_deal_0.2.2.2.2.2.2.2.2.2.2.2.1
theorem dX7_deal_23 : decode cX7_deal 23 = .ok (.isub, 1) := edX7_deal_0.2.2.2.2.2.2.2.2.2.2.2.2.1
theorem dX7_deal_24 : decode cX7_deal 24 = .ok (.invokestatic 148, 3) := edX7_deal_0.2.2.2.2.2.2.2.2.2.2.2.2.2.1
theorem dX7_deal_27 : decode cX7_deal 27 = .ok (.istore_n 2, 1) := edX7_deal_0.2.2.2.2.2.2.2.2.2.2.2.2.2.2.1
theorem dX7_deal_28 : decode cX7_deal 28 = .ok (.iconst 0, 1) := edX7_deal_0.2.2.2.2.2.2.2.2.2.2.2.2.2.2.2.1
theorem dX7_deal_29 : decode cX7_deal 29 = .ok (.istore_n 3, 1) := edX7_deal_0.2.2.2.2.2.2.2.2.2.2.2.2.2.2.2.2.1
theorem dX7_deal_30 : decode cX7_deal 30 = .ok (.iload_n 3, 1) := edX7_deal_0.2.2.2.2.2.2.2.2.2.2.2.2.2.2.2.2.2.1
theorem dX7_deal_31 : decode cX7_deal 31 = .ok (.iload_n 2, 1) := edX7_deal_0.2.2.2.2.2.2.2.2.2.2.2.2.2.2.2.2.2.2.1
theorem dX7_deal_32 : decode cX7_deal 32 = .ok (.if_icmp .ge 57, 3) := edX7_deal_0.2.2.2.2.2.2.2.2.2.2.2.2.2.2.2.2.2.2.2.1
theorem dX7_deal_35 : decode cX7_deal 35 = .ok (.aload_n 0, 1) := edX7_deal_0.2.2.2.2.2.2.2.2.2.2.2.2.2.2.2.2.2.2.2.2.1
theorem dX7_deal_36 : decode cX7_deal 36 = .ok (.getfield 10, 3) := edX7_deal_0.2.2.2.2.2.2.2.2.2.2.2.2.2.2.2.2.2.2.2.2.2.1
theorem dX7_deal_39 : decode cX7_deal 39 = .ok (.invokevirtual 153, 3) := edX7_deal_0.2.2.2.2.2.2.2.2.2.2.2.2.2.2.2.2.2.2.2.2.2.2.1
theorem dX7_deal_42 : decode cX7_deal 42 = .ok (.bipush 6, 2) := edX7_deal_0.2.2.2.2.2.2.2.2.2.2.2.2.2.2.2.2.2.2.2.2.2.2.2
theorem edX7_deal_44 : (decode cX7_deal 44 = .ok (.irem, 1)) ∧ (decode cX7_deal 45 = .ok (.istore 4, 2)) ∧ (decode cX7_deal 47 = .ok (.aload_n 0, 1)) ∧ (decode cX7_deal 48 = .ok (.getfield 10, 3)) ∧ (decode cX7_deal 51 = .ok (.invokevirtual 153, 3)) ∧ (decode cX7_deal 54 = .ok (.iconst 2, 1)) ∧ (decode cX7_deal 55 = .ok (.irem, 1)) ∧ (decode cX7_deal 56 = .ok (.istore 5, 2)) ∧ (decode cX7_deal 58 = .ok (.aload_n 0, 1)) ∧ (decode cX7_deal 59 = .ok (.getfield 10, 3)) ∧ (decode cX7_deal 62 = .ok (.invokevirtual 153, 3)) ∧ (decode cX7_deal 65 = .ok (.bipush 100, 2)) ∧ (decode cX7_deal 67 = .ok (.irem, 1)) ∧ (decode cX7_deal 68 = .ok (.istore 6, 2)) ∧ (decode cX7_deal 70 = .ok (.aload_n 0, 1)) ∧ (decode cX7_deal 71 = .ok (.getfield 10, 3)) ∧ (decode cX7_deal 74 = .ok (.iload 4, 2)) ∧ (decode cX7_deal 76 = .ok (.iload 5, 2)) ∧ (decode cX7_deal 78 = .ok (.iload 6, 2)) ∧ (decode cX7_deal 80 = .ok (.invokevirtual 83, 3)) ∧ (decode cX7_deal 83 = .ok (.iinc 3 1, 3)) ∧ (decode cX7_deal 86 = .ok (.goto (-56), 3)) ∧ (decode cX7_deal 89 = .ok (.iload_n 2, 1)) ∧ (decode cX7_deal 90 = .ok (.ireturn, 1)) := by decide +kernel
theorem dX7_deal_44 : decode cX7_deal 44 = .ok (.irem, 1) := edX7_deal_44.1
theorem dX7_deal_45 : decode cX7_deal 45 = .ok (.istore 4, 2) := edX7_deal_44.2.1
theorem dX7_deal_47 : decode cX7_deal 47 = .ok (.aload_n 0, 1) := edX7_deal_44.2.2.1
theorem dX7_deal_48 : decode cX7_deal 48 = .ok (.getfield 10, 3) := edX7_deal_44.2.2.2.1
theorem dX7_deal_51 : decode cX7_deal 51 = .ok (.invokevirtual 153, 3) := edX7_deal_44.2.2.2.2.1
theorem dX7_deal_54 : decode cX7_deal 54 = .ok (.iconst 2, 1) := edX7_deal_44.2.2.2.2.2.1
theorem dX7_deal_55 : decode cX7_deal 55 = .ok (.irem, 1) := edX7_deal_44.2.2.2.2.2.2.1
theorem dX7_deal_56 : decode cX7_deal 56 = .ok (.istore 5, 2) := edX7_deal_44.2.2.2.2.2.2.2.1
theorem dX7_deal_58 : decode cX7_deal 58 = .ok (.aload_n 0, 1) := edX7_deal_44.2.2.2.2.2.2.2.2.1
theorem dX7_deal_59 : decode cX7_deal 59 = .ok (.getfield 10, 3) := edX7_deal_44.2.2.2.2.2.2.2.2.2.1
theorem dX7_deal_62 : decode cX7_deal 62 = .ok (.invokevirtual 153, 3) := edX7_deal_44.2.2.2.2.2.2.2.2.2.2.1
theorem dX7_deal_65 : decode cX7_deal 65 = .ok (.bipush 100, 2) := edX7_deal_44.2.2.2.2.2.2.2.2.2.2.2.1
theorem dX7_deal_67 : decode cX7_deal 67 = .ok (.irem, 1) := edX7_deal_44.2.2.2.2.2.2.2.2.2.2.2.2.1
theorem dX7_deal_68 : decode cX7_deal 68 = .ok (.istore 6, 2) := edX7_deal_44.2.2.2.2.2.2.2.2.2.2.2.2.2.1
theorem dX7_deal_70 : decode cX7_deal 70 = .ok (.aload_n 0, 1) := edX7_deal_44.2.2.2.2.2.2.2.2.2.2.2.2.2.2.1
theorem dX7_deal_71 : decode cX7_deal 71 = .ok (.getfield 10, 3) := edX7_deal_44.2.2.2.2.2.2.2.2.2.2.2.2.2.2.2.1
theorem dX7_deal_74 : decode cX7_deal 74 = .ok (.iload 4, 2) := edX7_deal_44.2.2.2.2.2.2.2.2.2.2.2.2.2.2.2.2.1
theorem dX7_deal_76 : decode cX7_deal 76 = .ok (.iload 5, 2) := edX7_deal_44.2.2.2.2.2.2.2.2.2.2.2.2.2.2.2.2.2.1
theorem dX7_deal_78 : decode cX7_deal 78 = .ok (.iload 6, 2) := edX7_deal_44.2.2.2.2.2.2.2.2.2.2.2.2.2.2.2.2.2.2.1
theorem dX7_deal_80 : decode cX7_deal 80 = .ok (.invokevirtual 83, 3) := edX7_deal_44.2.2.2.2.2.2.2.2.2.2.2.2.2.2.2.2.2.2.2.1
theorem dX7_deal_83 : decode cX7_deal 83 = .ok (.iinc 3 1, 3) := edX7_deal_44.2.2.2.2.2.2.2.2.2.2.2.2.2.2.2.2.2.2.2.2.1
theorem dX7_deal_86 : decode cX7_deal 86 = .ok (.goto (-56), 3) := edX7_deal_44.2.2.2.2.2.2.2.2.2.2.2.2.2.2.2.2.2.2.2.2.2.1
theorem dX7_deal_89 : decode cX7_deal 89 = .ok (.iload_n 2, 1) := edX7_deal_44.2.2.2.2.2.2.2.2.2.2.2.2.2.2.2.2.2.2.2.2.2.2.1
theorem dX7_deal_90 : decode cX7_deal 90 = .ok (.ireturn, 1) := edX7_deal_44.2.2.2.2.2.2.2.2.2.2.2.2.2.2.2.2.2.2.2.2.2.2.2
theorem edX7_seed_0 : (decode cX7_seed 0 = .ok (.aload_n 0, 1)) ∧ (decode cX7_seed 1 = .ok (.getfield 10, 3)) ∧ (decode cX7_seed 4 = .ok (.getfield 157, 3)) ∧ (decode cX7_seed 7 = .ok (.istore_n 2, 1)) ∧ (decode cX7_seed 8 = .ok (.aload_n 0, 1)) ∧ (decode cX7_seed 9 = .ok (.getfield 10, 3)) ∧ (decode cX7_seed 12 = .ok (.iload_n 1, 1)) ∧ (decode cX7_seed 13 = .ok (.putfield 157, 3)) ∧ (decode cX7_seed 16 = .ok (.iload_n 2, 1)) ∧ (decode cX7_seed 17 = .ok (.ireturn, 1)) := by decide +kernel
theorem dX7_seed_0 : decode cX7_seed 0 = .ok (.aload_n 0, 1) := edX7_seed_0.1
theorem dX7_seed_1 : decode cX7_seed 1 = .ok (.getfield 10, 3) := edX7_seed_0.2.1
theorem dX7_seed_4 : decode cX7_seed 4 = .ok (.getfield 157, 3) := edX7_seed_0.2.2.1
theorem dX7_seed_7 : decode cX7_seed 7 = .ok (.istore_n 2, 1) := edX7_seed_0.2.2.2.1
theorem dX7_seed_8 : decode cX7_seed 8 = .ok (.aload_n 0, 1) := edX7_seed_0.2.2.2.2.1
theorem dX7_seed_9 : decode cX7_seed 9 = .ok (.getfield 10, 3) := edX7_seed_0.2.2.2.2.2.1
theorem dX7_seed_12 : decode cX7_seed 12 = .ok (.iload_n 1, 1) := edX7_seed_0.2.2.2.2.2.2.1
theorem dX7_seed_13 : decode cX7_seed 13 = .ok (.putfield 157, 3) := edX7_seed_0.2.2.2.2.2.2.2.1
theorem dX7_seed_16 : decode cX7_seed 16 = .ok (.iload_n 2, 1) := edX7_seed_0.2.2.2.2.2.2.2.2.1
theorem dX7_seed_17 : decode cX7_seed 17 = .ok (.ireturn, 1) := edX7_seed_0.2.2.2.2.2.2.2.2.2
theorem edX7_posts_0 : (decode cX7_posts 0 = .ok (.iload_n 1, 1)) ∧ (decode cX7_posts 1 = .ok (.iconst 1, 1)) ∧ (decode cX7_posts 2 = .ok (.bipush 100, 2)) ∧ (decode cX7_posts 4 = .ok (.invokestatic 74, 3)) ∧ (decode cX7_posts 7 = .ok (.ifCond .ne 6, 3)) ∧ (decode cX7_posts 10 = .ok (.ldc 78, 2)) ∧ (decode cX7_posts 12 = .ok (.ireturn, 1)) ∧ (decode cX7_posts 13 = .ok (.aload_n 0, 1)) ∧ (decode cX7_posts 14 = .ok (.getfield 10, 3)) ∧ (decode cX7_posts 17 = .ok (.iload_n 1, 1)) ∧ (decode cX7_posts 18 = .ok (.sipush 9999, 3)) ∧ (decode cX7_posts 21 = .ok (.aload_n 0, 1)) ∧ (decode cX7_posts 22 = .ok (.getfield 10, 3)) ∧ (decode cX7_posts 25 = .ok (.getfield 160, 3)) ∧ (decode cX7_posts 28 = .ok (.isub, 1)) ∧ (decode cX7_posts 29 = .ok (.invokestatic 148, 3)) ∧ (decode cX7_posts 32 = .ok (.iconst (-1), 1)) ∧ (decode cX7_posts 33 = .ok (.invokevirtual 163, 3)) ∧ (decode cX7_posts 36 = .ok (.ireturn, 1)) := by decide +kernel
theorem dX7_posts_0 : decode cX7_posts 0 = .ok (.iload_n 1, 1) := edX7_posts_0.1
theorem dX7_posts_1 : decode cX7_posts 1 = .ok (.iconst 1, 1) := edX7_posts_0.2.1
theorem dX7_posts_2 : decode cX7_posts 2 = .ok (.bipush 100, 2) := edX7_posts_0.2.2.1
theorem dX7_posts_4 : decode cX7_posts 4 = .ok (.invokestatic 74, 3) := edX7_posts_0.2.2.2.1
theorem dX7_posts_7 : decode cX7_posts 7 = .ok (.ifCond .ne 6, 3) := edX7_posts_0.2.2.2.2.1
theorem dX7_posts_10 : decode cX7_posts 10 = .ok (.ldc 78, 2) := edX7_posts_0.2.2.2.2.2.1
theorem dX7_posts_12 : decode cX7_posts 12 = .ok (.ireturn, 1) := edX7_posts_0.2.2.2.2.2.2.1
theorem dX7_posts_13 : decode cX7_posts 13 = .ok (.aload_n 0, 1) := edX7_posts_0.2.2.2.2.2.2.2.1
theorem dX7_posts_14 : decode cX7_posts 14 = .ok (.getfield 10, 3) := edX7_posts_0.2.2.2.2.2.2.2.2.1
theorem dX7_posts_17 : decode cX7_posts 17 = .ok (.iload_n 1, 1) := edX7_posts_0.2.2.2.2.2.2.2.2.2.1
theorem dX7_posts_18 : decode cX7_posts 18 = .ok (.sipush 9999, 3) := edX7_posts_0.2.2.2.2.2.2.2.2.2.2.1
theorem dX7_posts_21 : decode cX7_posts 21 = .ok (.aload_n 0, 1) := edX7_posts_0.2.2.2.2.2.2.2.2.2.2.2.1
theorem dX7_posts_22 : decode cX7_posts 22 = .ok (.getfield 10, 3) := edX7_posts_0.2.2.2.2.2.2.2.2.2.2.2.2.1
theorem dX7_posts_25 : decode cX7_posts 25 = .ok (.getfield 160, 3) := edX7_posts_0.2.2.2.2.2.2.2.2.2.2.2.2.2.1
theorem dX7_posts_28 : decode cX7_posts 28 = .ok (.isub, 1) := edX7_posts_0.2.2.2.2.2.2.2.2.2.2.2.2.2.2.1
theorem dX7_posts_29 : decode cX7_posts 29 = .ok (.invokestatic 148, 3) := edX7_posts_0.2.2.2.2.2.2.2.2.2.2.2.2.2.2.2.1
theorem dX7_posts_32 : decode cX7_posts 32 = .ok (.iconst (-1), 1) := edX7_posts_0.2.2.2.2.2.2.2.2.2.2.2.2.2.2.2.2.1
theorem dX7_posts_33 : decode cX7_posts 33 = .ok (.invokevirtual 163, 3) := edX7_posts_0.2.2.2.2.2.2.2.2.2.2.2.2.2.2.2.2.2.1
theorem dX7_posts_36 : decode cX7_posts 36 = .ok (.ireturn, 1) := edX7_posts_0.2.2.2.2.2.2.2.2.2.2.2.2.2.2.2.2.2.2
theorem edX7_table_0 : (decode cX7_table 0 = .ok (.iload_n 1, 1)) ∧ (decode cX7_table 1 = .ok (.tableswitch 123 0 6 #[43, 52, 61, 77, 85, 93, 108], 43)) ∧ (decode cX7_table 44 = .ok (.aload_n 0, 1)) ∧ (decode cX7_table 45 = .ok (.getfield 10, 3)) ∧ (decode cX7_table 48 = .ok (.iconst 0, 1)) ∧ (decode cX7_table 49 = .ok (.invokevirtual 166, 3)) ∧ (decode cX7_table 52 = .ok (.ireturn, 1)) ∧ (decode cX7_table 53 = .ok (.aload_n 0, 1)) ∧ (decode cX7_table 54 = .ok (.getfield 10, 3)) ∧ (decode cX7_table 57 = .ok (.iconst 1, 1)) ∧ (decode cX7_table 58 = .ok (.invokevirtual 166, 3)) ∧ (decode cX7_table 61 = .ok (.ireturn, 1)) ∧ (decode cX7_table 62 = .ok (.aload_n 0, 1)) ∧ (decode cX7_table 63 = .ok (.getfield 10, 3)) ∧ (decode cX7_table 66 = .ok (.invokevirtual 169, 3)) ∧ (decode cX7_table 69 = .ok (.ifCond .eq 7, 3)) ∧ (decode cX7_table 72 = .ok (.iconst 1, 1)) ∧ (decode cX7_table 73 = .ok (.goto 4, 3)) ∧ (decode cX7_table 76 = .ok (.iconst 0, 1)) ∧ (decode cX7_table 77 = .ok (.ireturn, 1)) ∧ (decode cX7_table 78 = .ok (.aload_n 0, 1)) ∧ (decode cX7_table 79 = .ok (.getfield 10, 3)) ∧ (decode cX7_table 82 = .ok (.invokevirtual 173, 3)) ∧ (decode cX7_table 85 = .ok (.ireturn, 1)) := by decide +kernel
theorem dX7_table_0 : decode cX7_table 0 = .ok (.iload_n 1, 1) := edX7_table_0.1
theorem dX7_table_1 : decode cX7_table 1 = .ok (.tableswitch 123 0 6 #[43, 52, 61, 77, 85, 93, 108], 43) := edX7_table_0.2.1
theorem dX7_table_44 : decode cX7_table 44 = .ok (.aload_n 0, 1) := edX7_table_0.2.2.1
theorem dX7_table_45 : decode cX7_table 45 = .ok (.getfield 10, 3) := edX7_table_0.2.2.2.1
theorem dX7_table_48 : decode cX7_table 48 = .ok (.iconst 0, 1) := edX7_table_0.2.2.2.2.1
theorem dX7_table_49 : decode cX7_table 49 = .ok (.invokevirtual 166, 3) := edX7_table_0.2.2.2.2.2.1
theorem dX7_table_52 : decode cX7_table 52 = .ok (.ireturn, 1) := edX7_table_0.2.2.2.2.2.2.1
theorem dX7_table_53 : decode cX7_table 53 = .ok (.aload_n 0, 1) := edX7_table_0.2.2.2.2.2.2.2.1
theorem dX7_table_54 : decode cX7_table 54 = .ok (.getfield 10, 3) := edX7_table_0.2.2.2.2.2.2.2.2.1
theorem dX7_table_57 : decode cX7_table 57 = .ok (.iconst 1, 1) := edX7_table_0.2.2.2.2.2.2.2.2.2.1
theorem dX7_table_58 : decode cX7_table 58 = .ok (.invokevirtual 166, 3) := edX7_table_0.2.2.2.2.2.2.2.2.2.2.1
theorem dX7_table_61 : decode cX7_table 61 = .ok (.ireturn, 1) := edX7_table_0.2.2.2.2.2.2.2.2.2.2.2.1
theorem dX7_table_62 : decode cX7_table 62 = .ok (.aload_n 0, 1) := edX7_table_0.2.2.2.2.2.2.2.2.2.2.2.2.1
theorem dX7_table_63 : decode cX7_table 63 = .ok (.getfield 10, 3) := edX7_table_0.2.2.2.2.2.2.2.2.2.2.2.2.2.1
theorem dX7_table_66 : decode cX7_table 66 = .ok (.invokevirtual 169, 3) := edX7_table_0.2.2.2.2.2.2.2.2.2.2.2.2.2.2.1
theorem dX7_table_69 : decode cX7_table 69 = .ok (.ifCond .eq 7, 3) := edX7_table_0.2.2.2.2.2.2.2.2.2.2.2.2.2.2.2.1
theorem dX7_table_72 : decode cX7_table 72 = .ok (.iconst 1, 1) := edX7_table_0.2.2.2.2.2.2.2.2.2.2.2.2.2.2.2.2.1
theorem dX7_table_73 : decode cX7_table 73 = .ok (.goto 4, 3) := edX7_table_0.2.2.2.2.2.2.2.2.2.2.2.2.2.2.2.2.2.1
theorem dX7_table_76 : decode cX7_table 76 = .ok (.iconst 0, 1) := edX7_table_0.2.2.2.2.2.2.2.2.2.2.2.2.2.2.2.2.2.2.1
theorem dX7_table_77 : decode cX7_table 77 = .ok (.ireturn, 1) := edX7_table_0.2.2.2.2.2.2.2.2.2.2.2.2.2.2.2.2.2.2.2.1
theorem dX7_table_78 : decode cX7_table 78 = .ok (.aload_n 0, 1) := edX7_table_0.2.2.2.2.2.2.2.2.2.2.2.2.2.2.2.2.2.2.2.2.1
theorem dX7_table_79 : decode cX7_table 79 = .ok (.getfield 10, 3) := edX7_table_0.2.2.2.2.2.2.2.2.2.2.2.2.2.2.2.2.2.2.2.2.2.1
theorem dX7_table_82 : decode cX7_table 82 = .ok (.invokevirtual 173, 3) := edX7_table_0.2.2.2.2.2.2.2.2.2.2.2.2.2.2.2.2.2.2.2.2.2.2.1
theorem dX7_table_85 : decode cX7_table 85 = .ok (.ireturn, 1) := edX7_table_0.2.2.2.2.2.2.2.2.2.2.2.2.2.2.2.2.2.2.2.2.2.2.2
theorem edX7_table_86 : (decode cX7_table 86 = .ok (.aload_n 0, 1)) ∧ (decode cX7_table 87 = .ok (.getfield 10, 3)) ∧ (decode cX7_table 90 = .ok (.getfield 176, 3)) ∧ (decode cX7_table 93 = .ok (.ireturn, 1)) ∧ (decode cX7_table 94 = .ok (.aload_n 0, 1)) ∧ (decode cX7_table 95 = .ok (.getfield 10, 3)) ∧ (decode cX7_table 98 = .ok (.aload_n 0, 1)) ∧ (decode cX7_table 99 = .ok (.getfield 10, 3)) ∧ (decode cX7_table 102 = .ok (.getfield 99, 3)) ∧ (decode cX7_table 105 = .ok (.invokevirtual 179, 3)) ∧ (decode cX7_table 108 = .ok (.ireturn, 1)) ∧ (decode cX7_table 109 = .ok (.aload_n 0, 1)) ∧ (decode cX7_table 110 = .ok (.getfield 10, 3)) ∧ (decode cX7_table 113 = .ok (.aload_n 0, 1)) ∧ (decode cX7_table 114 = .ok (.getfield 10, 3)) ∧ (decode cX7_table 117 = .ok (.getfield 102, 3)) ∧ (decode cX7_table 120 = .ok (.invokevirtual 179, 3)) ∧ (decode cX7_table 123 = .ok (.ireturn, 1)) ∧ (decode cX7_table 124 = .ok (.ldc 78, 2)) ∧ (decode cX7_table 126 = .ok (.ireturn, 1)) := by decide +kernel
theorem dX7_table_86 : decode cX7_table 86 = .ok (.aload_n 0, 1) := edX7_table_86.1
theorem dX7_table_87 : decode cX7_table 87 = .ok (.getfield 10, 3) := edX7_table_86.2.1
theorem dX7_table_90 : decode cX7_table 90 = .ok (.getfield 176, 3) := edX7_table_86.2.2.1
theorem dX7_table_93 : decode cX7_table 93 = .ok (.ireturn, 1) := edX7_table_86.2.2.2.1
theorem dX7_table_94 : decode cX7_table 94 = .ok (.aload_n 0, 1) := edX7_table_86.2.2.2.2.1
theorem dX7_table_95 : decode cX7_table 95 = .ok (.getfield 10, 3) := edX7_table_86.2.2.2.2.2.1
theorem dX7_table_98 : decode cX7_table 98 = .ok (.aload_n 0, 1) := edX7_table_86.2.2.2.2.2.2.1
theorem dX7_table_99 : decode cX7_table 99 = .ok (.getfield 10, 3) := edX7_table_86.2.2.2.2.2.2.2.1
theorem dX7_table_102 : decode cX7_table 102 = .ok (.getfield 99, 3) := edX7_table_86.2.2.2.2.2.2.2.2.1
theorem dX7_table_105 : decode cX7_table 105 = .ok (.invokevirtual 179, 3) := edX7_table_86.2.2.2.2.2.2.2.2.2.1
theorem dX7_table_108 : decode cX7_table 108 = .ok (.ireturn, 1) := edX7_table_86.2.2.2.2.2.2.2.2.2.2.1
theorem dX7_table_109 : decode cX7_table 109 = .ok (.aload_n 0, 1) := edX7_table_86.2.2.2.2.2.2.2.2.2.2.2.1
theorem dX7_table_110 : decode cX7_table 110 = .ok (.getfield 10, 3) := edX7_table_86.2.2.2.2.2.2.2.2.2.2.2.2.1
theorem dX7_table_113 : decode cX7_table 113 = .ok (.aload_n 0, 1) := edX7_table_86.2.2.2.2.2.2.2.2.2.2.2.2.2.1
theorem dX7_table_114 : decode cX7_table 114 = .ok (.getfield 10, 3) := edX7_table_86.2.2.2.2.2.2.2.2.2.2.2.2.2.2.1
theorem dX7_table_117 : decode cX7_table 117 = .ok (.getfield 102, 3) := edX7_table_86.2.2.2.2.2.2.2.2.2.2.2.2.2.2.2.1
theorem dX7_table_120 : decode cX7_table 120 = .ok (.invokevirtual 179, 3) := edX7_table_86.2.2.2.2.2.2.2.2.2.2.2.2.2.2.2.2.1
theorem dX7_table_123 : decode cX7_table 123 = .ok (.ireturn, 1) := edX7_table_86.2.2.2.2.2.2.2.2.2.2.2.2.2.2.2.2.2.1
theorem dX7_table_124 : decode cX7_table 124 = .ok (.ldc 78, 2) := edX7_table_86.2.2.2.2.2.2.2.2.2.2.2.2.2.2.2.2.2.2.1
theorem dX7_table_126 : decode cX7_table 126 = .ok (.ireturn, 1) := edX7_table_86.2.2.2.2.2.2.2.2.2.2.2.2.2.2.2.2.2.2.2
theorem edX7_taken_0 : (decode cX7_taken 0 = .ok (.aload_n 0, 1)) ∧ (decode cX7_taken 1 = .ok (.getfield 29, 3)) ∧ (decode cX7_taken 4 = .ok (.aload_n 0, 1)) ∧ (decode cX7_taken 5 = .ok (.getfield 10, 3)) ∧ (decode cX7_taken 8 = .ok (.invokevirtual 183, 3)) ∧ (decode cX7_taken 11 = .ok (.ireturn, 1)) := by decide +kernel
theorem dX7_taken_0 : decode cX7_taken 0 = .ok (.aload_n 0, 1) := edX7_taken_0.1
theorem dX7_taken_1 : decode cX7_taken 1 = .ok (.getfield 29, 3) := edX7_taken_0.2.1
theorem dX7_taken_4 : decode cX7_taken 4 = .ok (.aload_n 0, 1) := edX7_taken_0.2.2.1
theorem dX7_taken_5 : decode cX7_taken 5 = .ok (.getfield 10, 3) := edX7_taken_0.2.2.2.1
theorem dX7_taken_8 : decode cX7_taken 8 = .ok (.invokevirtual 183, 3) := edX7_taken_0.2.2.2.2.1
theorem dX7_taken_11 : decode cX7_taken 11 = .ok (.ireturn, 1) := edX7_taken_0.2.2.2.2.2
theorem edX7_terms_0 : (decode cX7_terms 0 = .ok (.iload_n 1, 1)) ∧ (decode cX7_terms 1 = .ok (.ifCond .ne 18, 3)) ∧ (decode cX7_terms 4 = .ok (.aload_n 0, 1)) ∧ (decode cX7_terms 5 = .ok (.getfield 29, 3)) ∧ (decode cX7_terms 8 = .ok (.aload_n 0, 1)) ∧ (decode cX7_terms 9 = .ok (.getfield 10, 3)) ∧ (decode cX7_terms 12 = .ok (.invokevirtual 187, 3)) ∧ (decode cX7_terms 15 = .ok (.invokestatic 112, 3)) ∧ (decode cX7_terms 18 = .ok (.ireturn, 1)) ∧ (decode cX7_terms 19 = .ok (.iload_n 1, 1)) ∧ (decode cX7_terms 20 = .ok (.iconst 1, 1)) ∧ (decode cX7_terms 21 = .ok (.if_icmp .ne 18, 3)) ∧ (decode cX7_terms 24 = .ok (.aload_n 0, 1)) ∧ (decode cX7_terms 25 = .ok (.getfield 29, 3)) ∧ (decode cX7_terms 28 = .ok (.aload_n 0, 1)) ∧ (decode cX7_terms 29 = .ok (.getfield 10, 3)) ∧ (decode cX7_terms 32 = .ok (.invokevirtual 190, 3)) ∧ (decode cX7_terms 35 = .ok (.invokestatic 112, 3)) ∧ (decode cX7_terms 38 = .ok (.ireturn, 1)) ∧ (decode cX7_terms 39 = .ok (.ldc 78, 2)) ∧ (decode cX7_terms 41 = .ok (.ireturn, 1)) := by decide +kernel
theorem dX7_terms_0 : decode cX7_terms 0 = .ok (.iload_n 1, 1) := edX7_terms_0.1
theorem dX7_terms_1 : decode cX7_terms 1 = .ok (.ifCond .ne 18, 3) := edX7_terms_0.2.1
theorem dX7_terms_4 : decode cX7_terms 4 = .ok (.aload_n 0, 1) := edX7_terms_0.2.2.1
theorem dX7_terms_5 : decode cX7_terms 5 = .ok (.getfield 29, 3) := edX7_terms_0.2.2.2.1
theorem dX7_terms_8 : decode cX7_terms 8 = .ok (.aload_n 0, 1) := edX7_terms_0.2.2.2.2.1
theorem dX7_terms_9 : decode cX7_terms 9 = .ok (.getfield 10, 3) := edX7_terms_0.2.2.2.2.2.1
theorem dX7_terms_12 : decode cX7_terms 12 = .ok (.invokevirtual 187, 3) := edX7_terms_0.2.2.2.2.2.2.1
theorem dX7_terms_15 : decode cX7_terms 15 = .ok (.invokestatic 112, 3) := edX7_terms_0.2.2.2.2.2.2.2.1
theorem dX7_terms_18 : decode cX7_terms 18 = .ok (.ireturn, 1) := edX7_terms_0.2.2.2.2.2.2.2.2.1
theorem dX7_terms_19 : decode cX7_terms 19 = .ok (.iload_n 1, 1) := edX7_terms_0.2.2.2.2.2.2.2.2.2.1
theorem dX7_terms_20 : decode cX7_terms 20 = .ok (.iconst 1, 1) := edX7_terms_0.2.2.2.2.2.2.2.2.2.2.1
theorem dX7_terms_21 : decode cX7_terms 21 = .ok (.if_icmp .ne 18, 3) := edX7_terms_0.2.2.2.2.2.2.2.2.2.2.2.1
theorem dX7_terms_24 : decode cX7_terms 24 = .ok (.aload_n 0, 1) := edX7_terms_0.2.2.2.2.2.2.2.2.2.2.2.2.1
theorem dX7_terms_25 : decode cX7_terms 25 = .ok (.getfield 29, 3) := edX7_terms_0.2.2.2.2.2.2.2.2.2.2.2.2.2.1
theorem dX7_terms_28 : decode cX7_terms 28 = .ok (.aload_n 0, 1) := edX7_terms_0.2.2.2.2.2.2.2.2.2.2.2.2.2.2.1
theorem dX7_terms_29 : decode cX7_terms 29 = .ok (.getfield 10, 3) := edX7_terms_0.2.2.2.2.2.2.2.2.2.2.2.2.2.2.2.1
theorem dX7_terms_32 : decode cX7_terms 32 = .ok (.invokevirtual 190, 3) := edX7_terms_0.2.2.2.2.2.2.2.2.2.2.2.2.2.2.2.2.1
theorem dX7_terms_35 : decode cX7_terms 35 = .ok (.invokestatic 112, 3) := edX7_terms_0.2.2.2.2.2.2.2.2.2.2.2.2.2.2.2.2.2.1
theorem dX7_terms_38 : decode cX7_terms 38 = .ok (.ireturn, 1) := edX7_terms_0.2.2.2.2.2.2.2.2.2.2.2.2.2.2.2.2.2.2.1
theorem dX7_terms_39 : decode cX7_terms 39 = .ok (.ldc 78, 2) := edX7_terms_0.2.2.2.2.2.2.2.2.2.2.2.2.2.2.2.2.2.2.2.1
theorem dX7_terms_41 : decode cX7_terms 41 = .ok (.ireturn, 1) := edX7_terms_0.2.2.2.2.2.2.2.2.2.2.2.2.2.2.2.2.2.2.2.2
theorem edX7_behind_0 : (decode cX7_behind 0 = .ok (.iload_n 1, 1)) ∧ (decode cX7_behind 1 = .ok (.iconst 0, 1)) ∧ (decode cX7_behind 2 = .ok (.bipush 100, 2)) ∧ (decode cX7_behind 4 = .ok (.invokestatic 74, 3)) ∧ (decode cX7_behind 7 = .ok (.ifCond .eq 12, 3)) ∧ (decode cX7_behind 10 = .ok (.iload_n 2, 1)) ∧ (decode cX7_behind 11 = .ok (.iconst 0, 1)) ∧ (decode cX7_behind 12 = .ok (.iconst 3, 1)) ∧ (decode cX7_behind 13 = .ok (.invokestatic 74, 3)) ∧ (decode cX7_behind 16 = .ok (.ifCond .ne 6, 3)) ∧ (decode cX7_behind 19 = .ok (.ldc 78, 2)) ∧ (decode cX7_behind 21 = .ok (.ireturn, 1)) ∧ (decode cX7_behind 22 = .ok (.aload_n 0, 1)) ∧ (decode cX7_behind 23 = .ok (.getfield 16, 3)) ∧ (decode cX7_behind 26 = .ok (.aload_n 0, 1)) ∧ (decode cX7_behind 27 = .ok (.getfield 10, 3)) ∧ (decode cX7_behind 30 = .ok (.invokevirtual 193, 3)) ∧ (decode cX7_behind 33 = .ok (.aload_n 0, 1)) ∧ (decode cX7_behind 34 = .ok (.getfield 16, 3)) ∧ (decode cX7_behind 37 = .ok (.iload_n 1, 1)) ∧ (decode cX7_behind 38 = .ok (.iconst (-1), 1)) ∧ (decode cX7_behind 39 = .ok (.invokevirtual 163, 3)) ∧ (decode cX7_behind 42 = .ok (.pop, 1)) ∧ (decode cX7_behind 43 = .ok (.iload_n 2, 1)) := by decide +kernel
theorem dX7_behind_0 : decode cX7_behind 0 = .ok (.iload_n 1, 1) := edX7_behind_0.1
theorem dX7_behind_1 : decode cX7_behind 1 = .ok (.iconst 0, 1) := edX7_behind_0.2.1
theorem dX7_behind_2 : decode cX7_behind 2 = .ok (.bipush 100, 2) := edX7_behind_0.2.2.1
theorem dX7_behind_4 : decode cX7_behind 4 = .ok (.invokestatic 74, 3) := edX7_behind_0.2.2.2.1
theorem dX7_behind_7 : decode cX7_behind 7 = .ok (.ifCond .eq 12, 3) := edX7_behind_0.2.2.2.2.1
theorem dX7_behind_10 : decode cX7_behind 10 = .ok (.iload_n 2, 1) := edX7_behind_0.2.2.2.2.2.1
theorem dX7_behind_11 : decode cX7_behind 11 = .ok (.iconst 0, 1) := edX7_behind_0.2.2.2.2.2.2.1
theorem dX7_behind_12 : decode cX7_behind 12 = .ok (.iconst 3, 1) := edX7_behind_0.2.2.2.2.2.2.2.1
theorem dX7_behind_13 : decode cX7_behind 13 = .ok (.invokestatic 74, 3) := edX7_behind_0.2.2.2.2.2.2.2.2.1
theorem dX7_behind_16 : decode cX7_behind 16 = .ok (.ifCond .ne 6, 3) := edX7_behind_0.2.2.2.2.2.2.2.2.2.1
theorem dX7_behind_19 : decode cX7_behind 19 = .ok (.ldc 78, 2) := edX7_behind_0.2.2.2.2.2.2.2.2.2.2.1
theorem dX7_behind_21 : decode cX7_behind 21 = .ok (.ireturn, 1) := edX7_behind_0.2.2.2.2.2.2.2.2.2.2.2.1
theorem dX7_behind_22 : decode cX7_behind 22 = .ok (.aload_n 0, 1) := edX7_behind_0.2.2.2.2.2.2.2.2.2.2.2.2.1
theorem dX7_behind_23 : decode cX7_behind 23 = .ok (.getfield 16, 3) := edX7_behind_0.2.2.2.2.2.2.2.2.2.2.2.2.2.1
theorem dX7_behind_26 : decode cX7_behind 26 = .ok (.aload_n 0, 1) := edX7_behind_0.2.2.2.2.2.2.2.2.2.2.2.2.2.2.1
theorem dX7_behind_27 : decode cX7_behind 27 = .ok (.getfield 10, 3) := edX7_behind_0.2.2.2.2.2.2.2.2.2.2.2.2.2.2.2.1
theorem dX7_behind_30 : decode cX7_behind 30 = .ok (.invokevirtual 193, 3) := edX7_behind_0.2.2.2.2.2.2.2.2.2.2.2.2.2.2.2.2.1
theorem dX7_behind_33 : decode cX7_behind 33 = .ok (.aload_n 0, 1) := edX7_behind_0.2.2.2.2.2.2.2.2.2.2.2.2.2.2.2.2.2.1
theorem dX7_behind_34 : decode cX7_behind 34 = .ok (.getfield 16, 3) := edX7_behind_0.2.2.2.2.2.2.2.2.2.2.2.2.2.2.2.2.2.2.1
theorem dX7_behind_37 : decode cX7_behind 37 = .ok (.iload_n 1, 1) := edX7_behind_0.2.2.2.2.2.2.2.2.2.2.2.2.2.2.2.2.2.2.2.1
theorem dX7_behind_38 : decode cX7_behind 38 = .ok (.iconst (-1), 1) := edX7_behind_0.2.2.2.2.2.2.2.2.2.2.2.2.2.2.2.2.2.2.2.2.1
theorem dX7_behind_39 : decode cX7_behind 39 = .ok (.invokevirtual 163, 3) := edX7_behind_0.2.2.2.2.2.2.2.2.2.2.2.2.2.2.2.2.2.2.2.2.2.1
theorem dX7_behind_42 : decode cX7_behind 42 = .ok (.pop, 1) := edX7_behind_0.2.2.2.2.2.2.2.2.2.2.2.2.2.2.2.2.2.2.2.2.2.2.1
theorem dX7_behind_43 : decode cX7_behind 43 = .ok (.iload_n 2, 1) := edX7_behind_0.2.2.2.2.2.2.2.2.2.2.2.2.2.2.2.2.2.2.2.2.2.2.2
theorem edX7_behind_44 : (decode cX7_behind 44 = .ok (.tableswitch 60 0 2 #[28, 36, 44], 28)) ∧ (decode cX7_behind 72 = .ok (.aload_n 0, 1)) ∧ (decode cX7_behind 73 = .ok (.getfield 16, 3)) ∧ (decode cX7_behind 76 = .ok (.getfield 139, 3)) ∧ (decode cX7_behind 79 = .ok (.ireturn, 1)) ∧ (decode cX7_behind 80 = .ok (.aload_n 0, 1)) ∧ (decode cX7_behind 81 = .ok (.getfield 16, 3)) ∧ (decode cX7_behind 84 = .ok (.invokevirtual 173, 3)) ∧ (decode cX7_behind 87 = .ok (.ireturn, 1)) ∧ (decode cX7_behind 88 = .ok (.aload_n 0, 1)) ∧ (decode cX7_behind 89 = .ok (.getfield 16, 3)) ∧ (decode cX7_behind 92 = .ok (.invokevirtual 169, 3)) ∧ (decode cX7_behind 95 = .ok (.ifCond .eq 7, 3)) ∧ (decode cX7_behind 98 = .ok (.iconst 1, 1)) ∧ (decode cX7_behind 99 = .ok (.goto 4, 3)) ∧ (decode cX7_behind 102 = .ok (.iconst 0, 1)) ∧ (decode cX7_behind 103 = .ok (.ireturn, 1)) ∧ (decode cX7_behind 104 = .ok (.aload_n 0, 1)) ∧ (decode cX7_behind 105 = .ok (.getfield 16, 3)) ∧ (decode cX7_behind 108 = .ok (.getfield 176, 3)) ∧ (decode cX7_behind 111 = .ok (.ireturn, 1)) := by decide +kernel
theorem dX7_behind_44 : decode cX7_behind 44 = .ok (.tableswitch 60 0 2 #[28, 36, 44], 28) := edX7_behind_44.1
theorem dX7_behind_72 : decode cX7_behind 72 = .ok (.aload_n 0, 1) := edX7_behind_44.2.1
theorem dX7_behind_73 : decode cX7_behind 73 = .ok (.getfield 16, 3) := edX7_behind_44.2.2.1
theorem dX7_behind_76 : decode cX7_behind 76 = .ok (.getfield 139, 3) := edX7_behind_44.2.2.2.1
theorem dX7_behind_79 : decode cX7_behind 79 = .ok (.ireturn, 1) := edX7_behind_44.2.2.2.2.1
theorem dX7_behind_80 : decode cX7_behind 80 = .ok (.aload_n 0, 1) := edX7_behind_44.2.2.2.2.2.1
theorem dX7_behind_81 : decode cX7_behind 81 = .ok (.getfield 16, 3) := edX7_behind_44.2.2.2.2.2.2.1
theorem dX7_behind_84 : decode cX7_behind 84 = .ok (.invokevirtual 173, 3) := edX7_behind_44.2.2.2.2.2.2.2.1
theorem dX7_behind_87 : decode cX7_behind 87 = .ok (.ireturn, 1) := edX7_behind_44.2.2.2.2.2.2.2.2.1
theorem dX7_behind_88 : decode cX7_behind 88 = .ok (.aload_n 0, 1) := edX7_behind_44.2.2.2.2.2.2.2.2.2.1
theorem dX7_behind_89 : decode cX7_behind 89 = .ok (.getfield 16, 3) := edX7_behind_44.2.2.2.2.2.2.2.2.2.2.1
theorem dX7_behind_92 : decode cX7_behind 92 = .ok (.invokevirtual 169, 3) := edX7_behind_44.2.2.2.2.2.2.2.2.2.2.2.1
theorem dX7_behind_95 : decode cX7_behind 95 = .ok (.ifCond .eq 7, 3) := edX7_behind_44.2.2.2.2.2.2.2.2.2.2.2.2.1
theorem dX7_behind_98 : decode cX7_behind 98 = .ok (.iconst 1, 1) := edX7_behind_44.2.2.2.2.2.2.2.2.2.2.2.2.2.1
theorem dX7_behind_99 : decode cX7_behind 99 = .ok (.goto 4, 3) := edX7_behind_44.2.2.2.2.2.2.2.2.2.2.2.2.2.2.1
theorem dX7_behind_102 : decode cX7_behind 102 = .ok (.iconst 0, 1) := edX7_behind_44.2.2.2.2.2.2.2.2.2.2.2.2.2.2.2.1
theorem dX7_behind_103 : decode cX7_behind 103 = .ok (.ireturn, 1) := edX7_behind_44.2.2.2.2.2.2.2.2.2.2.2.2.2.2.2.2.1
theorem dX7_behind_104 : decode cX7_behind 104 = .ok (.aload_n 0, 1) := edX7_behind_44.2.2.2.2.2.2.2.2.2.2.2.2.2.2.2.2.2.1
theorem dX7_behind_105 : decode cX7_behind 105 = .ok (.getfield 16, 3) := edX7_behind_44.2.2.2.2.2.2.2.2.2.2.2.2.2.2.2.2.2.2.1
theorem dX7_behind_108 : decode cX7_behind 108 = .ok (.getfield 176, 3) := edX7_behind_44.2.2.2.2.2.2.2.2.2.2.2.2.2.2.2.2.2.2.2.1
theorem dX7_behind_111 : decode cX7_behind 111 = .ok (.ireturn, 1) := edX7_behind_44.2.2.2.2.2.2.2.2.2.2.2.2.2.2.2.2.2.2.2.2
theorem edX7_ends_0 : (decode cX7_ends 0 = .ok (.iload_n 1, 1)) ∧ (decode cX7_ends 1 = .ok (.iconst 0, 1)) ∧ (decode cX7_ends 2 = .ok (.iconst 1, 1)) ∧ (decode cX7_ends 3 = .ok (.invokestatic 74, 3)) ∧ (decode cX7_ends 6 = .ok (.ifCond .ne 6, 3)) ∧ (decode cX7_ends 9 = .ok (.ldc 78, 2)) ∧ (decode cX7_ends 11 = .ok (.ireturn, 1)) ∧ (decode cX7_ends 12 = .ok (.aload_n 0, 1)) ∧ (decode cX7_ends 13 = .ok (.getfield 16, 3)) ∧ (decode cX7_ends 16 = .ok (.aload_n 0, 1)) ∧ (decode cX7_ends 17 = .ok (.getfield 10, 3)) ∧ (decode cX7_ends 20 = .ok (.invokevirtual 193, 3)) ∧ (decode cX7_ends 23 = .ok (.iconst 0, 1)) ∧ (decode cX7_ends 24 = .ok (.istore_n 2, 1)) ∧ (decode cX7_ends 25 = .ok (.iload_n 2, 1)) ∧ (decode cX7_ends 26 = .ok (.sipush 200, 3)) ∧ (decode cX7_ends 29 = .ok (.if_icmp .gt 59, 3)) ∧ (decode cX7_ends 32 = .ok (.aload_n 0, 1)) ∧ (decode cX7_ends 33 = .ok (.getfield 16, 3)) ∧ (decode cX7_ends 36 = .ok (.invokevirtual 169, 3)) ∧ (decode cX7_ends 39 = .ok (.ifCond .eq 13, 3)) ∧ (decode cX7_ends 42 = .ok (.iload_n 1, 1)) ∧ (decode cX7_ends 43 = .ok (.ifCond .ne 7, 3)) ∧ (decode cX7_ends 46 = .ok (.iload_n 2, 1)) := by decide +kernel
theorem dX7_ends_0 : decode cX7_ends 0 = .ok (.iload_n 1, 1) := edX7_ends_0.1
theorem dX7_ends_1 : decode cX7_ends 1 = .ok (.iconst 0, 1) := edX7_ends_0.2.1
theorem dX7_ends_2 : decode cX7_ends 2 = .ok (.iconst 1, 1) := edX7_ends_0.2.2.1
theorem dX7_ends_3 : decode cX7_ends 3 = .ok (.invokestatic 74, 3) := edX7_ends_0.2.2.2.1
theorem dX7_ends_6 : decode cX7_ends 6 = .ok (.ifCond .ne 6, 3) := edX7_ends_0.2.2.2.2.1
theorem dX7_ends_9 : decode cX7_ends 9 = .ok (.ldc 78, 2) := edX7_ends_0.2.2.2.2.2.1
theorem dX7_ends_11 : decode cX7_ends 11 = .ok (.ireturn, 1) := edX7_ends_0.2.2.2.2.2.2.1
theorem dX7_ends_12 : decode cX7_ends 12 = .ok (.aload_n 0, 1) := edX7_ends_0.2.2.2.2.2.2.2.1
theorem dX7_ends_13 : decode cX7_ends 13 = .ok (.getfield 16, 3) := edX7_ends_0.2.2.2.2.2.2.2.2.1
theorem dX7_ends_16 : decode cX7_ends 16 = .ok (.aload_n 0, 1) := edX7_ends_0.2.2.2.2.2.2.2.2.2.1
theorem dX7_ends_17 : decode cX7_ends 17 = .ok (.getfield 10, 3) := edX7_ends_0.2.2.2.2.2.2.2.2.2.2.1
theorem dX7_ends_20 : decode cX7_ends 20 = .ok (.invokevirtual 193, 3) := edX7_ends_0.2.2.2.2.2.2.2.2.2.2.2.1
theorem dX7_ends_23 : decode cX7_ends 23 = .ok (.iconst 0, 1) := edX7_ends_0.2.2.2.2.2.2.2.2.2.2.2.2.1
theorem dX7_ends_24 : decode cX7_ends 24 = .ok (.istore_n 2, 1) := edX7_ends_0.2.2.2.2.2.2.2.2.2.2.2.2.2.1
theorem dX7_ends_25 : decode cX7_ends 25 = .ok (.iload_n 2, 1) := edX7_ends_0.2.2.2.2.2.2.2.2.2.2.2.2.2.2.1
theorem dX7_ends_26 : decode cX7_ends 26 = .ok (.sipush 200, 3) := edX7_ends_0.2.2.2.2.2.2.2.2.2.2.2.2.2.2.2.1
theorem dX7_ends_29 : decode cX7_ends 29 = .ok (.if_icmp .gt 59, 3) := edX7_ends_0.2.2.2.2.2.2.2.2.2.2.2.2.2.2.2.2.1
theorem dX7_ends_32 : decode cX7_ends 32 = .ok (.aload_n 0, 1) := edX7_ends_0.2.2.2.2.2.2.2.2.2.2.2.2.2.2.2.2.2.1
theorem dX7_ends_33 : decode cX7_ends 33 = .ok (.getfield 16, 3) := edX7_ends_0.2.2.2.2.2.2.2.2.2.2.2.2.2.2.2.2.2.2.1
theorem dX7_ends_36 : decode cX7_ends 36 = .ok (.invokevirtual 169, 3) := edX7_ends_0.2.2.2.2.2.2.2.2.2.2.2.2.2.2.2.2.2.2.2.1
theorem dX7_ends_39 : decode cX7_ends 39 = .ok (.ifCond .eq 13, 3) := edX7_ends_0.2.2.2.2.2.2.2.2.2.2.2.2.2.2.2.2.2.2.2.2.1
theorem dX7_ends_42 : decode cX7_ends 42 = .ok (.iload_n 1, 1) := edX7_ends_0.2.2.2.2.2.2.2.2.2.2.2.2.2.2.2.2.2.2.2.2.2.1
theorem dX7_ends_43 : decode cX7_ends 43 = .ok (.ifCond .ne 7, 3) := edX7_ends_0.2.2.2.2.2.2.2.2.2.2.2.2.2.2.2.2.2.2.2.2.2.2.1
theorem dX7_ends_46 : decode cX7_ends 46 = .ok (.iload_n 2, 1) := edX7_ends_0.2.2.2.2.2.2.2.2.2.2.2.2.2.2.2.2.2.2.2.2.2.2.2
theorem edX7_ends_47 : (decode cX7_ends 47 = .ok (.goto 4, 3)) ∧ (decode cX7_ends 50 = .ok (.iconst 1, 1)) ∧ (decode cX7_ends 51 = .ok (.ireturn, 1)) ∧ (decode cX7_ends 52 = .ok (.aload_n 0, 1)) ∧ (decode cX7_ends 53 = .ok (.getfield 16, 3)) ∧ (decode cX7_ends 56 = .ok (.invokevirtual 197, 3)) ∧ (decode cX7_ends 59 = .ok (.ifCond .eq 13, 3)) ∧ (decode cX7_ends 62 = .ok (.iload_n 1, 1)) ∧ (decode cX7_ends 63 = .ok (.ifCond .ne 7, 3)) ∧ (decode cX7_ends 66 = .ok (.iload_n 2, 1)) ∧ (decode cX7_ends 67 = .ok (.goto 4, 3)) ∧ (decode cX7_ends 70 = .ok (.iconst 2, 1)) ∧ (decode cX7_ends 71 = .ok (.ireturn, 1)) ∧ (decode cX7_ends 72 = .ok (.aload_n 0, 1)) ∧ (decode cX7_ends 73 = .ok (.getfield 16, 3)) ∧ (decode cX7_ends 76 = .ok (.iconst 1, 1)) ∧ (decode cX7_ends 77 = .ok (.iconst (-1), 1)) ∧ (decode cX7_ends 78 = .ok (.invokevirtual 163, 3)) ∧ (decode cX7_ends 81 = .ok (.pop, 1)) ∧ (decode cX7_ends 82 = .ok (.iinc 2 1, 3)) ∧ (decode cX7_ends 85 = .ok (.goto (-60), 3)) ∧ (decode cX7_ends 88 = .ok (.ldc 200, 2)) ∧ (decode cX7_ends 90 = .ok (.ireturn, 1)) := by decide +kernel
theorem dX7_ends_47 : decode cX7_ends 47 = .ok (.goto 4, 3) := edX7_ends_47.1
theorem dX7_ends_50 : decode cX7_ends 50 = .ok (.iconst 1, 1) := edX7_ends_47.2.1
theorem dX7_ends_51 : decode cX7_ends 51 = .ok (.ireturn, 1) := edX7_ends_47.2.2.1
theorem dX7_ends_52 : decode cX7_ends 52 = .ok (.aload_n 0, 1) := edX7_ends_47.2.2.2.1
theorem dX7_ends_53 : decode cX7_ends 53 = .ok (.getfield 16, 3) := edX7_ends_47.2.2.2.2.1
theorem dX7_ends_56 : decode cX7_ends 56 = .ok (.invokevirtual 197, 3) := edX7_ends_47.2.2.2.2.2.1
theorem dX7_ends_59 : decode cX7_ends 59 = .ok (.ifCond .eq 13, 3) := edX7_ends_47.2.2.2.2.2.2.1
theorem dX7_ends_62 : decode cX7_ends 62 = .ok (.iload_n 1, 1) := edX7_ends_47.2.2.2.2.2.2.2.1
theorem dX7_ends_63 : decode cX7_ends 63 = .ok (.ifCond .ne 7, 3) := edX7_ends_47.2.2.2.2.2.2.2.2.1
theorem dX7_ends_66 : decode cX7_ends 66 = .ok (.iload_n 2, 1) := edX7_ends_47.2.2.2.2.2.2.2.2.2.1
theorem dX7_ends_67 : decode cX7_ends 67 = .ok (.goto 4, 3) := edX7_ends_47.2.2.2.2.2.2.2.2.2.2.1
theorem dX7_ends_70 : decode cX7_ends 70 = .ok (.iconst 2, 1) := edX7_ends_47.2.2.2.2.2.2.2.2.2.2.2.1
theorem dX7_ends_71 : decode cX7_ends 71 = .ok (.ireturn, 1) := edX7_ends_47.2.2.2.2.2.2.2.2.2.2.2.2.1
theorem dX7_ends_72 : decode cX7_ends 72 = .ok (.aload_n 0, 1) := edX7_ends_47.2.2.2.2.2.2.2.2.2.2.2.2.2.1
theorem dX7_ends_73 : decode cX7_ends 73 = .ok (.getfield 16, 3) := edX7_ends_47.2.2.2.2.2.2.2.2.2.2.2.2.2.2.1
theorem dX7_ends_76 : decode cX7_ends 76 = .ok (.iconst 1, 1) := edX7_ends_47.2.2.2.2.2.2.2.2.2.2.2.2.2.2.2.1
theorem dX7_ends_77 : decode cX7_ends 77 = .ok (.iconst (-1), 1) := edX7_ends_47.2.2.2.2.2.2.2.2.2.2.2.2.2.2.2.2.1
theorem dX7_ends_78 : decode cX7_ends 78 = .ok (.invokevirtual 163, 3) := edX7_ends_47.2.2.2.2.2.2.2.2.2.2.2.2.2.2.2.2.2.1
theorem dX7_ends_81 : decode cX7_ends 81 = .ok (.pop, 1) := edX7_ends_47.2.2.2.2.2.2.2.2.2.2.2.2.2.2.2.2.2.2.1
theorem dX7_ends_82 : decode cX7_ends 82 = .ok (.iinc 2 1, 3) := edX7_ends_47.2.2.2.2.2.2.2.2.2.2.2.2.2.2.2.2.2.2.2.1
theorem dX7_ends_85 : decode cX7_ends 85 = .ok (.goto (-60), 3) := edX7_ends_47.2.2.2.2.2.2.2.2.2.2.2.2.2.2.2.2.2.2.2.2.1
theorem dX7_ends_88 : decode cX7_ends 88 = .ok (.ldc 200, 2) := edX7_ends_47.2.2.2.2.2.2.2.2.2.2.2.2.2.2.2.2.2.2.2.2.2.1
theorem dX7_ends_90 : decode cX7_ends 90 = .ok (.ireturn, 1) := edX7_ends_47.2.2.2.2.2.2.2.2.2.2.2.2.2.2.2.2.2.2.2.2.2.2
theorem edX7_held_0 : (decode cX7_held 0 = .ok (.iload_n 1, 1)) ∧ (decode cX7_held 1 = .ok (.iconst 1, 1)) ∧ (decode cX7_held 2 = .ok (.bipush 60, 2)) ∧ (decode cX7_held 4 = .ok (.invokestatic 74, 3)) ∧ (decode cX7_held 7 = .ok (.ifCond .ne 6, 3)) ∧ (decode cX7_held 10 = .ok (.ldc 78, 2)) ∧ (decode cX7_held 12 = .ok (.ireturn, 1)) ∧ (decode cX7_held 13 = .ok (.aload_n 0, 1)) ∧ (decode cX7_held 14 = .ok (.iconst (-1), 1)) ∧ (decode cX7_held 15 = .ok (.iload_n 1, 1)) ∧ (decode cX7_held 16 = .ok (.invokevirtual 201, 3)) ∧ (decode cX7_held 19 = .ok (.ifCond .eq 5, 3)) ∧ (decode cX7_held 22 = .ok (.iconst 0, 1)) ∧ (decode cX7_held 23 = .ok (.ireturn, 1)) ∧ (decode cX7_held 24 = .ok (.iconst 0, 1)) ∧ (decode cX7_held 25 = .ok (.istore_n 2, 1)) ∧ (decode cX7_held 26 = .ok (.iconst 0, 1)) ∧ (decode cX7_held 27 = .ok (.istore_n 3, 1)) ∧ (decode cX7_held 28 = .ok (.iload_n 3, 1)) ∧ (decode cX7_held 29 = .ok (.aload_n 0, 1)) ∧ (decode cX7_held 30 = .ok (.getfield 10, 3)) ∧ (decode cX7_held 33 = .ok (.getfield 79, 3)) ∧ (decode cX7_held 36 = .ok (.if_icmp .ge 24, 3)) ∧ (decode cX7_held 39 = .ok (.aload_n 0, 1)) := by decide +kernel
theorem dX7_held_0 : decode cX7_held 0 = .ok (.iload_n 1, 1) := edX7_held_0.1
theorem dX7_held_1 : decode cX7_held 1 = .ok (.iconst 1, 1) := edX7_held_0.2.1
theorem dX7_held_2 : decode cX7_held 2 = .ok (.bipush 60, 2) := edX7_held_0.2.2.1
theorem dX7_held_4 : decode cX7_held 4 = .ok (.invokestatic 74, 3) := edX7_held_0.2.2.2.1
theorem dX7_held_7 : decode cX7_held 7 = .ok (.ifCond .ne 6, 3) := edX7_held_0.2.2.2.2.1
theorem dX7_held_10 : decode cX7_held 10 = .ok (.ldc 78, 2) := edX7_held_0.2.2.2.2.2.1
theorem dX7_held_12 : decode cX7_held 12 = .ok (.ireturn, 1) := edX7_held_0.2.2.2.2.2.2.1
theorem dX7_held_13 : decode cX7_held 13 = .ok (.aload_n 0, 1) := edX7_held_0.2.2.2.2.2.2.2.1
theorem dX7_held_14 : decode cX7_held 14 = .ok (.iconst (-1), 1) := edX7_held_0.2.2.2.2.2.2.2.2.1
theorem dX7_held_15 : decode cX7_held 15 = .ok (.iload_n 1, 1) := edX7_held_0.2.2.2.2.2.2.2.2.2.1
theorem dX7_held_16 : decode cX7_held 16 = .ok (.invokevirtual 201, 3) := edX7_held_0.2.2.2.2.2.2.2.2.2.2.1
theorem dX7_held_19 : decode cX7_held 19 = .ok (.ifCond .eq 5, 3) := edX7_held_0.2.2.2.2.2.2.2.2.2.2.2.1
theorem dX7_held_22 : decode cX7_held 22 = .ok (.iconst 0, 1) := edX7_held_0.2.2.2.2.2.2.2.2.2.2.2.2.1
theorem dX7_held_23 : decode cX7_held 23 = .ok (.ireturn, 1) := edX7_held_0.2.2.2.2.2.2.2.2.2.2.2.2.2.1
theorem dX7_held_24 : decode cX7_held 24 = .ok (.iconst 0, 1) := edX7_held_0.2.2.2.2.2.2.2.2.2.2.2.2.2.2.1
theorem dX7_held_25 : decode cX7_held 25 = .ok (.istore_n 2, 1) := edX7_held_0.2.2.2.2.2.2.2.2.2.2.2.2.2.2.2.1
theorem dX7_held_26 : decode cX7_held 26 = .ok (.iconst 0, 1) := edX7_held_0.2.2.2.2.2.2.2.2.2.2.2.2.2.2.2.2.1
theorem dX7_held_27 : decode cX7_held 27 = .ok (.istore_n 3, 1) := edX7_held_0.2.2.2.2.2.2.2.2.2.2.2.2.2.2.2.2.2.1
theorem dX7_held_28 : decode cX7_held 28 = .ok (.iload_n 3, 1) := edX7_held_0.2.2.2.2.2.2.2.2.2.2.2.2.2.2.2.2.2.2.1
theorem dX7_held_29 : decode cX7_held 29 = .ok (.aload_n 0, 1) := edX7_held_0.2.2.2.2.2.2.2.2.2.2.2.2.2.2.2.2.2.2.2.1
theorem dX7_held_30 : decode cX7_held 30 = .ok (.getfield 10, 3) := edX7_held_0.2.2.2.2.2.2.2.2.2.2.2.2.2.2.2.2.2.2.2.2.1
theorem dX7_held_33 : decode cX7_held 33 = .ok (.getfield 79, 3) := edX7_held_0.2.2.2.2.2.2.2.2.2.2.2.2.2.2.2.2.2.2.2.2.2.1
theorem dX7_held_36 : decode cX7_held 36 = .ok (.if_icmp .ge 24, 3) := edX7_held_0.2.2.2.2.2.2.2.2.2.2.2.2.2.2.2.2.2.2.2.2.2.2.1
theorem dX7_held_39 : decode cX7_held 39 = .ok (.aload_n 0, 1) := edX7_held_0.2.2.2.2.2.2.2.2.2.2.2.2.2.2.2.2.2.2.2.2.2.2.2
theorem edX7_held_40 : (decode cX7_held 40 = .ok (.iload_n 3, 1)) ∧ (decode cX7_held 41 = .ok (.iload_n 1, 1)) ∧ (decode cX7_held 42 = .ok (.invokevirtual 201, 3)) ∧ (decode cX7_held 45 = .ok (.ifCond .eq 9, 3)) ∧ (decode cX7_held 48 = .ok (.iload_n 2, 1)) ∧ (decode cX7_held 49 = .ok (.iconst 1, 1)) ∧ (decode cX7_held 50 = .ok (.iload_n 3, 1)) ∧ (decode cX7_held 51 = .ok (.ishl, 1)) ∧ (decode cX7_held 52 = .ok (.ior, 1)) ∧ (decode cX7_held 53 = .ok (.istore_n 2, 1)) ∧ (decode cX7_held 54 = .ok (.iinc 3 1, 3)) ∧ (decode cX7_held 57 = .ok (.goto (-29), 3)) ∧ (decode cX7_held 60 = .ok (.iload_n 2, 1)) ∧ (decode cX7_held 61 = .ok (.ireturn, 1)) := by decide +kernel
theorem dX7_held_40 : decode cX7_held 40 = .ok (.iload_n 3, 1) := edX7_held_40.1
theorem dX7_held_41 : decode cX7_held 41 = .ok (.iload_n 1, 1) := edX7_held_40.2.1
theorem dX7_held_42 : decode cX7_held 42 = .ok (.invokevirtual 201, 3) := edX7_held_40.2.2.1
theorem dX7_held_45 : decode cX7_held 45 = .ok (.ifCond .eq 9, 3) := edX7_held_40.2.2.2.1
theorem dX7_held_48 : decode cX7_held 48 = .ok (.iload_n 2, 1) := edX7_held_40.2.2.2.2.1
theorem dX7_held_49 : decode cX7_held 49 = .ok (.iconst 1, 1) := edX7_held_40.2.2.2.2.2.1
theorem dX7_held_50 : decode cX7_held 50 = .ok (.iload_n 3, 1) := edX7_held_40.2.2.2.2.2.2.1
theorem dX7_held_51 : decode cX7_held 51 = .ok (.ishl, 1) := edX7_held_40.2.2.2.2.2.2.2.1
theorem dX7_held_52 : decode cX7_held 52 = .ok (.ior, 1) := edX7_held_40.2.2.2.2.2.2.2.2.1
theorem dX7_held_53 : decode cX7_held 53 = .ok (.istore_n 2, 1) := edX7_held_40.2.2.2.2.2.2.2.2.2.1
theorem dX7_held_54 : decode cX7_held 54 = .ok (.iinc 3 1, 3) := edX7_held_40.2.2.2.2.2.2.2.2.2.2.1
theorem dX7_held_57 : decode cX7_held 57 = .ok (.goto (-29), 3) := edX7_held_40.2.2.2.2.2.2.2.2.2.2.2.1
theorem dX7_held_60 : decode cX7_held 60 = .ok (.iload_n 2, 1) := edX7_held_40.2.2.2.2.2.2.2.2.2.2.2.2.1
theorem dX7_held_61 : decode cX7_held 61 = .ok (.ireturn, 1) := edX7_held_40.2.2.2.2.2.2.2.2.2.2.2.2.2
theorem edX7_peaceWithout_0 : (decode cX7_peaceWithout 0 = .ok (.aload_n 0, 1)) ∧ (decode cX7_peaceWithout 1 = .ok (.getfield 16, 3)) ∧ (decode cX7_peaceWithout 4 = .ok (.aload_n 0, 1)) ∧ (decode cX7_peaceWithout 5 = .ok (.getfield 10, 3)) ∧ (decode cX7_peaceWithout 8 = .ok (.invokevirtual 193, 3)) ∧ (decode cX7_peaceWithout 11 = .ok (.aload_n 0, 1)) ∧ (decode cX7_peaceWithout 12 = .ok (.getfield 16, 3)) ∧ (decode cX7_peaceWithout 15 = .ok (.iload_n 2, 1)) ∧ (decode cX7_peaceWithout 16 = .ok (.iload_n 1, 1)) ∧ (decode cX7_peaceWithout 17 = .ok (.invokevirtual 163, 3)) ∧ (decode cX7_peaceWithout 20 = .ok (.pop, 1)) ∧ (decode cX7_peaceWithout 21 = .ok (.aload_n 0, 1)) ∧ (decode cX7_peaceWithout 22 = .ok (.getfield 16, 3)) ∧ (decode cX7_peaceWithout 25 = .ok (.invokevirtual 169, 3)) ∧ (decode cX7_peaceWithout 28 = .ok (.ireturn, 1)) := by decide +kernel
theorem dX7_peaceWithout_0 : decode cX7_peaceWithout 0 = .ok (.aload_n 0, 1) := edX7_peaceWithout_0.1
theorem dX7_peaceWithout_1 : decode cX7_peaceWithout 1 = .ok (.getfield 16, 3) := edX7_peaceWithout_0.2.1
theorem dX7_peaceWithout_4 : decode cX7_peaceWithout 4 = .ok (.aload_n 0, 1) := edX7_peaceWithout_0.2.2.1
theorem dX7_peaceWithout_5 : decode cX7_peaceWithout 5 = .ok (.getfield 10, 3) := edX7_peaceWithout_0.2.2.2.1
theorem dX7_peaceWithout_8 : decode cX7_peaceWithout 8 = .ok (.invokevirtual 193, 3) := edX7_peaceWithout_0.2.2.2.2.1
theorem dX7_peaceWithout_11 : decode cX7_peaceWithout 11 = .ok (.aload_n 0, 1) := edX7_peaceWithout_0.2.2.2.2.2.1
theorem dX7_peaceWithout_12 : decode cX7_peaceWithout 12 = .ok (.getfield 16, 3) := edX7_peaceWithout_0.2.2.2.2.2.2.1
theorem dX7_peaceWithout_15 : decode cX7_peaceWithout 15 = .ok (.iload_n 2, 1) := edX7_peaceWithout_0.2.2.2.2.2.2.2.1
theorem dX7_peaceWithout_16 : decode cX7_peaceWithout 16 = .ok (.iload_n 1, 1) := edX7_peaceWithout_0.2.2.2.2.2.2.2.2.1
theorem dX7_peaceWithout_17 : decode cX7_peaceWithout 17 = .ok (.invokevirtual 163, 3) := edX7_peaceWithout_0.2.2.2.2.2.2.2.2.2.1
theorem dX7_peaceWithout_20 : decode cX7_peaceWithout 20 = .ok (.pop, 1) := edX7_peaceWithout_0.2.2.2.2.2.2.2.2.2.2.1
theorem dX7_peaceWithout_21 : decode cX7_peaceWithout 21 = .ok (.aload_n 0, 1) := edX7_peaceWithout_0.2.2.2.2.2.2.2.2.2.2.2.1
theorem dX7_peaceWithout_22 : decode cX7_peaceWithout 22 = .ok (.getfield 16, 3) := edX7_peaceWithout_0.2.2.2.2.2.2.2.2.2.2.2.2.1
theorem dX7_peaceWithout_25 : decode cX7_peaceWithout 25 = .ok (.invokevirtual 169, 3) := edX7_peaceWithout_0.2.2.2.2.2.2.2.2.2.2.2.2.2.1
theorem dX7_peaceWithout_28 : decode cX7_peaceWithout 28 = .ok (.ireturn, 1) := edX7_peaceWithout_0.2.2.2.2.2.2.2.2.2.2.2.2.2.2
theorem edX7_cool_0 : (decode cX7_cool 0 = .ok (.iload_n 1, 1)) ∧ (decode cX7_cool 1 = .ok (.iconst 1, 1)) ∧ (decode cX7_cool 2 = .ok (.bipush 40, 2)) ∧ (decode cX7_cool 4 = .ok (.invokestatic 74, 3)) ∧ (decode cX7_cool 7 = .ok (.ifCond .ne 6, 3)) ∧ (decode cX7_cool 10 = .ok (.ldc 78, 2)) ∧ (decode cX7_cool 12 = .ok (.ireturn, 1)) ∧ (decode cX7_cool 13 = .ok (.bipush 99, 2)) ∧ (decode cX7_cool 15 = .ok (.istore_n 2, 1)) ∧ (decode cX7_cool 16 = .ok (.iload_n 2, 1)) ∧ (decode cX7_cool 17 = .ok (.ifCond .lt 50, 3)) ∧ (decode cX7_cool 20 = .ok (.aload_n 0, 1)) ∧ (decode cX7_cool 21 = .ok (.getfield 16, 3)) ∧ (decode cX7_cool 24 = .ok (.aload_n 0, 1)) ∧ (decode cX7_cool 25 = .ok (.getfield 10, 3)) ∧ (decode cX7_cool 28 = .ok (.invokevirtual 193, 3)) ∧ (decode cX7_cool 31 = .ok (.aload_n 0, 1)) ∧ (decode cX7_cool 32 = .ok (.getfield 16, 3)) ∧ (decode cX7_cool 35 = .ok (.iload_n 2, 1)) ∧ (decode cX7_cool 36 = .ok (.putfield 139, 3)) ∧ (decode cX7_cool 39 = .ok (.aload_n 0, 1)) ∧ (decode cX7_cool 40 = .ok (.getfield 16, 3)) ∧ (decode cX7_cool 43 = .ok (.iload_n 1, 1)) ∧ (decode cX7_cool 44 = .ok (.iconst (-1), 1)) := by decide +kernel
theorem dX7_cool_0 : decode cX7_cool 0 = .ok (.iload_n 1, 1) := edX7_cool_0.1
theorem dX7_cool_1 : decode cX7_cool 1 = .ok (.iconst 1, 1) := edX7_cool_0.2.1
theorem dX7_cool_2 : decode cX7_cool 2 = .ok (.bipush 40, 2) := edX7_cool_0.2.2.1
theorem dX7_cool_4 : decode cX7_cool 4 = .ok (.invokestatic 74, 3) := edX7_cool_0.2.2.2.1
theorem dX7_cool_7 : decode cX7_cool 7 = .ok (.ifCond .ne 6, 3) := edX7_cool_0.2.2.2.2.1
theorem dX7_cool_10 : decode cX7_cool 10 = .ok (.ldc 78, 2) := edX7_cool_0.2.2.2.2.2.1
theorem dX7_cool_12 : decode cX7_cool 12 = .ok (.ireturn, 1) := edX7_cool_0.2.2.2.2.2.2.1
theorem dX7_cool_13 : decode cX7_cool 13 = .ok (.bipush 99, 2) := edX7_cool_0.2.2.2.2.2.2.2.1
theorem dX7_cool_15 : decode cX7_cool 15 = .ok (.istore_n 2, 1) := edX7_cool_0.2.2.2.2.2.2.2.2.1
theorem dX7_cool_16 : decode cX7_cool 16 = .ok (.iload_n 2, 1) := edX7_cool_0.2.2.2.2.2.2.2.2.2.1
theorem dX7_cool_17 : decode cX7_cool 17 = .ok (.ifCond .lt 50, 3) := edX7_cool_0.2.2.2.2.2.2.2.2.2.2.1
theorem dX7_cool_20 : decode cX7_cool 20 = .ok (.aload_n 0, 1) := edX7_cool_0.2.2.2.2.2.2.2.2.2.2.2.1
theorem dX7_cool_21 : decode cX7_cool 21 = .ok (.getfield 16, 3) := edX7_cool_0.2.2.2.2.2.2.2.2.2.2.2.2.1
theorem dX7_cool_24 : decode cX7_cool 24 = .ok (.aload_n 0, 1) := edX7_cool_0.2.2.2.2.2.2.2.2.2.2.2.2.2.1
theorem dX7_cool_25 : decode cX7_cool 25 = .ok (.getfield 10, 3) := edX7_cool_0.2.2.2.2.2.2.2.2.2.2.2.2.2.2.1
theorem dX7_cool_28 : decode cX7_cool 28 = .ok (.invokevirtual 193, 3) := edX7_cool_0.2.2.2.2.2.2.2.2.2.2.2.2.2.2.2.1
theorem dX7_cool_31 : decode cX7_cool 31 = .ok (.aload_n 0, 1) := edX7_cool_0.2.2.2.2.2.2.2.2.2.2.2.2.2.2.2.2.1
theorem dX7_cool_32 : decode cX7_cool 32 = .ok (.getfield 16, 3) := edX7_cool_0.2.2.2.2.2.2.2.2.2.2.2.2.2.2.2.2.2.1
theorem dX7_cool_35 : decode cX7_cool 35 = .ok (.iload_n 2, 1) := edX7_cool_0.2.2.2.2.2.2.2.2.2.2.2.2.2.2.2.2.2.2.1
theorem dX7_cool_36 : decode cX7_cool 36 = .ok (.putfield 139, 3) := edX7_cool_0.2.2.2.2.2.2.2.2.2.2.2.2.2.2.2.2.2.2.2.1
theorem dX7_cool_39 : decode cX7_cool 39 = .ok (.aload_n 0, 1) := edX7_cool_0.2.2.2.2.2.2.2.2.2.2.2.2.2.2.2.2.2.2.2.2.1
theorem dX7_cool_40 : decode cX7_cool 40 = .ok (.getfield 16, 3) := edX7_cool_0.2.2.2.2.2.2.2.2.2.2.2.2.2.2.2.2.2.2.2.2.2.1
theorem dX7_cool_43 : decode cX7_cool 43 = .ok (.iload_n 1, 1) := edX7_cool_0.2.2.2.2.2.2.2.2.2.2.2.2.2.2.2.2.2.2.2.2.2.2.1
theorem dX7_cool_44 : decode cX7_cool 44 = .ok (.iconst (-1), 1) := edX7_cool_0.2.2.2.2.2.2.2.2.2.2.2.2.2.2.2.2.2.2.2.2.2.2.2
theorem edX7_cool_45 : (decode cX7_cool 45 = .ok (.invokevirtual 163, 3)) ∧ (decode cX7_cool 48 = .ok (.pop, 1)) ∧ (decode cX7_cool 49 = .ok (.aload_n 0, 1)) ∧ (decode cX7_cool 50 = .ok (.getfield 16, 3)) ∧ (decode cX7_cool 53 = .ok (.invokevirtual 169, 3)) ∧ (decode cX7_cool 56 = .ok (.ifCond .eq 5, 3)) ∧ (decode cX7_cool 59 = .ok (.iload_n 2, 1)) ∧ (decode cX7_cool 60 = .ok (.ireturn, 1)) ∧ (decode cX7_cool 61 = .ok (.iinc 2 (-1), 3)) ∧ (decode cX7_cool 64 = .ok (.goto (-48), 3)) ∧ (decode cX7_cool 67 = .ok (.ldc 200, 2)) ∧ (decode cX7_cool 69 = .ok (.ireturn, 1)) := by decide +kernel
theorem dX7_cool_45 : decode cX7_cool 45 = .ok (.invokevirtual 163, 3) := edX7_cool_45.1
theorem dX7_cool_48 : decode cX7_cool 48 = .ok (.pop, 1) := edX7_cool_45.2.1
theorem dX7_cool_49 : decode cX7_cool 49 = .ok (.aload_n 0, 1) := edX7_cool_45.2.2.1
theorem dX7_cool_50 : decode cX7_cool 50 = .ok (.getfield 16, 3) := edX7_cool_45.2.2.2.1
theorem dX7_cool_53 : decode cX7_cool 53 = .ok (.invokevirtual 169, 3) := edX7_cool_45.2.2.2.2.1
theorem dX7_cool_56 : decode cX7_cool 56 = .ok (.ifCond .eq 5, 3) := edX7_cool_45.2.2.2.2.2.1
theorem dX7_cool_59 : decode cX7_cool 59 = .ok (.iload_n 2, 1) := edX7_cool_45.2.2.2.2.2.2.1
theorem dX7_cool_60 : decode cX7_cool 60 = .ok (.ireturn, 1) := edX7_cool_45.2.2.2.2.2.2.2.1
theorem dX7_cool_61 : decode cX7_cool 61 = .ok (.iinc 2 (-1), 3) := edX7_cool_45.2.2.2.2.2.2.2.2.1
theorem dX7_cool_64 : decode cX7_cool 64 = .ok (.goto (-48), 3) := edX7_cool_45.2.2.2.2.2.2.2.2.2.1
theorem dX7_cool_67 : decode cX7_cool 67 = .ok (.ldc 200, 2) := edX7_cool_45.2.2.2.2.2.2.2.2.2.2.1
theorem dX7_cool_69 : decode cX7_cool 69 = .ok (.ireturn, 1) := edX7_cool_45.2.2.2.2.2.2.2.2.2.2.2
theorem edX7_bought_0 : (decode cX7_bought 0 = .ok (.iload_n 1, 1)) ∧ (decode cX7_bought 1 = .ok (.iconst 1, 1)) ∧ (decode cX7_bought 2 = .ok (.bipush 60, 2)) ∧ (decode cX7_bought 4 = .ok (.invokestatic 74, 3)) ∧ (decode cX7_bought 7 = .ok (.ifCond .eq 12, 3)) ∧ (decode cX7_bought 10 = .ok (.iload_n 2, 1)) ∧ (decode cX7_bought 11 = .ok (.iconst 0, 1)) ∧ (decode cX7_bought 12 = .ok (.iconst 1, 1)) ∧ (decode cX7_bought 13 = .ok (.invokestatic 74, 3)) ∧ (decode cX7_bought 16 = .ok (.ifCond .ne 6, 3)) ∧ (decode cX7_bought 19 = .ok (.ldc 78, 2)) ∧ (decode cX7_bought 21 = .ok (.ireturn, 1)) ∧ (decode cX7_bought 22 = .ok (.ldc 200, 2)) ∧ (decode cX7_bought 24 = .ok (.istore_n 3, 1)) ∧ (decode cX7_bought 25 = .ok (.ldc 200, 2)) ∧ (decode cX7_bought 27 = .ok (.istore 4, 2)) ∧ (decode cX7_bought 29 = .ok (.iconst 0, 1)) ∧ (decode cX7_bought 30 = .ok (.istore 5, 2)) ∧ (decode cX7_bought 32 = .ok (.iload 5, 2)) ∧ (decode cX7_bought 34 = .ok (.aload_n 0, 1)) ∧ (decode cX7_bought 35 = .ok (.getfield 10, 3)) ∧ (decode cX7_bought 38 = .ok (.getfield 79, 3)) ∧ (decode cX7_bought 41 = .ok (.if_icmp .ge 80, 3)) ∧ (decode cX7_bought 44 = .ok (.aload_n 0, 1)) := by decide +kernel
theorem dX7_bought_0 : decode cX7_bought 0 = .ok (.iload_n 1, 1) := edX7_bought_0.1
theorem dX7_bought_1 : decode cX7_bought 1 = .ok (.iconst 1, 1) := edX7_bought_0.2.1
theorem dX7_bought_2 : decode cX7_bought 2 = .ok (.bipush 60, 2) := edX7_bought_0.2.2.1
theorem dX7_bought_4 : decode cX7_bought 4 = .ok (.invokestatic 74, 3) := edX7_bought_0.2.2.2.1
theorem dX7_bought_7 : decode cX7_bought 7 = .ok (.ifCond .eq 12, 3) := edX7_bought_0.2.2.2.2.1
theorem dX7_bought_10 : decode cX7_bought 10 = .ok (.iload_n 2, 1) := edX7_bought_0.2.2.2.2.2.1
theorem dX7_bought_11 : decode cX7_bought 11 = .ok (.iconst 0, 1) := edX7_bought_0.2.2.2.2.2.2.1
theorem dX7_bought_12 : decode cX7_bought 12 = .ok (.iconst 1, 1) := edX7_bought_0.2.2.2.2.2.2.2.1
theorem dX7_bought_13 : decode cX7_bought 13 = .ok (.invokestatic 74, 3) := edX7_bought_0.2.2.2.2.2.2.2.2.1
theorem dX7_bought_16 : decode cX7_bought 16 = .ok (.ifCond .ne 6, 3) := edX7_bought_0.2.2.2.2.2.2.2.2.2.1
theorem dX7_bought_19 : decode cX7_bought 19 = .ok (.ldc 78, 2) := edX7_bought_0.2.2.2.2.2.2.2.2.2.2.1
theorem dX7_bought_21 : decode cX7_bought 21 = .ok (.ireturn, 1) := edX7_bought_0.2.2.2.2.2.2.2.2.2.2.2.1
theorem dX7_bought_22 : decode cX7_bought 22 = .ok (.ldc 200, 2) := edX7_bought_0.2.2.2.2.2.2.2.2.2.2.2.2.1
theorem dX7_bought_24 : decode cX7_bought 24 = .ok (.istore_n 3, 1) := edX7_bought_0.2.2.2.2.2.2.2.2.2.2.2.2.2.1
theorem dX7_bought_25 : decode cX7_bought 25 = .ok (.ldc 200, 2) := edX7_bought_0.2.2.2.2.2.2.2.2.2.2.2.2.2.2.1
theorem dX7_bought_27 : decode cX7_bought 27 = .ok (.istore 4, 2) := edX7_bought_0.2.2.2.2.2.2.2.2.2.2.2.2.2.2.2.1
theorem dX7_bought_29 : decode cX7_bought 29 = .ok (.iconst 0, 1) := edX7_bought_0.2.2.2.2.2.2.2.2.2.2.2.2.2.2.2.2.1
theorem dX7_bought_30 : decode cX7_bought 30 = .ok (.istore 5, 2) := edX7_bought_0.2.2.2.2.2.2.2.2.2.2.2.2.2.2.2.2.2.1
theorem dX7_bought_32 : decode cX7_bought 32 = .ok (.iload 5, 2) := edX7_bought_0.2.2.2.2.2.2.2.2.2.2.2.2.2.2.2.2.2.2.1
theorem dX7_bought_34 : decode cX7_bought 34 = .ok (.aload_n 0, 1) := edX7_bought_0.2.2.2.2.2.2.2.2.2.2.2.2.2.2.2.2.2.2.2.1
theorem dX7_bought_35 : decode cX7_bought 35 = .ok (.getfield 10, 3) := edX7_bought_0.2.2.2.2.2.2.2.2.2.2.2.2.2.2.2.2.2.2.2.2.1
theorem dX7_bought_38 : decode cX7_bought 38 = .ok (.getfield 79, 3) := edX7_bought_0.2.2.2.2.2.2.2.2.2.2.2.2.2.2.2.2.2.2.2.2.2.1
theorem dX7_bought_41 : decode cX7_bought 41 = .ok (.if_icmp .ge 80, 3) := edX7_bought_0.2.2.2.2.2.2.2.2.2.2.2.2.2.2.2.2.2.2.2.2.2.2.1
theorem dX7_bought_44 : decode cX7_bought 44 = .ok (.aload_n 0, 1) := edX7_bought_0.2.2.2.2.2.2.2.2.2.2.2.2.2.2.2.2.2.2.2.2.2.2.2
theorem edX7_bought_45 : (decode cX7_bought 45 = .ok (.getfield 16, 3)) ∧ (decode cX7_bought 48 = .ok (.aload_n 0, 1)) ∧ (decode cX7_bought 49 = .ok (.getfield 10, 3)) ∧ (decode cX7_bought 52 = .ok (.invokevirtual 193, 3)) ∧ (decode cX7_bought 55 = .ok (.aload_n 0, 1)) ∧ (decode cX7_bought 56 = .ok (.getfield 16, 3)) ∧ (decode cX7_bought 59 = .ok (.getfield 90, 3)) ∧ (decode cX7_bought 62 = .ok (.iload 5, 2)) ∧ (decode cX7_bought 64 = .ok (.iconst 5, 1)) ∧ (decode cX7_bought 65 = .ok (.iastore, 1)) ∧ (decode cX7_bought 66 = .ok (.aload_n 0, 1)) ∧ (decode cX7_bought 67 = .ok (.getfield 16, 3)) ∧ (decode cX7_bought 70 = .ok (.iload_n 1, 1)) ∧ (decode cX7_bought 71 = .ok (.iconst (-1), 1)) ∧ (decode cX7_bought 72 = .ok (.invokevirtual 163, 3)) ∧ (decode cX7_bought 75 = .ok (.pop, 1)) ∧ (decode cX7_bought 76 = .ok (.aload_n 0, 1)) ∧ (decode cX7_bought 77 = .ok (.getfield 16, 3)) ∧ (decode cX7_bought 80 = .ok (.aload_n 0, 1)) ∧ (decode cX7_bought 81 = .ok (.getfield 16, 3)) ∧ (decode cX7_bought 84 = .ok (.getfield 93, 3)) ∧ (decode cX7_bought 87 = .ok (.iload 5, 2)) ∧ (decode cX7_bought 89 = .ok (.iaload, 1)) ∧ (decode cX7_bought 90 = .ok (.invokevirtual 166, 3)) := by decide +kernel
theorem dX7_bought_45 : decode cX7_bought 45 = .ok (.getfield 16, 3) := edX7_bought_45.1
theorem dX7_bought_48 : decode cX7_bought 48 = .ok (.aload_n 0, 1) := edX7_bought_45.2.1
theorem dX7_bought_49 : decode cX7_bought 49 = .ok (.getfield 10, 3) := edX7_bought_45.2.2.1
theorem dX7_bought_52 : decode cX7_bought 52 = .ok (.invokevirtual 193, 3) := edX7_bought_45.2.2.2.1
theorem dX7_bought_55 : decode cX7_bought 55 = .ok (.aload_n 0, 1) := edX7_bought_45.2.2.2.2.1
theorem dX7_bought_56 : decode cX7_bought 56 = .ok (.getfield 16, 3) := edX7_bought_45.2.2.2.2.2.1
theorem dX7_bought_59 : decode cX7_bought 59 = .ok (.getfield 90, 3) := edX7_bought_45.2.2.2.2.2.2.1
theorem dX7_bought_62 : decode cX7_bought 62 = .ok (.iload 5, 2) := edX7_bought_45.2.2.2.2.2.2.2.1
theorem dX7_bought_64 : decode cX7_bought 64 = .ok (.iconst 5, 1) := edX7_bought_45.2.2.2.2.2.2.2.2.1
theorem dX7_bought_65 : decode cX7_bought 65 = .ok (.iastore, 1) := edX7_bought_45.2.2.2.2.2.2.2.2.2.1
theorem dX7_bought_66 : decode cX7_bought 66 = .ok (.aload_n 0, 1) := edX7_bought_45.2.2.2.2.2.2.2.2.2.2.1
theorem dX7_bought_67 : decode cX7_bought 67 = .ok (.getfield 16, 3) := edX7_bought_45.2.2.2.2.2.2.2.2.2.2.2.1
theorem dX7_bought_70 : decode cX7_bought 70 = .ok (.iload_n 1, 1) := edX7_bought_45.2.2.2.2.2.2.2.2.2.2.2.2.1
theorem dX7_bought_71 : decode cX7_bought 71 = .ok (.iconst (-1), 1) := edX7_bought_45.2.2.2.2.2.2.2.2.2.2.2.2.2.1
theorem dX7_bought_72 : decode cX7_bought 72 = .ok (.invokevirtual 163, 3) := edX7_bought_45.2.2.2.2.2.2.2.2.2.2.2.2.2.2.1
theorem dX7_bought_75 : decode cX7_bought 75 = .ok (.pop, 1) := edX7_bought_45.2.2.2.2.2.2.2.2.2.2.2.2.2.2.2.1
theorem dX7_bought_76 : decode cX7_bought 76 = .ok (.aload_n 0, 1) := edX7_bought_45.2.2.2.2.2.2.2.2.2.2.2.2.2.2.2.2.1
theorem dX7_bought_77 : decode cX7_bought 77 = .ok (.getfield 16, 3) := edX7_bought_45.2.2.2.2.2.2.2.2.2.2.2.2.2.2.2.2.2.1
theorem dX7_bought_80 : decode cX7_bought 80 = .ok (.aload_n 0, 1) := edX7_bought_45.2.2.2.2.2.2.2.2.2.2.2.2.2.2.2.2.2.2.1
theorem dX7_bought_81 : decode cX7_bought 81 = .ok (.getfield 16, 3) := edX7_bought_45.2.2.2.2.2.2.2.2.2.2.2.2.2.2.2.2.2.2.2.1
theorem dX7_bought_84 : decode cX7_bought 84 = .ok (.getfield 93, 3) := edX7_bought_45.2.2.2.2.2.2.2.2.2.2.2.2.2.2.2.2.2.2.2.2.1
theorem dX7_bought_87 : decode cX7_bought 87 = .ok (.iload 5, 2) := edX7_bought_45.2.2.2.2.2.2.2.2.2.2.2.2.2.2.2.2.2.2.2.2.2.1
theorem dX7_bought_89 : decode cX7_bought 89 = .ok (.iaload, 1) := edX7_bought_45.2.2.2.2.2.2.2.2.2.2.2.2.2.2.2.2.2.2.2.2.2.2.1
theorem dX7_bought_90 : decode cX7_bought 90 = .ok (.invokevirtual 166, 3) := edX7_bought_45.2.2.2.2.2.2.2.2.2.2.2.2.2.2.2.2.2.2.2.2.2.2.2
theorem edX7_bought_93 : (decode cX7_bought 93 = .ok (.istore 6, 2)) ∧ (decode cX7_bought 95 = .ok (.iload_n 3, 1)) ∧ (decode cX7_bought 96 = .ok (.ldc 200, 2)) ∧ (decode cX7_bought 98 = .ok (.if_icmp .eq 10, 3)) ∧ (decode cX7_bought 101 = .ok (.iload 6, 2)) ∧ (decode cX7_bought 103 = .ok (.iload 4, 2)) ∧ (decode cX7_bought 105 = .ok (.if_icmp .ge 10, 3)) ∧ (decode cX7_bought 108 = .ok (.iload 5, 2)) ∧ (decode cX7_bought 110 = .ok (.istore_n 3, 1)) ∧ (decode cX7_bought 111 = .ok (.iload 6, 2)) ∧ (decode cX7_bought 113 = .ok (.istore 4, 2)) ∧ (decode cX7_bought 115 = .ok (.iinc 5 1, 3)) ∧ (decode cX7_bought 118 = .ok (.goto (-86), 3)) ∧ (decode cX7_bought 121 = .ok (.iload_n 2, 1)) ∧ (decode cX7_bought 122 = .ok (.ifCond .ne 7, 3)) ∧ (decode cX7_bought 125 = .ok (.iload_n 3, 1)) ∧ (decode cX7_bought 126 = .ok (.goto 5, 3)) ∧ (decode cX7_bought 129 = .ok (.iload 4, 2)) ∧ (decode cX7_bought 131 = .ok (.ireturn, 1)) := by decide +kernel
theorem dX7_bought_93 : decode cX7_bought 93 = .ok (.istore 6, 2) := edX7_bought_93.1
theorem dX7_bought_95 : decode cX7_bought 95 = .ok (.iload_n 3, 1) := edX7_bought_93.2.1
theorem dX7_bought_96 : decode cX7_bought 96 = .ok (.ldc 200, 2) := edX7_bought_93.2.2.1
theorem dX7_bought_98 : decode cX7_bought 98 = .ok (.if_icmp .eq 10, 3) := edX7_bought_93.2.2.2.1
theorem dX7_bought_101 : decode cX7_bought 101 = .ok (.iload 6, 2) := edX7_bought_93.2.2.2.2.1
theorem dX7_bought_103 : decode cX7_bought 103 = .ok (.iload 4, 2) := edX7_bought_93.2.2.2.2.2.1
theorem dX7_bought_105 : decode cX7_bought 105 = .ok (.if_icmp .ge 10, 3) := edX7_bought_93.2.2.2.2.2.2.1
theorem dX7_bought_108 : decode cX7_bought 108 = .ok (.iload 5, 2) := edX7_bought_93.2.2.2.2.2.2.2.1
theorem dX7_bought_110 : decode cX7_bought 110 = .ok (.istore_n 3, 1) := edX7_bought_93.2.2.2.2.2.2.2.2.1
theorem dX7_bought_111 : decode cX7_bought 111 = .ok (.iload 6, 2) := edX7_bought_93.2.2.2.2.2.2.2.2.2.1
theorem dX7_bought_113 : decode cX7_bought 113 = .ok (.istore 4, 2) := edX7_bought_93.2.2.2.2.2.2.2.2.2.2.1
theorem dX7_bought_115 : decode cX7_bought 115 = .ok (.iinc 5 1, 3) := edX7_bought_93.2.2.2.2.2.2.2.2.2.2.2.1
theorem dX7_bought_118 : decode cX7_bought 118 = .ok (.goto (-86), 3) := edX7_bought_93.2.2.2.2.2.2.2.2.2.2.2.2.1
theorem dX7_bought_121 : decode cX7_bought 121 = .ok (.iload_n 2, 1) := edX7_bought_93.2.2.2.2.2.2.2.2.2.2.2.2.2.1
theorem dX7_bought_122 : decode cX7_bought 122 = .ok (.ifCond .ne 7, 3) := edX7_bought_93.2.2.2.2.2.2.2.2.2.2.2.2.2.2.1
theorem dX7_bought_125 : decode cX7_bought 125 = .ok (.iload_n 3, 1) := edX7_bought_93.2.2.2.2.2.2.2.2.2.2.2.2.2.2.2.1
theorem dX7_bought_126 : decode cX7_bought 126 = .ok (.goto 5, 3) := edX7_bought_93.2.2.2.2.2.2.2.2.2.2.2.2.2.2.2.2.1
theorem dX7_bought_129 : decode cX7_bought 129 = .ok (.iload 4, 2) := edX7_bought_93.2.2.2.2.2.2.2.2.2.2.2.2.2.2.2.2.2.1
theorem dX7_bought_131 : decode cX7_bought 131 = .ok (.ireturn, 1) := edX7_bought_93.2.2.2.2.2.2.2.2.2.2.2.2.2.2.2.2.2.2
theorem edX7_cared_0 : (decode cX7_cared 0 = .ok (.iload_n 1, 1)) ∧ (decode cX7_cared 1 = .ok (.invokestatic 204, 3)) ∧ (decode cX7_cared 4 = .ok (.ifCond .eq 19, 3)) ∧ (decode cX7_cared 7 = .ok (.iload_n 2, 1)) ∧ (decode cX7_cared 8 = .ok (.invokestatic 71, 3)) ∧ (decode cX7_cared 11 = .ok (.ifCond .eq 12, 3)) ∧ (decode cX7_cared 14 = .ok (.iload_n 3, 1)) ∧ (decode cX7_cared 15 = .ok (.iconst 0, 1)) ∧ (decode cX7_cared 16 = .ok (.iconst 1, 1)) ∧ (decode cX7_cared 17 = .ok (.invokestatic 74, 3)) ∧ (decode cX7_cared 20 = .ok (.ifCond .ne 6, 3)) ∧ (decode cX7_cared 23 = .ok (.ldc 78, 2)) ∧ (decode cX7_cared 25 = .ok (.ireturn, 1)) ∧ (decode cX7_cared 26 = .ok (.aload_n 0, 1)) ∧ (decode cX7_cared 27 = .ok (.getfield 47, 3)) ∧ (decode cX7_cared 30 = .ok (.iload_n 1, 1)) ∧ (decode cX7_cared 31 = .ok (.aaload, 1)) ∧ (decode cX7_cared 32 = .ok (.astore 4, 2)) ∧ (decode cX7_cared 34 = .ok (.aload 4, 2)) ∧ (decode cX7_cared 36 = .ok (.invokevirtual 207, 3)) ∧ (decode cX7_cared 39 = .ok (.ifCond .eq 6, 3)) ∧ (decode cX7_cared 42 = .ok (.ldc 210, 2)) ∧ (decode cX7_cared 44 = .ok (.ireturn, 1)) ∧ (decode cX7_cared 45 = .ok (.ldc 200, 2)) := by decide +kernel
theorem dX7_cared_0 : decode cX7_cared 0 = .ok (.iload_n 1, 1) := edX7_cared_0.1
theorem dX7_cared_1 : decode cX7_cared 1 = .ok (.invokestatic 204, 3) := edX7_cared_0.2.1
theorem dX7_cared_4 : decode cX7_cared 4 = .ok (.ifCond .eq 19, 3) := edX7_cared_0.2.2.1
theorem dX7_cared_7 : decode cX7_cared 7 = .ok (.iload_n 2, 1) := edX7_cared_0.2.2.2.1
theorem dX7_cared_8 : decode cX7_cared 8 = .ok (.invokestatic 71, 3) := edX7_cared_0.2.2.2.2.1
theorem dX7_cared_11 : decode cX7_cared 11 = .ok (.ifCond .eq 12, 3) := edX7_cared_0.2.2.2.2.2.1
theorem dX7_cared_14 : decode cX7_cared 14 = .ok (.iload_n 3, 1) := edX7_cared_0.2.2.2.2.2.2.1
theorem dX7_cared_15 : decode cX7_cared 15 = .ok (.iconst 0, 1) := edX7_cared_0.2.2.2.2.2.2.2.1
theorem dX7_cared_16 : decode cX7_cared 16 = .ok (.iconst 1, 1) := edX7_cared_0.2.2.2.2.2.2.2.2.1
theorem dX7_cared_17 : decode cX7_cared 17 = .ok (.invokestatic 74, 3) := edX7_cared_0.2.2.2.2.2.2.2.2.2.1
theorem dX7_cared_20 : decode cX7_cared 20 = .ok (.ifCond .ne 6, 3) := edX7_cared_0.2.2.2.2.2.2.2.2.2.2.1
theorem dX7_cared_23 : decode cX7_cared 23 = .ok (.ldc 78, 2) := edX7_cared_0.2.2.2.2.2.2.2.2.2.2.2.1
theorem dX7_cared_25 : decode cX7_cared 25 = .ok (.ireturn, 1) := edX7_cared_0.2.2.2.2.2.2.2.2.2.2.2.2.1
theorem dX7_cared_26 : decode cX7_cared 26 = .ok (.aload_n 0, 1) := edX7_cared_0.2.2.2.2.2.2.2.2.2.2.2.2.2.1
theorem dX7_cared_27 : decode cX7_cared 27 = .ok (.getfield 47, 3) := edX7_cared_0.2.2.2.2.2.2.2.2.2.2.2.2.2.2.1
theorem dX7_cared_30 : decode cX7_cared 30 = .ok (.iload_n 1, 1) := edX7_cared_0.2.2.2.2.2.2.2.2.2.2.2.2.2.2.2.1
theorem dX7_cared_31 : decode cX7_cared 31 = .ok (.aaload, 1) := edX7_cared_0.2.2.2.2.2.2.2.2.2.2.2.2.2.2.2.2.1
theorem dX7_cared_32 : decode cX7_cared 32 = .ok (.astore 4, 2) := edX7_cared_0.2.2.2.2.2.2.2.2.2.2.2.2.2.2.2.2.2.1
theorem dX7_cared_34 : decode cX7_cared 34 = .ok (.aload 4, 2) := edX7_cared_0.2.2.2.2.2.2.2.2.2.2.2.2.2.2.2.2.2.2.1
theorem dX7_cared_36 : decode cX7_cared 36 = .ok (.invokevirtual 207, 3) := edX7_cared_0.2.2.2.2.2.2.2.2.2.2.2.2.2.2.2.2.2.2.2.1
theorem dX7_cared_39 : decode cX7_cared 39 = .ok (.ifCond .eq 6, 3) := edX7_cared_0.2.2.2.2.2.2.2.2.2.2.2.2.2.2.2.2.2.2.2.2.1
theorem dX7_cared_42 : decode cX7_cared 42 = .ok (.ldc 210, 2) := edX7_cared_0.2.2.2.2.2.2.2.2.2.2.2.2.2.2.2.2.2.2.2.2.2.1
theorem dX7_cared_44 : decode cX7_cared 44 = .ok (.ireturn, 1) := edX7_cared_0.2.2.2.2.2.2.2.2.2.2.2.2.2.2.2.2.2.2.2.2.2.2.1
theorem dX7_cared_45 : decode cX7_cared 45 = .ok (.ldc 200, 2) := edX7_cared_0.2.2.2.2.2.2.2.2.2.2.2.2.2.2.2.2.2.2.2.2.2.2.2
theorem edX7_cared_47 : (decode cX7_cared 47 = .ok (.istore 5, 2)) ∧ (decode cX7_cared 49 = .ok (.ldc 200, 2)) ∧ (decode cX7_cared 51 = .ok (.istore 6, 2)) ∧ (decode cX7_cared 53 = .ok (.iconst 0, 1)) ∧ (decode cX7_cared 54 = .ok (.istore 7, 2)) ∧ (decode cX7_cared 56 = .ok (.iload 7, 2)) ∧ (decode cX7_cared 58 = .ok (.iconst 4, 1)) ∧ (decode cX7_cared 59 = .ok (.if_icmp .ge 76, 3)) ∧ (decode cX7_cared 62 = .ok (.aload_n 0, 1)) ∧ (decode cX7_cared 63 = .ok (.getfield 16, 3)) ∧ (decode cX7_cared 66 = .ok (.aload_n 0, 1)) ∧ (decode cX7_cared 67 = .ok (.getfield 10, 3)) ∧ (decode cX7_cared 70 = .ok (.invokevirtual 193, 3)) ∧ (decode cX7_cared 73 = .ok (.aload_n 0, 1)) ∧ (decode cX7_cared 74 = .ok (.getfield 16, 3)) ∧ (decode cX7_cared 77 = .ok (.getfield 130, 3)) ∧ (decode cX7_cared 80 = .ok (.iload_n 2, 1)) ∧ (decode cX7_cared 81 = .ok (.iload 7, 2)) ∧ (decode cX7_cared 83 = .ok (.invokestatic 133, 3)) ∧ (decode cX7_cared 86 = .ok (.bipush 9, 2)) ∧ (decode cX7_cared 88 = .ok (.iastore, 1)) ∧ (decode cX7_cared 89 = .ok (.aload_n 0, 1)) ∧ (decode cX7_cared 90 = .ok (.getfield 16, 3)) ∧ (decode cX7_cared 93 = .ok (.iconst 1, 1)) := by decide +kernel
theorem dX7_cared_47 : decode cX7_cared 47 = .ok (.istore 5, 2) := edX7_cared_47.1
theorem dX7_cared_49 : decode cX7_cared 49 = .ok (.ldc 200, 2) := edX7_cared_47.2.1
theorem dX7_cared_51 : decode cX7_cared 51 = .ok (.istore 6, 2) := edX7_cared_47.2.2.1
theorem dX7_cared_53 : decode cX7_cared 53 = .ok (.iconst 0, 1) := edX7_cared_47.2.2.2.1
theorem dX7_cared_54 : decode cX7_cared 54 = .ok (.istore 7, 2) := edX7_cared_47.2.2.2.2.1
theorem dX7_cared_56 : decode cX7_cared 56 = .ok (.iload 7, 2) := edX7_cared_47.2.2.2.2.2.1
theorem dX7_cared_58 : decode cX7_cared 58 = .ok (.iconst 4, 1) := edX7_cared_47.2.2.2.2.2.2.1
theorem dX7_cared_59 : decode cX7_cared 59 = .ok (.if_icmp .ge 76, 3) := edX7_cared_47.2.2.2.2.2.2.2.1
theorem dX7_cared_62 : decode cX7_cared 62 = .ok (.aload_n 0, 1) := edX7_cared_47.2.2.2.2.2.2.2.2.1
theorem dX7_cared_63 : decode cX7_cared 63 = .ok (.getfield 16, 3) := edX7_cared_47.2.2.2.2.2.2.2.2.2.1
theorem dX7_cared_66 : decode cX7_cared 66 = .ok (.aload_n 0, 1) := edX7_cared_47.2.2.2.2.2.2.2.2.2.2.1
theorem dX7_cared_67 : decode cX7_cared 67 = .ok (.getfield 10, 3) := edX7_cared_47.2.2.2.2.2.2.2.2.2.2.2.1
theorem dX7_cared_70 : decode cX7_cared 70 = .ok (.invokevirtual 193, 3) := edX7_cared_47.2.2.2.2.2.2.2.2.2.2.2.2.1
theorem dX7_cared_73 : decode cX7_cared 73 = .ok (.aload_n 0, 1) := edX7_cared_47.2.2.2.2.2.2.2.2.2.2.2.2.2.1
theorem dX7_cared_74 : decode cX7_cared 74 = .ok (.getfield 16, 3) := edX7_cared_47.2.2.2.2.2.2.2.2.2.2.2.2.2.2.1
theorem dX7_cared_77 : decode cX7_cared 77 = .ok (.getfield 130, 3) := edX7_cared_47.2.2.2.2.2.2.2.2.2.2.2.2.2.2.2.1
theorem dX7_cared_80 : decode cX7_cared 80 = .ok (.iload_n 2, 1) := edX7_cared_47.2.2.2.2.2.2.2.2.2.2.2.2.2.2.2.2.1
theorem dX7_cared_81 : decode cX7_cared 81 = .ok (.iload 7, 2) := edX7_cared_47.2.2.2.2.2.2.2.2.2.2.2.2.2.2.2.2.2.1
theorem dX7_cared_83 : decode cX7_cared 83 = .ok (.invokestatic 133, 3) := edX7_cared_47.2.2.2.2.2.2.2.2.2.2.2.2.2.2.2.2.2.2.1
theorem dX7_cared_86 : decode cX7_cared 86 = .ok (.bipush 9, 2) := edX7_cared_47.2.2.2.2.2.2.2.2.2.2.2.2.2.2.2.2.2.2.2.1
theorem dX7_cared_88 : decode cX7_cared 88 = .ok (.iastore, 1) := edX7_cared_47.2.2.2.2.2.2.2.2.2.2.2.2.2.2.2.2.2.2.2.2.1
theorem dX7_cared_89 : decode cX7_cared 89 = .ok (.aload_n 0, 1) := edX7_cared_47.2.2.2.2.2.2.2.2.2.2.2.2.2.2.2.2.2.2.2.2.2.1
theorem dX7_cared_90 : decode cX7_cared 90 = .ok (.getfield 16, 3) := edX7_cared_47.2.2.2.2.2.2.2.2.2.2.2.2.2.2.2.2.2.2.2.2.2.2.1
theorem dX7_cared_93 : decode cX7_cared 93 = .ok (.iconst 1, 1) := edX7_cared_47.2.2.2.2.2.2.2.2.2.2.2.2.2.2.2.2.2.2.2.2.2.2.2
theorem edX7_cared_94 : (decode cX7_cared 94 = .ok (.iconst (-1), 1)) ∧ (decode cX7_cared 95 = .ok (.invokevirtual 163, 3)) ∧ (decode cX7_cared 98 = .ok (.pop, 1)) ∧ (decode cX7_cared 99 = .ok (.aload_n 0, 1)) ∧ (decode cX7_cared 100 = .ok (.aload 4, 2)) ∧ (decode cX7_cared 102 = .ok (.invokevirtual 211, 3)) ∧ (decode cX7_cared 105 = .ok (.istore 8, 2)) ∧ (decode cX7_cared 107 = .ok (.iload 5, 2)) ∧ (decode cX7_cared 109 = .ok (.ldc 200, 2)) ∧ (decode cX7_cared 111 = .ok (.if_icmp .eq 10, 3)) ∧ (decode cX7_cared 114 = .ok (.iload 8, 2)) ∧ (decode cX7_cared 116 = .ok (.iload 6, 2)) ∧ (decode cX7_cared 118 = .ok (.if_icmp .ge 11, 3)) ∧ (decode cX7_cared 121 = .ok (.iload 7, 2)) ∧ (decode cX7_cared 123 = .ok (.istore 5, 2)) ∧ (decode cX7_cared 125 = .ok (.iload 8, 2)) ∧ (decode cX7_cared 127 = .ok (.istore 6, 2)) ∧ (decode cX7_cared 129 = .ok (.iinc 7 1, 3)) ∧ (decode cX7_cared 132 = .ok (.goto (-76), 3)) ∧ (decode cX7_cared 135 = .ok (.iload_n 3, 1)) ∧ (decode cX7_cared 136 = .ok (.ifCond .ne 8, 3)) ∧ (decode cX7_cared 139 = .ok (.iload 5, 2)) ∧ (decode cX7_cared 141 = .ok (.goto 5, 3)) ∧ (decode cX7_cared 144 = .ok (.iload 6, 2)) := by decide +kernel
theorem dX7_cared_94 : decode cX7_cared 94 = .ok (.iconst (-1), 1) := edX7_cared_94.1
theorem dX7_cared_95 : decode cX7_cared 95 = .ok (.invokevirtual 163, 3) := edX7_cared_94.2.1
theorem dX7_cared_98 : decode cX7_cared 98 = .ok (.pop, 1) := edX7_cared_94.2.2.1
theorem dX7_cared_99 : decode cX7_cared 99 = .ok (.aload_n 0, 1) := edX7_cared_94.2.2.2.1
theorem dX7_cared_100 : decode cX7_cared 100 = .ok (.aload 4, 2) := edX7_cared_94.2.2.2.2.1
theorem dX7_cared_102 : decode cX7_cared 102 = .ok (.invokevirtual 211, 3) := edX7_cared_94.2.2.2.2.2.1
theorem dX7_cared_105 : decode cX7_cared 105 = .ok (.istore 8, 2) := edX7_cared_94.2.2.2.2.2.2.1
theorem dX7_cared_107 : decode cX7_cared 107 = .ok (.iload 5, 2) := edX7_cared_94.2.2.2.2.2.2.2.1
theorem dX7_cared_109 : decode cX7_cared 109 = .ok (.ldc 200, 2) := edX7_cared_94.2.2.2.2.2.2.2.2.1
theorem dX7_cared_111 : decode cX7_cared 111 = .ok (.if_icmp .eq 10, 3) := edX7_cared_94.2.2.2.2.2.2.2.2.2.1
theorem dX7_cared_114 : decode cX7_cared 114 = .ok (.iload 8, 2) := edX7_cared_94.2.2.2.2.2.2.2.2.2.2.1
theorem dX7_cared_116 : decode cX7_cared 116 = .ok (.iload 6, 2) := edX7_cared_94.2.2.2.2.2.2.2.2.2.2.2.1
theorem dX7_cared_118 : decode cX7_cared 118 = .ok (.if_icmp .ge 11, 3) := edX7_cared_94.2.2.2.2.2.2.2.2.2.2.2.2.1
theorem dX7_cared_121 : decode cX7_cared 121 = .ok (.iload 7, 2) := edX7_cared_94.2.2.2.2.2.2.2.2.2.2.2.2.2.1
theorem dX7_cared_123 : decode cX7_cared 123 = .ok (.istore 5, 2) := edX7_cared_94.2.2.2.2.2.2.2.2.2.2.2.2.2.2.1
theorem dX7_cared_125 : decode cX7_cared 125 = .ok (.iload 8, 2) := edX7_cared_94.2.2.2.2.2.2.2.2.2.2.2.2.2.2.2.1
theorem dX7_cared_127 : decode cX7_cared 127 = .ok (.istore 6, 2) := edX7_cared_94.2.2.2.2.2.2.2.2.2.2.2.2.2.2.2.2.1
theorem dX7_cared_129 : decode cX7_cared 129 = .ok (.iinc 7 1, 3) := edX7_cared_94.2.2.2.2.2.2.2.2.2.2.2.2.2.2.2.2.2.1
theorem dX7_cared_132 : decode cX7_cared 132 = .ok (.goto (-76), 3) := edX7_cared_94.2.2.2.2.2.2.2.2.2.2.2.2.2.2.2.2.2.2.1
theorem dX7_cared_135 : decode cX7_cared 135 = .ok (.iload_n 3, 1) := edX7_cared_94.2.2.2.2.2.2.2.2.2.2.2.2.2.2.2.2.2.2.2.1
theorem dX7_cared_136 : decode cX7_cared 136 = .ok (.ifCond .ne 8, 3) := edX7_cared_94.2.2.2.2.2.2.2.2.2.2.2.2.2.2.2.2.2.2.2.2.1
theorem dX7_cared_139 : decode cX7_cared 139 = .ok (.iload 5, 2) := edX7_cared_94.2.2.2.2.2.2.2.2.2.2.2.2.2.2.2.2.2.2.2.2.2.1
theorem dX7_cared_141 : decode cX7_cared 141 = .ok (.goto 5, 3) := edX7_cared_94.2.2.2.2.2.2.2.2.2.2.2.2.2.2.2.2.2.2.2.2.2.2.1
theorem dX7_cared_144 : decode cX7_cared 144 = .ok (.iload 6, 2) := edX7_cared_94.2.2.2.2.2.2.2.2.2.2.2.2.2.2.2.2.2.2.2.2.2.2.2
theorem edX7_cared_146 : (decode cX7_cared 146 = .ok (.ireturn, 1)) := by decide +kernel
theorem dX7_cared_146 : decode cX7_cared 146 = .ok (.ireturn, 1) := edX7_cared_146
theorem edX7_differenceFrom_0 : (decode cX7_differenceFrom 0 = .ok (.iconst 0, 1)) ∧ (decode cX7_differenceFrom 1 = .ok (.istore_n 2, 1)) ∧ (decode cX7_differenceFrom 2 = .ok (.iconst 0, 1)) ∧ (decode cX7_differenceFrom 3 = .ok (.istore_n 3, 1)) ∧ (decode cX7_differenceFrom 4 = .ok (.iload_n 3, 1)) ∧ (decode cX7_differenceFrom 5 = .ok (.iconst 4, 1)) ∧ (decode cX7_differenceFrom 6 = .ok (.if_icmp .ge 39, 3)) ∧ (decode cX7_differenceFrom 9 = .ok (.aload_n 1, 1)) ∧ (decode cX7_differenceFrom 10 = .ok (.iload_n 3, 1)) ∧ (decode cX7_differenceFrom 11 = .ok (.invokevirtual 215, 3)) ∧ (decode cX7_differenceFrom 14 = .ok (.ifCond .eq 25, 3)) ∧ (decode cX7_differenceFrom 17 = .ok (.iload_n 2, 1)) ∧ (decode cX7_differenceFrom 18 = .ok (.aload_n 0, 1)) ∧ (decode cX7_differenceFrom 19 = .ok (.getfield 16, 3)) ∧ (decode cX7_differenceFrom 22 = .ok (.getfield 127, 3)) ∧ (decode cX7_differenceFrom 25 = .ok (.iload_n 3, 1)) ∧ (decode cX7_differenceFrom 26 = .ok (.iaload, 1)) ∧ (decode cX7_differenceFrom 27 = .ok (.aload_n 1, 1)) ∧ (decode cX7_differenceFrom 28 = .ok (.getfield 218, 3)) ∧ (decode cX7_differenceFrom 31 = .ok (.iload_n 3, 1)) ∧ (decode cX7_differenceFrom 32 = .ok (.iaload, 1)) ∧ (decode cX7_differenceFrom 33 = .ok (.isub, 1)) ∧ (decode cX7_differenceFrom 34 = .ok (.invokestatic 221, 3)) ∧ (decode cX7_differenceFrom 37 = .ok (.iadd, 1)) := by decide +kernel
theorem dX7_differenceFrom_0 : decode cX7_differenceFrom 0 = .ok (.iconst 0, 1) := edX7_differenceFrom_0.1
theorem dX7_differenceFrom_1 : decode cX7_differenceFrom 1 = .ok (.istore_n 2, 1) := edX7_differenceFrom_0.2.1
theorem dX7_differenceFrom_2 : decode cX7_differenceFrom 2 = .ok (.iconst 0, 1) := edX7_differenceFrom_0.2.2.1
theorem dX7_differenceFrom_3 : decode cX7_differenceFrom 3 = .ok (.istore_n 3, 1) := edX7_differenceFrom_0.2.2.2.1
theorem dX7_differenceFrom_4 : decode cX7_differenceFrom 4 = .ok (.iload_n 3, 1) := edX7_differenceFrom_0.2.2.2.2.1
theorem dX7_differenceFrom_5 : decode cX7_differenceFrom 5 = .ok (.iconst 4, 1) := edX7_differenceFrom_0.2.2.2.2.2.1
theorem dX7_differenceFrom_6 : decode cX7_differenceFrom 6 = .ok (.if_icmp .ge 39, 3) := edX7_differenceFrom_0.2.2.2.2.2.2.1
theorem dX7_differenceFrom_9 : decode cX7_differenceFrom 9 = .ok (.aload_n 1, 1) := edX7_differenceFrom_0.2.2.2.2.2.2.2.1
theorem dX7_differenceFrom_10 : decode cX7_differenceFrom 10 = .ok (.iload_n 3, 1) := edX7_differenceFrom_0.2.2.2.2.2.2.2.2.1
theorem dX7_differenceFrom_11 : decode cX7_differenceFrom 11 = .ok (.invokevirtual 215, 3) := edX7_differenceFrom_0.2.2.2.2.2.2.2.2.2.1
theorem dX7_differenceFrom_14 : decode cX7_differenceFrom 14 = .ok (.ifCond .eq 25, 3) := edX7_differenceFrom_0.2.2.2.2.2.2.2.2.2.2.1
theorem dX7_differenceFrom_17 : decode cX7_differenceFrom 17 = .ok (.iload_n 2, 1) := edX7_differenceFrom_0.2.2.2.2.2.2.2.2.2.2.2.1
theorem dX7_differenceFrom_18 : decode cX7_differenceFrom 18 = .ok (.aload_n 0, 1) := edX7_differenceFrom_0.2.2.2.2.2.2.2.2.2.2.2.2.1
theorem dX7_differenceFrom_19 : decode cX7_differenceFrom 19 = .ok (.getfield 16, 3) := edX7_differenceFrom_0.2.2.2.2.2.2.2.2.2.2.2.2.2.1
theorem dX7_differenceFrom_22 : decode cX7_differenceFrom 22 = .ok (.getfield 127, 3) := edX7_differenceFrom_0.2.2.2.2.2.2.2.2.2.2.2.2.2.2.1
theorem dX7_differenceFrom_25 : decode cX7_differenceFrom 25 = .ok (.iload_n 3, 1) := edX7_differenceFrom_0.2.2.2.2.2.2.2.2.2.2.2.2.2.2.2.1
theorem dX7_differenceFrom_26 : decode cX7_differenceFrom 26 = .ok (.iaload, 1) := edX7_differenceFrom_0.2.2.2.2.2.2.2.2.2.2.2.2.2.2.2.2.1
theorem dX7_differenceFrom_27 : decode cX7_differenceFrom 27 = .ok (.aload_n 1, 1) := edX7_differenceFrom_0.2.2.2.2.2.2.2.2.2.2.2.2.2.2.2.2.2.1
theorem dX7_differenceFrom_28 : decode cX7_differenceFrom 28 = .ok (.getfield 218, 3) := edX7_differenceFrom_0.2.2.2.2.2.2.2.2.2.2.2.2.2.2.2.2.2.2.1
theorem dX7_differenceFrom_31 : decode cX7_differenceFrom 31 = .ok (.iload_n 3, 1) := edX7_differenceFrom_0.2.2.2.2.2.2.2.2.2.2.2.2.2.2.2.2.2.2.2.1
theorem dX7_differenceFrom_32 : decode cX7_differenceFrom 32 = .ok (.iaload, 1) := edX7_differenceFrom_0.2.2.2.2.2.2.2.2.2.2.2.2.2.2.2.2.2.2.2.2.1
theorem dX7_differenceFrom_33 : decode cX7_differenceFrom 33 = .ok (.isub, 1) := edX7_differenceFrom_0.2.2.2.2.2.2.2.2.2.2.2.2.2.2.2.2.2.2.2.2.2.1
theorem dX7_differenceFrom_34 : decode cX7_differenceFrom 34 = .ok (.invokestatic 221, 3) := edX7_differenceFrom_0.2.2.2.2.2.2.2.2.2.2.2.2.2.2.2.2.2.2.2.2.2.2.1
theorem dX7_differenceFrom_37 : decode cX7_differenceFrom 37 = .ok (.iadd, 1) := edX7_differenceFrom_0.2.2.2.2.2.2.2.2.2.2.2.2.2.2.2.2.2.2.2.2.2.2.2
theorem edX7_differenceFrom_38 : (decode cX7_differenceFrom 38 = .ok (.istore_n 2, 1)) ∧ (decode cX7_differenceFrom 39 = .ok (.iinc 3 1, 3)) ∧ (decode cX7_differenceFrom 42 = .ok (.goto (-38), 3)) ∧ (decode cX7_differenceFrom 45 = .ok (.iload_n 2, 1)) ∧ (decode cX7_differenceFrom 46 = .ok (.ireturn, 1)) := by decide +kernel
theorem dX7_differenceFrom_38 : decode cX7_differenceFrom 38 = .ok (.istore_n 2, 1) := edX7_differenceFrom_38.1
theorem dX7_differenceFrom_39 : decode cX7_differenceFrom 39 = .ok (.iinc 3 1, 3) := edX7_differenceFrom_38.2.1
theorem dX7_differenceFrom_42 : decode cX7_differenceFrom 42 = .ok (.goto (-38), 3) := edX7_differenceFrom_38.2.2.1
theorem dX7_differenceFrom_45 : decode cX7_differenceFrom 45 = .ok (.iload_n 2, 1) := edX7_differenceFrom_38.2.2.2.1
theorem dX7_differenceFrom_46 : decode cX7_differenceFrom 46 = .ok (.ireturn, 1) := edX7_differenceFrom_38.2.2.2.2
theorem edX7_fee_0 : (decode cX7_fee 0 = .ok (.aload_n 0, 1)) ∧ (decode cX7_fee 1 = .ok (.getfield 10, 3)) ∧ (decode cX7_fee 4 = .ok (.iconst 1, 1)) ∧ (decode cX7_fee 5 = .ok (.invokevirtual 224, 3)) ∧ (decode cX7_fee 8 = .ok (.astore_n 1, 1)) ∧ (decode cX7_fee 9 = .ok (.aload_n 1, 1)) ∧ (decode cX7_fee 10 = .ok (.ifnonnull 13, 3)) ∧ (decode cX7_fee 13 = .ok (.aload_n 0, 1)) ∧ (decode cX7_fee 14 = .ok (.getfield 10, 3)) ∧ (decode cX7_fee 17 = .ok (.getfield 176, 3)) ∧ (decode cX7_fee 20 = .ok (.goto 22, 3)) ∧ (decode cX7_fee 23 = .ok (.aload_n 1, 1)) ∧ (decode cX7_fee 24 = .ok (.aload_n 0, 1)) ∧ (decode cX7_fee 25 = .ok (.getfield 10, 3)) ∧ (decode cX7_fee 28 = .ok (.getfield 176, 3)) ∧ (decode cX7_fee 31 = .ok (.aload_n 0, 1)) ∧ (decode cX7_fee 32 = .ok (.getfield 10, 3)) ∧ (decode cX7_fee 35 = .ok (.getfield 160, 3)) ∧ (decode cX7_fee 38 = .ok (.iconst 0, 1)) ∧ (decode cX7_fee 39 = .ok (.invokevirtual 228, 3)) ∧ (decode cX7_fee 42 = .ok (.ireturn, 1)) := by decide +kernel
theorem dX7_fee_0 : decode cX7_fee 0 = .ok (.aload_n 0, 1) := edX7_fee_0.1
theorem dX7_fee_1 : decode cX7_fee 1 = .ok (.getfield 10, 3) := edX7_fee_0.2.1
theorem dX7_fee_4 : decode cX7_fee 4 = .ok (.iconst 1, 1) := edX7_fee_0.2.2.1
theorem dX7_fee_5 : decode cX7_fee 5 = .ok (.invokevirtual 224, 3) := edX7_fee_0.2.2.2.1
theorem dX7_fee_8 : decode cX7_fee 8 = .ok (.astore_n 1, 1) := edX7_fee_0.2.2.2.2.1
theorem dX7_fee_9 : decode cX7_fee 9 = .ok (.aload_n 1, 1) := edX7_fee_0.2.2.2.2.2.1
theorem dX7_fee_10 : decode cX7_fee 10 = .ok (.ifnonnull 13, 3) := edX7_fee_0.2.2.2.2.2.2.1
theorem dX7_fee_13 : decode cX7_fee 13 = .ok (.aload_n 0, 1) := edX7_fee_0.2.2.2.2.2.2.2.1
theorem dX7_fee_14 : decode cX7_fee 14 = .ok (.getfield 10, 3) := edX7_fee_0.2.2.2.2.2.2.2.2.1
theorem dX7_fee_17 : decode cX7_fee 17 = .ok (.getfield 176, 3) := edX7_fee_0.2.2.2.2.2.2.2.2.2.1
theorem dX7_fee_20 : decode cX7_fee 20 = .ok (.goto 22, 3) := edX7_fee_0.2.2.2.2.2.2.2.2.2.2.1
theorem dX7_fee_23 : decode cX7_fee 23 = .ok (.aload_n 1, 1) := edX7_fee_0.2.2.2.2.2.2.2.2.2.2.2.1
theorem dX7_fee_24 : decode cX7_fee 24 = .ok (.aload_n 0, 1) := edX7_fee_0.2.2.2.2.2.2.2.2.2.2.2.2.1
theorem dX7_fee_25 : decode cX7_fee 25 = .ok (.getfield 10, 3) := edX7_fee_0.2.2.2.2.2.2.2.2.2.2.2.2.2.1
theorem dX7_fee_28 : decode cX7_fee 28 = .ok (.getfield 176, 3) := edX7_fee_0.2.2.2.2.2.2.2.2.2.2.2.2.2.2.1
theorem dX7_fee_31 : decode cX7_fee 31 = .ok (.aload_n 0, 1) := edX7_fee_0.2.2.2.2.2.2.2.2.2.2.2.2.2.2.2.1
theorem dX7_fee_32 : decode cX7_fee 32 = .ok (.getfield 10, 3) := edX7_fee_0.2.2.2.2.2.2.2.2.2.2.2.2.2.2.2.2.1
theorem dX7_fee_35 : decode cX7_fee 35 = .ok (.getfield 160, 3) := edX7_fee_0.2.2.2.2.2.2.2.2.2.2.2.2.2.2.2.2.2.1
theorem dX7_fee_38 : decode cX7_fee 38 = .ok (.iconst 0, 1) := edX7_fee_0.2.2.2.2.2.2.2.2.2.2.2.2.2.2.2.2.2.2.1
theorem dX7_fee_39 : decode cX7_fee 39 = .ok (.invokevirtual 228, 3) := edX7_fee_0.2.2.2.2.2.2.2.2.2.2.2.2.2.2.2.2.2.2.2.1
theorem dX7_fee_42 : decode cX7_fee 42 = .ok (.ireturn, 1) := edX7_fee_0.2.2.2.2.2.2.2.2.2.2.2.2.2.2.2.2.2.2.2.2
theorem edX7_fine_0 : (decode cX7_fine 0 = .ok (.aload_n 0, 1)) ∧ (decode cX7_fine 1 = .ok (.getfield 10, 3)) ∧ (decode cX7_fine 4 = .ok (.iload_n 1, 1)) ∧ (decode cX7_fine 5 = .ok (.invokevirtual 87, 3)) ∧ (decode cX7_fine 8 = .ok (.ifCond .ne 6, 3)) ∧ (decode cX7_fine 11 = .ok (.ldc 78, 2)) ∧ (decode cX7_fine 13 = .ok (.ireturn, 1)) ∧ (decode cX7_fine 14 = .ok (.aload_n 0, 1)) ∧ (decode cX7_fine 15 = .ok (.getfield 10, 3)) ∧ (decode cX7_fine 18 = .ok (.iconst 2, 1)) ∧ (decode cX7_fine 19 = .ok (.invokevirtual 224, 3)) ∧ (decode cX7_fine 22 = .ok (.astore_n 2, 1)) ∧ (decode cX7_fine 23 = .ok (.aload_n 0, 1)) ∧ (decode cX7_fine 24 = .ok (.getfield 10, 3)) ∧ (decode cX7_fine 27 = .ok (.getfield 102, 3)) ∧ (decode cX7_fine 30 = .ok (.iload_n 1, 1)) ∧ (decode cX7_fine 31 = .ok (.iaload, 1)) ∧ (decode cX7_fine 32 = .ok (.istore_n 3, 1)) ∧ (decode cX7_fine 33 = .ok (.aload_n 2, 1)) ∧ (decode cX7_fine 34 = .ok (.ifnonnull 7, 3)) ∧ (decode cX7_fine 37 = .ok (.iload_n 3, 1)) ∧ (decode cX7_fine 38 = .ok (.goto 18, 3)) ∧ (decode cX7_fine 41 = .ok (.aload_n 2, 1)) ∧ (decode cX7_fine 42 = .ok (.iload_n 3, 1)) := by decide +kernel
theorem dX7_fine_0 : decode cX7_fine 0 = .ok (.aload_n 0, 1) := edX7_fine_0.1
theorem dX7_fine_1 : decode cX7_fine 1 = .ok (.getfield 10, 3) := edX7_fine_0.2.1
theorem dX7_fine_4 : decode cX7_fine 4 = .ok (.iload_n 1, 1) := edX7_fine_0.2.2.1
theorem dX7_fine_5 : decode cX7_fine 5 = .ok (.invokevirtual 87, 3) := edX7_fine_0.2.2.2.1
theorem dX7_fine_8 : decode cX7_fine 8 = .ok (.ifCond .ne 6, 3) := edX7_fine_0.2.2.2.2.1
theorem dX7_fine_11 : decode cX7_fine 11 = .ok (.ldc 78, 2) := edX7_fine_0.2.2.2.2.2.1
theorem dX7_fine_13 : decode cX7_fine 13 = .ok (.ireturn, 1) := edX7_fine_0.2.2.2.2.2.2.1
theorem dX7_fine_14 : decode cX7_fine 14 = .ok (.aload_n 0, 1) := edX7_fine_0.2.2.2.2.2.2.2.1
theorem dX7_fine_15 : decode cX7_fine 15 = .ok (.getfield 10, 3) := edX7_fine_0.2.2.2.2.2.2.2.2.1
theorem dX7_fine_18 : decode cX7_fine 18 = .ok (.iconst 2, 1) := edX7_fine_0.2.2.2.2.2.2.2.2.2.1
theorem dX7_fine_19 : decode cX7_fine 19 = .ok (.invokevirtual 224, 3) := edX7_fine_0.2.2.2.2.2.2.2.2.2.2.1
theorem dX7_fine_22 : decode cX7_fine 22 = .ok (.astore_n 2, 1) := edX7_fine_0.2.2.2.2.2.2.2.2.2.2.2.1
theorem dX7_fine_23 : decode cX7_fine 23 = .ok (.aload_n 0, 1) := edX7_fine_0.2.2.2.2.2.2.2.2.2.2.2.2.1
theorem dX7_fine_24 : decode cX7_fine 24 = .ok (.getfield 10, 3) := edX7_fine_0.2.2.2.2.2.2.2.2.2.2.2.2.2.1
theorem dX7_fine_27 : decode cX7_fine 27 = .ok (.getfield 102, 3) := edX7_fine_0.2.2.2.2.2.2.2.2.2.2.2.2.2.2.1
theorem dX7_fine_30 : decode cX7_fine 30 = .ok (.iload_n 1, 1) := edX7_fine_0.2.2.2.2.2.2.2.2.2.2.2.2.2.2.2.1
theorem dX7_fine_31 : decode cX7_fine 31 = .ok (.iaload, 1) := edX7_fine_0.2.2.2.2.2.2.2.2.2.2.2.2.2.2.2.2.1
theorem dX7_fine_32 : decode cX7_fine 32 = .ok (.istore_n 3, 1) := edX7_fine_0.2.2.2.2.2.2.2.2.2.2.2.2.2.2.2.2.2.1
theorem dX7_fine_33 : decode cX7_fine 33 = .ok (.aload_n 2, 1) := edX7_fine_0.2.2.2.2.2.2.2.2.2.2.2.2.2.2.2.2.2.2.1
theorem dX7_fine_34 : decode cX7_fine 34 = .ok (.ifnonnull 7, 3) := edX7_fine_0.2.2.2.2.2.2.2.2.2.2.2.2.2.2.2.2.2.2.2.1
theorem dX7_fine_37 : decode cX7_fine 37 = .ok (.iload_n 3, 1) := edX7_fine_0.2.2.2.2.2.2.2.2.2.2.2.2.2.2.2.2.2.2.2.2.1
theorem dX7_fine_38 : decode cX7_fine 38 = .ok (.goto 18, 3) := edX7_fine_0.2.2.2.2.2.2.2.2.2.2.2.2.2.2.2.2.2.2.2.2.2.1
theorem dX7_fine_41 : decode cX7_fine 41 = .ok (.aload_n 2, 1) := edX7_fine_0.2.2.2.2.2.2.2.2.2.2.2.2.2.2.2.2.2.2.2.2.2.2.1
theorem dX7_fine_42 : decode cX7_fine 42 = .ok (.iload_n 3, 1) := edX7_fine_0.2.2.2.2.2.2.2.2.2.2.2.2.2.2.2.2.2.2.2.2.2.2.2
theorem edX7_fine_43 : (decode cX7_fine 43 = .ok (.aload_n 0, 1)) ∧ (decode cX7_fine 44 = .ok (.getfield 10, 3)) ∧ (decode cX7_fine 47 = .ok (.getfield 99, 3)) ∧ (decode cX7_fine 50 = .ok (.iload_n 1, 1)) ∧ (decode cX7_fine 51 = .ok (.iaload, 1)) ∧ (decode cX7_fine 52 = .ok (.iconst 0, 1)) ∧ (decode cX7_fine 53 = .ok (.invokevirtual 228, 3)) ∧ (decode cX7_fine 56 = .ok (.ireturn, 1)) := by decide +kernel
theorem dX7_fine_43 : decode cX7_fine 43 = .ok (.aload_n 0, 1) := edX7_fine_43.1
theorem dX7_fine_44 : decode cX7_fine 44 = .ok (.getfield 10, 3) := edX7_fine_43.2.1
theorem dX7_fine_47 : decode cX7_fine 47 = .ok (.getfield 99, 3) := edX7_fine_43.2.2.1
theorem dX7_fine_50 : decode cX7_fine 50 = .ok (.iload_n 1, 1) := edX7_fine_43.2.2.2.1
theorem dX7_fine_51 : decode cX7_fine 51 = .ok (.iaload, 1) := edX7_fine_43.2.2.2.2.1
theorem dX7_fine_52 : decode cX7_fine 52 = .ok (.iconst 0, 1) := edX7_fine_43.2.2.2.2.2.1
theorem dX7_fine_53 : decode cX7_fine 53 = .ok (.invokevirtual 228, 3) := edX7_fine_43.2.2.2.2.2.2.1
theorem dX7_fine_56 : decode cX7_fine 56 = .ok (.ireturn, 1) := edX7_fine_43.2.2.2.2.2.2.2
theorem edX7_feed_0 : (decode cX7_feed 0 = .ok (.aload_n 0, 1)) ∧ (decode cX7_feed 1 = .ok (.getfield 44, 3)) ∧ (decode cX7_feed 4 = .ok (.getfield 234, 3)) ∧ (decode cX7_feed 7 = .ok (.bipush 12, 2)) ∧ (decode cX7_feed 9 = .ok (.iadd, 1)) ∧ (decode cX7_feed 10 = .ok (.bipush 96, 2)) ∧ (decode cX7_feed 12 = .ok (.if_icmp .le 6, 3)) ∧ (decode cX7_feed 15 = .ok (.ldc 82, 2)) ∧ (decode cX7_feed 17 = .ok (.ireturn, 1)) ∧ (decode cX7_feed 18 = .ok (.aload_n 0, 1)) ∧ (decode cX7_feed 19 = .ok (.getfield 44, 3)) ∧ (decode cX7_feed 22 = .ok (.iload_n 1, 1)) ∧ (decode cX7_feed 23 = .ok (.invokevirtual 239, 3)) ∧ (decode cX7_feed 26 = .ok (.aload_n 0, 1)) ∧ (decode cX7_feed 27 = .ok (.getfield 44, 3)) ∧ (decode cX7_feed 30 = .ok (.iload_n 2, 1)) ∧ (decode cX7_feed 31 = .ok (.invokevirtual 239, 3)) ∧ (decode cX7_feed 34 = .ok (.aload_n 0, 1)) ∧ (decode cX7_feed 35 = .ok (.getfield 44, 3)) ∧ (decode cX7_feed 38 = .ok (.iload_n 3, 1)) ∧ (decode cX7_feed 39 = .ok (.invokevirtual 239, 3)) ∧ (decode cX7_feed 42 = .ok (.aload_n 0, 1)) ∧ (decode cX7_feed 43 = .ok (.getfield 44, 3)) ∧ (decode cX7_feed 46 = .ok (.getfield 234, 3)) := by decide +kernel
theorem dX7_feed_0 : decode cX7_feed 0 = .ok (.aload_n 0, 1) := edX7_feed_0.1
theorem dX7_feed_1 : decode cX7_feed 1 = .ok (.getfield 44, 3) := edX7_feed_0.2.1
theorem dX7_feed_4 : decode cX7_feed 4 = .ok (.getfield 234, 3) := edX7_feed_0.2.2.1
theorem dX7_feed_7 : decode cX7_feed 7 = .ok (.bipush 12, 2) := edX7_feed_0.2.2.2.1
theorem dX7_feed_9 : decode cX7_feed 9 = .ok (.iadd, 1) := edX7_feed_0.2.2.2.2.1
theorem dX7_feed_10 : decode cX7_feed 10 = .ok (.bipush 96, 2) := edX7_feed_0.2.2.2.2.2.1
theorem dX7_feed_12 : decode cX7_feed 12 = .ok (.if_icmp .le 6, 3) := edX7_feed_0.2.2.2.2.2.2.1
theorem dX7_feed_15 : decode cX7_feed 15 = .ok (.ldc 82, 2) := edX7_feed_0.2.2.2.2.2.2.2.1
theorem dX7_feed_17 : decode cX7_feed 17 = .ok (.ireturn, 1) := edX7_feed_0.2.2.2.2.2.2.2.2.1
theorem dX7_feed_18 : decode cX7_feed 18 = .ok (.aload_n 0, 1) := edX7_feed_0.2.2.2.2.2.2.2.2.2.1
theorem dX7_feed_19 : decode cX7_feed 19 = .ok (.getfield 44, 3) := edX7_feed_0.2.2.2.2.2.2.2.2.2.2.1
theorem dX7_feed_22 : decode cX7_feed 22 = .ok (.iload_n 1, 1) := edX7_feed_0.2.2.2.2.2.2.2.2.2.2.2.1
theorem dX7_feed_23 : decode cX7_feed 23 = .ok (.invokevirtual 239, 3) := edX7_feed_0.2.2.2.2.2.2.2.2.2.2.2.2.1
theorem dX7_feed_26 : decode cX7_feed 26 = .ok (.aload_n 0, 1) := edX7_feed_0.2.2.2.2.2.2.2.2.2.2.2.2.2.1
theorem dX7_feed_27 : decode cX7_feed 27 = .ok (.getfield 44, 3) := edX7_feed_0.2.2.2.2.2.2.2.2.2.2.2.2.2.2.1
theorem dX7_feed_30 : decode cX7_feed 30 = .ok (.iload_n 2, 1) := edX7_feed_0.2.2.2.2.2.2.2.2.2.2.2.2.2.2.2.1
theorem dX7_feed_31 : decode cX7_feed 31 = .ok (.invokevirtual 239, 3) := edX7_feed_0.2.2.2.2.2.2.2.2.2.2.2.2.2.2.2.2.1
theorem dX7_feed_34 : decode cX7_feed 34 = .ok (.aload_n 0, 1) := edX7_feed_0.2.2.2.2.2.2.2.2.2.2.2.2.2.2.2.2.2.1
theorem dX7_feed_35 : decode cX7_feed 35 = .ok (.getfield 44, 3) := edX7_feed_0.2.2.2.2.2.2.2.2.2.2.2.2.2.2.2.2.2.2.1
theorem dX7_feed_38 : decode cX7_feed 38 = .ok (.iload_n 3, 1) := edX7_feed_0.2.2.2.2.2.2.2.2.2.2.2.2.2.2.2.2.2.2.2.1
theorem dX7_feed_39 : decode cX7_feed 39 = .ok (.invokevirtual 239, 3) := edX7_feed_0.2.2.2.2.2.2.2.2.2.2.2.2.2.2.2.2.2.2.2.2.1
theorem dX7_feed_42 : decode cX7_feed 42 = .ok (.aload_n 0, 1) := edX7_feed_0.2.2.2.2.2.2.2.2.2.2.2.2.2.2.2.2.2.2.2.2.2.1
theorem dX7_feed_43 : decode cX7_feed 43 = .ok (.getfield 44, 3) := edX7_feed_0.2.2.2.2.2.2.2.2.2.2.2.2.2.2.2.2.2.2.2.2.2.2.1
theorem dX7_feed_46 : decode cX7_feed 46 = .ok (.getfield 234, 3) := edX7_feed_0.2.2.2.2.2.2.2.2.2.2.2.2.2.2.2.2.2.2.2.2.2.2.2
theorem edX7_feed_49 : (decode cX7_feed 49 = .ok (.ireturn, 1)) := by decide +kernel
theorem dX7_feed_49 : decode cX7_feed 49 = .ok (.ireturn, 1) := edX7_feed_49
theorem edX7_trim_0 : (decode cX7_trim 0 = .ok (.iload_n 1, 1)) ∧ (decode cX7_trim 1 = .ok (.iconst 0, 1)) ∧ (decode cX7_trim 2 = .ok (.aload_n 0, 1)) ∧ (decode cX7_trim 3 = .ok (.getfield 44, 3)) ∧ (decode cX7_trim 6 = .ok (.getfield 234, 3)) ∧ (decode cX7_trim 9 = .ok (.invokestatic 74, 3)) ∧ (decode cX7_trim 12 = .ok (.ifCond .ne 6, 3)) ∧ (decode cX7_trim 15 = .ok (.ldc 78, 2)) ∧ (decode cX7_trim 17 = .ok (.ireturn, 1)) ∧ (decode cX7_trim 18 = .ok (.aload_n 0, 1)) ∧ (decode cX7_trim 19 = .ok (.getfield 44, 3)) ∧ (decode cX7_trim 22 = .ok (.iload_n 1, 1)) ∧ (decode cX7_trim 23 = .ok (.putfield 234, 3)) ∧ (decode cX7_trim 26 = .ok (.iload_n 1, 1)) ∧ (decode cX7_trim 27 = .ok (.ireturn, 1)) := by decide +kernel
theorem dX7_trim_0 : decode cX7_trim 0 = .ok (.iload_n 1, 1) := edX7_trim_0.1
theorem dX7_trim_1 : decode cX7_trim 1 = .ok (.iconst 0, 1) := edX7_trim_0.2.1
theorem dX7_trim_2 : decode cX7_trim 2 = .ok (.aload_n 0, 1) := edX7_trim_0.2.2.1
theorem dX7_trim_3 : decode cX7_trim 3 = .ok (.getfield 44, 3) := edX7_trim_0.2.2.2.1
theorem dX7_trim_6 : decode cX7_trim 6 = .ok (.getfield 234, 3) := edX7_trim_0.2.2.2.2.1
theorem dX7_trim_9 : decode cX7_trim 9 = .ok (.invokestatic 74, 3) := edX7_trim_0.2.2.2.2.2.1
theorem dX7_trim_12 : decode cX7_trim 12 = .ok (.ifCond .ne 6, 3) := edX7_trim_0.2.2.2.2.2.2.1
theorem dX7_trim_15 : decode cX7_trim 15 = .ok (.ldc 78, 2) := edX7_trim_0.2.2.2.2.2.2.2.1
theorem dX7_trim_17 : decode cX7_trim 17 = .ok (.ireturn, 1) := edX7_trim_0.2.2.2.2.2.2.2.2.1
theorem dX7_trim_18 : decode cX7_trim 18 = .ok (.aload_n 0, 1) := edX7_trim_0.2.2.2.2.2.2.2.2.2.1
theorem dX7_trim_19 : decode cX7_trim 19 = .ok (.getfield 44, 3) := edX7_trim_0.2.2.2.2.2.2.2.2.2.2.1
theorem dX7_trim_22 : decode cX7_trim 22 = .ok (.iload_n 1, 1) := edX7_trim_0.2.2.2.2.2.2.2.2.2.2.2.1
theorem dX7_trim_23 : decode cX7_trim 23 = .ok (.putfield 234, 3) := edX7_trim_0.2.2.2.2.2.2.2.2.2.2.2.2.1
theorem dX7_trim_26 : decode cX7_trim 26 = .ok (.iload_n 1, 1) := edX7_trim_0.2.2.2.2.2.2.2.2.2.2.2.2.2.1
theorem dX7_trim_27 : decode cX7_trim 27 = .ok (.ireturn, 1) := edX7_trim_0.2.2.2.2.2.2.2.2.2.2.2.2.2.2
theorem edX7_text_0 : (decode cX7_text 0 = .ok (.aload_n 0, 1)) ∧ (decode cX7_text 1 = .ok (.getfield 36, 3)) ∧ (decode cX7_text 4 = .ok (.invokevirtual 243, 3)) ∧ (decode cX7_text 7 = .ok (.istore_n 1, 1)) ∧ (decode cX7_text 8 = .ok (.aload_n 0, 1)) ∧ (decode cX7_text 9 = .ok (.getfield 44, 3)) ∧ (decode cX7_text 12 = .ok (.iconst 0, 1)) ∧ (decode cX7_text 13 = .ok (.putfield 234, 3)) ∧ (decode cX7_text 16 = .ok (.iload_n 1, 1)) ∧ (decode cX7_text 17 = .ok (.ifCond .lt 8, 3)) ∧ (decode cX7_text 20 = .ok (.bipush (-100), 2)) ∧ (decode cX7_text 22 = .ok (.iload_n 1, 1)) ∧ (decode cX7_text 23 = .ok (.isub, 1)) ∧ (decode cX7_text 24 = .ok (.ireturn, 1)) ∧ (decode cX7_text 25 = .ok (.aload_n 0, 1)) ∧ (decode cX7_text 26 = .ok (.getfield 10, 3)) ∧ (decode cX7_text 29 = .ok (.getfield 246, 3)) ∧ (decode cX7_text 32 = .ok (.bipush 14, 2)) ∧ (decode cX7_text 34 = .ok (.if_icmp .lt 6, 3)) ∧ (decode cX7_text 37 = .ok (.ldc 82, 2)) ∧ (decode cX7_text 39 = .ok (.ireturn, 1)) ∧ (decode cX7_text 40 = .ok (.aload_n 0, 1)) ∧ (decode cX7_text 41 = .ok (.getfield 10, 3)) ∧ (decode cX7_text 44 = .ok (.aload_n 0, 1)) := by decide +kernel
theorem dX7_text_0 : decode cX7_text 0 = .ok (.aload_n 0, 1) := edX7_text_0.1
theorem dX7_text_1 : decode cX7_text 1 = .ok (.getfield 36, 3) := edX7_text_0.2.1
theorem dX7_text_4 : decode cX7_text 4 = .ok (.invokevirtual 243, 3) := edX7_text_0.2.2.1
theorem dX7_text_7 : decode cX7_text 7 = .ok (.istore_n 1, 1) := edX7_text_0.2.2.2.1
theorem dX7_text_8 : decode cX7_text 8 = .ok (.aload_n 0, 1) := edX7_text_0.2.2.2.2.1
theorem dX7_text_9 : decode cX7_text 9 = .ok (.getfield 44, 3) := edX7_text_0.2.2.2.2.2.1
theorem dX7_text_12 : decode cX7_text 12 = .ok (.iconst 0, 1) := edX7_text_0.2.2.2.2.2.2.1
theorem dX7_text_13 : decode cX7_text 13 = .ok (.putfield 234, 3) := edX7_text_0.2.2.2.2.2.2.2.1
theorem dX7_text_16 : decode cX7_text 16 = .ok (.iload_n 1, 1) := edX7_text_0.2.2.2.2.2.2.2.2.1
theorem dX7_text_17 : decode cX7_text 17 = .ok (.ifCond .lt 8, 3) := edX7_text_0.2.2.2.2.2.2.2.2.2.1
theorem dX7_text_20 : decode cX7_text 20 = .ok (.bipush (-100), 2) := edX7_text_0.2.2.2.2.2.2.2.2.2.2.1
theorem dX7_text_22 : decode cX7_text 22 = .ok (.iload_n 1, 1) := edX7_text_0.2.2.2.2.2.2.2.2.2.2.2.1
theorem dX7_text_23 : decode cX7_text 23 = .ok (.isub, 1) := edX7_text_0.2.2.2.2.2.2.2.2.2.2.2.2.1
theorem dX7_text_24 : decode cX7_text 24 = .ok (.ireturn, 1) := edX7_text_0.2.2.2.2.2.2.2.2.2.2.2.2.2.1
theorem dX7_text_25 : decode cX7_text 25 = .ok (.aload_n 0, 1) := edX7_text_0.2.2.2.2.2.2.2.2.2.2.2.2.2.2.1
theorem dX7_text_26 : decode cX7_text 26 = .ok (.getfield 10, 3) := edX7_text_0.2.2.2.2.2.2.2.2.2.2.2.2.2.2.2.1
theorem dX7_text_29 : decode cX7_text 29 = .ok (.getfield 246, 3) := edX7_text_0.2.2.2.2.2.2.2.2.2.2.2.2.2.2.2.2.1
theorem dX7_text_32 : decode cX7_text 32 = .ok (.bipush 14, 2) := edX7_text_0.2.2.2.2.2.2.2.2.2.2.2.2.2.2.2.2.2.1
theorem dX7_text_34 : decode cX7_text 34 = .ok (.if_icmp .lt 6, 3) := edX7_text_0.2.2.2.2.2.2.2.2.2.2.2.2.2.2.2.2.2.2.1
theorem dX7_text_37 : decode cX7_text 37 = .ok (.ldc 82, 2) := edX7_text_0.2.2.2.2.2.2.2.2.2.2.2.2.2.2.2.2.2.2.2.1
theorem dX7_text_39 : decode cX7_text 39 = .ok (.ireturn, 1) := edX7_text_0.2.2.2.2.2.2.2.2.2.2.2.2.2.2.2.2.2.2.2.2.1
theorem dX7_text_40 : decode cX7_text 40 = .ok (.aload_n 0, 1) := edX7_text_0.2.2.2.2.2.2.2.2.2.2.2.2.2.2.2.2.2.2.2.2.2.1
theorem dX7_text_41 : decode cX7_text 41 = .ok (.getfield 10, 3) := edX7_text_0.2.2.2.2.2.2.2.2.2.2.2.2.2.2.2.2.2.2.2.2.2.2.1
theorem dX7_text_44 : decode cX7_text 44 = .ok (.aload_n 0, 1) := edX7_text_0.2.2.2.2.2.2.2.2.2.2.2.2.2.2.2.2.2.2.2.2.2.2.2
theorem edX7_text_45 : (decode cX7_text 45 = .ok (.getfield 36, 3)) ∧ (decode cX7_text 48 = .ok (.invokevirtual 249, 3)) ∧ (decode cX7_text 51 = .ok (.invokevirtual 253, 3)) ∧ (decode cX7_text 54 = .ok (.aload_n 0, 1)) ∧ (decode cX7_text 55 = .ok (.getfield 10, 3)) ∧ (decode cX7_text 58 = .ok (.getfield 246, 3)) ∧ (decode cX7_text 61 = .ok (.iconst 1, 1)) ∧ (decode cX7_text 62 = .ok (.isub, 1)) ∧ (decode cX7_text 63 = .ok (.ireturn, 1)) := by decide +kernel
theorem dX7_text_45 : decode cX7_text 45 = .ok (.getfield 36, 3) := edX7_text_45.1
theorem dX7_text_48 : decode cX7_text 48 = .ok (.invokevirtual 249, 3) := edX7_text_45.2.1
theorem dX7_text_51 : decode cX7_text 51 = .ok (.invokevirtual 253, 3) := edX7_text_45.2.2.1
theorem dX7_text_54 : decode cX7_text 54 = .ok (.aload_n 0, 1) := edX7_text_45.2.2.2.1
theorem dX7_text_55 : decode cX7_text 55 = .ok (.getfield 10, 3) := edX7_text_45.2.2.2.2.1
theorem dX7_text_58 : decode cX7_text 58 = .ok (.getfield 246, 3) := edX7_text_45.2.2.2.2.2.1
theorem dX7_text_61 : decode cX7_text 61 = .ok (.iconst 1, 1) := edX7_text_45.2.2.2.2.2.2.1
theorem dX7_text_62 : decode cX7_text 62 = .ok (.isub, 1) := edX7_text_45.2.2.2.2.2.2.2.1
theorem dX7_text_63 : decode cX7_text 63 = .ok (.ireturn, 1) := edX7_text_45.2.2.2.2.2.2.2.2
theorem edX7_textTold_0 : (decode cX7_textTold 0 = .ok (.iload_n 1, 1)) ∧ (decode cX7_textTold 1 = .ok (.iconst 0, 1)) ∧ (decode cX7_textTold 2 = .ok (.aload_n 0, 1)) ∧ (decode cX7_textTold 3 = .ok (.getfield 10, 3)) ∧ (decode cX7_textTold 6 = .ok (.getfield 246, 3)) ∧ (decode cX7_textTold 9 = .ok (.iconst 1, 1)) ∧ (decode cX7_textTold 10 = .ok (.isub, 1)) ∧ (decode cX7_textTold 11 = .ok (.invokestatic 74, 3)) ∧ (decode cX7_textTold 14 = .ok (.ifCond .eq 12, 3)) ∧ (decode cX7_textTold 17 = .ok (.iload_n 2, 1)) ∧ (decode cX7_textTold 18 = .ok (.iconst 0, 1)) ∧ (decode cX7_textTold 19 = .ok (.iconst 1, 1)) ∧ (decode cX7_textTold 20 = .ok (.invokestatic 74, 3)) ∧ (decode cX7_textTold 23 = .ok (.ifCond .ne 6, 3)) ∧ (decode cX7_textTold 26 = .ok (.ldc 78, 2)) ∧ (decode cX7_textTold 28 = .ok (.ireturn, 1)) ∧ (decode cX7_textTold 29 = .ok (.aload_n 0, 1)) ∧ (decode cX7_textTold 30 = .ok (.getfield 10, 3)) ∧ (decode cX7_textTold 33 = .ok (.getfield 257, 3)) ∧ (decode cX7_textTold 36 = .ok (.iload_n 1, 1)) ∧ (decode cX7_textTold 37 = .ok (.aaload, 1)) ∧ (decode cX7_textTold 38 = .ok (.astore_n 3, 1)) ∧ (decode cX7_textTold 39 = .ok (.aload_n 3, 1)) ∧ (decode cX7_textTold 40 = .ok (.ifnonnull 6, 3)) := by decide +kernel
theorem dX7_textTold_0 : decode cX7_textTold 0 = .ok (.iload_n 1, 1) := edX7_textTold_0.1
theorem dX7_textTold_1 : decode cX7_textTold 1 = .ok (.iconst 0, 1) := edX7_textTold_0.2.1
theorem dX7_textTold_2 : decode cX7_textTold 2 = .ok (.aload_n 0, 1) := edX7_textTold_0.2.2.1
theorem dX7_textTold_3 : decode cX7_textTold 3 = .ok (.getfield 10, 3) := edX7_textTold_0.2.2.2.1
theorem dX7_textTold_6 : decode cX7_textTold 6 = .ok (.getfield 246, 3) := edX7_textTold_0.2.2.2.2.1
theorem dX7_textTold_9 : decode cX7_textTold 9 = .ok (.iconst 1, 1) := edX7_textTold_0.2.2.2.2.2.1
theorem dX7_textTold_10 : decode cX7_textTold 10 = .ok (.isub, 1) := edX7_textTold_0.2.2.2.2.2.2.1
theorem dX7_textTold_11 : decode cX7_textTold 11 = .ok (.invokestatic 74, 3) := edX7_textTold_0.2.2.2.2.2.2.2.1
theorem dX7_textTold_14 : decode cX7_textTold 14 = .ok (.ifCond .eq 12, 3) := edX7_textTold_0.2.2.2.2.2.2.2.2.1
theorem dX7_textTold_17 : decode cX7_textTold 17 = .ok (.iload_n 2, 1) := edX7_textTold_0.2.2.2.2.2.2.2.2.2.1
theorem dX7_textTold_18 : decode cX7_textTold 18 = .ok (.iconst 0, 1) := edX7_textTold_0.2.2.2.2.2.2.2.2.2.2.1
theorem dX7_textTold_19 : decode cX7_textTold 19 = .ok (.iconst 1, 1) := edX7_textTold_0.2.2.2.2.2.2.2.2.2.2.2.1
theorem dX7_textTold_20 : decode cX7_textTold 20 = .ok (.invokestatic 74, 3) := edX7_textTold_0.2.2.2.2.2.2.2.2.2.2.2.2.1
theorem dX7_textTold_23 : decode cX7_textTold 23 = .ok (.ifCond .ne 6, 3) := edX7_textTold_0.2.2.2.2.2.2.2.2.2.2.2.2.2.1
theorem dX7_textTold_26 : decode cX7_textTold 26 = .ok (.ldc 78, 2) := edX7_textTold_0.2.2.2.2.2.2.2.2.2.2.2.2.2.2.1
theorem dX7_textTold_28 : decode cX7_textTold 28 = .ok (.ireturn, 1) := edX7_textTold_0.2.2.2.2.2.2.2.2.2.2.2.2.2.2.2.1
theorem dX7_textTold_29 : decode cX7_textTold 29 = .ok (.aload_n 0, 1) := edX7_textTold_0.2.2.2.2.2.2.2.2.2.2.2.2.2.2.2.2.1
theorem dX7_textTold_30 : decode cX7_textTold 30 = .ok (.getfield 10, 3) := edX7_textTold_0.2.2.2.2.2.2.2.2.2.2.2.2.2.2.2.2.2.1
theorem dX7_textTold_33 : decode cX7_textTold 33 = .ok (.getfield 257, 3) := edX7_textTold_0.2.2.2.2.2.2.2.2.2.2.2.2.2.2.2.2.2.2.1
theorem dX7_textTold_36 : decode cX7_textTold 36 = .ok (.iload_n 1, 1) := edX7_textTold_0.2.2.2.2.2.2.2.2.2.2.2.2.2.2.2.2.2.2.2.1
theorem dX7_textTold_37 : decode cX7_textTold 37 = .ok (.aaload, 1) := edX7_textTold_0.2.2.2.2.2.2.2.2.2.2.2.2.2.2.2.2.2.2.2.2.1
theorem dX7_textTold_38 : decode cX7_textTold 38 = .ok (.astore_n 3, 1) := edX7_textTold_0.2.2.2.2.2.2.2.2.2.2.2.2.2.2.2.2.2.2.2.2.2.1
theorem dX7_textTold_39 : decode cX7_textTold 39 = .ok (.aload_n 3, 1) := edX7_textTold_0.2.2.2.2.2.2.2.2.2.2.2.2.2.2.2.2.2.2.2.2.2.2.1
theorem dX7_textTold_40 : decode cX7_textTold 40 = .ok (.ifnonnull 6, 3) := edX7_textTold_0.2.2.2.2.2.2.2.2.2.2.2.2.2.2.2.2.2.2.2.2.2.2.2
theorem edX7_textTold_46 : (decode cX7_textTold 46 = .ok (.iload_n 2, 1)) ∧ (decode cX7_textTold 47 = .ok (.ifCond .ne 10, 3)) ∧ (decode cX7_textTold 50 = .ok (.aload_n 3, 1)) ∧ (decode cX7_textTold 51 = .ok (.getfield 261, 3)) ∧ (decode cX7_textTold 54 = .ok (.goto 7, 3)) ∧ (decode cX7_textTold 57 = .ok (.aload_n 3, 1)) ∧ (decode cX7_textTold 58 = .ok (.getfield 264, 3)) ∧ (decode cX7_textTold 61 = .ok (.ireturn, 1)) := by decide +kernel
theorem dX7_textTold_46 : decode cX7_textTold 46 = .ok (.iload_n 2, 1) := edX7_textTold_46.1
theorem dX7_textTold_47 : decode cX7_textTold 47 = .ok (.ifCond .ne 10, 3) := edX7_textTold_46.2.1
theorem dX7_textTold_50 : decode cX7_textTold 50 = .ok (.aload_n 3, 1) := edX7_textTold_46.2.2.1
theorem dX7_textTold_51 : decode cX7_textTold 51 = .ok (.getfield 261, 3) := edX7_textTold_46.2.2.2.1
theorem dX7_textTold_54 : decode cX7_textTold 54 = .ok (.goto 7, 3) := edX7_textTold_46.2.2.2.2.1
theorem dX7_textTold_57 : decode cX7_textTold 57 = .ok (.aload_n 3, 1) := edX7_textTold_46.2.2.2.2.2.1
theorem dX7_textTold_58 : decode cX7_textTold 58 = .ok (.getfield 264, 3) := edX7_textTold_46.2.2.2.2.2.2.1
theorem dX7_textTold_61 : decode cX7_textTold 61 = .ok (.ireturn, 1) := edX7_textTold_46.2.2.2.2.2.2.2
theorem edX7_why_0 : (decode cX7_why 0 = .ok (.iload_n 1, 1)) ∧ (decode cX7_why 1 = .ok (.iconst 0, 1)) ∧ (decode cX7_why 2 = .ok (.iconst 2, 1)) ∧ (decode cX7_why 3 = .ok (.invokestatic 74, 3)) ∧ (decode cX7_why 6 = .ok (.ifCond .ne 6, 3)) ∧ (decode cX7_why 9 = .ok (.ldc 78, 2)) ∧ (decode cX7_why 11 = .ok (.ireturn, 1)) ∧ (decode cX7_why 12 = .ok (.aload_n 0, 1)) ∧ (decode cX7_why 13 = .ok (.getfield 10, 3)) ∧ (decode cX7_why 16 = .ok (.getfield 267, 3)) ∧ (decode cX7_why 19 = .ok (.iload_n 1, 1)) ∧ (decode cX7_why 20 = .ok (.iaload, 1)) ∧ (decode cX7_why 21 = .ok (.invokestatic 112, 3)) ∧ (decode cX7_why 24 = .ok (.ireturn, 1)) := by decide +kernel
theorem dX7_why_0 : decode cX7_why 0 = .ok (.iload_n 1, 1) := edX7_why_0.1
theorem dX7_why_1 : decode cX7_why 1 = .ok (.iconst 0, 1) := edX7_why_0.2.1
theorem dX7_why_2 : decode cX7_why 2 = .ok (.iconst 2, 1) := edX7_why_0.2.2.1
theorem dX7_why_3 : decode cX7_why 3 = .ok (.invokestatic 74, 3) := edX7_why_0.2.2.2.1
theorem dX7_why_6 : decode cX7_why 6 = .ok (.ifCond .ne 6, 3) := edX7_why_0.2.2.2.2.1
theorem dX7_why_9 : decode cX7_why 9 = .ok (.ldc 78, 2) := edX7_why_0.2.2.2.2.2.1
theorem dX7_why_11 : decode cX7_why 11 = .ok (.ireturn, 1) := edX7_why_0.2.2.2.2.2.2.1
theorem dX7_why_12 : decode cX7_why 12 = .ok (.aload_n 0, 1) := edX7_why_0.2.2.2.2.2.2.2.1
theorem dX7_why_13 : decode cX7_why 13 = .ok (.getfield 10, 3) := edX7_why_0.2.2.2.2.2.2.2.2.1
theorem dX7_why_16 : decode cX7_why 16 = .ok (.getfield 267, 3) := edX7_why_0.2.2.2.2.2.2.2.2.2.1
theorem dX7_why_19 : decode cX7_why 19 = .ok (.iload_n 1, 1) := edX7_why_0.2.2.2.2.2.2.2.2.2.2.1
theorem dX7_why_20 : decode cX7_why 20 = .ok (.iaload, 1) := edX7_why_0.2.2.2.2.2.2.2.2.2.2.2.1
theorem dX7_why_21 : decode cX7_why 21 = .ok (.invokestatic 112, 3) := edX7_why_0.2.2.2.2.2.2.2.2.2.2.2.2.1
theorem dX7_why_24 : decode cX7_why 24 = .ok (.ireturn, 1) := edX7_why_0.2.2.2.2.2.2.2.2.2.2.2.2.2
theorem edX7_sheet_0 : (decode cX7_sheet 0 = .ok (.iload_n 1, 1)) ∧ (decode cX7_sheet 1 = .ok (.invokestatic 204, 3)) ∧ (decode cX7_sheet 4 = .ok (.ifCond .eq 12, 3)) ∧ (decode cX7_sheet 7 = .ok (.iload_n 2, 1)) ∧ (decode cX7_sheet 8 = .ok (.iconst (-1), 1)) ∧ (decode cX7_sheet 9 = .ok (.iconst 1, 1)) ∧ (decode cX7_sheet 10 = .ok (.invokestatic 74, 3)) ∧ (decode cX7_sheet 13 = .ok (.ifCond .ne 6, 3)) ∧ (decode cX7_sheet 16 = .ok (.ldc 78, 2)) ∧ (decode cX7_sheet 18 = .ok (.ireturn, 1)) ∧ (decode cX7_sheet 19 = .ok (.iload_n 2, 1)) ∧ (decode cX7_sheet 20 = .ok (.iconst (-1), 1)) ∧ (decode cX7_sheet 21 = .ok (.if_icmp .ne 16, 3)) ∧ (decode cX7_sheet 24 = .ok (.aload_n 0, 1)) ∧ (decode cX7_sheet 25 = .ok (.getfield 47, 3)) ∧ (decode cX7_sheet 28 = .ok (.iload_n 1, 1)) ∧ (decode cX7_sheet 29 = .ok (.aaload, 1)) ∧ (decode cX7_sheet 30 = .ok (.iconst (-1), 1)) ∧ (decode cX7_sheet 31 = .ok (.iconst 0, 1)) ∧ (decode cX7_sheet 32 = .ok (.invokevirtual 270, 3)) ∧ (decode cX7_sheet 35 = .ok (.iconst 0, 1)) ∧ (decode cX7_sheet 36 = .ok (.ireturn, 1)) ∧ (decode cX7_sheet 37 = .ok (.iload_n 3, 1)) ∧ (decode cX7_sheet 38 = .ok (.bipush 24, 2)) := by decide +kernel
theorem dX7_sheet_0 : decode cX7_sheet 0 = .ok (.iload_n 1, 1) := edX7_sheet_0.1
theorem dX7_sheet_1 : decode cX7_sheet 1 = .ok (.invokestatic 204, 3) := edX7_sheet_0.2.1
theorem dX7_sheet_4 : decode cX7_sheet 4 = .ok (.ifCond .eq 12, 3) := edX7_sheet_0.2.2.1
theorem dX7_sheet_7 : decode cX7_sheet 7 = .ok (.iload_n 2, 1) := edX7_sheet_0.2.2.2.1
theorem dX7_sheet_8 : decode cX7_sheet 8 = .ok (.iconst (-1), 1) := edX7_sheet_0.2.2.2.2.1
theorem dX7_sheet_9 : decode cX7_sheet 9 = .ok (.iconst 1, 1) := edX7_sheet_0.2.2.2.2.2.1
theorem dX7_sheet_10 : decode cX7_sheet 10 = .ok (.invokestatic 74, 3) := edX7_sheet_0.2.2.2.2.2.2.1
theorem dX7_sheet_13 : decode cX7_sheet 13 = .ok (.ifCond .ne 6, 3) := edX7_sheet_0.2.2.2.2.2.2.2.1
theorem dX7_sheet_16 : decode cX7_sheet 16 = .ok (.ldc 78, 2) := edX7_sheet_0.2.2.2.2.2.2.2.2.1
theorem dX7_sheet_18 : decode cX7_sheet 18 = .ok (.ireturn, 1) := edX7_sheet_0.2.2.2.2.2.2.2.2.2.1
theorem dX7_sheet_19 : decode cX7_sheet 19 = .ok (.iload_n 2, 1) := edX7_sheet_0.2.2.2.2.2.2.2.2.2.2.1
theorem dX7_sheet_20 : decode cX7_sheet 20 = .ok (.iconst (-1), 1) := edX7_sheet_0.2.2.2.2.2.2.2.2.2.2.2.1
theorem dX7_sheet_21 : decode cX7_sheet 21 = .ok (.if_icmp .ne 16, 3) := edX7_sheet_0.2.2.2.2.2.2.2.2.2.2.2.2.1
theorem dX7_sheet_24 : decode cX7_sheet 24 = .ok (.aload_n 0, 1) := edX7_sheet_0.2.2.2.2.2.2.2.2.2.2.2.2.2.1
theorem dX7_sheet_25 : decode cX7_sheet 25 = .ok (.getfield 47, 3) := edX7_sheet_0.2.2.2.2.2.2.2.2.2.2.2.2.2.2.1
theorem dX7_sheet_28 : decode cX7_sheet 28 = .ok (.iload_n 1, 1) := edX7_sheet_0.2.2.2.2.2.2.2.2.2.2.2.2.2.2.2.1
theorem dX7_sheet_29 : decode cX7_sheet 29 = .ok (.aaload, 1) := edX7_sheet_0.2.2.2.2.2.2.2.2.2.2.2.2.2.2.2.2.1
theorem dX7_sheet_30 : decode cX7_sheet 30 = .ok (.iconst (-1), 1) := edX7_sheet_0.2.2.2.2.2.2.2.2.2.2.2.2.2.2.2.2.2.1
theorem dX7_sheet_31 : decode cX7_sheet 31 = .ok (.iconst 0, 1) := edX7_sheet_0.2.2.2.2.2.2.2.2.2.2.2.2.2.2.2.2.2.2.1
theorem dX7_sheet_32 : decode cX7_sheet 32 = .ok (.invokevirtual 270, 3) := edX7_sheet_0.2.2.2.2.2.2.2.2.2.2.2.2.2.2.2.2.2.2.2.1
theorem dX7_sheet_35 : decode cX7_sheet 35 = .ok (.iconst 0, 1) := edX7_sheet_0.2.2.2.2.2.2.2.2.2.2.2.2.2.2.2.2.2.2.2.2.1
theorem dX7_sheet_36 : decode cX7_sheet 36 = .ok (.ireturn, 1) := edX7_sheet_0.2.2.2.2.2.2.2.2.2.2.2.2.2.2.2.2.2.2.2.2.2.1
theorem dX7_sheet_37 : decode cX7_sheet 37 = .ok (.iload_n 3, 1) := edX7_sheet_0.2.2.2.2.2.2.2.2.2.2.2.2.2.2.2.2.2.2.2.2.2.2.1
theorem dX7_sheet_38 : decode cX7_sheet 38 = .ok (.bipush 24, 2) := edX7_sheet_0.2.2.2.2.2.2.2.2.2.2.2.2.2.2.2.2.2.2.2.2.2.2.2
theorem edX7_sheet_40 : (decode cX7_sheet 40 = .ok (.if_icmp .le 6, 3)) ∧ (decode cX7_sheet 43 = .ok (.ldc 78, 2)) ∧ (decode cX7_sheet 45 = .ok (.ireturn, 1)) ∧ (decode cX7_sheet 46 = .ok (.iload_n 3, 1)) ∧ (decode cX7_sheet 47 = .ok (.ifCond .ge 7, 3)) ∧ (decode cX7_sheet 50 = .ok (.ldc_w 274, 3)) ∧ (decode cX7_sheet 53 = .ok (.ireturn, 1)) ∧ (decode cX7_sheet 54 = .ok (.aload_n 0, 1)) ∧ (decode cX7_sheet 55 = .ok (.getfield 47, 3)) ∧ (decode cX7_sheet 58 = .ok (.iload_n 1, 1)) ∧ (decode cX7_sheet 59 = .ok (.aaload, 1)) ∧ (decode cX7_sheet 60 = .ok (.iload_n 2, 1)) ∧ (decode cX7_sheet 61 = .ok (.iload_n 3, 1)) ∧ (decode cX7_sheet 62 = .ok (.invokevirtual 270, 3)) ∧ (decode cX7_sheet 65 = .ok (.iload_n 3, 1)) ∧ (decode cX7_sheet 66 = .ok (.ireturn, 1)) := by decide +kernel
theorem dX7_sheet_40 : decode cX7_sheet 40 = .ok (.if_icmp .le 6, 3) := edX7_sheet_40.1
theorem dX7_sheet_43 : decode cX7_sheet 43 = .ok (.ldc 78, 2) := edX7_sheet_40.2.1
theorem dX7_sheet_45 : decode cX7_sheet 45 = .ok (.ireturn, 1) := edX7_sheet_40.2.2.1
theorem dX7_sheet_46 : decode cX7_sheet 46 = .ok (.iload_n 3, 1) := edX7_sheet_40.2.2.2.1
theorem dX7_sheet_47 : decode cX7_sheet 47 = .ok (.ifCond .ge 7, 3) := edX7_sheet_40.2.2.2.2.1
theorem dX7_sheet_50 : decode cX7_sheet 50 = .ok (.ldc_w 274, 3) := edX7_sheet_40.2.2.2.2.2.1
theorem dX7_sheet_53 : decode cX7_sheet 53 = .ok (.ireturn, 1) := edX7_sheet_40.2.2.2.2.2.2.1
theorem dX7_sheet_54 : decode cX7_sheet 54 = .ok (.aload_n 0, 1) := edX7_sheet_40.2.2.2.2.2.2.2.1
theorem dX7_sheet_55 : decode cX7_sheet 55 = .ok (.getfield 47, 3) := edX7_sheet_40.2.2.2.2.2.2.2.2.1
theorem dX7_sheet_58 : decode cX7_sheet 58 = .ok (.iload_n 1, 1) := edX7_sheet_40.2.2.2.2.2.2.2.2.2.1
theorem dX7_sheet_59 : decode cX7_sheet 59 = .ok (.aaload, 1) := edX7_sheet_40.2.2.2.2.2.2.2.2.2.2.1
theorem dX7_sheet_60 : decode cX7_sheet 60 = .ok (.iload_n 2, 1) := edX7_sheet_40.2.2.2.2.2.2.2.2.2.2.2.1
theorem dX7_sheet_61 : decode cX7_sheet 61 = .ok (.iload_n 3, 1) := edX7_sheet_40.2.2.2.2.2.2.2.2.2.2.2.2.1
theorem dX7_sheet_62 : decode cX7_sheet 62 = .ok (.invokevirtual 270, 3) := edX7_sheet_40.2.2.2.2.2.2.2.2.2.2.2.2.2.1
theorem dX7_sheet_65 : decode cX7_sheet 65 = .ok (.iload_n 3, 1) := edX7_sheet_40.2.2.2.2.2.2.2.2.2.2.2.2.2.2.1
theorem dX7_sheet_66 : decode cX7_sheet 66 = .ok (.ireturn, 1) := edX7_sheet_40.2.2.2.2.2.2.2.2.2.2.2.2.2.2.2
theorem edX7_mark_0 : (decode cX7_mark 0 = .ok (.iload_n 1, 1)) ∧ (decode cX7_mark 1 = .ok (.invokestatic 204, 3)) ∧ (decode cX7_mark 4 = .ok (.ifCond .ne 6, 3)) ∧ (decode cX7_mark 7 = .ok (.ldc 78, 2)) ∧ (decode cX7_mark 9 = .ok (.ireturn, 1)) ∧ (decode cX7_mark 10 = .ok (.aload_n 0, 1)) ∧ (decode cX7_mark 11 = .ok (.getfield 47, 3)) ∧ (decode cX7_mark 14 = .ok (.iload_n 1, 1)) ∧ (decode cX7_mark 15 = .ok (.aaload, 1)) ∧ (decode cX7_mark 16 = .ok (.astore 4, 2)) ∧ (decode cX7_mark 18 = .ok (.aload 4, 2)) ∧ (decode cX7_mark 20 = .ok (.invokevirtual 207, 3)) ∧ (decode cX7_mark 23 = .ok (.ifCond .eq 6, 3)) ∧ (decode cX7_mark 26 = .ok (.ldc 210, 2)) ∧ (decode cX7_mark 28 = .ok (.ireturn, 1)) ∧ (decode cX7_mark 29 = .ok (.aload 4, 2)) ∧ (decode cX7_mark 31 = .ok (.iload_n 2, 1)) ∧ (decode cX7_mark 32 = .ok (.invokevirtual 275, 3)) ∧ (decode cX7_mark 35 = .ok (.ifCond .ne 7, 3)) ∧ (decode cX7_mark 38 = .ok (.ldc_w 278, 3)) ∧ (decode cX7_mark 41 = .ok (.ireturn, 1)) ∧ (decode cX7_mark 42 = .ok (.aload 4, 2)) ∧ (decode cX7_mark 44 = .ok (.getfield 279, 3)) ∧ (decode cX7_mark 47 = .ok (.ifCond .ne 23, 3)) := by decide +kernel
theorem dX7_mark_0 : decode cX7_mark 0 = .ok (.iload_n 1, 1) := edX7_mark_0.1
theorem dX7_mark_1 : decode cX7_mark 1 = .ok (.invokestatic 204, 3) := edX7_mark_0.2.1
theorem dX7_mark_4 : decode cX7_mark 4 = .ok (.ifCond .ne 6, 3) := edX7_mark_0.2.2.1
theorem dX7_mark_7 : decode cX7_mark 7 = .ok (.ldc 78, 2) := edX7_mark_0.2.2.2.1
theorem dX7_mark_9 : decode cX7_mark 9 = .ok (.ireturn, 1) := edX7_mark_0.2.2.2.2.1
theorem dX7_mark_10 : decode cX7_mark 10 = .ok (.aload_n 0, 1) := edX7_mark_0.2.2.2.2.2.1
theorem dX7_mark_11 : decode cX7_mark 11 = .ok (.getfield 47, 3) := edX7_mark_0.2.2.2.2.2.2.1
theorem dX7_mark_14 : decode cX7_mark 14 = .ok (.iload_n 1, 1) := edX7_mark_0.2.2.2.2.2.2.2.1
theorem dX7_mark_15 : decode cX7_mark 15 = .ok (.aaload, 1) := edX7_mark_0.2.2.2.2.2.2.2.2.1
theorem dX7_mark_16 : decode cX7_mark 16 = .ok (.astore 4, 2) := edX7_mark_0.2.2.2.2.2.2.2.2.2.1
theorem dX7_mark_18 : decode cX7_mark 18 = .ok (.aload 4, 2) := edX7_mark_0.2.2.2.2.2.2.2.2.2.2.1
theorem dX7_mark_20 : decode cX7_mark 20 = .ok (.invokevirtual 207, 3) := edX7_mark_0.2.2.2.2.2.2.2.2.2.2.2.1
theorem dX7_mark_23 : decode cX7_mark 23 = .ok (.ifCond .eq 6, 3) := edX7_mark_0.2.2.2.2.2.2.2.2.2.2.2.2.1
theorem dX7_mark_26 : decode cX7_mark 26 = .ok (.ldc 210, 2) := edX7_mark_0.2.2.2.2.2.2.2.2.2.2.2.2.2.1
theorem dX7_mark_28 : decode cX7_mark 28 = .ok (.ireturn, 1) := edX7_mark_0.2.2.2.2.2.2.2.2.2.2.2.2.2.2.1
theorem dX7_mark_29 : decode cX7_mark 29 = .ok (.aload 4, 2) := edX7_mark_0.2.2.2.2.2.2.2.2.2.2.2.2.2.2.2.1
theorem dX7_mark_31 : decode cX7_mark 31 = .ok (.iload_n 2, 1) := edX7_mark_0.2.2.2.2.2.2.2.2.2.2.2.2.2.2.2.2.1
theorem dX7_mark_32 : decode cX7_mark 32 = .ok (.invokevirtual 275, 3) := edX7_mark_0.2.2.2.2.2.2.2.2.2.2.2.2.2.2.2.2.2.1
theorem dX7_mark_35 : decode cX7_mark 35 = .ok (.ifCond .ne 7, 3) := edX7_mark_0.2.2.2.2.2.2.2.2.2.2.2.2.2.2.2.2.2.2.1
theorem dX7_mark_38 : decode cX7_mark 38 = .ok (.ldc_w 278, 3) := edX7_mark_0.2.2.2.2.2.2.2.2.2.2.2.2.2.2.2.2.2.2.2.1
theorem dX7_mark_41 : decode cX7_mark 41 = .ok (.ireturn, 1) := edX7_mark_0.2.2.2.2.2.2.2.2.2.2.2.2.2.2.2.2.2.2.2.2.1
theorem dX7_mark_42 : decode cX7_mark 42 = .ok (.aload 4, 2) := edX7_mark_0.2.2.2.2.2.2.2.2.2.2.2.2.2.2.2.2.2.2.2.2.2.1
theorem dX7_mark_44 : decode cX7_mark 44 = .ok (.getfield 279, 3) := edX7_mark_0.2.2.2.2.2.2.2.2.2.2.2.2.2.2.2.2.2.2.2.2.2.2.1
theorem dX7_mark_47 : decode cX7_mark 47 = .ok (.ifCond .ne 23, 3) := edX7_mark_0.2.2.2.2.2.2.2.2.2.2.2.2.2.2.2.2.2.2.2.2.2.2.2
theorem edX7_mark_50 : (decode cX7_mark 50 = .ok (.iload_n 3, 1)) ∧ (decode cX7_mark 51 = .ok (.ldc 200, 2)) ∧ (decode cX7_mark 53 = .ok (.if_icmp .ne 6, 3)) ∧ (decode cX7_mark 56 = .ok (.ldc 123, 2)) ∧ (decode cX7_mark 58 = .ok (.ireturn, 1)) ∧ (decode cX7_mark 59 = .ok (.aload 4, 2)) ∧ (decode cX7_mark 61 = .ok (.getfield 218, 3)) ∧ (decode cX7_mark 64 = .ok (.iload_n 2, 1)) ∧ (decode cX7_mark 65 = .ok (.iload_n 3, 1)) ∧ (decode cX7_mark 66 = .ok (.i2s, 1)) ∧ (decode cX7_mark 67 = .ok (.iastore, 1)) ∧ (decode cX7_mark 68 = .ok (.iconst 1, 1)) ∧ (decode cX7_mark 69 = .ok (.ireturn, 1)) ∧ (decode cX7_mark 70 = .ok (.iload_n 3, 1)) ∧ (decode cX7_mark 71 = .ok (.ldc 200, 2)) ∧ (decode cX7_mark 73 = .ok (.if_icmp .eq 19, 3)) ∧ (decode cX7_mark 76 = .ok (.iload_n 3, 1)) ∧ (decode cX7_mark 77 = .ok (.ldc_w 282, 3)) ∧ (decode cX7_mark 80 = .ok (.ldc_w 283, 3)) ∧ (decode cX7_mark 83 = .ok (.invokestatic 74, 3)) ∧ (decode cX7_mark 86 = .ok (.ifCond .ne 6, 3)) ∧ (decode cX7_mark 89 = .ok (.ldc 78, 2)) ∧ (decode cX7_mark 91 = .ok (.ireturn, 1)) ∧ (decode cX7_mark 92 = .ok (.aload 4, 2)) := by decide +kernel
theorem dX7_mark_50 : decode cX7_mark 50 = .ok (.iload_n 3, 1) := edX7_mark_50.1
theorem dX7_mark_51 : decode cX7_mark 51 = .ok (.ldc 200, 2) := edX7_mark_50.2.1
theorem dX7_mark_53 : decode cX7_mark 53 = .ok (.if_icmp .ne 6, 3) := edX7_mark_50.2.2.1
theorem dX7_mark_56 : decode cX7_mark 56 = .ok (.ldc 123, 2) := edX7_mark_50.2.2.2.1
theorem dX7_mark_58 : decode cX7_mark 58 = .ok (.ireturn, 1) := edX7_mark_50.2.2.2.2.1
theorem dX7_mark_59 : decode cX7_mark 59 = .ok (.aload 4, 2) := edX7_mark_50.2.2.2.2.2.1
theorem dX7_mark_61 : decode cX7_mark 61 = .ok (.getfield 218, 3) := edX7_mark_50.2.2.2.2.2.2.1
theorem dX7_mark_64 : decode cX7_mark 64 = .ok (.iload_n 2, 1) := edX7_mark_50.2.2.2.2.2.2.2.1
theorem dX7_mark_65 : decode cX7_mark 65 = .ok (.iload_n 3, 1) := edX7_mark_50.2.2.2.2.2.2.2.2.1
theorem dX7_mark_66 : decode cX7_mark 66 = .ok (.i2s, 1) := edX7_mark_50.2.2.2.2.2.2.2.2.2.1
theorem dX7_mark_67 : decode cX7_mark 67 = .ok (.iastore, 1) := edX7_mark_50.2.2.2.2.2.2.2.2.2.2.1
theorem dX7_mark_68 : decode cX7_mark 68 = .ok (.iconst 1, 1) := edX7_mark_50.2.2.2.2.2.2.2.2.2.2.2.1
theorem dX7_mark_69 : decode cX7_mark 69 = .ok (.ireturn, 1) := edX7_mark_50.2.2.2.2.2.2.2.2.2.2.2.2.1
theorem dX7_mark_70 : decode cX7_mark 70 = .ok (.iload_n 3, 1) := edX7_mark_50.2.2.2.2.2.2.2.2.2.2.2.2.2.1
theorem dX7_mark_71 : decode cX7_mark 71 = .ok (.ldc 200, 2) := edX7_mark_50.2.2.2.2.2.2.2.2.2.2.2.2.2.2.1
theorem dX7_mark_73 : decode cX7_mark 73 = .ok (.if_icmp .eq 19, 3) := edX7_mark_50.2.2.2.2.2.2.2.2.2.2.2.2.2.2.2.1
theorem dX7_mark_76 : decode cX7_mark 76 = .ok (.iload_n 3, 1) := edX7_mark_50.2.2.2.2.2.2.2.2.2.2.2.2.2.2.2.2.1
theorem dX7_mark_77 : decode cX7_mark 77 = .ok (.ldc_w 282, 3) := edX7_mark_50.2.2.2.2.2.2.2.2.2.2.2.2.2.2.2.2.2.1
theorem dX7_mark_80 : decode cX7_mark 80 = .ok (.ldc_w 283, 3) := edX7_mark_50.2.2.2.2.2.2.2.2.2.2.2.2.2.2.2.2.2.2.1
theorem dX7_mark_83 : decode cX7_mark 83 = .ok (.invokestatic 74, 3) := edX7_mark_50.2.2.2.2.2.2.2.2.2.2.2.2.2.2.2.2.2.2.2.1
theorem dX7_mark_86 : decode cX7_mark 86 = .ok (.ifCond .ne 6, 3) := edX7_mark_50.2.2.2.2.2.2.2.2.2.2.2.2.2.2.2.2.2.2.2.2.1
theorem dX7_mark_89 : decode cX7_mark 89 = .ok (.ldc 78, 2) := edX7_mark_50.2.2.2.2.2.2.2.2.2.2.2.2.2.2.2.2.2.2.2.2.2.1
theorem dX7_mark_91 : decode cX7_mark 91 = .ok (.ireturn, 1) := edX7_mark_50.2.2.2.2.2.2.2.2.2.2.2.2.2.2.2.2.2.2.2.2.2.2.1
theorem dX7_mark_92 : decode cX7_mark 92 = .ok (.aload 4, 2) := edX7_mark_50.2.2.2.2.2.2.2.2.2.2.2.2.2.2.2.2.2.2.2.2.2.2.2
theorem edX7_mark_94 : (decode cX7_mark 94 = .ok (.getfield 218, 3)) ∧ (decode cX7_mark 97 = .ok (.iload_n 2, 1)) ∧ (decode cX7_mark 98 = .ok (.iload_n 3, 1)) ∧ (decode cX7_mark 99 = .ok (.iastore, 1)) ∧ (decode cX7_mark 100 = .ok (.iconst 1, 1)) ∧ (decode cX7_mark 101 = .ok (.ireturn, 1)) := by decide +kernel
theorem dX7_mark_94 : decode cX7_mark 94 = .ok (.getfield 218, 3) := edX7_mark_94.1
theorem dX7_mark_97 : decode cX7_mark 97 = .ok (.iload_n 2, 1) := edX7_mark_94.2.1
theorem dX7_mark_98 : decode cX7_mark 98 = .ok (.iload_n 3, 1) := edX7_mark_94.2.2.1
theorem dX7_mark_99 : decode cX7_mark 99 = .ok (.iastore, 1) := edX7_mark_94.2.2.2.1
theorem dX7_mark_100 : decode cX7_mark 100 = .ok (.iconst 1, 1) := edX7_mark_94.2.2.2.2.1
theorem dX7_mark_101 : decode cX7_mark 101 = .ok (.ireturn, 1) := edX7_mark_94.2.2.2.2.2
theorem edX7_pour_0 : (decode cX7_pour 0 = .ok (.iload_n 1, 1)) ∧ (decode cX7_pour 1 = .ok (.invokestatic 204, 3)) ∧ (decode cX7_pour 4 = .ok (.ifCond .ne 6, 3)) ∧ (decode cX7_pour 7 = .ok (.ldc 78, 2)) ∧ (decode cX7_pour 9 = .ok (.ireturn, 1)) ∧ (decode cX7_pour 10 = .ok (.aload_n 0, 1)) ∧ (decode cX7_pour 11 = .ok (.getfield 47, 3)) ∧ (decode cX7_pour 14 = .ok (.iload_n 1, 1)) ∧ (decode cX7_pour 15 = .ok (.aaload, 1)) ∧ (decode cX7_pour 16 = .ok (.astore_n 2, 1)) ∧ (decode cX7_pour 17 = .ok (.aload_n 2, 1)) ∧ (decode cX7_pour 18 = .ok (.invokevirtual 207, 3)) ∧ (decode cX7_pour 21 = .ok (.ifCond .eq 6, 3)) ∧ (decode cX7_pour 24 = .ok (.ldc 210, 2)) ∧ (decode cX7_pour 26 = .ok (.ireturn, 1)) ∧ (decode cX7_pour 27 = .ok (.iconst 0, 1)) ∧ (decode cX7_pour 28 = .ok (.istore_n 3, 1)) ∧ (decode cX7_pour 29 = .ok (.iconst 0, 1)) ∧ (decode cX7_pour 30 = .ok (.istore 4, 2)) ∧ (decode cX7_pour 32 = .ok (.iload 4, 2)) ∧ (decode cX7_pour 34 = .ok (.iconst 4, 1)) ∧ (decode cX7_pour 35 = .ok (.if_icmp .ge 62, 3)) ∧ (decode cX7_pour 38 = .ok (.aload_n 2, 1)) ∧ (decode cX7_pour 39 = .ok (.iload 4, 2)) := by decide +kernel
theorem dX7_pour_0 : decode cX7_pour 0 = .ok (.iload_n 1, 1) := edX7_pour_0.1
theorem dX7_pour_1 : decode cX7_pour 1 = .ok (.invokestatic 204, 3) := edX7_pour_0.2.1
theorem dX7_pour_4 : decode cX7_pour 4 = .ok (.ifCond .ne 6, 3) := edX7_pour_0.2.2.1
theorem dX7_pour_7 : decode cX7_pour 7 = .ok (.ldc 78, 2) := edX7_pour_0.2.2.2.1
theorem dX7_pour_9 : decode cX7_pour 9 = .ok (.ireturn, 1) := edX7_pour_0.2.2.2.2.1
theorem dX7_pour_10 : decode cX7_pour 10 = .ok (.aload_n 0, 1) := edX7_pour_0.2.2.2.2.2.1
theorem dX7_pour_11 : decode cX7_pour 11 = .ok (.getfield 47, 3) := edX7_pour_0.2.2.2.2.2.2.1
theorem dX7_pour_14 : decode cX7_pour 14 = .ok (.iload_n 1, 1) := edX7_pour_0.2.2.2.2.2.2.2.1
theorem dX7_pour_15 : decode cX7_pour 15 = .ok (.aaload, 1) := edX7_pour_0.2.2.2.2.2.2.2.2.1
theorem dX7_pour_16 : decode cX7_pour 16 = .ok (.astore_n 2, 1) := edX7_pour_0.2.2.2.2.2.2.2.2.2.1
theorem dX7_pour_17 : decode cX7_pour 17 = .ok (.aload_n 2, 1) := edX7_pour_0.2.2.2.2.2.2.2.2.2.2.1
theorem dX7_pour_18 : decode cX7_pour 18 = .ok (.invokevirtual 207, 3) := edX7_pour_0.2.2.2.2.2.2.2.2.2.2.2.1
theorem dX7_pour_21 : decode cX7_pour 21 = .ok (.ifCond .eq 6, 3) := edX7_pour_0.2.2.2.2.2.2.2.2.2.2.2.2.1
theorem dX7_pour_24 : decode cX7_pour 24 = .ok (.ldc 210, 2) := edX7_pour_0.2.2.2.2.2.2.2.2.2.2.2.2.2.1
theorem dX7_pour_26 : decode cX7_pour 26 = .ok (.ireturn, 1) := edX7_pour_0.2.2.2.2.2.2.2.2.2.2.2.2.2.2.1
theorem dX7_pour_27 : decode cX7_pour 27 = .ok (.iconst 0, 1) := edX7_pour_0.2.2.2.2.2.2.2.2.2.2.2.2.2.2.2.1
theorem dX7_pour_28 : decode cX7_pour 28 = .ok (.istore_n 3, 1) := edX7_pour_0.2.2.2.2.2.2.2.2.2.2.2.2.2.2.2.2.1
theorem dX7_pour_29 : decode cX7_pour 29 = .ok (.iconst 0, 1) := edX7_pour_0.2.2.2.2.2.2.2.2.2.2.2.2.2.2.2.2.2.1
theorem dX7_pour_30 : decode cX7_pour 30 = .ok (.istore 4, 2) := edX7_pour_0.2.2.2.2.2.2.2.2.2.2.2.2.2.2.2.2.2.2.1
theorem dX7_pour_32 : decode cX7_pour 32 = .ok (.iload 4, 2) := edX7_pour_0.2.2.2.2.2.2.2.2.2.2.2.2.2.2.2.2.2.2.2.1
theorem dX7_pour_34 : decode cX7_pour 34 = .ok (.iconst 4, 1) := edX7_pour_0.2.2.2.2.2.2.2.2.2.2.2.2.2.2.2.2.2.2.2.2.1
theorem dX7_pour_35 : decode cX7_pour 35 = .ok (.if_icmp .ge 62, 3) := edX7_pour_0.2.2.2.2.2.2.2.2.2.2.2.2.2.2.2.2.2.2.2.2.2.1
theorem dX7_pour_38 : decode cX7_pour 38 = .ok (.aload_n 2, 1) := edX7_pour_0.2.2.2.2.2.2.2.2.2.2.2.2.2.2.2.2.2.2.2.2.2.2.1
theorem dX7_pour_39 : decode cX7_pour 39 = .ok (.iload 4, 2) := edX7_pour_0.2.2.2.2.2.2.2.2.2.2.2.2.2.2.2.2.2.2.2.2.2.2.2
theorem edX7_pour_41 : (decode cX7_pour 41 = .ok (.invokevirtual 215, 3)) ∧ (decode cX7_pour 44 = .ok (.ifCond .eq 47, 3)) ∧ (decode cX7_pour 47 = .ok (.aload_n 2, 1)) ∧ (decode cX7_pour 48 = .ok (.getfield 218, 3)) ∧ (decode cX7_pour 51 = .ok (.iload 4, 2)) ∧ (decode cX7_pour 53 = .ok (.iaload, 1)) ∧ (decode cX7_pour 54 = .ok (.bipush 9, 2)) ∧ (decode cX7_pour 56 = .ok (.invokestatic 284, 3)) ∧ (decode cX7_pour 59 = .ok (.istore 5, 2)) ∧ (decode cX7_pour 61 = .ok (.iload 5, 2)) ∧ (decode cX7_pour 63 = .ok (.aload_n 0, 1)) ∧ (decode cX7_pour 64 = .ok (.getfield 10, 3)) ∧ (decode cX7_pour 67 = .ok (.getfield 127, 3)) ∧ (decode cX7_pour 70 = .ok (.iload 4, 2)) ∧ (decode cX7_pour 72 = .ok (.iaload, 1)) ∧ (decode cX7_pour 73 = .ok (.if_icmp .eq 18, 3)) ∧ (decode cX7_pour 76 = .ok (.aload_n 0, 1)) ∧ (decode cX7_pour 77 = .ok (.getfield 10, 3)) ∧ (decode cX7_pour 80 = .ok (.getfield 127, 3)) ∧ (decode cX7_pour 83 = .ok (.iload 4, 2)) ∧ (decode cX7_pour 85 = .ok (.iload 5, 2)) ∧ (decode cX7_pour 87 = .ok (.iastore, 1)) ∧ (decode cX7_pour 88 = .ok (.iinc 3 1, 3)) ∧ (decode cX7_pour 91 = .ok (.iinc 4 1, 3)) := by decide +kernel
theorem dX7_pour_41 : decode cX7_pour 41 = .ok (.invokevirtual 215, 3) := edX7_pour_41.1
theorem dX7_pour_44 : decode cX7_pour 44 = .ok (.ifCond .eq 47, 3) := edX7_pour_41.2.1
theorem dX7_pour_47 : decode cX7_pour 47 = .ok (.aload_n 2, 1) := edX7_pour_41.2.2.1
theorem dX7_pour_48 : decode cX7_pour 48 = .ok (.getfield 218, 3) := edX7_pour_41.2.2.2.1
theorem dX7_pour_51 : decode cX7_pour 51 = .ok (.iload 4, 2) := edX7_pour_41.2.2.2.2.1
theorem dX7_pour_53 : decode cX7_pour 53 = .ok (.iaload, 1) := edX7_pour_41.2.2.2.2.2.1
theorem dX7_pour_54 : decode cX7_pour 54 = .ok (.bipush 9, 2) := edX7_pour_41.2.2.2.2.2.2.1
theorem dX7_pour_56 : decode cX7_pour 56 = .ok (.invokestatic 284, 3) := edX7_pour_41.2.2.2.2.2.2.2.1
theorem dX7_pour_59 : decode cX7_pour 59 = .ok (.istore 5, 2) := edX7_pour_41.2.2.2.2.2.2.2.2.1
theorem dX7_pour_61 : decode cX7_pour 61 = .ok (.iload 5, 2) := edX7_pour_41.2.2.2.2.2.2.2.2.2.1
theorem dX7_pour_63 : decode cX7_pour 63 = .ok (.aload_n 0, 1) := edX7_pour_41.2.2.2.2.2.2.2.2.2.2.1
theorem dX7_pour_64 : decode cX7_pour 64 = .ok (.getfield 10, 3) := edX7_pour_41.2.2.2.2.2.2.2.2.2.2.2.1
theorem dX7_pour_67 : decode cX7_pour 67 = .ok (.getfield 127, 3) := edX7_pour_41.2.2.2.2.2.2.2.2.2.2.2.2.1
theorem dX7_pour_70 : decode cX7_pour 70 = .ok (.iload 4, 2) := edX7_pour_41.2.2.2.2.2.2.2.2.2.2.2.2.2.1
theorem dX7_pour_72 : decode cX7_pour 72 = .ok (.iaload, 1) := edX7_pour_41.2.2.2.2.2.2.2.2.2.2.2.2.2.2.1
theorem dX7_pour_73 : decode cX7_pour 73 = .ok (.if_icmp .eq 18, 3) := edX7_pour_41.2.2.2.2.2.2.2.2.2.2.2.2.2.2.2.1
theorem dX7_pour_76 : decode cX7_pour 76 = .ok (.aload_n 0, 1) := edX7_pour_41.2.2.2.2.2.2.2.2.2.2.2.2.2.2.2.2.1
theorem dX7_pour_77 : decode cX7_pour 77 = .ok (.getfield 10, 3) := edX7_pour_41.2.2.2.2.2.2.2.2.2.2.2.2.2.2.2.2.2.1
theorem dX7_pour_80 : decode cX7_pour 80 = .ok (.getfield 127, 3) := edX7_pour_41.2.2.2.2.2.2.2.2.2.2.2.2.2.2.2.2.2.2.1
theorem dX7_pour_83 : decode cX7_pour 83 = .ok (.iload 4, 2) := edX7_pour_41.2.2.2.2.2.2.2.2.2.2.2.2.2.2.2.2.2.2.2.1
theorem dX7_pour_85 : decode cX7_pour 85 = .ok (.iload 5, 2) := edX7_pour_41.2.2.2.2.2.2.2.2.2.2.2.2.2.2.2.2.2.2.2.2.1
theorem dX7_pour_87 : decode cX7_pour 87 = .ok (.iastore, 1) := edX7_pour_41.2.2.2.2.2.2.2.2.2.2.2.2.2.2.2.2.2.2.2.2.2.1
theorem dX7_pour_88 : decode cX7_pour 88 = .ok (.iinc 3 1, 3) := edX7_pour_41.2.2.2.2.2.2.2.2.2.2.2.2.2.2.2.2.2.2.2.2.2.2.1
theorem dX7_pour_91 : decode cX7_pour 91 = .ok (.iinc 4 1, 3) := edX7_pour_41.2.2.2.2.2.2.2.2.2.2.2.2.2.2.2.2.2.2.2.2.2.2.2
theorem edX7_pour_94 : (decode cX7_pour 94 = .ok (.goto (-62), 3)) ∧ (decode cX7_pour 97 = .ok (.iload_n 3, 1)) ∧ (decode cX7_pour 98 = .ok (.ireturn, 1)) := by decide +kernel
theorem dX7_pour_94 : decode cX7_pour 94 = .ok (.goto (-62), 3) := edX7_pour_94.1
theorem dX7_pour_97 : decode cX7_pour 97 = .ok (.iload_n 3, 1) := edX7_pour_94.2.1
theorem dX7_pour_98 : decode cX7_pour 98 = .ok (.ireturn, 1) := edX7_pour_94.2.2
theorem edX7_reads_0 : (decode cX7_reads 0 = .ok (.iload_n 1, 1)) ∧ (decode cX7_reads 1 = .ok (.invokestatic 204, 3)) ∧ (decode cX7_reads 4 = .ok (.ifCond .ne 6, 3)) ∧ (decode cX7_reads 7 = .ok (.ldc 78, 2)) ∧ (decode cX7_reads 9 = .ok (.ireturn, 1)) ∧ (decode cX7_reads 10 = .ok (.aload_n 0, 1)) ∧ (decode cX7_reads 11 = .ok (.getfield 47, 3)) ∧ (decode cX7_reads 14 = .ok (.iload_n 1, 1)) ∧ (decode cX7_reads 15 = .ok (.aaload, 1)) ∧ (decode cX7_reads 16 = .ok (.astore_n 2, 1)) ∧ (decode cX7_reads 17 = .ok (.aload_n 2, 1)) ∧ (decode cX7_reads 18 = .ok (.invokevirtual 207, 3)) ∧ (decode cX7_reads 21 = .ok (.ifCond .eq 6, 3)) ∧ (decode cX7_reads 24 = .ok (.ldc 210, 2)) ∧ (decode cX7_reads 26 = .ok (.ireturn, 1)) ∧ (decode cX7_reads 27 = .ok (.aload_n 0, 1)) ∧ (decode cX7_reads 28 = .ok (.getfield 16, 3)) ∧ (decode cX7_reads 31 = .ok (.aload_n 0, 1)) ∧ (decode cX7_reads 32 = .ok (.getfield 10, 3)) ∧ (decode cX7_reads 35 = .ok (.invokevirtual 193, 3)) ∧ (decode cX7_reads 38 = .ok (.iconst 0, 1)) ∧ (decode cX7_reads 39 = .ok (.istore_n 3, 1)) ∧ (decode cX7_reads 40 = .ok (.iload_n 3, 1)) ∧ (decode cX7_reads 41 = .ok (.aload_n 2, 1)) := by decide +kernel
theorem dX7_reads_0 : decode cX7_reads 0 = .ok (.iload_n 1, 1) := edX7_reads_0.1
theorem dX7_reads_1 : decode cX7_reads 1 = .ok (.invokestatic 204, 3) := edX7_reads_0.2.1
theorem dX7_reads_4 : decode cX7_reads 4 = .ok (.ifCond .ne 6, 3) := edX7_reads_0.2.2.1
theorem dX7_reads_7 : decode cX7_reads 7 = .ok (.ldc 78, 2) := edX7_reads_0.2.2.2.1
theorem dX7_reads_9 : decode cX7_reads 9 = .ok (.ireturn, 1) := edX7_reads_0.2.2.2.2.1
theorem dX7_reads_10 : decode cX7_reads 10 = .ok (.aload_n 0, 1) := edX7_reads_0.2.2.2.2.2.1
theorem dX7_reads_11 : decode cX7_reads 11 = .ok (.getfield 47, 3) := edX7_reads_0.2.2.2.2.2.2.1
theorem dX7_reads_14 : decode cX7_reads 14 = .ok (.iload_n 1, 1) := edX7_reads_0.2.2.2.2.2.2.2.1
theorem dX7_reads_15 : decode cX7_reads 15 = .ok (.aaload, 1) := edX7_reads_0.2.2.2.2.2.2.2.2.1
theorem dX7_reads_16 : decode cX7_reads 16 = .ok (.astore_n 2, 1) := edX7_reads_0.2.2.2.2.2.2.2.2.2.1
theorem dX7_reads_17 : decode cX7_reads 17 = .ok (.aload_n 2, 1) := edX7_reads_0.2.2.2.2.2.2.2.2.2.2.1
theorem dX7_reads_18 : decode cX7_reads 18 = .ok (.invokevirtual 207, 3) := edX7_reads_0.2.2.2.2.2.2.2.2.2.2.2.1
theorem dX7_reads_21 : decode cX7_reads 21 = .ok (.ifCond .eq 6, 3) := edX7_reads_0.2.2.2.2.2.2.2.2.2.2.2.2.1
theorem dX7_reads_24 : decode cX7_reads 24 = .ok (.ldc 210, 2) := edX7_reads_0.2.2.2.2.2.2.2.2.2.2.2.2.2.1
theorem dX7_reads_26 : decode cX7_reads 26 = .ok (.ireturn, 1) := edX7_reads_0.2.2.2.2.2.2.2.2.2.2.2.2.2.2.1
theorem dX7_reads_27 : decode cX7_reads 27 = .ok (.aload_n 0, 1) := edX7_reads_0.2.2.2.2.2.2.2.2.2.2.2.2.2.2.2.1
theorem dX7_reads_28 : decode cX7_reads 28 = .ok (.getfield 16, 3) := edX7_reads_0.2.2.2.2.2.2.2.2.2.2.2.2.2.2.2.2.1
theorem dX7_reads_31 : decode cX7_reads 31 = .ok (.aload_n 0, 1) := edX7_reads_0.2.2.2.2.2.2.2.2.2.2.2.2.2.2.2.2.2.1
theorem dX7_reads_32 : decode cX7_reads 32 = .ok (.getfield 10, 3) := edX7_reads_0.2.2.2.2.2.2.2.2.2.2.2.2.2.2.2.2.2.2.1
theorem dX7_reads_35 : decode cX7_reads 35 = .ok (.invokevirtual 193, 3) := edX7_reads_0.2.2.2.2.2.2.2.2.2.2.2.2.2.2.2.2.2.2.2.1
theorem dX7_reads_38 : decode cX7_reads 38 = .ok (.iconst 0, 1) := edX7_reads_0.2.2.2.2.2.2.2.2.2.2.2.2.2.2.2.2.2.2.2.2.1
theorem dX7_reads_39 : decode cX7_reads 39 = .ok (.istore_n 3, 1) := edX7_reads_0.2.2.2.2.2.2.2.2.2.2.2.2.2.2.2.2.2.2.2.2.2.1
theorem dX7_reads_40 : decode cX7_reads 40 = .ok (.iload_n 3, 1) := edX7_reads_0.2.2.2.2.2.2.2.2.2.2.2.2.2.2.2.2.2.2.2.2.2.2.1
theorem dX7_reads_41 : decode cX7_reads 41 = .ok (.aload_n 2, 1) := edX7_reads_0.2.2.2.2.2.2.2.2.2.2.2.2.2.2.2.2.2.2.2.2.2.2.2
theorem edX7_reads_42 : (decode cX7_reads 42 = .ok (.getfield 287, 3)) ∧ (decode cX7_reads 45 = .ok (.if_icmp .ge 45, 3)) ∧ (decode cX7_reads 48 = .ok (.aload_n 2, 1)) ∧ (decode cX7_reads 49 = .ok (.iload_n 3, 1)) ∧ (decode cX7_reads 50 = .ok (.invokevirtual 215, 3)) ∧ (decode cX7_reads 53 = .ok (.ifCond .eq 21, 3)) ∧ (decode cX7_reads 56 = .ok (.aload_n 2, 1)) ∧ (decode cX7_reads 57 = .ok (.getfield 218, 3)) ∧ (decode cX7_reads 60 = .ok (.iload_n 3, 1)) ∧ (decode cX7_reads 61 = .ok (.iaload, 1)) ∧ (decode cX7_reads 62 = .ok (.aload_n 0, 1)) ∧ (decode cX7_reads 63 = .ok (.getfield 16, 3)) ∧ (decode cX7_reads 66 = .ok (.invokevirtual 173, 3)) ∧ (decode cX7_reads 69 = .ok (.if_icmp .eq 5, 3)) ∧ (decode cX7_reads 72 = .ok (.iload_n 3, 1)) ∧ (decode cX7_reads 73 = .ok (.ireturn, 1)) ∧ (decode cX7_reads 74 = .ok (.aload_n 0, 1)) ∧ (decode cX7_reads 75 = .ok (.getfield 16, 3)) ∧ (decode cX7_reads 78 = .ok (.iconst 1, 1)) ∧ (decode cX7_reads 79 = .ok (.iconst (-1), 1)) ∧ (decode cX7_reads 80 = .ok (.invokevirtual 163, 3)) ∧ (decode cX7_reads 83 = .ok (.pop, 1)) ∧ (decode cX7_reads 84 = .ok (.iinc 3 1, 3)) ∧ (decode cX7_reads 87 = .ok (.goto (-47), 3)) := by decide +kernel
theorem dX7_reads_42 : decode cX7_reads 42 = .ok (.getfield 287, 3) := edX7_reads_42.1
theorem dX7_reads_45 : decode cX7_reads 45 = .ok (.if_icmp .ge 45, 3) := edX7_reads_42.2.1
theorem dX7_reads_48 : decode cX7_reads 48 = .ok (.aload_n 2, 1) := edX7_reads_42.2.2.1
theorem dX7_reads_49 : decode cX7_reads 49 = .ok (.iload_n 3, 1) := edX7_reads_42.2.2.2.1
theorem dX7_reads_50 : decode cX7_reads 50 = .ok (.invokevirtual 215, 3) := edX7_reads_42.2.2.2.2.1
theorem dX7_reads_53 : decode cX7_reads 53 = .ok (.ifCond .eq 21, 3) := edX7_reads_42.2.2.2.2.2.1
theorem dX7_reads_56 : decode cX7_reads 56 = .ok (.aload_n 2, 1) := edX7_reads_42.2.2.2.2.2.2.1
theorem dX7_reads_57 : decode cX7_reads 57 = .ok (.getfield 218, 3) := edX7_reads_42.2.2.2.2.2.2.2.1
theorem dX7_reads_60 : decode cX7_reads 60 = .ok (.iload_n 3, 1) := edX7_reads_42.2.2.2.2.2.2.2.2.1
theorem dX7_reads_61 : decode cX7_reads 61 = .ok (.iaload, 1) := edX7_reads_42.2.2.2.2.2.2.2.2.2.1
theorem dX7_reads_62 : decode cX7_reads 62 = .ok (.aload_n 0, 1) := edX7_reads_42.2.2.2.2.2.2.2.2.2.2.1
theorem dX7_reads_63 : decode cX7_reads 63 = .ok (.getfield 16, 3) := edX7_reads_42.2.2.2.2.2.2.2.2.2.2.2.1
theorem dX7_reads_66 : decode cX7_reads 66 = .ok (.invokevirtual 173, 3) := edX7_reads_42.2.2.2.2.2.2.2.2.2.2.2.2.1
theorem dX7_reads_69 : decode cX7_reads 69 = .ok (.if_icmp .eq 5, 3) := edX7_reads_42.2.2.2.2.2.2.2.2.2.2.2.2.2.1
theorem dX7_reads_72 : decode cX7_reads 72 = .ok (.iload_n 3, 1) := edX7_reads_42.2.2.2.2.2.2.2.2.2.2.2.2.2.2.1
theorem dX7_reads_73 : decode cX7_reads 73 = .ok (.ireturn, 1) := edX7_reads_42.2.2.2.2.2.2.2.2.2.2.2.2.2.2.2.1
theorem dX7_reads_74 : decode cX7_reads 74 = .ok (.aload_n 0, 1) := edX7_reads_42.2.2.2.2.2.2.2.2.2.2.2.2.2.2.2.2.1
theorem dX7_reads_75 : decode cX7_reads 75 = .ok (.getfield 16, 3) := edX7_reads_42.2.2.2.2.2.2.2.2.2.2.2.2.2.2.2.2.2.1
theorem dX7_reads_78 : decode cX7_reads 78 = .ok (.iconst 1, 1) := edX7_reads_42.2.2.2.2.2.2.2.2.2.2.2.2.2.2.2.2.2.2.1
theorem dX7_reads_79 : decode cX7_reads 79 = .ok (.iconst (-1), 1) := edX7_reads_42.2.2.2.2.2.2.2.2.2.2.2.2.2.2.2.2.2.2.2.1
theorem dX7_reads_80 : decode cX7_reads 80 = .ok (.invokevirtual 163, 3) := edX7_reads_42.2.2.2.2.2.2.2.2.2.2.2.2.2.2.2.2.2.2.2.2.1
theorem dX7_reads_83 : decode cX7_reads 83 = .ok (.pop, 1) := edX7_reads_42.2.2.2.2.2.2.2.2.2.2.2.2.2.2.2.2.2.2.2.2.2.1
theorem dX7_reads_84 : decode cX7_reads 84 = .ok (.iinc 3 1, 3) := edX7_reads_42.2.2.2.2.2.2.2.2.2.2.2.2.2.2.2.2.2.2.2.2.2.2.1
theorem dX7_reads_87 : decode cX7_reads 87 = .ok (.goto (-47), 3) := edX7_reads_42.2.2.2.2.2.2.2.2.2.2.2.2.2.2.2.2.2.2.2.2.2.2.2
theorem edX7_reads_90 : (decode cX7_reads 90 = .ok (.ldc 200, 2)) ∧ (decode cX7_reads 92 = .ok (.ireturn, 1)) := by decide +kernel
theorem dX7_reads_90 : decode cX7_reads 90 = .ok (.ldc 200, 2) := edX7_reads_90.1
theorem dX7_reads_92 : decode cX7_reads 92 = .ok (.ireturn, 1) := edX7_reads_90.2
theorem edX7_copy_0 : (decode cX7_copy 0 = .ok (.iload_n 1, 1)) ∧ (decode cX7_copy 1 = .ok (.invokestatic 204, 3)) ∧ (decode cX7_copy 4 = .ok (.ifCond .eq 10, 3)) ∧ (decode cX7_copy 7 = .ok (.iload_n 3, 1)) ∧ (decode cX7_copy 8 = .ok (.invokestatic 204, 3)) ∧ (decode cX7_copy 11 = .ok (.ifCond .ne 6, 3)) ∧ (decode cX7_copy 14 = .ok (.ldc 78, 2)) ∧ (decode cX7_copy 16 = .ok (.ireturn, 1)) ∧ (decode cX7_copy 17 = .ok (.aload_n 0, 1)) ∧ (decode cX7_copy 18 = .ok (.getfield 47, 3)) ∧ (decode cX7_copy 21 = .ok (.iload_n 1, 1)) ∧ (decode cX7_copy 22 = .ok (.aaload, 1)) ∧ (decode cX7_copy 23 = .ok (.astore 6, 2)) ∧ (decode cX7_copy 25 = .ok (.aload_n 0, 1)) ∧ (decode cX7_copy 26 = .ok (.getfield 47, 3)) ∧ (decode cX7_copy 29 = .ok (.iload_n 3, 1)) ∧ (decode cX7_copy 30 = .ok (.aaload, 1)) ∧ (decode cX7_copy 31 = .ok (.astore 7, 2)) ∧ (decode cX7_copy 33 = .ok (.aload 6, 2)) ∧ (decode cX7_copy 35 = .ok (.invokevirtual 207, 3)) ∧ (decode cX7_copy 38 = .ok (.ifCond .ne 11, 3)) ∧ (decode cX7_copy 41 = .ok (.aload 7, 2)) ∧ (decode cX7_copy 43 = .ok (.invokevirtual 207, 3)) ∧ (decode cX7_copy 46 = .ok (.ifCond .eq 6, 3)) := by decide +kernel
theorem dX7_copy_0 : decode cX7_copy 0 = .ok (.iload_n 1, 1) := edX7_copy_0.1
theorem dX7_copy_1 : decode cX7_copy 1 = .ok (.invokestatic 204, 3) := edX7_copy_0.2.1
theorem dX7_copy_4 : decode cX7_copy 4 = .ok (.ifCond .eq 10, 3) := edX7_copy_0.2.2.1
theorem dX7_copy_7 : decode cX7_copy 7 = .ok (.iload_n 3, 1) := edX7_copy_0.2.2.2.1
theorem dX7_copy_8 : decode cX7_copy 8 = .ok (.invokestatic 204, 3) := edX7_copy_0.2.2.2.2.1
theorem dX7_copy_11 : decode cX7_copy 11 = .ok (.ifCond .ne 6, 3) := edX7_copy_0.2.2.2.2.2.1
theorem dX7_copy_14 : decode cX7_copy 14 = .ok (.ldc 78, 2) := edX7_copy_0.2.2.2.2.2.2.1
theorem dX7_copy_16 : decode cX7_copy 16 = .ok (.ireturn, 1) := edX7_copy_0.2.2.2.2.2.2.2.1
theorem dX7_copy_17 : decode cX7_copy 17 = .ok (.aload_n 0, 1) := edX7_copy_0.2.2.2.2.2.2.2.2.1
theorem dX7_copy_18 : decode cX7_copy 18 = .ok (.getfield 47, 3) := edX7_copy_0.2.2.2.2.2.2.2.2.2.1
theorem dX7_copy_21 : decode cX7_copy 21 = .ok (.iload_n 1, 1) := edX7_copy_0.2.2.2.2.2.2.2.2.2.2.1
theorem dX7_copy_22 : decode cX7_copy 22 = .ok (.aaload, 1) := edX7_copy_0.2.2.2.2.2.2.2.2.2.2.2.1
theorem dX7_copy_23 : decode cX7_copy 23 = .ok (.astore 6, 2) := edX7_copy_0.2.2.2.2.2.2.2.2.2.2.2.2.1
theorem dX7_copy_25 : decode cX7_copy 25 = .ok (.aload_n 0, 1) := edX7_copy_0.2.2.2.2.2.2.2.2.2.2.2.2.2.1
theorem dX7_copy_26 : decode cX7_copy 26 = .ok (.getfield 47, 3) := edX7_copy_0.2.2.2.2.2.2.2.2.2.2.2.2.2.2.1
theorem dX7_copy_29 : decode cX7_copy 29 = .ok (.iload_n 3, 1) := edX7_copy_0.2.2.2.2.2.2.2.2.2.2.2.2.2.2.2.1
theorem dX7_copy_30 : decode cX7_copy 30 = .ok (.aaload, 1) := edX7_copy_0.2.2.2.2.2.2.2.2.2.2.2.2.2.2.2.2.1
theorem dX7_copy_31 : decode cX7_copy 31 = .ok (.astore 7, 2) := edX7_copy_0.2.2.2.2.2.2.2.2.2.2.2.2.2.2.2.2.2.1
theorem dX7_copy_33 : decode cX7_copy 33 = .ok (.aload 6, 2) := edX7_copy_0.2.2.2.2.2.2.2.2.2.2.2.2.2.2.2.2.2.2.1
theorem dX7_copy_35 : decode cX7_copy 35 = .ok (.invokevirtual 207, 3) := edX7_copy_0.2.2.2.2.2.2.2.2.2.2.2.2.2.2.2.2.2.2.2.1
theorem dX7_copy_38 : decode cX7_copy 38 = .ok (.ifCond .ne 11, 3) := edX7_copy_0.2.2.2.2.2.2.2.2.2.2.2.2.2.2.2.2.2.2.2.2.1
theorem dX7_copy_41 : decode cX7_copy 41 = .ok (.aload 7, 2) := edX7_copy_0.2.2.2.2.2.2.2.2.2.2.2.2.2.2.2.2.2.2.2.2.2.1
theorem dX7_copy_43 : decode cX7_copy 43 = .ok (.invokevirtual 207, 3) := edX7_copy_0.2.2.2.2.2.2.2.2.2.2.2.2.2.2.2.2.2.2.2.2.2.2.1
theorem dX7_copy_46 : decode cX7_copy 46 = .ok (.ifCond .eq 6, 3) := edX7_copy_0.2.2.2.2.2.2.2.2.2.2.2.2.2.2.2.2.2.2.2.2.2.2.2
theorem edX7_copy_49 : (decode cX7_copy 49 = .ok (.ldc 210, 2)) ∧ (decode cX7_copy 51 = .ok (.ireturn, 1)) ∧ (decode cX7_copy 52 = .ok (.aload 6, 2)) ∧ (decode cX7_copy 54 = .ok (.getfield 279, 3)) ∧ (decode cX7_copy 57 = .ok (.aload 7, 2)) ∧ (decode cX7_copy 59 = .ok (.getfield 279, 3)) ∧ (decode cX7_copy 62 = .ok (.if_icmp .eq 6, 3)) ∧ (decode cX7_copy 65 = .ok (.ldc 123, 2)) ∧ (decode cX7_copy 67 = .ok (.ireturn, 1)) ∧ (decode cX7_copy 68 = .ok (.aload 6, 2)) ∧ (decode cX7_copy 70 = .ok (.iload_n 2, 1)) ∧ (decode cX7_copy 71 = .ok (.iload 5, 2)) ∧ (decode cX7_copy 73 = .ok (.invokevirtual 290, 3)) ∧ (decode cX7_copy 76 = .ok (.ifCond .eq 15, 3)) ∧ (decode cX7_copy 79 = .ok (.aload 7, 2)) ∧ (decode cX7_copy 81 = .ok (.iload 4, 2)) ∧ (decode cX7_copy 83 = .ok (.iload 5, 2)) ∧ (decode cX7_copy 85 = .ok (.invokevirtual 290, 3)) ∧ (decode cX7_copy 88 = .ok (.ifCond .ne 7, 3)) ∧ (decode cX7_copy 91 = .ok (.ldc_w 278, 3)) ∧ (decode cX7_copy 94 = .ok (.ireturn, 1)) ∧ (decode cX7_copy 95 = .ok (.aload 6, 2)) ∧ (decode cX7_copy 97 = .ok (.getfield 218, 3)) ∧ (decode cX7_copy 100 = .ok (.iload_n 2, 1)) := by decide +kernel
theorem dX7_copy_49 : decode cX7_copy 49 = .ok (.ldc 210, 2) := edX7_copy_49.1
theorem dX7_copy_51 : decode cX7_copy 51 = .ok (.ireturn, 1) := edX7_copy_49.2.1
theorem dX7_copy_52 : decode cX7_copy 52 = .ok (.aload 6, 2) := edX7_copy_49.2.2.1
theorem dX7_copy_54 : decode cX7_copy 54 = .ok (.getfield 279, 3) := edX7_copy_49.2.2.2.1
theorem dX7_copy_57 : decode cX7_copy 57 = .ok (.aload 7, 2) := edX7_copy_49.2.2.2.2.1
theorem dX7_copy_59 : decode cX7_copy 59 = .ok (.getfield 279, 3) := edX7_copy_49.2.2.2.2.2.1
theorem dX7_copy_62 : decode cX7_copy 62 = .ok (.if_icmp .eq 6, 3) := edX7_copy_49.2.2.2.2.2.2.1
theorem dX7_copy_65 : decode cX7_copy 65 = .ok (.ldc 123, 2) := edX7_copy_49.2.2.2.2.2.2.2.1
theorem dX7_copy_67 : decode cX7_copy 67 = .ok (.ireturn, 1) := edX7_copy_49.2.2.2.2.2.2.2.2.1
theorem dX7_copy_68 : decode cX7_copy 68 = .ok (.aload 6, 2) := edX7_copy_49.2.2.2.2.2.2.2.2.2.1
theorem dX7_copy_70 : decode cX7_copy 70 = .ok (.iload_n 2, 1) := edX7_copy_49.2.2.2.2.2.2.2.2.2.2.1
theorem dX7_copy_71 : decode cX7_copy 71 = .ok (.iload 5, 2) := edX7_copy_49.2.2.2.2.2.2.2.2.2.2.2.1
theorem dX7_copy_73 : decode cX7_copy 73 = .ok (.invokevirtual 290, 3) := edX7_copy_49.2.2.2.2.2.2.2.2.2.2.2.2.1
theorem dX7_copy_76 : decode cX7_copy 76 = .ok (.ifCond .eq 15, 3) := edX7_copy_49.2.2.2.2.2.2.2.2.2.2.2.2.2.1
theorem dX7_copy_79 : decode cX7_copy 79 = .ok (.aload 7, 2) := edX7_copy_49.2.2.2.2.2.2.2.2.2.2.2.2.2.2.1
theorem dX7_copy_81 : decode cX7_copy 81 = .ok (.iload 4, 2) := edX7_copy_49.2.2.2.2.2.2.2.2.2.2.2.2.2.2.2.1
theorem dX7_copy_83 : decode cX7_copy 83 = .ok (.iload 5, 2) := edX7_copy_49.2.2.2.2.2.2.2.2.2.2.2.2.2.2.2.2.1
theorem dX7_copy_85 : decode cX7_copy 85 = .ok (.invokevirtual 290, 3) := edX7_copy_49.2.2.2.2.2.2.2.2.2.2.2.2.2.2.2.2.2.1
theorem dX7_copy_88 : decode cX7_copy 88 = .ok (.ifCond .ne 7, 3) := edX7_copy_49.2.2.2.2.2.2.2.2.2.2.2.2.2.2.2.2.2.2.1
theorem dX7_copy_91 : decode cX7_copy 91 = .ok (.ldc_w 278, 3) := edX7_copy_49.2.2.2.2.2.2.2.2.2.2.2.2.2.2.2.2.2.2.2.1
theorem dX7_copy_94 : decode cX7_copy 94 = .ok (.ireturn, 1) := edX7_copy_49.2.2.2.2.2.2.2.2.2.2.2.2.2.2.2.2.2.2.2.2.1
theorem dX7_copy_95 : decode cX7_copy 95 = .ok (.aload 6, 2) := edX7_copy_49.2.2.2.2.2.2.2.2.2.2.2.2.2.2.2.2.2.2.2.2.2.1
theorem dX7_copy_97 : decode cX7_copy 97 = .ok (.getfield 218, 3) := edX7_copy_49.2.2.2.2.2.2.2.2.2.2.2.2.2.2.2.2.2.2.2.2.2.2.1
theorem dX7_copy_100 : decode cX7_copy 100 = .ok (.iload_n 2, 1) := edX7_copy_49.2.2.2.2.2.2.2.2.2.2.2.2.2.2.2.2.2.2.2.2.2.2.2
theorem edX7_copy_101 : (decode cX7_copy 101 = .ok (.aload 7, 2)) ∧ (decode cX7_copy 103 = .ok (.getfield 218, 3)) ∧ (decode cX7_copy 106 = .ok (.iload 4, 2)) ∧ (decode cX7_copy 108 = .ok (.iload 5, 2)) ∧ (decode cX7_copy 110 = .ok (.invokestatic 293, 3)) ∧ (decode cX7_copy 113 = .ok (.iload 5, 2)) ∧ (decode cX7_copy 115 = .ok (.ireturn, 1)) := by decide +kernel
theorem dX7_copy_101 : decode cX7_copy 101 = .ok (.aload 7, 2) := edX7_copy_101.1
theorem dX7_copy_103 : decode cX7_copy 103 = .ok (.getfield 218, 3) := edX7_copy_101.2.1
theorem dX7_copy_106 : decode cX7_copy 106 = .ok (.iload 4, 2) := edX7_copy_101.2.2.1
theorem dX7_copy_108 : decode cX7_copy 108 = .ok (.iload 5, 2) := edX7_copy_101.2.2.2.1
theorem dX7_copy_110 : decode cX7_copy 110 = .ok (.invokestatic 293, 3) := edX7_copy_101.2.2.2.2.1
theorem dX7_copy_113 : decode cX7_copy 113 = .ok (.iload 5, 2) := edX7_copy_101.2.2.2.2.2.1
theorem dX7_copy_115 : decode cX7_copy 115 = .ok (.ireturn, 1) := edX7_copy_101.2.2.2.2.2.2
theorem edX7_lay_0 : (decode cX7_lay 0 = .ok (.iload_n 1, 1)) ∧ (decode cX7_lay 1 = .ok (.invokestatic 299, 3)) ∧ (decode cX7_lay 4 = .ok (.ifCond .eq 40, 3)) ∧ (decode cX7_lay 7 = .ok (.iload_n 2, 1)) ∧ (decode cX7_lay 8 = .ok (.iconst 0, 1)) ∧ (decode cX7_lay 9 = .ok (.iconst 3, 1)) ∧ (decode cX7_lay 10 = .ok (.invokestatic 74, 3)) ∧ (decode cX7_lay 13 = .ok (.ifCond .eq 31, 3)) ∧ (decode cX7_lay 16 = .ok (.iload_n 2, 1)) ∧ (decode cX7_lay 17 = .ok (.iconst 1, 1)) ∧ (decode cX7_lay 18 = .ok (.if_icmp .ne 14, 3)) ∧ (decode cX7_lay 21 = .ok (.aload_n 0, 1)) ∧ (decode cX7_lay 22 = .ok (.getfield 10, 3)) ∧ (decode cX7_lay 25 = .ok (.iload_n 3, 1)) ∧ (decode cX7_lay 26 = .ok (.invokevirtual 87, 3)) ∧ (decode cX7_lay 29 = .ok (.ifCond .eq 15, 3)) ∧ (decode cX7_lay 32 = .ok (.iload_n 2, 1)) ∧ (decode cX7_lay 33 = .ok (.iconst 2, 1)) ∧ (decode cX7_lay 34 = .ok (.if_icmp .ne 13, 3)) ∧ (decode cX7_lay 37 = .ok (.iload_n 3, 1)) ∧ (decode cX7_lay 38 = .ok (.invokestatic 204, 3)) ∧ (decode cX7_lay 41 = .ok (.ifCond .ne 6, 3)) ∧ (decode cX7_lay 44 = .ok (.ldc 78, 2)) ∧ (decode cX7_lay 46 = .ok (.ireturn, 1)) := by decide +kernel
theorem dX7_lay_0 : decode cX7_lay 0 = .ok (.iload_n 1, 1) := edX7_lay_0.1
theorem dX7_lay_1 : decode cX7_lay 1 = .ok (.invokestatic 299, 3) := edX7_lay_0.2.1
theorem dX7_lay_4 : decode cX7_lay 4 = .ok (.ifCond .eq 40, 3) := edX7_lay_0.2.2.1
theorem dX7_lay_7 : decode cX7_lay 7 = .ok (.iload_n 2, 1) := edX7_lay_0.2.2.2.1
theorem dX7_lay_8 : decode cX7_lay 8 = .ok (.iconst 0, 1) := edX7_lay_0.2.2.2.2.1
theorem dX7_lay_9 : decode cX7_lay 9 = .ok (.iconst 3, 1) := edX7_lay_0.2.2.2.2.2.1
theorem dX7_lay_10 : decode cX7_lay 10 = .ok (.invokestatic 74, 3) := edX7_lay_0.2.2.2.2.2.2.1
theorem dX7_lay_13 : decode cX7_lay 13 = .ok (.ifCond .eq 31, 3) := edX7_lay_0.2.2.2.2.2.2.2.1
theorem dX7_lay_16 : decode cX7_lay 16 = .ok (.iload_n 2, 1) := edX7_lay_0.2.2.2.2.2.2.2.2.1
theorem dX7_lay_17 : decode cX7_lay 17 = .ok (.iconst 1, 1) := edX7_lay_0.2.2.2.2.2.2.2.2.2.1
theorem dX7_lay_18 : decode cX7_lay 18 = .ok (.if_icmp .ne 14, 3) := edX7_lay_0.2.2.2.2.2.2.2.2.2.2.1
theorem dX7_lay_21 : decode cX7_lay 21 = .ok (.aload_n 0, 1) := edX7_lay_0.2.2.2.2.2.2.2.2.2.2.2.1
theorem dX7_lay_22 : decode cX7_lay 22 = .ok (.getfield 10, 3) := edX7_lay_0.2.2.2.2.2.2.2.2.2.2.2.2.1
theorem dX7_lay_25 : decode cX7_lay 25 = .ok (.iload_n 3, 1) := edX7_lay_0.2.2.2.2.2.2.2.2.2.2.2.2.2.1
theorem dX7_lay_26 : decode cX7_lay 26 = .ok (.invokevirtual 87, 3) := edX7_lay_0.2.2.2.2.2.2.2.2.2.2.2.2.2.2.1
theorem dX7_lay_29 : decode cX7_lay 29 = .ok (.ifCond .eq 15, 3) := edX7_lay_0.2.2.2.2.2.2.2.2.2.2.2.2.2.2.2.1
theorem dX7_lay_32 : decode cX7_lay 32 = .ok (.iload_n 2, 1) := edX7_lay_0.2.2.2.2.2.2.2.2.2.2.2.2.2.2.2.2.1
theorem dX7_lay_33 : decode cX7_lay 33 = .ok (.iconst 2, 1) := edX7_lay_0.2.2.2.2.2.2.2.2.2.2.2.2.2.2.2.2.2.1
theorem dX7_lay_34 : decode cX7_lay 34 = .ok (.if_icmp .ne 13, 3) := edX7_lay_0.2.2.2.2.2.2.2.2.2.2.2.2.2.2.2.2.2.2.1
theorem dX7_lay_37 : decode cX7_lay 37 = .ok (.iload_n 3, 1) := edX7_lay_0.2.2.2.2.2.2.2.2.2.2.2.2.2.2.2.2.2.2.2.1
theorem dX7_lay_38 : decode cX7_lay 38 = .ok (.invokestatic 204, 3) := edX7_lay_0.2.2.2.2.2.2.2.2.2.2.2.2.2.2.2.2.2.2.2.2.1
theorem dX7_lay_41 : decode cX7_lay 41 = .ok (.ifCond .ne 6, 3) := edX7_lay_0.2.2.2.2.2.2.2.2.2.2.2.2.2.2.2.2.2.2.2.2.2.1
theorem dX7_lay_44 : decode cX7_lay 44 = .ok (.ldc 78, 2) := edX7_lay_0.2.2.2.2.2.2.2.2.2.2.2.2.2.2.2.2.2.2.2.2.2.2.1
theorem dX7_lay_46 : decode cX7_lay 46 = .ok (.ireturn, 1) := edX7_lay_0.2.2.2.2.2.2.2.2.2.2.2.2.2.2.2.2.2.2.2.2.2.2.2
theorem edX7_lay_47 : (decode cX7_lay 47 = .ok (.iload_n 2, 1)) ∧ (decode cX7_lay 48 = .ok (.iconst 2, 1)) ∧ (decode cX7_lay 49 = .ok (.if_icmp .ne 18, 3)) ∧ (decode cX7_lay 52 = .ok (.aload_n 0, 1)) ∧ (decode cX7_lay 53 = .ok (.getfield 47, 3)) ∧ (decode cX7_lay 56 = .ok (.iload_n 3, 1)) ∧ (decode cX7_lay 57 = .ok (.aaload, 1)) ∧ (decode cX7_lay 58 = .ok (.invokevirtual 207, 3)) ∧ (decode cX7_lay 61 = .ok (.ifCond .eq 6, 3)) ∧ (decode cX7_lay 64 = .ok (.ldc 210, 2)) ∧ (decode cX7_lay 66 = .ok (.ireturn, 1)) ∧ (decode cX7_lay 67 = .ok (.aload_n 0, 1)) ∧ (decode cX7_lay 68 = .ok (.getfield 53, 3)) ∧ (decode cX7_lay 71 = .ok (.iload_n 1, 1)) ∧ (decode cX7_lay 72 = .ok (.aaload, 1)) ∧ (decode cX7_lay 73 = .ok (.astore 4, 2)) ∧ (decode cX7_lay 75 = .ok (.aload 4, 2)) ∧ (decode cX7_lay 77 = .ok (.getfield 302, 3)) ∧ (decode cX7_lay 80 = .ok (.istore 5, 2)) ∧ (decode cX7_lay 82 = .ok (.aload 4, 2)) ∧ (decode cX7_lay 84 = .ok (.iload_n 2, 1)) ∧ (decode cX7_lay 85 = .ok (.putfield 302, 3)) ∧ (decode cX7_lay 88 = .ok (.iload_n 2, 1)) ∧ (decode cX7_lay 89 = .ok (.iconst 1, 1)) := by decide +kernel
theorem dX7_lay_47 : decode cX7_lay 47 = .ok (.iload_n 2, 1) := edX7_lay_47.1
theorem dX7_lay_48 : decode cX7_lay 48 = .ok (.iconst 2, 1) := edX7_lay_47.2.1
theorem dX7_lay_49 : decode cX7_lay 49 = .ok (.if_icmp .ne 18, 3) := edX7_lay_47.2.2.1
theorem dX7_lay_52 : decode cX7_lay 52 = .ok (.aload_n 0, 1) := edX7_lay_47.2.2.2.1
theorem dX7_lay_53 : decode cX7_lay 53 = .ok (.getfield 47, 3) := edX7_lay_47.2.2.2.2.1
theorem dX7_lay_56 : decode cX7_lay 56 = .ok (.iload_n 3, 1) := edX7_lay_47.2.2.2.2.2.1
theorem dX7_lay_57 : decode cX7_lay 57 = .ok (.aaload, 1) := edX7_lay_47.2.2.2.2.2.2.1
theorem dX7_lay_58 : decode cX7_lay 58 = .ok (.invokevirtual 207, 3) := edX7_lay_47.2.2.2.2.2.2.2.1
theorem dX7_lay_61 : decode cX7_lay 61 = .ok (.ifCond .eq 6, 3) := edX7_lay_47.2.2.2.2.2.2.2.2.1
theorem dX7_lay_64 : decode cX7_lay 64 = .ok (.ldc 210, 2) := edX7_lay_47.2.2.2.2.2.2.2.2.2.1
theorem dX7_lay_66 : decode cX7_lay 66 = .ok (.ireturn, 1) := edX7_lay_47.2.2.2.2.2.2.2.2.2.2.1
theorem dX7_lay_67 : decode cX7_lay 67 = .ok (.aload_n 0, 1) := edX7_lay_47.2.2.2.2.2.2.2.2.2.2.2.1
theorem dX7_lay_68 : decode cX7_lay 68 = .ok (.getfield 53, 3) := edX7_lay_47.2.2.2.2.2.2.2.2.2.2.2.2.1
theorem dX7_lay_71 : decode cX7_lay 71 = .ok (.iload_n 1, 1) := edX7_lay_47.2.2.2.2.2.2.2.2.2.2.2.2.2.1
theorem dX7_lay_72 : decode cX7_lay 72 = .ok (.aaload, 1) := edX7_lay_47.2.2.2.2.2.2.2.2.2.2.2.2.2.2.1
theorem dX7_lay_73 : decode cX7_lay 73 = .ok (.astore 4, 2) := edX7_lay_47.2.2.2.2.2.2.2.2.2.2.2.2.2.2.2.1
theorem dX7_lay_75 : decode cX7_lay 75 = .ok (.aload 4, 2) := edX7_lay_47.2.2.2.2.2.2.2.2.2.2.2.2.2.2.2.2.1
theorem dX7_lay_77 : decode cX7_lay 77 = .ok (.getfield 302, 3) := edX7_lay_47.2.2.2.2.2.2.2.2.2.2.2.2.2.2.2.2.2.1
theorem dX7_lay_80 : decode cX7_lay 80 = .ok (.istore 5, 2) := edX7_lay_47.2.2.2.2.2.2.2.2.2.2.2.2.2.2.2.2.2.2.1
theorem dX7_lay_82 : decode cX7_lay 82 = .ok (.aload 4, 2) := edX7_lay_47.2.2.2.2.2.2.2.2.2.2.2.2.2.2.2.2.2.2.2.1
theorem dX7_lay_84 : decode cX7_lay 84 = .ok (.iload_n 2, 1) := edX7_lay_47.2.2.2.2.2.2.2.2.2.2.2.2.2.2.2.2.2.2.2.2.1
theorem dX7_lay_85 : decode cX7_lay 85 = .ok (.putfield 302, 3) := edX7_lay_47.2.2.2.2.2.2.2.2.2.2.2.2.2.2.2.2.2.2.2.2.2.1
theorem dX7_lay_88 : decode cX7_lay 88 = .ok (.iload_n 2, 1) := edX7_lay_47.2.2.2.2.2.2.2.2.2.2.2.2.2.2.2.2.2.2.2.2.2.2.1
theorem dX7_lay_89 : decode cX7_lay 89 = .ok (.iconst 1, 1) := edX7_lay_47.2.2.2.2.2.2.2.2.2.2.2.2.2.2.2.2.2.2.2.2.2.2.2
theorem edX7_lay_90 : (decode cX7_lay 90 = .ok (.if_icmp .ne 34, 3)) ∧ (decode cX7_lay 93 = .ok (.aload 4, 2)) ∧ (decode cX7_lay 95 = .ok (.aload_n 0, 1)) ∧ (decode cX7_lay 96 = .ok (.getfield 10, 3)) ∧ (decode cX7_lay 99 = .ok (.getfield 90, 3)) ∧ (decode cX7_lay 102 = .ok (.iload_n 3, 1)) ∧ (decode cX7_lay 103 = .ok (.iaload, 1)) ∧ (decode cX7_lay 104 = .ok (.putfield 305, 3)) ∧ (decode cX7_lay 107 = .ok (.aload 4, 2)) ∧ (decode cX7_lay 109 = .ok (.aload_n 0, 1)) ∧ (decode cX7_lay 110 = .ok (.getfield 10, 3)) ∧ (decode cX7_lay 113 = .ok (.getfield 96, 3)) ∧ (decode cX7_lay 116 = .ok (.iload_n 3, 1)) ∧ (decode cX7_lay 117 = .ok (.iaload, 1)) ∧ (decode cX7_lay 118 = .ok (.putfield 308, 3)) ∧ (decode cX7_lay 121 = .ok (.goto 31, 3)) ∧ (decode cX7_lay 124 = .ok (.iload_n 2, 1)) ∧ (decode cX7_lay 125 = .ok (.iconst 2, 1)) ∧ (decode cX7_lay 126 = .ok (.if_icmp .ne 20, 3)) ∧ (decode cX7_lay 129 = .ok (.aload 4, 2)) ∧ (decode cX7_lay 131 = .ok (.getfield 311, 3)) ∧ (decode cX7_lay 134 = .ok (.aload_n 0, 1)) ∧ (decode cX7_lay 135 = .ok (.getfield 47, 3)) ∧ (decode cX7_lay 138 = .ok (.iload_n 3, 1)) := by decide +kernel
theorem dX7_lay_90 : decode cX7_lay 90 = .ok (.if_icmp .ne 34, 3) := edX7_lay_90.1
theorem dX7_lay_93 : decode cX7_lay 93 = .ok (.aload 4, 2) := edX7_lay_90.2.1
theorem dX7_lay_95 : decode cX7_lay 95 = .ok (.aload_n 0, 1) := edX7_lay_90.2.2.1
theorem dX7_lay_96 : decode cX7_lay 96 = .ok (.getfield 10, 3) := edX7_lay_90.2.2.2.1
theorem dX7_lay_99 : decode cX7_lay 99 = .ok (.getfield 90, 3) := edX7_lay_90.2.2.2.2.1
theorem dX7_lay_102 : decode cX7_lay 102 = .ok (.iload_n 3, 1) := edX7_lay_90.2.2.2.2.2.1
theorem dX7_lay_103 : decode cX7_lay 103 = .ok (.iaload, 1) := edX7_lay_90.2.2.2.2.2.2.1
theorem dX7_lay_104 : decode cX7_lay 104 = .ok (.putfield 305, 3) := edX7_lay_90.2.2.2.2.2.2.2.1
theorem dX7_lay_107 : decode cX7_lay 107 = .ok (.aload 4, 2) := edX7_lay_90.2.2.2.2.2.2.2.2.1
theorem dX7_lay_109 : decode cX7_lay 109 = .ok (.aload_n 0, 1) := edX7_lay_90.2.2.2.2.2.2.2.2.2.1
theorem dX7_lay_110 : decode cX7_lay 110 = .ok (.getfield 10, 3) := edX7_lay_90.2.2.2.2.2.2.2.2.2.2.1
theorem dX7_lay_113 : decode cX7_lay 113 = .ok (.getfield 96, 3) := edX7_lay_90.2.2.2.2.2.2.2.2.2.2.2.1
theorem dX7_lay_116 : decode cX7_lay 116 = .ok (.iload_n 3, 1) := edX7_lay_90.2.2.2.2.2.2.2.2.2.2.2.2.1
theorem dX7_lay_117 : decode cX7_lay 117 = .ok (.iaload, 1) := edX7_lay_90.2.2.2.2.2.2.2.2.2.2.2.2.2.1
theorem dX7_lay_118 : decode cX7_lay 118 = .ok (.putfield 308, 3) := edX7_lay_90.2.2.2.2.2.2.2.2.2.2.2.2.2.2.1
theorem dX7_lay_121 : decode cX7_lay 121 = .ok (.goto 31, 3) := edX7_lay_90.2.2.2.2.2.2.2.2.2.2.2.2.2.2.2.1
theorem dX7_lay_124 : decode cX7_lay 124 = .ok (.iload_n 2, 1) := edX7_lay_90.2.2.2.2.2.2.2.2.2.2.2.2.2.2.2.2.1
theorem dX7_lay_125 : decode cX7_lay 125 = .ok (.iconst 2, 1) := edX7_lay_90.2.2.2.2.2.2.2.2.2.2.2.2.2.2.2.2.2.1
theorem dX7_lay_126 : decode cX7_lay 126 = .ok (.if_icmp .ne 20, 3) := edX7_lay_90.2.2.2.2.2.2.2.2.2.2.2.2.2.2.2.2.2.2.1
theorem dX7_lay_129 : decode cX7_lay 129 = .ok (.aload 4, 2) := edX7_lay_90.2.2.2.2.2.2.2.2.2.2.2.2.2.2.2.2.2.2.2.1
theorem dX7_lay_131 : decode cX7_lay 131 = .ok (.getfield 311, 3) := edX7_lay_90.2.2.2.2.2.2.2.2.2.2.2.2.2.2.2.2.2.2.2.2.1
theorem dX7_lay_134 : decode cX7_lay 134 = .ok (.aload_n 0, 1) := edX7_lay_90.2.2.2.2.2.2.2.2.2.2.2.2.2.2.2.2.2.2.2.2.2.1
theorem dX7_lay_135 : decode cX7_lay 135 = .ok (.getfield 47, 3) := edX7_lay_90.2.2.2.2.2.2.2.2.2.2.2.2.2.2.2.2.2.2.2.2.2.2.1
theorem dX7_lay_138 : decode cX7_lay 138 = .ok (.iload_n 3, 1) := edX7_lay_90.2.2.2.2.2.2.2.2.2.2.2.2.2.2.2.2.2.2.2.2.2.2.2
theorem edX7_lay_139 : (decode cX7_lay 139 = .ok (.aaload, 1)) ∧ (decode cX7_lay 140 = .ok (.invokevirtual 315, 3)) ∧ (decode cX7_lay 143 = .ok (.goto 9, 3)) ∧ (decode cX7_lay 146 = .ok (.aload 4, 2)) ∧ (decode cX7_lay 148 = .ok (.iload_n 3, 1)) ∧ (decode cX7_lay 149 = .ok (.putfield 318, 3)) ∧ (decode cX7_lay 152 = .ok (.iload 5, 2)) ∧ (decode cX7_lay 154 = .ok (.ireturn, 1)) := by decide +kernel
theorem dX7_lay_139 : decode cX7_lay 139 = .ok (.aaload, 1) := edX7_lay_139.1
theorem dX7_lay_140 : decode cX7_lay 140 = .ok (.invokevirtual 315, 3) := edX7_lay_139.2.1
theorem dX7_lay_143 : decode cX7_lay 143 = .ok (.goto 9, 3) := edX7_lay_139.2.2.1
theorem dX7_lay_146 : decode cX7_lay 146 = .ok (.aload 4, 2) := edX7_lay_139.2.2.2.1
theorem dX7_lay_148 : decode cX7_lay 148 = .ok (.iload_n 3, 1) := edX7_lay_139.2.2.2.2.1
theorem dX7_lay_149 : decode cX7_lay 149 = .ok (.putfield 318, 3) := edX7_lay_139.2.2.2.2.2.1
theorem dX7_lay_152 : decode cX7_lay 152 = .ok (.iload 5, 2) := edX7_lay_139.2.2.2.2.2.2.1
theorem dX7_lay_154 : decode cX7_lay 154 = .ok (.ireturn, 1) := edX7_lay_139.2.2.2.2.2.2.2
theorem edX7_ask_0 : (decode cX7_ask 0 = .ok (.iload_n 1, 1)) ∧ (decode cX7_ask 1 = .ok (.invokestatic 299, 3)) ∧ (decode cX7_ask 4 = .ok (.ifCond .eq 10, 3)) ∧ (decode cX7_ask 7 = .ok (.iload_n 2, 1)) ∧ (decode cX7_ask 8 = .ok (.invokestatic 67, 3)) ∧ (decode cX7_ask 11 = .ok (.ifCond .ne 6, 3)) ∧ (decode cX7_ask 14 = .ok (.ldc 78, 2)) ∧ (decode cX7_ask 16 = .ok (.ireturn, 1)) ∧ (decode cX7_ask 17 = .ok (.aload_n 0, 1)) ∧ (decode cX7_ask 18 = .ok (.getfield 53, 3)) ∧ (decode cX7_ask 21 = .ok (.iload_n 1, 1)) ∧ (decode cX7_ask 22 = .ok (.aaload, 1)) ∧ (decode cX7_ask 23 = .ok (.astore_n 3, 1)) ∧ (decode cX7_ask 24 = .ok (.aload_n 3, 1)) ∧ (decode cX7_ask 25 = .ok (.getfield 302, 3)) ∧ (decode cX7_ask 28 = .ok (.ifCond .ne 6, 3)) ∧ (decode cX7_ask 31 = .ok (.ldc 210, 2)) ∧ (decode cX7_ask 33 = .ok (.ireturn, 1)) ∧ (decode cX7_ask 34 = .ok (.aload_n 3, 1)) ∧ (decode cX7_ask 35 = .ok (.getfield 302, 3)) ∧ (decode cX7_ask 38 = .ok (.iconst 1, 1)) ∧ (decode cX7_ask 39 = .ok (.if_icmp .ne 14, 3)) ∧ (decode cX7_ask 42 = .ok (.aload_n 3, 1)) ∧ (decode cX7_ask 43 = .ok (.getfield 305, 3)) := by decide +kernel
theorem dX7_ask_0 : decode cX7_ask 0 = .ok (.iload_n 1, 1) := edX7_ask_0.1
theorem dX7_ask_1 : decode cX7_ask 1 = .ok (.invokestatic 299, 3) := edX7_ask_0.2.1
theorem dX7_ask_4 : decode cX7_ask 4 = .ok (.ifCond .eq 10, 3) := edX7_ask_0.2.2.1
theorem dX7_ask_7 : decode cX7_ask 7 = .ok (.iload_n 2, 1) := edX7_ask_0.2.2.2.1
theorem dX7_ask_8 : decode cX7_ask 8 = .ok (.invokestatic 67, 3) := edX7_ask_0.2.2.2.2.1
theorem dX7_ask_11 : decode cX7_ask 11 = .ok (.ifCond .ne 6, 3) := edX7_ask_0.2.2.2.2.2.1
theorem dX7_ask_14 : decode cX7_ask 14 = .ok (.ldc 78, 2) := edX7_ask_0.2.2.2.2.2.2.1
theorem dX7_ask_16 : decode cX7_ask 16 = .ok (.ireturn, 1) := edX7_ask_0.2.2.2.2.2.2.2.1
theorem dX7_ask_17 : decode cX7_ask 17 = .ok (.aload_n 0, 1) := edX7_ask_0.2.2.2.2.2.2.2.2.1
theorem dX7_ask_18 : decode cX7_ask 18 = .ok (.getfield 53, 3) := edX7_ask_0.2.2.2.2.2.2.2.2.2.1
theorem dX7_ask_21 : decode cX7_ask 21 = .ok (.iload_n 1, 1) := edX7_ask_0.2.2.2.2.2.2.2.2.2.2.1
theorem dX7_ask_22 : decode cX7_ask 22 = .ok (.aaload, 1) := edX7_ask_0.2.2.2.2.2.2.2.2.2.2.2.1
theorem dX7_ask_23 : decode cX7_ask 23 = .ok (.astore_n 3, 1) := edX7_ask_0.2.2.2.2.2.2.2.2.2.2.2.2.1
theorem dX7_ask_24 : decode cX7_ask 24 = .ok (.aload_n 3, 1) := edX7_ask_0.2.2.2.2.2.2.2.2.2.2.2.2.2.1
theorem dX7_ask_25 : decode cX7_ask 25 = .ok (.getfield 302, 3) := edX7_ask_0.2.2.2.2.2.2.2.2.2.2.2.2.2.2.1
theorem dX7_ask_28 : decode cX7_ask 28 = .ok (.ifCond .ne 6, 3) := edX7_ask_0.2.2.2.2.2.2.2.2.2.2.2.2.2.2.2.1
theorem dX7_ask_31 : decode cX7_ask 31 = .ok (.ldc 210, 2) := edX7_ask_0.2.2.2.2.2.2.2.2.2.2.2.2.2.2.2.2.1
theorem dX7_ask_33 : decode cX7_ask 33 = .ok (.ireturn, 1) := edX7_ask_0.2.2.2.2.2.2.2.2.2.2.2.2.2.2.2.2.2.1
theorem dX7_ask_34 : decode cX7_ask 34 = .ok (.aload_n 3, 1) := edX7_ask_0.2.2.2.2.2.2.2.2.2.2.2.2.2.2.2.2.2.2.1
theorem dX7_ask_35 : decode cX7_ask 35 = .ok (.getfield 302, 3) := edX7_ask_0.2.2.2.2.2.2.2.2.2.2.2.2.2.2.2.2.2.2.2.1
theorem dX7_ask_38 : decode cX7_ask 38 = .ok (.iconst 1, 1) := edX7_ask_0.2.2.2.2.2.2.2.2.2.2.2.2.2.2.2.2.2.2.2.2.1
theorem dX7_ask_39 : decode cX7_ask 39 = .ok (.if_icmp .ne 14, 3) := edX7_ask_0.2.2.2.2.2.2.2.2.2.2.2.2.2.2.2.2.2.2.2.2.2.1
theorem dX7_ask_42 : decode cX7_ask 42 = .ok (.aload_n 3, 1) := edX7_ask_0.2.2.2.2.2.2.2.2.2.2.2.2.2.2.2.2.2.2.2.2.2.2.1
theorem dX7_ask_43 : decode cX7_ask 43 = .ok (.getfield 305, 3) := edX7_ask_0.2.2.2.2.2.2.2.2.2.2.2.2.2.2.2.2.2.2.2.2.2.2.2
theorem edX7_ask_46 : (decode cX7_ask 46 = .ok (.iload_n 2, 1)) ∧ (decode cX7_ask 47 = .ok (.invokestatic 119, 3)) ∧ (decode cX7_ask 50 = .ok (.ifCond .ne 6, 3)) ∧ (decode cX7_ask 53 = .ok (.ldc 123, 2)) ∧ (decode cX7_ask 55 = .ok (.ireturn, 1)) ∧ (decode cX7_ask 56 = .ok (.aload_n 3, 1)) ∧ (decode cX7_ask 57 = .ok (.getfield 305, 3)) ∧ (decode cX7_ask 60 = .ok (.aload_n 3, 1)) ∧ (decode cX7_ask 61 = .ok (.getfield 308, 3)) ∧ (decode cX7_ask 64 = .ok (.invokestatic 115, 3)) ∧ (decode cX7_ask 67 = .ok (.ireturn, 1)) := by decide +kernel
theorem dX7_ask_46 : decode cX7_ask 46 = .ok (.iload_n 2, 1) := edX7_ask_46.1
theorem dX7_ask_47 : decode cX7_ask 47 = .ok (.invokestatic 119, 3) := edX7_ask_46.2.1
theorem dX7_ask_50 : decode cX7_ask 50 = .ok (.ifCond .ne 6, 3) := edX7_ask_46.2.2.1
theorem dX7_ask_53 : decode cX7_ask 53 = .ok (.ldc 123, 2) := edX7_ask_46.2.2.2.1
theorem dX7_ask_55 : decode cX7_ask 55 = .ok (.ireturn, 1) := edX7_ask_46.2.2.2.2.1
theorem dX7_ask_56 : decode cX7_ask 56 = .ok (.aload_n 3, 1) := edX7_ask_46.2.2.2.2.2.1
theorem dX7_ask_57 : decode cX7_ask 57 = .ok (.getfield 305, 3) := edX7_ask_46.2.2.2.2.2.2.1
theorem dX7_ask_60 : decode cX7_ask 60 = .ok (.aload_n 3, 1) := edX7_ask_46.2.2.2.2.2.2.2.1
theorem dX7_ask_61 : decode cX7_ask 61 = .ok (.getfield 308, 3) := edX7_ask_46.2.2.2.2.2.2.2.2.1
theorem dX7_ask_64 : decode cX7_ask 64 = .ok (.invokestatic 115, 3) := edX7_ask_46.2.2.2.2.2.2.2.2.2.1
theorem dX7_ask_67 : decode cX7_ask 67 = .ok (.ireturn, 1) := edX7_ask_46.2.2.2.2.2.2.2.2.2.2
theorem edX7_item_0 : (decode cX7_item 0 = .ok (.iload_n 1, 1)) ∧ (decode cX7_item 1 = .ok (.invokestatic 299, 3)) ∧ (decode cX7_item 4 = .ok (.ifCond .ne 6, 3)) ∧ (decode cX7_item 7 = .ok (.ldc 78, 2)) ∧ (decode cX7_item 9 = .ok (.ireturn, 1)) ∧ (decode cX7_item 10 = .ok (.aload_n 0, 1)) ∧ (decode cX7_item 11 = .ok (.getfield 53, 3)) ∧ (decode cX7_item 14 = .ok (.iload_n 1, 1)) ∧ (decode cX7_item 15 = .ok (.aaload, 1)) ∧ (decode cX7_item 16 = .ok (.astore_n 3, 1)) ∧ (decode cX7_item 17 = .ok (.aload_n 3, 1)) ∧ (decode cX7_item 18 = .ok (.getfield 302, 3)) ∧ (decode cX7_item 21 = .ok (.ifCond .ne 6, 3)) ∧ (decode cX7_item 24 = .ok (.ldc 210, 2)) ∧ (decode cX7_item 26 = .ok (.ireturn, 1)) ∧ (decode cX7_item 27 = .ok (.aload_n 3, 1)) ∧ (decode cX7_item 28 = .ok (.getfield 302, 3)) ∧ (decode cX7_item 31 = .ok (.iconst 2, 1)) ∧ (decode cX7_item 32 = .ok (.if_icmp .eq 6, 3)) ∧ (decode cX7_item 35 = .ok (.ldc 123, 2)) ∧ (decode cX7_item 37 = .ok (.ireturn, 1)) ∧ (decode cX7_item 38 = .ok (.aload_n 3, 1)) ∧ (decode cX7_item 39 = .ok (.getfield 311, 3)) ∧ (decode cX7_item 42 = .ok (.iload_n 2, 1)) := by decide +kernel
theorem dX7_item_0 : decode cX7_item 0 = .ok (.iload_n 1, 1) := edX7_item_0.1
theorem dX7_item_1 : decode cX7_item 1 = .ok (.invokestatic 299, 3) := edX7_item_0.2.1
theorem dX7_item_4 : decode cX7_item 4 = .ok (.ifCond .ne 6, 3) := edX7_item_0.2.2.1
theorem dX7_item_7 : decode cX7_item 7 = .ok (.ldc 78, 2) := edX7_item_0.2.2.2.1
theorem dX7_item_9 : decode cX7_item 9 = .ok (.ireturn, 1) := edX7_item_0.2.2.2.2.1
theorem dX7_item_10 : decode cX7_item 10 = .ok (.aload_n 0, 1) := edX7_item_0.2.2.2.2.2.1
theorem dX7_item_11 : decode cX7_item 11 = .ok (.getfield 53, 3) := edX7_item_0.2.2.2.2.2.2.1
theorem dX7_item_14 : decode cX7_item 14 = .ok (.iload_n 1, 1) := edX7_item_0.2.2.2.2.2.2.2.1
theorem dX7_item_15 : decode cX7_item 15 = .ok (.aaload, 1) := edX7_item_0.2.2.2.2.2.2.2.2.1
theorem dX7_item_16 : decode cX7_item 16 = .ok (.astore_n 3, 1) := edX7_item_0.2.2.2.2.2.2.2.2.2.1
theorem dX7_item_17 : decode cX7_item 17 = .ok (.aload_n 3, 1) := edX7_item_0.2.2.2.2.2.2.2.2.2.2.1
theorem dX7_item_18 : decode cX7_item 18 = .ok (.getfield 302, 3) := edX7_item_0.2.2.2.2.2.2.2.2.2.2.2.1
theorem dX7_item_21 : decode cX7_item 21 = .ok (.ifCond .ne 6, 3) := edX7_item_0.2.2.2.2.2.2.2.2.2.2.2.2.1
theorem dX7_item_24 : decode cX7_item 24 = .ok (.ldc 210, 2) := edX7_item_0.2.2.2.2.2.2.2.2.2.2.2.2.2.1
theorem dX7_item_26 : decode cX7_item 26 = .ok (.ireturn, 1) := edX7_item_0.2.2.2.2.2.2.2.2.2.2.2.2.2.2.1
theorem dX7_item_27 : decode cX7_item 27 = .ok (.aload_n 3, 1) := edX7_item_0.2.2.2.2.2.2.2.2.2.2.2.2.2.2.2.1
theorem dX7_item_28 : decode cX7_item 28 = .ok (.getfield 302, 3) := edX7_item_0.2.2.2.2.2.2.2.2.2.2.2.2.2.2.2.2.1
theorem dX7_item_31 : decode cX7_item 31 = .ok (.iconst 2, 1) := edX7_item_0.2.2.2.2.2.2.2.2.2.2.2.2.2.2.2.2.2.1
theorem dX7_item_32 : decode cX7_item 32 = .ok (.if_icmp .eq 6, 3) := edX7_item_0.2.2.2.2.2.2.2.2.2.2.2.2.2.2.2.2.2.2.1
theorem dX7_item_35 : decode cX7_item 35 = .ok (.ldc 123, 2) := edX7_item_0.2.2.2.2.2.2.2.2.2.2.2.2.2.2.2.2.2.2.2.1
theorem dX7_item_37 : decode cX7_item 37 = .ok (.ireturn, 1) := edX7_item_0.2.2.2.2.2.2.2.2.2.2.2.2.2.2.2.2.2.2.2.2.1
theorem dX7_item_38 : decode cX7_item 38 = .ok (.aload_n 3, 1) := edX7_item_0.2.2.2.2.2.2.2.2.2.2.2.2.2.2.2.2.2.2.2.2.2.1
theorem dX7_item_39 : decode cX7_item 39 = .ok (.getfield 311, 3) := edX7_item_0.2.2.2.2.2.2.2.2.2.2.2.2.2.2.2.2.2.2.2.2.2.2.1
theorem dX7_item_42 : decode cX7_item 42 = .ok (.iload_n 2, 1) := edX7_item_0.2.2.2.2.2.2.2.2.2.2.2.2.2.2.2.2.2.2.2.2.2.2.2
theorem edX7_item_43 : (decode cX7_item 43 = .ok (.invokevirtual 275, 3)) ∧ (decode cX7_item 46 = .ok (.ifCond .ne 7, 3)) ∧ (decode cX7_item 49 = .ok (.ldc_w 278, 3)) ∧ (decode cX7_item 52 = .ok (.ireturn, 1)) ∧ (decode cX7_item 53 = .ok (.aload_n 3, 1)) ∧ (decode cX7_item 54 = .ok (.getfield 311, 3)) ∧ (decode cX7_item 57 = .ok (.iload_n 2, 1)) ∧ (decode cX7_item 58 = .ok (.invokevirtual 215, 3)) ∧ (decode cX7_item 61 = .ok (.ifCond .eq 15, 3)) ∧ (decode cX7_item 64 = .ok (.aload_n 3, 1)) ∧ (decode cX7_item 65 = .ok (.getfield 311, 3)) ∧ (decode cX7_item 68 = .ok (.getfield 218, 3)) ∧ (decode cX7_item 71 = .ok (.iload_n 2, 1)) ∧ (decode cX7_item 72 = .ok (.iaload, 1)) ∧ (decode cX7_item 73 = .ok (.goto 5, 3)) ∧ (decode cX7_item 76 = .ok (.ldc 123, 2)) ∧ (decode cX7_item 78 = .ok (.ireturn, 1)) := by decide +kernel
theorem dX7_item_43 : decode cX7_item 43 = .ok (.invokevirtual 275, 3) := edX7_item_43.1
theorem dX7_item_46 : decode cX7_item 46 = .ok (.ifCond .ne 7, 3) := edX7_item_43.2.1
theorem dX7_item_49 : decode cX7_item 49 = .ok (.ldc_w 278, 3) := edX7_item_43.2.2.1
theorem dX7_item_52 : decode cX7_item 52 = .ok (.ireturn, 1) := edX7_item_43.2.2.2.1
theorem dX7_item_53 : decode cX7_item 53 = .ok (.aload_n 3, 1) := edX7_item_43.2.2.2.2.1
theorem dX7_item_54 : decode cX7_item 54 = .ok (.getfield 311, 3) := edX7_item_43.2.2.2.2.2.1
theorem dX7_item_57 : decode cX7_item 57 = .ok (.iload_n 2, 1) := edX7_item_43.2.2.2.2.2.2.1
theorem dX7_item_58 : decode cX7_item 58 = .ok (.invokevirtual 215, 3) := edX7_item_43.2.2.2.2.2.2.2.1
theorem dX7_item_61 : decode cX7_item 61 = .ok (.ifCond .eq 15, 3) := edX7_item_43.2.2.2.2.2.2.2.2.1
theorem dX7_item_64 : decode cX7_item 64 = .ok (.aload_n 3, 1) := edX7_item_43.2.2.2.2.2.2.2.2.2.1
theorem dX7_item_65 : decode cX7_item 65 = .ok (.getfield 311, 3) := edX7_item_43.2.2.2.2.2.2.2.2.2.2.1
theorem dX7_item_68 : decode cX7_item 68 = .ok (.getfield 218, 3) := edX7_item_43.2.2.2.2.2.2.2.2.2.2.2.1
theorem dX7_item_71 : decode cX7_item 71 = .ok (.iload_n 2, 1) := edX7_item_43.2.2.2.2.2.2.2.2.2.2.2.2.1
theorem dX7_item_72 : decode cX7_item 72 = .ok (.iaload, 1) := edX7_item_43.2.2.2.2.2.2.2.2.2.2.2.2.2.1
theorem dX7_item_73 : decode cX7_item 73 = .ok (.goto 5, 3) := edX7_item_43.2.2.2.2.2.2.2.2.2.2.2.2.2.2.1
theorem dX7_item_76 : decode cX7_item 76 = .ok (.ldc 123, 2) := edX7_item_43.2.2.2.2.2.2.2.2.2.2.2.2.2.2.2.1
theorem dX7_item_78 : decode cX7_item 78 = .ok (.ireturn, 1) := edX7_item_43.2.2.2.2.2.2.2.2.2.2.2.2.2.2.2.2
theorem edX7_rest_0 : (decode cX7_rest 0 = .ok (.iload_n 1, 1)) ∧ (decode cX7_rest 1 = .ok (.invokestatic 299, 3)) ∧ (decode cX7_rest 4 = .ok (.ifCond .ne 6, 3)) ∧ (decode cX7_rest 7 = .ok (.ldc 78, 2)) ∧ (decode cX7_rest 9 = .ok (.ireturn, 1)) ∧ (decode cX7_rest 10 = .ok (.aload_n 0, 1)) ∧ (decode cX7_rest 11 = .ok (.getfield 53, 3)) ∧ (decode cX7_rest 14 = .ok (.iload_n 1, 1)) ∧ (decode cX7_rest 15 = .ok (.aaload, 1)) ∧ (decode cX7_rest 16 = .ok (.astore_n 3, 1)) ∧ (decode cX7_rest 17 = .ok (.aload_n 3, 1)) ∧ (decode cX7_rest 18 = .ok (.getfield 302, 3)) ∧ (decode cX7_rest 21 = .ok (.ifCond .ne 6, 3)) ∧ (decode cX7_rest 24 = .ok (.ldc 210, 2)) ∧ (decode cX7_rest 26 = .ok (.ireturn, 1)) ∧ (decode cX7_rest 27 = .ok (.aload_n 3, 1)) ∧ (decode cX7_rest 28 = .ok (.getfield 302, 3)) ∧ (decode cX7_rest 31 = .ok (.iconst 3, 1)) ∧ (decode cX7_rest 32 = .ok (.if_icmp .eq 6, 3)) ∧ (decode cX7_rest 35 = .ok (.ldc 123, 2)) ∧ (decode cX7_rest 37 = .ok (.ireturn, 1)) ∧ (decode cX7_rest 38 = .ok (.iload_n 2, 1)) ∧ (decode cX7_rest 39 = .ok (.ifCond .ne 9, 3)) ∧ (decode cX7_rest 42 = .ok (.ldc_w 321, 3)) := by decide +kernel
theorem dX7_rest_0 : decode cX7_rest 0 = .ok (.iload_n 1, 1) := edX7_rest_0.1
theorem dX7_rest_1 : decode cX7_rest 1 = .ok (.invokestatic 299, 3) := edX7_rest_0.2.1
theorem dX7_rest_4 : decode cX7_rest 4 = .ok (.ifCond .ne 6, 3) := edX7_rest_0.2.2.1
theorem dX7_rest_7 : decode cX7_rest 7 = .ok (.ldc 78, 2) := edX7_rest_0.2.2.2.1
theorem dX7_rest_9 : decode cX7_rest 9 = .ok (.ireturn, 1) := edX7_rest_0.2.2.2.2.1
theorem dX7_rest_10 : decode cX7_rest 10 = .ok (.aload_n 0, 1) := edX7_rest_0.2.2.2.2.2.1
theorem dX7_rest_11 : decode cX7_rest 11 = .ok (.getfield 53, 3) := edX7_rest_0.2.2.2.2.2.2.1
theorem dX7_rest_14 : decode cX7_rest 14 = .ok (.iload_n 1, 1) := edX7_rest_0.2.2.2.2.2.2.2.1
theorem dX7_rest_15 : decode cX7_rest 15 = .ok (.aaload, 1) := edX7_rest_0.2.2.2.2.2.2.2.2.1
theorem dX7_rest_16 : decode cX7_rest 16 = .ok (.astore_n 3, 1) := edX7_rest_0.2.2.2.2.2.2.2.2.2.1
theorem dX7_rest_17 : decode cX7_rest 17 = .ok (.aload_n 3, 1) := edX7_rest_0.2.2.2.2.2.2.2.2.2.2.1
theorem dX7_rest_18 : decode cX7_rest 18 = .ok (.getfield 302, 3) := edX7_rest_0.2.2.2.2.2.2.2.2.2.2.2.1
theorem dX7_rest_21 : decode cX7_rest 21 = .ok (.ifCond .ne 6, 3) := edX7_rest_0.2.2.2.2.2.2.2.2.2.2.2.2.1
theorem dX7_rest_24 : decode cX7_rest 24 = .ok (.ldc 210, 2) := edX7_rest_0.2.2.2.2.2.2.2.2.2.2.2.2.2.1
theorem dX7_rest_26 : decode cX7_rest 26 = .ok (.ireturn, 1) := edX7_rest_0.2.2.2.2.2.2.2.2.2.2.2.2.2.2.1
theorem dX7_rest_27 : decode cX7_rest 27 = .ok (.aload_n 3, 1) := edX7_rest_0.2.2.2.2.2.2.2.2.2.2.2.2.2.2.2.1
theorem dX7_rest_28 : decode cX7_rest 28 = .ok (.getfield 302, 3) := edX7_rest_0.2.2.2.2.2.2.2.2.2.2.2.2.2.2.2.2.1
theorem dX7_rest_31 : decode cX7_rest 31 = .ok (.iconst 3, 1) := edX7_rest_0.2.2.2.2.2.2.2.2.2.2.2.2.2.2.2.2.2.1
theorem dX7_rest_32 : decode cX7_rest 32 = .ok (.if_icmp .eq 6, 3) := edX7_rest_0.2.2.2.2.2.2.2.2.2.2.2.2.2.2.2.2.2.2.1
theorem dX7_rest_35 : decode cX7_rest 35 = .ok (.ldc 123, 2) := edX7_rest_0.2.2.2.2.2.2.2.2.2.2.2.2.2.2.2.2.2.2.2.1
theorem dX7_rest_37 : decode cX7_rest 37 = .ok (.ireturn, 1) := edX7_rest_0.2.2.2.2.2.2.2.2.2.2.2.2.2.2.2.2.2.2.2.2.1
theorem dX7_rest_38 : decode cX7_rest 38 = .ok (.iload_n 2, 1) := edX7_rest_0.2.2.2.2.2.2.2.2.2.2.2.2.2.2.2.2.2.2.2.2.2.1
theorem dX7_rest_39 : decode cX7_rest 39 = .ok (.ifCond .ne 9, 3) := edX7_rest_0.2.2.2.2.2.2.2.2.2.2.2.2.2.2.2.2.2.2.2.2.2.2.1
theorem dX7_rest_42 : decode cX7_rest 42 = .ok (.ldc_w 321, 3) := edX7_rest_0.2.2.2.2.2.2.2.2.2.2.2.2.2.2.2.2.2.2.2.2.2.2.2
theorem edX7_rest_45 : (decode cX7_rest 45 = .ok (.goto 9, 3)) ∧ (decode cX7_rest 48 = .ok (.aload_n 3, 1)) ∧ (decode cX7_rest 49 = .ok (.getfield 318, 3)) ∧ (decode cX7_rest 52 = .ok (.iload_n 2, 1)) ∧ (decode cX7_rest 53 = .ok (.irem, 1)) ∧ (decode cX7_rest 54 = .ok (.ireturn, 1)) := by decide +kernel
theorem dX7_rest_45 : decode cX7_rest 45 = .ok (.goto 9, 3) := edX7_rest_45.1
theorem dX7_rest_48 : decode cX7_rest 48 = .ok (.aload_n 3, 1) := edX7_rest_45.2.1
theorem dX7_rest_49 : decode cX7_rest 49 = .ok (.getfield 318, 3) := edX7_rest_45.2.2.1
theorem dX7_rest_52 : decode cX7_rest 52 = .ok (.iload_n 2, 1) := edX7_rest_45.2.2.2.1
theorem dX7_rest_53 : decode cX7_rest 53 = .ok (.irem, 1) := edX7_rest_45.2.2.2.2.1
theorem dX7_rest_54 : decode cX7_rest 54 = .ok (.ireturn, 1) := edX7_rest_45.2.2.2.2.2
theorem edX7_tell_0 : (decode cX7_tell 0 = .ok (.aload_n 0, 1)) ∧ (decode cX7_tell 1 = .ok (.getfield 61, 3)) ∧ (decode cX7_tell 4 = .ok (.bipush 60, 2)) ∧ (decode cX7_tell 6 = .ok (.if_icmp .lt 6, 3)) ∧ (decode cX7_tell 9 = .ok (.ldc 82, 2)) ∧ (decode cX7_tell 11 = .ok (.ireturn, 1)) ∧ (decode cX7_tell 12 = .ok (.aload_n 0, 1)) ∧ (decode cX7_tell 13 = .ok (.getfield 57, 3)) ∧ (decode cX7_tell 16 = .ok (.aload_n 0, 1)) ∧ (decode cX7_tell 17 = .ok (.getfield 61, 3)) ∧ (decode cX7_tell 20 = .ok (.iload_n 1, 1)) ∧ (decode cX7_tell 21 = .ok (.iastore, 1)) ∧ (decode cX7_tell 22 = .ok (.aload_n 0, 1)) ∧ (decode cX7_tell 23 = .ok (.dup, 1)) ∧ (decode cX7_tell 24 = .ok (.getfield 61, 3)) ∧ (decode cX7_tell 27 = .ok (.iconst 1, 1)) ∧ (decode cX7_tell 28 = .ok (.iadd, 1)) ∧ (decode cX7_tell 29 = .ok (.putfield 61, 3)) ∧ (decode cX7_tell 32 = .ok (.aload_n 0, 1)) ∧ (decode cX7_tell 33 = .ok (.getfield 61, 3)) ∧ (decode cX7_tell 36 = .ok (.ireturn, 1)) := by decide +kernel
theorem dX7_tell_0 : decode cX7_tell 0 = .ok (.aload_n 0, 1) := edX7_tell_0.1
theorem dX7_tell_1 : decode cX7_tell 1 = .ok (.getfield 61, 3) := edX7_tell_0.2.1
theorem dX7_tell_4 : decode cX7_tell 4 = .ok (.bipush 60, 2) := edX7_tell_0.2.2.1
theorem dX7_tell_6 : decode cX7_tell 6 = .ok (.if_icmp .lt 6, 3) := edX7_tell_0.2.2.2.1
theorem dX7_tell_9 : decode cX7_tell 9 = .ok (.ldc 82, 2) := edX7_tell_0.2.2.2.2.1
theorem dX7_tell_11 : decode cX7_tell 11 = .ok (.ireturn, 1) := edX7_tell_0.2.2.2.2.2.1
theorem dX7_tell_12 : decode cX7_tell 12 = .ok (.aload_n 0, 1) := edX7_tell_0.2.2.2.2.2.2.1
theorem dX7_tell_13 : decode cX7_tell 13 = .ok (.getfield 57, 3) := edX7_tell_0.2.2.2.2.2.2.2.1
theorem dX7_tell_16 : decode cX7_tell 16 = .ok (.aload_n 0, 1) := edX7_tell_0.2.2.2.2.2.2.2.2.1
theorem dX7_tell_17 : decode cX7_tell 17 = .ok (.getfield 61, 3) := edX7_tell_0.2.2.2.2.2.2.2.2.2.1
theorem dX7_tell_20 : decode cX7_tell 20 = .ok (.iload_n 1, 1) := edX7_tell_0.2.2.2.2.2.2.2.2.2.2.1
theorem dX7_tell_21 : decode cX7_tell 21 = .ok (.iastore, 1) := edX7_tell_0.2.2.2.2.2.2.2.2.2.2.2.1
theorem dX7_tell_22 : decode cX7_tell 22 = .ok (.aload_n 0, 1) := edX7_tell_0.2.2.2.2.2.2.2.2.2.2.2.2.1
theorem dX7_tell_23 : decode cX7_tell 23 = .ok (.dup, 1) := edX7_tell_0.2.2.2.2.2.2.2.2.2.2.2.2.2.1
theorem dX7_tell_24 : decode cX7_tell 24 = .ok (.getfield 61, 3) := edX7_tell_0.2.2.2.2.2.2.2.2.2.2.2.2.2.2.1
theorem dX7_tell_27 : decode cX7_tell 27 = .ok (.iconst 1, 1) := edX7_tell_0.2.2.2.2.2.2.2.2.2.2.2.2.2.2.2.1
theorem dX7_tell_28 : decode cX7_tell 28 = .ok (.iadd, 1) := edX7_tell_0.2.2.2.2.2.2.2.2.2.2.2.2.2.2.2.2.1
theorem dX7_tell_29 : decode cX7_tell 29 = .ok (.putfield 61, 3) := edX7_tell_0.2.2.2.2.2.2.2.2.2.2.2.2.2.2.2.2.2.1
theorem dX7_tell_32 : decode cX7_tell 32 = .ok (.aload_n 0, 1) := edX7_tell_0.2.2.2.2.2.2.2.2.2.2.2.2.2.2.2.2.2.2.1
theorem dX7_tell_33 : decode cX7_tell 33 = .ok (.getfield 61, 3) := edX7_tell_0.2.2.2.2.2.2.2.2.2.2.2.2.2.2.2.2.2.2.2.1
theorem dX7_tell_36 : decode cX7_tell 36 = .ok (.ireturn, 1) := edX7_tell_0.2.2.2.2.2.2.2.2.2.2.2.2.2.2.2.2.2.2.2.2
theorem edX7_check_0 : (decode cX7_check 0 = .ok (.aload_n 0, 1)) ∧ (decode cX7_check 1 = .ok (.getfield 61, 3)) ∧ (decode cX7_check 4 = .ok (.istore_n 2, 1)) ∧ (decode cX7_check 5 = .ok (.aload_n 0, 1)) ∧ (decode cX7_check 6 = .ok (.iconst 0, 1)) ∧ (decode cX7_check 7 = .ok (.putfield 61, 3)) ∧ (decode cX7_check 10 = .ok (.iload_n 1, 1)) ∧ (decode cX7_check 11 = .ok (.iconst 1, 1)) ∧ (decode cX7_check 12 = .ok (.bipush 30, 2)) ∧ (decode cX7_check 14 = .ok (.invokestatic 74, 3)) ∧ (decode cX7_check 17 = .ok (.ifCond .ne 6, 3)) ∧ (decode cX7_check 20 = .ok (.ldc 78, 2)) ∧ (decode cX7_check 22 = .ok (.ireturn, 1)) ∧ (decode cX7_check 23 = .ok (.aload_n 0, 1)) ∧ (decode cX7_check 24 = .ok (.getfield 22, 3)) ∧ (decode cX7_check 27 = .ok (.ifCond .ne 7, 3)) ∧ (decode cX7_check 30 = .ok (.ldc_w 321, 3)) ∧ (decode cX7_check 33 = .ok (.ireturn, 1)) ∧ (decode cX7_check 34 = .ok (.aload_n 0, 1)) ∧ (decode cX7_check 35 = .ok (.getfield 16, 3)) ∧ (decode cX7_check 38 = .ok (.aload_n 0, 1)) ∧ (decode cX7_check 39 = .ok (.getfield 19, 3)) ∧ (decode cX7_check 42 = .ok (.invokevirtual 193, 3)) ∧ (decode cX7_check 45 = .ok (.iconst 2, 1)) := by decide +kernel
theorem dX7_check_0 : decode cX7_check 0 = .ok (.aload_n 0, 1) := edX7_check_0.1
theorem dX7_check_1 : decode cX7_check 1 = .ok (.getfield 61, 3) := edX7_check_0.2.1
theorem dX7_check_4 : decode cX7_check 4 = .ok (.istore_n 2, 1) := edX7_check_0.2.2.1
theorem dX7_check_5 : decode cX7_check 5 = .ok (.aload_n 0, 1) := edX7_check_0.2.2.2.1
theorem dX7_check_6 : decode cX7_check 6 = .ok (.iconst 0, 1) := edX7_check_0.2.2.2.2.1
theorem dX7_check_7 : decode cX7_check 7 = .ok (.putfield 61, 3) := edX7_check_0.2.2.2.2.2.1
theorem dX7_check_10 : decode cX7_check 10 = .ok (.iload_n 1, 1) := edX7_check_0.2.2.2.2.2.2.1
theorem dX7_check_11 : decode cX7_check 11 = .ok (.iconst 1, 1) := edX7_check_0.2.2.2.2.2.2.2.1
theorem dX7_check_12 : decode cX7_check 12 = .ok (.bipush 30, 2) := edX7_check_0.2.2.2.2.2.2.2.2.1
theorem dX7_check_14 : decode cX7_check 14 = .ok (.invokestatic 74, 3) := edX7_check_0.2.2.2.2.2.2.2.2.2.1
theorem dX7_check_17 : decode cX7_check 17 = .ok (.ifCond .ne 6, 3) := edX7_check_0.2.2.2.2.2.2.2.2.2.2.1
theorem dX7_check_20 : decode cX7_check 20 = .ok (.ldc 78, 2) := edX7_check_0.2.2.2.2.2.2.2.2.2.2.2.1
theorem dX7_check_22 : decode cX7_check 22 = .ok (.ireturn, 1) := edX7_check_0.2.2.2.2.2.2.2.2.2.2.2.2.1
theorem dX7_check_23 : decode cX7_check 23 = .ok (.aload_n 0, 1) := edX7_check_0.2.2.2.2.2.2.2.2.2.2.2.2.2.1
theorem dX7_check_24 : decode cX7_check 24 = .ok (.getfield 22, 3) := edX7_check_0.2.2.2.2.2.2.2.2.2.2.2.2.2.2.1
theorem dX7_check_27 : decode cX7_check 27 = .ok (.ifCond .ne 7, 3) := edX7_check_0.2.2.2.2.2.2.2.2.2.2.2.2.2.2.2.1
theorem dX7_check_30 : decode cX7_check 30 = .ok (.ldc_w 321, 3) := edX7_check_0.2.2.2.2.2.2.2.2.2.2.2.2.2.2.2.2.1
theorem dX7_check_33 : decode cX7_check 33 = .ok (.ireturn, 1) := edX7_check_0.2.2.2.2.2.2.2.2.2.2.2.2.2.2.2.2.2.1
theorem dX7_check_34 : decode cX7_check 34 = .ok (.aload_n 0, 1) := edX7_check_0.2.2.2.2.2.2.2.2.2.2.2.2.2.2.2.2.2.2.1
theorem dX7_check_35 : decode cX7_check 35 = .ok (.getfield 16, 3) := edX7_check_0.2.2.2.2.2.2.2.2.2.2.2.2.2.2.2.2.2.2.2.1
theorem dX7_check_38 : decode cX7_check 38 = .ok (.aload_n 0, 1) := edX7_check_0.2.2.2.2.2.2.2.2.2.2.2.2.2.2.2.2.2.2.2.2.1
theorem dX7_check_39 : decode cX7_check 39 = .ok (.getfield 19, 3) := edX7_check_0.2.2.2.2.2.2.2.2.2.2.2.2.2.2.2.2.2.2.2.2.2.1
theorem dX7_check_42 : decode cX7_check 42 = .ok (.invokevirtual 193, 3) := edX7_check_0.2.2.2.2.2.2.2.2.2.2.2.2.2.2.2.2.2.2.2.2.2.2.1
theorem dX7_check_45 : decode cX7_check 45 = .ok (.iconst 2, 1) := edX7_check_0.2.2.2.2.2.2.2.2.2.2.2.2.2.2.2.2.2.2.2.2.2.2.2
theorem edX7_check_46 : (decode cX7_check 46 = .ok (.iload_n 1, 1)) ∧ (decode cX7_check 47 = .ok (.sipush 9999, 3)) ∧ (decode cX7_check 50 = .ok (.aload_n 0, 1)) ∧ (decode cX7_check 51 = .ok (.getfield 19, 3)) ∧ (decode cX7_check 54 = .ok (.getfield 160, 3)) ∧ (decode cX7_check 57 = .ok (.isub, 1)) ∧ (decode cX7_check 58 = .ok (.invokestatic 148, 3)) ∧ (decode cX7_check 61 = .ok (.imul, 1)) ∧ (decode cX7_check 62 = .ok (.istore_n 3, 1)) ∧ (decode cX7_check 63 = .ok (.iconst 0, 1)) ∧ (decode cX7_check 64 = .ok (.istore 4, 2)) ∧ (decode cX7_check 66 = .ok (.iload 4, 2)) ∧ (decode cX7_check 68 = .ok (.iload_n 3, 1)) ∧ (decode cX7_check 69 = .ok (.if_icmp .ge 75, 3)) ∧ (decode cX7_check 72 = .ok (.iload 4, 2)) ∧ (decode cX7_check 74 = .ok (.iconst 2, 1)) ∧ (decode cX7_check 75 = .ok (.irem, 1)) ∧ (decode cX7_check 76 = .ok (.ifCond .ne 13, 3)) ∧ (decode cX7_check 79 = .ok (.aload_n 0, 1)) ∧ (decode cX7_check 80 = .ok (.getfield 16, 3)) ∧ (decode cX7_check 83 = .ok (.iconst 1, 1)) ∧ (decode cX7_check 84 = .ok (.iconst (-1), 1)) ∧ (decode cX7_check 85 = .ok (.invokevirtual 163, 3)) ∧ (decode cX7_check 88 = .ok (.pop, 1)) := by decide +kernel
theorem dX7_check_46 : decode cX7_check 46 = .ok (.iload_n 1, 1) := edX7_check_46.1
theorem dX7_check_47 : decode cX7_check 47 = .ok (.sipush 9999, 3) := edX7_check_46.2.1
theorem dX7_check_50 : decode cX7_check 50 = .ok (.aload_n 0, 1) := edX7_check_46.2.2.1
theorem dX7_check_51 : decode cX7_check 51 = .ok (.getfield 19, 3) := edX7_check_46.2.2.2.1
theorem dX7_check_54 : decode cX7_check 54 = .ok (.getfield 160, 3) := edX7_check_46.2.2.2.2.1
theorem dX7_check_57 : decode cX7_check 57 = .ok (.isub, 1) := edX7_check_46.2.2.2.2.2.1
theorem dX7_check_58 : decode cX7_check 58 = .ok (.invokestatic 148, 3) := edX7_check_46.2.2.2.2.2.2.1
theorem dX7_check_61 : decode cX7_check 61 = .ok (.imul, 1) := edX7_check_46.2.2.2.2.2.2.2.1
theorem dX7_check_62 : decode cX7_check 62 = .ok (.istore_n 3, 1) := edX7_check_46.2.2.2.2.2.2.2.2.1
theorem dX7_check_63 : decode cX7_check 63 = .ok (.iconst 0, 1) := edX7_check_46.2.2.2.2.2.2.2.2.2.1
theorem dX7_check_64 : decode cX7_check 64 = .ok (.istore 4, 2) := edX7_check_46.2.2.2.2.2.2.2.2.2.2.1
theorem dX7_check_66 : decode cX7_check 66 = .ok (.iload 4, 2) := edX7_check_46.2.2.2.2.2.2.2.2.2.2.2.1
theorem dX7_check_68 : decode cX7_check 68 = .ok (.iload_n 3, 1) := edX7_check_46.2.2.2.2.2.2.2.2.2.2.2.2.1
theorem dX7_check_69 : decode cX7_check 69 = .ok (.if_icmp .ge 75, 3) := edX7_check_46.2.2.2.2.2.2.2.2.2.2.2.2.2.1
theorem dX7_check_72 : decode cX7_check 72 = .ok (.iload 4, 2) := edX7_check_46.2.2.2.2.2.2.2.2.2.2.2.2.2.2.1
theorem dX7_check_74 : decode cX7_check 74 = .ok (.iconst 2, 1) := edX7_check_46.2.2.2.2.2.2.2.2.2.2.2.2.2.2.2.1
theorem dX7_check_75 : decode cX7_check 75 = .ok (.irem, 1) := edX7_check_46.2.2.2.2.2.2.2.2.2.2.2.2.2.2.2.2.1
theorem dX7_check_76 : decode cX7_check 76 = .ok (.ifCond .ne 13, 3) := edX7_check_46.2.2.2.2.2.2.2.2.2.2.2.2.2.2.2.2.2.1
theorem dX7_check_79 : decode cX7_check 79 = .ok (.aload_n 0, 1) := edX7_check_46.2.2.2.2.2.2.2.2.2.2.2.2.2.2.2.2.2.2.1
theorem dX7_check_80 : decode cX7_check 80 = .ok (.getfield 16, 3) := edX7_check_46.2.2.2.2.2.2.2.2.2.2.2.2.2.2.2.2.2.2.2.1
theorem dX7_check_83 : decode cX7_check 83 = .ok (.iconst 1, 1) := edX7_check_46.2.2.2.2.2.2.2.2.2.2.2.2.2.2.2.2.2.2.2.2.1
theorem dX7_check_84 : decode cX7_check 84 = .ok (.iconst (-1), 1) := edX7_check_46.2.2.2.2.2.2.2.2.2.2.2.2.2.2.2.2.2.2.2.2.2.1
theorem dX7_check_85 : decode cX7_check 85 = .ok (.invokevirtual 163, 3) := edX7_check_46.2.2.2.2.2.2.2.2.2.2.2.2.2.2.2.2.2.2.2.2.2.2.1
theorem dX7_check_88 : decode cX7_check 88 = .ok (.pop, 1) := edX7_check_46.2.2.2.2.2.2.2.2.2.2.2.2.2.2.2.2.2.2.2.2.2.2.2
theorem edX7_check_89 : (decode cX7_check 89 = .ok (.iload 4, 2)) ∧ (decode cX7_check 91 = .ok (.iconst 2, 1)) ∧ (decode cX7_check 92 = .ok (.irem, 1)) ∧ (decode cX7_check 93 = .ok (.ifCond .ne 13, 3)) ∧ (decode cX7_check 96 = .ok (.aload_n 0, 1)) ∧ (decode cX7_check 97 = .ok (.getfield 16, 3)) ∧ (decode cX7_check 100 = .ok (.invokevirtual 173, 3)) ∧ (decode cX7_check 103 = .ok (.goto 10, 3)) ∧ (decode cX7_check 106 = .ok (.aload_n 0, 1)) ∧ (decode cX7_check 107 = .ok (.getfield 16, 3)) ∧ (decode cX7_check 110 = .ok (.getfield 139, 3)) ∧ (decode cX7_check 113 = .ok (.istore 5, 2)) ∧ (decode cX7_check 115 = .ok (.iload 4, 2)) ∧ (decode cX7_check 117 = .ok (.iload_n 2, 1)) ∧ (decode cX7_check 118 = .ok (.if_icmp .ge 15, 3)) ∧ (decode cX7_check 121 = .ok (.aload_n 0, 1)) ∧ (decode cX7_check 122 = .ok (.getfield 57, 3)) ∧ (decode cX7_check 125 = .ok (.iload 4, 2)) ∧ (decode cX7_check 127 = .ok (.iaload, 1)) ∧ (decode cX7_check 128 = .ok (.iload 5, 2)) ∧ (decode cX7_check 130 = .ok (.if_icmp .eq 8, 3)) ∧ (decode cX7_check 133 = .ok (.iconst 1, 1)) ∧ (decode cX7_check 134 = .ok (.iload 4, 2)) ∧ (decode cX7_check 136 = .ok (.iadd, 1)) := by decide +kernel
theorem dX7_check_89 : decode cX7_check 89 = .ok (.iload 4, 2) := edX7_check_89.1
theorem dX7_check_91 : decode cX7_check 91 = .ok (.iconst 2, 1) := edX7_check_89.2.1
theorem dX7_check_92 : decode cX7_check 92 = .ok (.irem, 1) := edX7_check_89.2.2.1
theorem dX7_check_93 : decode cX7_check 93 = .ok (.ifCond .ne 13, 3) := edX7_check_89.2.2.2.1
theorem dX7_check_96 : decode cX7_check 96 = .ok (.aload_n 0, 1) := edX7_check_89.2.2.2.2.1
theorem dX7_check_97 : decode cX7_check 97 = .ok (.getfield 16, 3) := edX7_check_89.2.2.2.2.2.1
theorem dX7_check_100 : decode cX7_check 100 = .ok (.invokevirtual 173, 3) := edX7_check_89.2.2.2.2.2.2.1
theorem dX7_check_103 : decode cX7_check 103 = .ok (.goto 10, 3) := edX7_check_89.2.2.2.2.2.2.2.1
theorem dX7_check_106 : decode cX7_check 106 = .ok (.aload_n 0, 1) := edX7_check_89.2.2.2.2.2.2.2.2.1
theorem dX7_check_107 : decode cX7_check 107 = .ok (.getfield 16, 3) := edX7_check_89.2.2.2.2.2.2.2.2.2.1
theorem dX7_check_110 : decode cX7_check 110 = .ok (.getfield 139, 3) := edX7_check_89.2.2.2.2.2.2.2.2.2.2.1
theorem dX7_check_113 : decode cX7_check 113 = .ok (.istore 5, 2) := edX7_check_89.2.2.2.2.2.2.2.2.2.2.2.1
theorem dX7_check_115 : decode cX7_check 115 = .ok (.iload 4, 2) := edX7_check_89.2.2.2.2.2.2.2.2.2.2.2.2.1
theorem dX7_check_117 : decode cX7_check 117 = .ok (.iload_n 2, 1) := edX7_check_89.2.2.2.2.2.2.2.2.2.2.2.2.2.1
theorem dX7_check_118 : decode cX7_check 118 = .ok (.if_icmp .ge 15, 3) := edX7_check_89.2.2.2.2.2.2.2.2.2.2.2.2.2.2.1
theorem dX7_check_121 : decode cX7_check 121 = .ok (.aload_n 0, 1) := edX7_check_89.2.2.2.2.2.2.2.2.2.2.2.2.2.2.2.1
theorem dX7_check_122 : decode cX7_check 122 = .ok (.getfield 57, 3) := edX7_check_89.2.2.2.2.2.2.2.2.2.2.2.2.2.2.2.2.1
theorem dX7_check_125 : decode cX7_check 125 = .ok (.iload 4, 2) := edX7_check_89.2.2.2.2.2.2.2.2.2.2.2.2.2.2.2.2.2.1
theorem dX7_check_127 : decode cX7_check 127 = .ok (.iaload, 1) := edX7_check_89.2.2.2.2.2.2.2.2.2.2.2.2.2.2.2.2.2.2.1
theorem dX7_check_128 : decode cX7_check 128 = .ok (.iload 5, 2) := edX7_check_89.2.2.2.2.2.2.2.2.2.2.2.2.2.2.2.2.2.2.2.1
theorem dX7_check_130 : decode cX7_check 130 = .ok (.if_icmp .eq 8, 3) := edX7_check_89.2.2.2.2.2.2.2.2.2.2.2.2.2.2.2.2.2.2.2.2.1
theorem dX7_check_133 : decode cX7_check 133 = .ok (.iconst 1, 1) := edX7_check_89.2.2.2.2.2.2.2.2.2.2.2.2.2.2.2.2.2.2.2.2.2.1
theorem dX7_check_134 : decode cX7_check 134 = .ok (.iload 4, 2) := edX7_check_89.2.2.2.2.2.2.2.2.2.2.2.2.2.2.2.2.2.2.2.2.2.2.1
theorem dX7_check_136 : decode cX7_check 136 = .ok (.iadd, 1) := edX7_check_89.2.2.2.2.2.2.2.2.2.2.2.2.2.2.2.2.2.2.2.2.2.2.2
theorem edX7_check_137 : (decode cX7_check 137 = .ok (.ireturn, 1)) ∧ (decode cX7_check 138 = .ok (.iinc 4 1, 3)) ∧ (decode cX7_check 141 = .ok (.goto (-75), 3)) ∧ (decode cX7_check 144 = .ok (.iload_n 2, 1)) ∧ (decode cX7_check 145 = .ok (.iload_n 3, 1)) ∧ (decode cX7_check 146 = .ok (.if_icmp .ne 7, 3)) ∧ (decode cX7_check 149 = .ok (.iconst 0, 1)) ∧ (decode cX7_check 150 = .ok (.goto 6, 3)) ∧ (decode cX7_check 153 = .ok (.iconst 1, 1)) ∧ (decode cX7_check 154 = .ok (.iload_n 3, 1)) ∧ (decode cX7_check 155 = .ok (.iadd, 1)) ∧ (decode cX7_check 156 = .ok (.ireturn, 1)) := by decide +kernel
theorem dX7_check_137 : decode cX7_check 137 = .ok (.ireturn, 1) := edX7_check_137.1
theorem dX7_check_138 : decode cX7_check 138 = .ok (.iinc 4 1, 3) := edX7_check_137.2.1
theorem dX7_check_141 : decode cX7_check 141 = .ok (.goto (-75), 3) := edX7_check_137.2.2.1
theorem dX7_check_144 : decode cX7_check 144 = .ok (.iload_n 2, 1) := edX7_check_137.2.2.2.1
theorem dX7_check_145 : decode cX7_check 145 = .ok (.iload_n 3, 1) := edX7_check_137.2.2.2.2.1
theorem dX7_check_146 : decode cX7_check 146 = .ok (.if_icmp .ne 7, 3) := edX7_check_137.2.2.2.2.2.1
theorem dX7_check_149 : decode cX7_check 149 = .ok (.iconst 0, 1) := edX7_check_137.2.2.2.2.2.2.1
theorem dX7_check_150 : decode cX7_check 150 = .ok (.goto 6, 3) := edX7_check_137.2.2.2.2.2.2.2.1
theorem dX7_check_153 : decode cX7_check 153 = .ok (.iconst 1, 1) := edX7_check_137.2.2.2.2.2.2.2.2.1
theorem dX7_check_154 : decode cX7_check 154 = .ok (.iload_n 3, 1) := edX7_check_137.2.2.2.2.2.2.2.2.2.1
theorem dX7_check_155 : decode cX7_check 155 = .ok (.iadd, 1) := edX7_check_137.2.2.2.2.2.2.2.2.2.2.1
theorem dX7_check_156 : decode cX7_check 156 = .ok (.ireturn, 1) := edX7_check_137.2.2.2.2.2.2.2.2.2.2.2
theorem edX7_keep_0 : (decode cX7_keep 0 = .ok (.aload_n 0, 1)) ∧ (decode cX7_keep 1 = .ok (.getfield 19, 3)) ∧ (decode cX7_keep 4 = .ok (.aload_n 0, 1)) ∧ (decode cX7_keep 5 = .ok (.getfield 10, 3)) ∧ (decode cX7_keep 8 = .ok (.invokevirtual 193, 3)) ∧ (decode cX7_keep 11 = .ok (.aload_n 0, 1)) ∧ (decode cX7_keep 12 = .ok (.iconst 1, 1)) ∧ (decode cX7_keep 13 = .ok (.putfield 22, 3)) ∧ (decode cX7_keep 16 = .ok (.aload_n 0, 1)) ∧ (decode cX7_keep 17 = .ok (.getfield 19, 3)) ∧ (decode cX7_keep 20 = .ok (.getfield 79, 3)) ∧ (decode cX7_keep 23 = .ok (.ireturn, 1)) := by decide +kernel
theorem dX7_keep_0 : decode cX7_keep 0 = .ok (.aload_n 0, 1) := edX7_keep_0.1
theorem dX7_keep_1 : decode cX7_keep 1 = .ok (.getfield 19, 3) := edX7_keep_0.2.1
theorem dX7_keep_4 : decode cX7_keep 4 = .ok (.aload_n 0, 1) := edX7_keep_0.2.2.1
theorem dX7_keep_5 : decode cX7_keep 5 = .ok (.getfield 10, 3) := edX7_keep_0.2.2.2.1
theorem dX7_keep_8 : decode cX7_keep 8 = .ok (.invokevirtual 193, 3) := edX7_keep_0.2.2.2.2.1
theorem dX7_keep_11 : decode cX7_keep 11 = .ok (.aload_n 0, 1) := edX7_keep_0.2.2.2.2.2.1
theorem dX7_keep_12 : decode cX7_keep 12 = .ok (.iconst 1, 1) := edX7_keep_0.2.2.2.2.2.2.1
theorem dX7_keep_13 : decode cX7_keep 13 = .ok (.putfield 22, 3) := edX7_keep_0.2.2.2.2.2.2.2.1
theorem dX7_keep_16 : decode cX7_keep 16 = .ok (.aload_n 0, 1) := edX7_keep_0.2.2.2.2.2.2.2.2.1
theorem dX7_keep_17 : decode cX7_keep 17 = .ok (.getfield 19, 3) := edX7_keep_0.2.2.2.2.2.2.2.2.2.1
theorem dX7_keep_20 : decode cX7_keep 20 = .ok (.getfield 79, 3) := edX7_keep_0.2.2.2.2.2.2.2.2.2.2.1
theorem dX7_keep_23 : decode cX7_keep 23 = .ok (.ireturn, 1) := edX7_keep_0.2.2.2.2.2.2.2.2.2.2.2
theorem edX7_back_0 : (decode cX7_back 0 = .ok (.aload_n 0, 1)) ∧ (decode cX7_back 1 = .ok (.getfield 22, 3)) ∧ (decode cX7_back 4 = .ok (.ifCond .ne 7, 3)) ∧ (decode cX7_back 7 = .ok (.ldc_w 321, 3)) ∧ (decode cX7_back 10 = .ok (.ireturn, 1)) ∧ (decode cX7_back 11 = .ok (.aload_n 0, 1)) ∧ (decode cX7_back 12 = .ok (.getfield 10, 3)) ∧ (decode cX7_back 15 = .ok (.aload_n 0, 1)) ∧ (decode cX7_back 16 = .ok (.getfield 19, 3)) ∧ (decode cX7_back 19 = .ok (.invokevirtual 193, 3)) ∧ (decode cX7_back 22 = .ok (.aload_n 0, 1)) ∧ (decode cX7_back 23 = .ok (.getfield 10, 3)) ∧ (decode cX7_back 26 = .ok (.getfield 79, 3)) ∧ (decode cX7_back 29 = .ok (.ireturn, 1)) := by decide +kernel
theorem dX7_back_0 : decode cX7_back 0 = .ok (.aload_n 0, 1) := edX7_back_0.1
theorem dX7_back_1 : decode cX7_back 1 = .ok (.getfield 22, 3) := edX7_back_0.2.1
theorem dX7_back_4 : decode cX7_back 4 = .ok (.ifCond .ne 7, 3) := edX7_back_0.2.2.1
theorem dX7_back_7 : decode cX7_back 7 = .ok (.ldc_w 321, 3) := edX7_back_0.2.2.2.1
theorem dX7_back_10 : decode cX7_back 10 = .ok (.ireturn, 1) := edX7_back_0.2.2.2.2.1
theorem dX7_back_11 : decode cX7_back 11 = .ok (.aload_n 0, 1) := edX7_back_0.2.2.2.2.2.1
theorem dX7_back_12 : decode cX7_back 12 = .ok (.getfield 10, 3) := edX7_back_0.2.2.2.2.2.2.1
theorem dX7_back_15 : decode cX7_back 15 = .ok (.aload_n 0, 1) := edX7_back_0.2.2.2.2.2.2.2.1
theorem dX7_back_16 : decode cX7_back 16 = .ok (.getfield 19, 3) := edX7_back_0.2.2.2.2.2.2.2.2.1
theorem dX7_back_19 : decode cX7_back 19 = .ok (.invokevirtual 193, 3) := edX7_back_0.2.2.2.2.2.2.2.2.2.1
theorem dX7_back_22 : decode cX7_back 22 = .ok (.aload_n 0, 1) := edX7_back_0.2.2.2.2.2.2.2.2.2.2.1
theorem dX7_back_23 : decode cX7_back 23 = .ok (.getfield 10, 3) := edX7_back_0.2.2.2.2.2.2.2.2.2.2.2.1
theorem dX7_back_26 : decode cX7_back 26 = .ok (.getfield 79, 3) := edX7_back_0.2.2.2.2.2.2.2.2.2.2.2.2.1
theorem dX7_back_29 : decode cX7_back 29 = .ok (.ireturn, 1) := edX7_back_0.2.2.2.2.2.2.2.2.2.2.2.2.2
theorem edX7_count_0 : (decode cX7_count 0 = .ok (.iload_n 1, 1)) ∧ (decode cX7_count 1 = .ok (.tableswitch 120 0 8 #[51, 59, 67, 75, 83, 91, 99, 104, 112], 51)) ∧ (decode cX7_count 52 = .ok (.aload_n 0, 1)) ∧ (decode cX7_count 53 = .ok (.getfield 10, 3)) ∧ (decode cX7_count 56 = .ok (.getfield 79, 3)) ∧ (decode cX7_count 59 = .ok (.ireturn, 1)) ∧ (decode cX7_count 60 = .ok (.aload_n 0, 1)) ∧ (decode cX7_count 61 = .ok (.getfield 10, 3)) ∧ (decode cX7_count 64 = .ok (.getfield 160, 3)) ∧ (decode cX7_count 67 = .ok (.ireturn, 1)) ∧ (decode cX7_count 68 = .ok (.aload_n 0, 1)) ∧ (decode cX7_count 69 = .ok (.getfield 10, 3)) ∧ (decode cX7_count 72 = .ok (.getfield 139, 3)) ∧ (decode cX7_count 75 = .ok (.ireturn, 1)) ∧ (decode cX7_count 76 = .ok (.aload_n 0, 1)) ∧ (decode cX7_count 77 = .ok (.getfield 10, 3)) ∧ (decode cX7_count 80 = .ok (.getfield 142, 3)) ∧ (decode cX7_count 83 = .ok (.ireturn, 1)) ∧ (decode cX7_count 84 = .ok (.aload_n 0, 1)) ∧ (decode cX7_count 85 = .ok (.getfield 10, 3)) ∧ (decode cX7_count 88 = .ok (.getfield 145, 3)) ∧ (decode cX7_count 91 = .ok (.ireturn, 1)) ∧ (decode cX7_count 92 = .ok (.aload_n 0, 1)) ∧ (decode cX7_count 93 = .ok (.getfield 10, 3)) := by decide +kernel
theorem dX7_count_0 : decode cX7_count 0 = .ok (.iload_n 1, 1) := edX7_count_0.1
theorem dX7_count_1 : decode cX7_count 1 = .ok (.tableswitch 120 0 8 #[51, 59, 67, 75, 83, 91, 99, 104, 112], 51) := edX7_count_0.2.1
theorem dX7_count_52 : decode cX7_count 52 = .ok (.aload_n 0, 1) := edX7_count_0.2.2.1
theorem dX7_count_53 : decode cX7_count 53 = .ok (.getfield 10, 3) := edX7_count_0.2.2.2.1
theorem dX7_count_56 : decode cX7_count 56 = .ok (.getfield 79, 3) := edX7_count_0.2.2.2.2.1
theorem dX7_count_59 : decode cX7_count 59 = .ok (.ireturn, 1) := edX7_count_0.2.2.2.2.2.1
theorem dX7_count_60 : decode cX7_count 60 = .ok (.aload_n 0, 1) := edX7_count_0.2.2.2.2.2.2.1
theorem dX7_count_61 : decode cX7_count 61 = .ok (.getfield 10, 3) := edX7_count_0.2.2.2.2.2.2.2.1
theorem dX7_count_64 : decode cX7_count 64 = .ok (.getfield 160, 3) := edX7_count_0.2.2.2.2.2.2.2.2.1
theorem dX7_count_67 : decode cX7_count 67 = .ok (.ireturn, 1) := edX7_count_0.2.2.2.2.2.2.2.2.2.1
theorem dX7_count_68 : decode cX7_count 68 = .ok (.aload_n 0, 1) := edX7_count_0.2.2.2.2.2.2.2.2.2.2.1
theorem dX7_count_69 : decode cX7_count 69 = .ok (.getfield 10, 3) := edX7_count_0.2.2.2.2.2.2.2.2.2.2.2.1
theorem dX7_count_72 : decode cX7_count 72 = .ok (.getfield 139, 3) := edX7_count_0.2.2.2.2.2.2.2.2.2.2.2.2.1
theorem dX7_count_75 : decode cX7_count 75 = .ok (.ireturn, 1) := edX7_count_0.2.2.2.2.2.2.2.2.2.2.2.2.2.1
theorem dX7_count_76 : decode cX7_count 76 = .ok (.aload_n 0, 1) := edX7_count_0.2.2.2.2.2.2.2.2.2.2.2.2.2.2.1
theorem dX7_count_77 : decode cX7_count 77 = .ok (.getfield 10, 3) := edX7_count_0.2.2.2.2.2.2.2.2.2.2.2.2.2.2.2.1
theorem dX7_count_80 : decode cX7_count 80 = .ok (.getfield 142, 3) := edX7_count_0.2.2.2.2.2.2.2.2.2.2.2.2.2.2.2.2.1
theorem dX7_count_83 : decode cX7_count 83 = .ok (.ireturn, 1) := edX7_count_0.2.2.2.2.2.2.2.2.2.2.2.2.2.2.2.2.2.1
theorem dX7_count_84 : decode cX7_count 84 = .ok (.aload_n 0, 1) := edX7_count_0.2.2.2.2.2.2.2.2.2.2.2.2.2.2.2.2.2.2.1
theorem dX7_count_85 : decode cX7_count 85 = .ok (.getfield 10, 3) := edX7_count_0.2.2.2.2.2.2.2.2.2.2.2.2.2.2.2.2.2.2.2.1
theorem dX7_count_88 : decode cX7_count 88 = .ok (.getfield 145, 3) := edX7_count_0.2.2.2.2.2.2.2.2.2.2.2.2.2.2.2.2.2.2.2.2.1
theorem dX7_count_91 : decode cX7_count 91 = .ok (.ireturn, 1) := edX7_count_0.2.2.2.2.2.2.2.2.2.2.2.2.2.2.2.2.2.2.2.2.2.1
theorem dX7_count_92 : decode cX7_count 92 = .ok (.aload_n 0, 1) := edX7_count_0.2.2.2.2.2.2.2.2.2.2.2.2.2.2.2.2.2.2.2.2.2.2.1
theorem dX7_count_93 : decode cX7_count 93 = .ok (.getfield 10, 3) := edX7_count_0.2.2.2.2.2.2.2.2.2.2.2.2.2.2.2.2.2.2.2.2.2.2.2
theorem edX7_count_96 : (decode cX7_count 96 = .ok (.getfield 246, 3)) ∧ (decode cX7_count 99 = .ok (.ireturn, 1)) ∧ (decode cX7_count 100 = .ok (.aload_n 0, 1)) ∧ (decode cX7_count 101 = .ok (.getfield 61, 3)) ∧ (decode cX7_count 104 = .ok (.ireturn, 1)) ∧ (decode cX7_count 105 = .ok (.aload_n 0, 1)) ∧ (decode cX7_count 106 = .ok (.getfield 44, 3)) ∧ (decode cX7_count 109 = .ok (.getfield 234, 3)) ∧ (decode cX7_count 112 = .ok (.ireturn, 1)) ∧ (decode cX7_count 113 = .ok (.aload_n 0, 1)) ∧ (decode cX7_count 114 = .ok (.getfield 10, 3)) ∧ (decode cX7_count 117 = .ok (.getfield 157, 3)) ∧ (decode cX7_count 120 = .ok (.ireturn, 1)) ∧ (decode cX7_count 121 = .ok (.ldc 78, 2)) ∧ (decode cX7_count 123 = .ok (.ireturn, 1)) := by decide +kernel
theorem dX7_count_96 : decode cX7_count 96 = .ok (.getfield 246, 3) := edX7_count_96.1
theorem dX7_count_99 : decode cX7_count 99 = .ok (.ireturn, 1) := edX7_count_96.2.1
theorem dX7_count_100 : decode cX7_count 100 = .ok (.aload_n 0, 1) := edX7_count_96.2.2.1
theorem dX7_count_101 : decode cX7_count 101 = .ok (.getfield 61, 3) := edX7_count_96.2.2.2.1
theorem dX7_count_104 : decode cX7_count 104 = .ok (.ireturn, 1) := edX7_count_96.2.2.2.2.1
theorem dX7_count_105 : decode cX7_count 105 = .ok (.aload_n 0, 1) := edX7_count_96.2.2.2.2.2.1
theorem dX7_count_106 : decode cX7_count 106 = .ok (.getfield 44, 3) := edX7_count_96.2.2.2.2.2.2.1
theorem dX7_count_109 : decode cX7_count 109 = .ok (.getfield 234, 3) := edX7_count_96.2.2.2.2.2.2.2.1
theorem dX7_count_112 : decode cX7_count 112 = .ok (.ireturn, 1) := edX7_count_96.2.2.2.2.2.2.2.2.1
theorem dX7_count_113 : decode cX7_count 113 = .ok (.aload_n 0, 1) := edX7_count_96.2.2.2.2.2.2.2.2.2.1
theorem dX7_count_114 : decode cX7_count 114 = .ok (.getfield 10, 3) := edX7_count_96.2.2.2.2.2.2.2.2.2.2.1
theorem dX7_count_117 : decode cX7_count 117 = .ok (.getfield 157, 3) := edX7_count_96.2.2.2.2.2.2.2.2.2.2.2.1
theorem dX7_count_120 : decode cX7_count 120 = .ok (.ireturn, 1) := edX7_count_96.2.2.2.2.2.2.2.2.2.2.2.2.1
theorem dX7_count_121 : decode cX7_count 121 = .ok (.ldc 78, 2) := edX7_count_96.2.2.2.2.2.2.2.2.2.2.2.2.2.1
theorem dX7_count_123 : decode cX7_count 123 = .ok (.ireturn, 1) := edX7_count_96.2.2.2.2.2.2.2.2.2.2.2.2.2.2
