def f0_X7 (h : am_H) : Prop := h 0 = some (.inr (7, [.ref 1, .ref 13, .ref 25, .int 0, .ref 37, .ref 39, .ref 40, .ref 43, .ref 44, .ref 45, .int 0])) ∧ h 1 = some (.inr (0, [.ref 2, .ref 3, .ref 4, .int 0, .int 60, .int 10, .int 0, .int 0, .int 1, .int 0, .ref 5, .ref 6, .ref 7, .ref 8, .ref 9, .ref 10, .int 0, .ref 11, .ref 12])) ∧ h 2 = some (.inl (0, [5, 5, 5, 5])) ∧ h 3 = some (.inl (0, [1, 1, 1, 1, 1, 1, 1, 1])) ∧ h 4 = some (.inl (0, [20, 20])) ∧ h 5 = some (.inl (0, List.replicate 8 0)) ∧ h 6 = some (.inl (0, List.replicate 8 0)) ∧ h 7 = some (.inl (0, List.replicate 8 0)) ∧ h 8 = some (.inl (0, List.replicate 8 0)) ∧ h 9 = some (.inl (0, List.replicate 8 0)) ∧ h 10 = some (.inr (15, [.null, .null, .null, .null, .null, .null, .null, .null, .null, .null, .null, .null, .null, .null])) ∧ h 11 = some (.inl (0, [(-1), (-1), (-1)])) ∧ h 12 = some (.inl (0, List.replicate 4 0)) ∧ h 13 = some (.inr (0, [.ref 14, .ref 15, .ref 16, .int 0, .int 60, .int 10, .int 0, .int 0, .int 1, .int 0, .ref 17, .ref 18, .ref 19, .ref 20, .ref 21, .ref 22, .int 0, .ref 23, .ref 24])) ∧ h 14 = some (.inl (0, [5, 5, 5, 5])) ∧ h 15 = some (.inl (0, [1, 1, 1, 1, 1, 1, 1, 1])) ∧ h 16 = some (.inl (0, [20, 20])) ∧ h 17 = some (.inl (0, List.replicate 8 0)) ∧ h 18 = some (.inl (0, List.replicate 8 0)) ∧ h 19 = some (.inl (0, List.replicate 8 0)) ∧ h 20 = some (.inl (0, List.replicate 8 0)) ∧ h 21 = some (.inl (0, List.replicate 8 0)) ∧ h 22 = some (.inr (15, [.null, .null, .null, .null, .null, .null, .null, .null, .null, .null, .null, .null, .null, .null])) ∧ h 23 = some (.inl (0, [(-1), (-1), (-1)])) ∧ h 24 = some (.inl (0, List.replicate 4 0)) ∧ h 25 = some (.inr (0, [.ref 26, .ref 27, .ref 28, .int 0, .int 60, .int 10, .int 0, .int 0, .int 1, .int 0, .ref 29, .ref 30, .ref 31, .ref 32, .ref 33, .ref 34, .int 0, .ref 35, .ref 36])) ∧ h 26 = some (.inl (0, [5, 5, 5, 5])) ∧ h 27 = some (.inl (0, [1, 1, 1, 1, 1, 1, 1, 1])) ∧ h 28 = some (.inl (0, [20, 20])) ∧ h 29 = some (.inl (0, List.replicate 8 0)) ∧ h 30 = some (.inl (0, List.replicate 8 0)) ∧ h 31 = some (.inl (0, List.replicate 8 0)) ∧ h 32 = some (.inl (0, List.replicate 8 0)) ∧ h 33 = some (.inl (0, List.replicate 8 0)) ∧ h 34 = some (.inr (15, [.null, .null, .null, .null, .null, .null, .null, .null, .null, .null, .null, .null, .null, .null])) ∧ h 35 = some (.inl (0, [(-1), (-1), (-1)])) ∧ h 36 = some (.inl (0, List.replicate 4 0)) ∧ h 37 = some (.inr (6, [.ref 38, .int 0, .int 0])) ∧ h 38 = some (.inl (0, List.replicate 4 0)) ∧ h 39 = some (.inr (1, [.ref 40, .int 0, .int 0, .int 0, .int (-1), .int (-1), .ref 42, .int 0, .int 0, .int 0, .int 0])) ∧ h 40 = some (.inr (4, [.ref 41, .int 0])) ∧ h 41 = some (.inl (0, List.replicate 96 0)) ∧ h 42 = some (.inl (0, List.replicate 96 0)) ∧ h 43 = some (.inr (13, [.ref 46, .ref 48, .ref 50, .ref 52])) ∧ h 44 = some (.inr (14, [.ref 54, .ref 57, .ref 60, .ref 63, .ref 66])) ∧ h 45 = some (.inl (0, List.replicate 60 0)) ∧ h 46 = some (.inr (2, [.int (-1), .int 0, .ref 47])) ∧ h 47 = some (.inl (0, List.replicate 24 0)) ∧ h 48 = some (.inr (2, [.int (-1), .int 0, .ref 49])) ∧ h 49 = some (.inl (0, List.replicate 24 0)) ∧ h 50 = some (.inr (2, [.int (-1), .int 0, .ref 51])) ∧ h 51 = some (.inl (0, List.replicate 24 0)) ∧ h 52 = some (.inr (2, [.int (-1), .int 0, .ref 53])) ∧ h 53 = some (.inl (0, List.replicate 24 0)) ∧ h 54 = some (.inr (3, [.int 0, .int 0, .int 0, .int 0, .ref 55])) ∧ h 55 = some (.inr (2, [.int (-1), .int 0, .ref 56])) ∧ h 56 = some (.inl (0, List.replicate 24 0)) ∧ h 57 = some (.inr (3, [.int 0, .int 0, .int 0, .int 0, .ref 58])) ∧ h 58 = some (.inr (2, [.int (-1), .int 0, .ref 59])) ∧ h 59 = some (.inl (0, List.replicate 24 0)) ∧ h 60 = some (.inr (3, [.int 0, .int 0, .int 0, .int 0, .ref 61])) ∧ h 61 = some (.inr (2, [.int (-1), .int 0, .ref 62])) ∧ h 62 = some (.inl (0, List.replicate 24 0)) ∧ h 63 = some (.inr (3, [.int 0, .int 0, .int 0, .int 0, .ref 64])) ∧ h 64 = some (.inr (2, [.int (-1), .int 0, .ref 65])) ∧ h 65 = some (.inl (0, List.replicate 24 0)) ∧ h 66 = some (.inr (3, [.int 0, .int 0, .int 0, .int 0, .ref 67])) ∧ h 67 = some (.inr (2, [.int (-1), .int 0, .ref 68])) ∧ h 68 = some (.inl (0, List.replicate 24 0))
set_option maxHeartbeats 40000000 in
set_option maxRecDepth 100000 in
theorem c_X7_init {X : List Int32} {d : Nat} {h : am_H} {Q : am_Q} (hq : ∀ h9, f0_X7 h9 → (∀ k, k ≠ 0 → (k < 0 ∨ 69 ≤ k) → h9 k = h k) → Q none 69 h9) : AW X mX7_init (d + 6) 68 831 0 [some (.ref 0), none] [] 1 (am_up h 0 (.inr (7, [.null, .null, .null, .int 0, .null, .null, .null, .null, .null, .null, .int 0]))) Q := by
  refine aw_aload_n (npc := 1) rfl dX7_init_0 rfl ?_
  refine aw_obj (npc := 4) dX7_init_1 rfl ko_X7_1 ko_i ko_c (Nat.le_of_ble_eq_true rfl) ?_
  refine aw_aload_n (npc := 5) rfl dX7_init_4 rfl ?_
  refine aw_new (npc := 8) dX7_init_5 rfl kn_X7_7 (by decide) rfl rfl rfl ?_
  refine aw_nn (n' := 2) rfl ?_
  refine aw_dup (npc := 9) rfl dX7_init_8 rfl ?_
  refine aw_callIN (npc := 12) (b := 1) (mc := 11) (ms := 75) (A := []) (S := [.ref 1, .ref 0]) (L0 := [some (.ref 1)]) (rc' := 56) (rs' := 737) dX7_init_9 rfl km_X0_init kk_X7_9 rfl ⟨rfl, by decide⟩ rfl (Nat.le_of_ble_eq_true rfl) rfl rfl rfl ?_
  refine aw_aload_n (npc := 1) rfl dX0_init_0 rfl ?_
  refine aw_obj (npc := 4) dX0_init_1 rfl ko_X0_3 ko_i ko_c (Nat.le_of_ble_eq_true rfl) ?_
  refine aw_aload_n (npc := 5) rfl dX0_init_4 rfl ?_
  refine aw_iconst (npc := 6) (v := 4) (by decide) dX0_init_5 rfl ?_
  refine aw_newi (npc := 8) (N := 4) dX0_init_6 rfl ka_int ⟨by decide, by decide⟩ (by decide) (by decide) rfl rfl rfl ?_
  refine aw_nn (n' := 3) rfl ?_
  refine aw_dup (npc := 9) rfl dX0_init_8 rfl ?_
  refine aw_iconst (npc := 10) (v := 0) (by decide) dX0_init_9 rfl ?_
  refine aw_iconst (npc := 11) (v := 5) (by decide) dX0_init_10 rfl ?_
  refine aw_iast (npc := 12) (j := 0) dX0_init_11 rfl am_eq ⟨by decide, by decide⟩ (Nat.le_of_ble_eq_true rfl) (show _ = am_up _ 2 (.inl (0, [5, 0, 0, 0])) from am_uu) ?_
  refine aw_dup (npc := 13) rfl dX0_init_12 rfl ?_
  refine aw_iconst (npc := 14) (v := 1) (by decide) dX0_init_13 rfl ?_
  refine aw_iconst (npc := 15) (v := 5) (by decide) dX0_init_14 rfl ?_
  refine aw_iast (npc := 16) (j := 1) dX0_init_15 rfl am_eq ⟨by decide, by decide⟩ (Nat.le_of_ble_eq_true rfl) (show _ = am_up _ 2 (.inl (0, [5, 5, 0, 0])) from am_uu) ?_
  refine aw_dup (npc := 17) rfl dX0_init_16 rfl ?_
  refine aw_iconst (npc := 18) (v := 2) (by decide) dX0_init_17 rfl ?_
  refine aw_iconst (npc := 19) (v := 5) (by decide) dX0_init_18 rfl ?_
  refine aw_iast (npc := 20) (j := 2) dX0_init_19 rfl am_eq ⟨by decide, by decide⟩ (Nat.le_of_ble_eq_true rfl) (show _ = am_up _ 2 (.inl (0, [5, 5, 5, 0])) from am_uu) ?_
  refine aw_dup (npc := 21) rfl dX0_init_20 rfl ?_
  refine aw_iconst (npc := 22) (v := 3) (by decide) dX0_init_21 rfl ?_
  refine aw_iconst (npc := 23) (v := 5) (by decide) dX0_init_22 rfl ?_
  refine aw_iast (npc := 24) (j := 3) dX0_init_23 rfl am_eq ⟨by decide, by decide⟩ (Nat.le_of_ble_eq_true rfl) (show _ = am_up _ 2 (.inl (0, [5, 5, 5, 5])) from am_uu) ?_
  refine aw_putF (npc := 27) dX0_init_24 rfl rfl (fun _ _ _ h9 => by cases h9; rfl) kf_X0_9 (am_ne (by decide) am_eq) (by decide) (am_ok_arr _ _) rfl ?_
  refine aw_aload_n (npc := 28) rfl dX0_init_27 rfl ?_
  refine aw_bipush (npc := 30) (v := 8) (by decide) dX0_init_28 rfl ?_
  refine aw_newi (npc := 32) (N := 8) dX0_init_30 rfl ka_int ⟨by decide, by decide⟩ (by decide) (by decide) rfl rfl rfl ?_
  refine aw_nn (n' := 4) rfl ?_
  refine aw_dup (npc := 33) rfl dX0_init_32 rfl ?_
  refine aw_iconst (npc := 34) (v := 0) (by decide) dX0_init_33 rfl ?_
  refine aw_iconst (npc := 35) (v := 1) (by decide) dX0_init_34 rfl ?_
  refine aw_iast (npc := 36) (j := 0) dX0_init_35 rfl am_eq ⟨by decide, by decide⟩ (Nat.le_of_ble_eq_true rfl) (show _ = am_up _ 3 (.inl (0, [1, 0, 0, 0, 0, 0, 0, 0])) from am_uu) ?_
  refine aw_dup (npc := 37) rfl dX0_init_36 rfl ?_
  refine aw_iconst (npc := 38) (v := 1) (by decide) dX0_init_37 rfl ?_
  refine aw_iconst (npc := 39) (v := 1) (by decide) dX0_init_38 rfl ?_
  refine aw_iast (npc := 40) (j := 1) dX0_init_39 rfl am_eq ⟨by decide, by decide⟩ (Nat.le_of_ble_eq_true rfl) (show _ = am_up _ 3 (.inl (0, [1, 1, 0, 0, 0, 0, 0, 0])) from am_uu) ?_
  refine aw_dup (npc := 41) rfl dX0_init_40 rfl ?_
  refine aw_iconst (npc := 42) (v := 2) (by decide) dX0_init_41 rfl ?_
  refine aw_iconst (npc := 43) (v := 1) (by decide) dX0_init_42 rfl ?_
  refine aw_iast (npc := 44) (j := 2) dX0_init_43 rfl am_eq ⟨by decide, by decide⟩ (Nat.le_of_ble_eq_true rfl) (show _ = am_up _ 3 (.inl (0, [1, 1, 1, 0, 0, 0, 0, 0])) from am_uu) ?_
  refine aw_dup (npc := 45) rfl dX0_init_44 rfl ?_
  refine aw_iconst (npc := 46) (v := 3) (by decide) dX0_init_45 rfl ?_
  refine aw_iconst (npc := 47) (v := 1) (by decide) dX0_init_46 rfl ?_
  refine aw_iast (npc := 48) (j := 3) dX0_init_47 rfl am_eq ⟨by decide, by decide⟩ (Nat.le_of_ble_eq_true rfl) (show _ = am_up _ 3 (.inl (0, [1, 1, 1, 1, 0, 0, 0, 0])) from am_uu) ?_
  refine aw_dup (npc := 49) rfl dX0_init_48 rfl ?_
  refine aw_iconst (npc := 50) (v := 4) (by decide) dX0_init_49 rfl ?_
  refine aw_iconst (npc := 51) (v := 1) (by decide) dX0_init_50 rfl ?_
  refine aw_iast (npc := 52) (j := 4) dX0_init_51 rfl am_eq ⟨by decide, by decide⟩ (Nat.le_of_ble_eq_true rfl) (show _ = am_up _ 3 (.inl (0, [1, 1, 1, 1, 1, 0, 0, 0])) from am_uu) ?_
  refine aw_dup (npc := 53) rfl dX0_init_52 rfl ?_
  refine aw_iconst (npc := 54) (v := 5) (by decide) dX0_init_53 rfl ?_
  refine aw_iconst (npc := 55) (v := 1) (by decide) dX0_init_54 rfl ?_
  refine aw_iast (npc := 56) (j := 5) dX0_init_55 rfl am_eq ⟨by decide, by decide⟩ (Nat.le_of_ble_eq_true rfl) (show _ = am_up _ 3 (.inl (0, [1, 1, 1, 1, 1, 1, 0, 0])) from am_uu) ?_
  refine aw_dup (npc := 57) rfl dX0_init_56 rfl ?_
  refine aw_bipush (npc := 59) (v := 6) (by decide) dX0_init_57 rfl ?_
  refine aw_iconst (npc := 60) (v := 1) (by decide) dX0_init_59 rfl ?_
  refine aw_iast (npc := 61) (j := 6) dX0_init_60 rfl am_eq ⟨by decide, by decide⟩ (Nat.le_of_ble_eq_true rfl) (show _ = am_up _ 3 (.inl (0, [1, 1, 1, 1, 1, 1, 1, 0])) from am_uu) ?_
  refine aw_dup (npc := 62) rfl dX0_init_61 rfl ?_
  refine aw_bipush (npc := 64) (v := 7) (by decide) dX0_init_62 rfl ?_
  refine aw_iconst (npc := 65) (v := 1) (by decide) dX0_init_64 rfl ?_
  refine aw_iast (npc := 66) (j := 7) dX0_init_65 rfl am_eq ⟨by decide, by decide⟩ (Nat.le_of_ble_eq_true rfl) (show _ = am_up _ 3 (.inl (0, [1, 1, 1, 1, 1, 1, 1, 1])) from am_uu) ?_
  refine aw_putF (npc := 69) dX0_init_66 rfl rfl (fun _ _ _ h9 => by cases h9; rfl) kf_X0_15 (am_ne (by decide) am_eq) (by decide) (am_ok_arr _ _) rfl ?_
  refine aw_aload_n (npc := 70) rfl dX0_init_69 rfl ?_
  refine aw_iconst (npc := 71) (v := 2) (by decide) dX0_init_70 rfl ?_
  refine aw_newi (npc := 73) (N := 2) dX0_init_71 rfl ka_int ⟨by decide, by decide⟩ (by decide) (by decide) rfl rfl rfl ?_
  refine aw_nn (n' := 5) rfl ?_
  refine aw_dup (npc := 74) rfl dX0_init_73 rfl ?_
  refine aw_iconst (npc := 75) (v := 0) (by decide) dX0_init_74 rfl ?_
  refine aw_bipush (npc := 77) (v := 20) (by decide) dX0_init_75 rfl ?_
  refine aw_iast (npc := 78) (j := 0) dX0_init_77 rfl am_eq ⟨by decide, by decide⟩ (Nat.le_of_ble_eq_true rfl) (show _ = am_up _ 4 (.inl (0, [20, 0])) from am_uu) ?_
  refine aw_dup (npc := 79) rfl dX0_init_78 rfl ?_
  refine aw_iconst (npc := 80) (v := 1) (by decide) dX0_init_79 rfl ?_
  refine aw_bipush (npc := 82) (v := 20) (by decide) dX0_init_80 rfl ?_
  refine aw_iast (npc := 83) (j := 1) dX0_init_82 rfl am_eq ⟨by decide, by decide⟩ (Nat.le_of_ble_eq_true rfl) (show _ = am_up _ 4 (.inl (0, [20, 20])) from am_uu) ?_
  refine aw_putF (npc := 86) dX0_init_83 rfl rfl (fun _ _ _ h9 => by cases h9; rfl) kf_X0_18 (am_ne (by decide) am_eq) (by decide) (am_ok_arr _ _) rfl ?_
  refine aw_aload_n (npc := 87) rfl dX0_init_86 rfl ?_
  refine aw_iconst (npc := 88) (v := 0) (by decide) dX0_init_87 rfl ?_
  refine aw_put (npc := 91) dX0_init_88 rfl kf_X0_21 am_eq (Nat.le_of_ble_eq_true rfl) (am_ok_int _) am_uu ?_
  refine aw_aload_n (npc := 92) rfl dX0_init_91 rfl ?_
  refine aw_bipush (npc := 94) (v := 60) (by decide) dX0_init_92 rfl ?_
  refine aw_put (npc := 97) dX0_init_94 rfl kf_X0_25 am_eq (Nat.le_of_ble_eq_true rfl) (am_ok_int _) am_uu ?_
  refine aw_aload_n (npc := 98) rfl dX0_init_97 rfl ?_
  refine aw_bipush (npc := 100) (v := 10) (by decide) dX0_init_98 rfl ?_
  refine aw_put (npc := 103) dX0_init_100 rfl kf_X0_28 am_eq (Nat.le_of_ble_eq_true rfl) (am_ok_int _) am_uu ?_
  refine aw_aload_n (npc := 104) rfl dX0_init_103 rfl ?_
  refine aw_iconst (npc := 105) (v := 0) (by decide) dX0_init_104 rfl ?_
  refine aw_put (npc := 108) dX0_init_105 rfl kf_X0_31 am_eq (Nat.le_of_ble_eq_true rfl) (am_ok_int _) am_uu ?_
  refine aw_aload_n (npc := 109) rfl dX0_init_108 rfl ?_
  refine aw_iconst (npc := 110) (v := 0) (by decide) dX0_init_109 rfl ?_
  refine aw_put (npc := 113) dX0_init_110 rfl kf_X0_34 am_eq (Nat.le_of_ble_eq_true rfl) (am_ok_int _) am_uu ?_
  refine aw_aload_n (npc := 114) rfl dX0_init_113 rfl ?_
  refine aw_iconst (npc := 115) (v := 1) (by decide) dX0_init_114 rfl ?_
  refine aw_put (npc := 118) dX0_init_115 rfl kf_X0_37 am_eq (Nat.le_of_ble_eq_true rfl) (am_ok_int _) am_uu ?_
  refine aw_aload_n (npc := 119) rfl dX0_init_118 rfl ?_
  refine aw_iconst (npc := 120) (v := 0) (by decide) dX0_init_119 rfl ?_
  refine aw_put (npc := 123) dX0_init_120 rfl kf_X0_40 am_eq (Nat.le_of_ble_eq_true rfl) (am_ok_int _) am_uu ?_
  refine aw_aload_n (npc := 124) rfl dX0_init_123 rfl ?_
  refine aw_bipush (npc := 126) (v := 8) (by decide) dX0_init_124 rfl ?_
  refine aw_newi (npc := 128) (N := 8) dX0_init_126 rfl ka_int ⟨by decide, by decide⟩ (by decide) (by decide) rfl rfl rfl ?_
  refine aw_nn (n' := 6) rfl ?_
  refine aw_putF (npc := 131) dX0_init_128 rfl rfl (fun _ _ _ h9 => by cases h9; rfl) kf_X0_43 (am_ne (by decide) am_eq) (by decide) (am_ok_arr _ _) rfl ?_
  refine aw_aload_n (npc := 132) rfl dX0_init_131 rfl ?_
  refine aw_bipush (npc := 134) (v := 8) (by decide) dX0_init_132 rfl ?_
  refine aw_newi (npc := 136) (N := 8) dX0_init_134 rfl ka_int ⟨by decide, by decide⟩ (by decide) (by decide) rfl rfl rfl ?_
  refine aw_nn (n' := 7) rfl ?_
  refine aw_putF (npc := 139) dX0_init_136 rfl rfl (fun _ _ _ h9 => by cases h9; rfl) kf_X0_46 (am_ne (by decide) am_eq) (by decide) (am_ok_arr _ _) rfl ?_
  refine aw_aload_n (npc := 140) rfl dX0_init_139 rfl ?_
  refine aw_bipush (npc := 142) (v := 8) (by decide) dX0_init_140 rfl ?_
  refine aw_newi (npc := 144) (N := 8) dX0_init_142 rfl ka_int ⟨by decide, by decide⟩ (by decide) (by decide) rfl rfl rfl ?_
  refine aw_nn (n' := 8) rfl ?_
  refine aw_putF (npc := 147) dX0_init_144 rfl rfl (fun _ _ _ h9 => by cases h9; rfl) kf_X0_49 (am_ne (by decide) am_eq) (by decide) (am_ok_arr _ _) rfl ?_
  refine aw_aload_n (npc := 148) rfl dX0_init_147 rfl ?_
  refine aw_bipush (npc := 150) (v := 8) (by decide) dX0_init_148 rfl ?_
  refine aw_newi (npc := 152) (N := 8) dX0_init_150 rfl ka_int ⟨by decide, by decide⟩ (by decide) (by decide) rfl rfl rfl ?_
  refine aw_nn (n' := 9) rfl ?_
  refine aw_putF (npc := 155) dX0_init_152 rfl rfl (fun _ _ _ h9 => by cases h9; rfl) kf_X0_52 (am_ne (by decide) am_eq) (by decide) (am_ok_arr _ _) rfl ?_
  refine aw_aload_n (npc := 156) rfl dX0_init_155 rfl ?_
  refine aw_bipush (npc := 158) (v := 8) (by decide) dX0_init_156 rfl ?_
  refine aw_newi (npc := 160) (N := 8) dX0_init_158 rfl ka_int ⟨by decide, by decide⟩ (by decide) (by decide) rfl rfl rfl ?_
  refine aw_nn (n' := 10) rfl ?_
  refine aw_putF (npc := 163) dX0_init_160 rfl rfl (fun _ _ _ h9 => by cases h9; rfl) kf_X0_55 (am_ne (by decide) am_eq) (by decide) (am_ok_arr _ _) rfl ?_
  refine aw_aload_n (npc := 164) rfl dX0_init_163 rfl ?_
  refine aw_bipush (npc := 166) (v := 14) (by decide) dX0_init_164 rfl ?_
  refine aw_newq (npc := 169) (t := 15) (N := 14) dX0_init_166 rfl (by decide) (by decide) kl_X0_58 ⟨by decide, by decide⟩ (by decide) (by decide) rfl rfl rfl ?_
  refine aw_nn (n' := 11) rfl ?_
  refine aw_putF (npc := 172) dX0_init_169 rfl rfl (fun _ _ _ h9 => by cases h9; rfl) kf_X0_60 (am_ne (by decide) am_eq) (by decide) (am_ok_arr _ _) rfl ?_
  refine aw_aload_n (npc := 173) rfl dX0_init_172 rfl ?_
  refine aw_iconst (npc := 174) (v := 0) (by decide) dX0_init_173 rfl ?_
  refine aw_put (npc := 177) dX0_init_174 rfl kf_X0_64 am_eq (Nat.le_of_ble_eq_true rfl) (am_ok_int _) am_uu ?_
  refine aw_aload_n (npc := 178) rfl dX0_init_177 rfl ?_
  refine aw_iconst (npc := 179) (v := 3) (by decide) dX0_init_178 rfl ?_
  refine aw_newi (npc := 181) (N := 3) dX0_init_179 rfl ka_int ⟨by decide, by decide⟩ (by decide) (by decide) rfl rfl rfl ?_
  refine aw_nn (n' := 12) rfl ?_
  refine aw_dup (npc := 182) rfl dX0_init_181 rfl ?_
  refine aw_iconst (npc := 183) (v := 0) (by decide) dX0_init_182 rfl ?_
  refine aw_iconst (npc := 184) (v := -1) (by decide) dX0_init_183 rfl ?_
  refine aw_iast (npc := 185) (j := 0) dX0_init_184 rfl am_eq ⟨by decide, by decide⟩ (Nat.le_of_ble_eq_true rfl) (show _ = am_up _ 11 (.inl (0, [(-1), 0, 0])) from am_uu) ?_
  refine aw_dup (npc := 186) rfl dX0_init_185 rfl ?_
  refine aw_iconst (npc := 187) (v := 1) (by decide) dX0_init_186 rfl ?_
  refine aw_iconst (npc := 188) (v := -1) (by decide) dX0_init_187 rfl ?_
  refine aw_iast (npc := 189) (j := 1) dX0_init_188 rfl am_eq ⟨by decide, by decide⟩ (Nat.le_of_ble_eq_true rfl) (show _ = am_up _ 11 (.inl (0, [(-1), (-1), 0])) from am_uu) ?_
  refine aw_dup (npc := 190) rfl dX0_init_189 rfl ?_
  refine aw_iconst (npc := 191) (v := 2) (by decide) dX0_init_190 rfl ?_
  refine aw_iconst (npc := 192) (v := -1) (by decide) dX0_init_191 rfl ?_
  refine aw_iast (npc := 193) (j := 2) dX0_init_192 rfl am_eq ⟨by decide, by decide⟩ (Nat.le_of_ble_eq_true rfl) (show _ = am_up _ 11 (.inl (0, [(-1), (-1), (-1)])) from am_uu) ?_
  refine aw_putF (npc := 196) dX0_init_193 rfl rfl (fun _ _ _ h9 => by cases h9; rfl) kf_X0_67 (am_ne (by decide) am_eq) (by decide) (am_ok_arr _ _) rfl ?_
  refine aw_aload_n (npc := 197) rfl dX0_init_196 rfl ?_
  refine aw_iconst (npc := 198) (v := 4) (by decide) dX0_init_197 rfl ?_
  refine aw_newi (npc := 200) (N := 4) dX0_init_198 rfl ka_int ⟨by decide, by decide⟩ (by decide) (by decide) rfl rfl rfl ?_
  refine aw_nn (n' := 13) rfl ?_
  refine aw_putF (npc := 203) dX0_init_200 rfl rfl (fun _ _ _ h9 => by cases h9; rfl) kf_X0_70 (am_ne (by decide) am_eq) (by decide) (am_ok_arr _ _) rfl ?_
  refine aw_vret rfl dX0_init_203 ?_
  refine aw_putF (npc := 15) dX7_init_12 rfl rfl (fun _ _ _ h9 => by cases h9; rfl) kf_X7_10 (am_ne (by decide) (am_ne (by decide) (am_ne (by decide) (am_ne (by decide) (am_ne (by decide) (am_ne (by decide) (am_ne (by decide) (am_ne (by decide) (am_ne (by decide) (am_ne (by decide) (am_ne (by decide) (am_ne (by decide) (am_ne (by decide) (am_ne (by decide) (am_ne (by decide) (am_ne (by decide) (am_ne (by decide) (am_ne (by decide) (am_ne (by decide) (am_ne (by decide) (am_ne (by decide) (am_ne (by decide) (am_ne (by decide) am_eq))))))))))))))))))))))) (by decide) (am_ok_obj _ _) rfl ?_
  refine aw_aload_n (npc := 16) rfl dX7_init_15 rfl ?_
  refine aw_new (npc := 19) dX7_init_16 rfl kn_X7_7 (by decide) rfl rfl rfl ?_
  refine aw_nn (n' := 14) rfl ?_
  refine aw_dup (npc := 20) rfl dX7_init_19 rfl ?_
  refine aw_callIN (npc := 23) (b := 13) (mc := 11) (ms := 75) (A := []) (S := [.ref 13, .ref 0]) (L0 := [some (.ref 13)]) (rc' := 44) (rs' := 643) dX7_init_20 rfl km_X0_init kk_X7_9 rfl ⟨rfl, by decide⟩ rfl (Nat.le_of_ble_eq_true rfl) rfl rfl rfl ?_
  refine aw_aload_n (npc := 1) rfl dX0_init_0 rfl ?_
  refine aw_obj (npc := 4) dX0_init_1 rfl ko_X0_3 ko_i ko_c (Nat.le_of_ble_eq_true rfl) ?_
  refine aw_aload_n (npc := 5) rfl dX0_init_4 rfl ?_
  refine aw_iconst (npc := 6) (v := 4) (by decide) dX0_init_5 rfl ?_
  refine aw_newi (npc := 8) (N := 4) dX0_init_6 rfl ka_int ⟨by decide, by decide⟩ (by decide) (by decide) rfl rfl rfl ?_
  refine aw_nn (n' := 15) rfl ?_
  refine aw_dup (npc := 9) rfl dX0_init_8 rfl ?_
  refine aw_iconst (npc := 10) (v := 0) (by decide) dX0_init_9 rfl ?_
  refine aw_iconst (npc := 11) (v := 5) (by decide) dX0_init_10 rfl ?_
  refine aw_iast (npc := 12) (j := 0) dX0_init_11 rfl am_eq ⟨by decide, by decide⟩ (Nat.le_of_ble_eq_true rfl) (show _ = am_up _ 14 (.inl (0, [5, 0, 0, 0])) from am_uu) ?_
  refine aw_dup (npc := 13) rfl dX0_init_12 rfl ?_
  refine aw_iconst (npc := 14) (v := 1) (by decide) dX0_init_13 rfl ?_
  refine aw_iconst (npc := 15) (v := 5) (by decide) dX0_init_14 rfl ?_
  refine aw_iast (npc := 16) (j := 1) dX0_init_15 rfl am_eq ⟨by decide, by decide⟩ (Nat.le_of_ble_eq_true rfl) (show _ = am_up _ 14 (.inl (0, [5, 5, 0, 0])) from am_uu) ?_
  refine aw_dup (npc := 17) rfl dX0_init_16 rfl ?_
  refine aw_iconst (npc := 18) (v := 2) (by decide) dX0_init_17 rfl ?_
  refine aw_iconst (npc := 19) (v := 5) (by decide) dX0_init_18 rfl ?_
  refine aw_iast (npc := 20) (j := 2) dX0_init_19 rfl am_eq ⟨by decide, by decide⟩ (Nat.le_of_ble_eq_true rfl) (show _ = am_up _ 14 (.inl (0, [5, 5, 5, 0])) from am_uu) ?_
  refine aw_dup (npc := 21) rfl dX0_init_20 rfl ?_
  refine aw_iconst (npc := 22) (v := 3) (by decide) dX0_init_21 rfl ?_
  refine aw_iconst (npc := 23) (v := 5) (by decide) dX0_init_22 rfl ?_
  refine aw_iast (npc := 24) (j := 3) dX0_init_23 rfl am_eq ⟨by decide, by decide⟩ (Nat.le_of_ble_eq_true rfl) (show _ = am_up _ 14 (.inl (0, [5, 5, 5, 5])) from am_uu) ?_
  refine aw_putF (npc := 27) dX0_init_24 rfl rfl (fun _ _ _ h9 => by cases h9; rfl) kf_X0_9 (am_ne (by decide) am_eq) (by decide) (am_ok_arr _ _) rfl ?_
  refine aw_aload_n (npc := 28) rfl dX0_init_27 rfl ?_
  refine aw_bipush (npc := 30) (v := 8) (by decide) dX0_init_28 rfl ?_
  refine aw_newi (npc := 32) (N := 8) dX0_init_30 rfl ka_int ⟨by decide, by decide⟩ (by decide) (by decide) rfl rfl rfl ?_
  refine aw_nn (n' := 16) rfl ?_
  refine aw_dup (npc := 33) rfl dX0_init_32 rfl ?_
  refine aw_iconst (npc := 34) (v := 0) (by decide) dX0_init_33 rfl ?_
  refine aw_iconst (npc := 35) (v := 1) (by decide) dX0_init_34 rfl ?_
  refine aw_iast (npc := 36) (j := 0) dX0_init_35 rfl am_eq ⟨by decide, by decide⟩ (Nat.le_of_ble_eq_true rfl) (show _ = am_up _ 15 (.inl (0, [1, 0, 0, 0, 0, 0, 0, 0])) from am_uu) ?_
  refine aw_dup (npc := 37) rfl dX0_init_36 rfl ?_
  refine aw_iconst (npc := 38) (v := 1) (by decide) dX0_init_37 rfl ?_
  refine aw_iconst (npc := 39) (v := 1) (by decide) dX0_init_38 rfl ?_
  refine aw_iast (npc := 40) (j := 1) dX0_init_39 rfl am_eq ⟨by decide, by decide⟩ (Nat.le_of_ble_eq_true rfl) (show _ = am_up _ 15 (.inl (0, [1, 1, 0, 0, 0, 0, 0, 0])) from am_uu) ?_
  refine aw_dup (npc := 41) rfl dX0_init_40 rfl ?_
  refine aw_iconst (npc := 42) (v := 2) (by decide) dX0_init_41 rfl ?_
  refine aw_iconst (npc := 43) (v := 1) (by decide) dX0_init_42 rfl ?_
  refine aw_iast (npc := 44) (j := 2) dX0_init_43 rfl am_eq ⟨by decide, by decide⟩ (Nat.le_of_ble_eq_true rfl) (show _ = am_up _ 15 (.inl (0, [1, 1, 1, 0, 0, 0, 0, 0])) from am_uu) ?_
  refine aw_dup (npc := 45) rfl dX0_init_44 rfl ?_
  refine aw_iconst (npc := 46) (v := 3) (by decide) dX0_init_45 rfl ?_
  refine aw_iconst (npc := 47) (v := 1) (by decide) dX0_init_46 rfl ?_
  refine aw_iast (npc := 48) (j := 3) dX0_init_47 rfl am_eq ⟨by decide, by decide⟩ (Nat.le_of_ble_eq_true rfl) (show _ = am_up _ 15 (.inl (0, [1, 1, 1, 1, 0, 0, 0, 0])) from am_uu) ?_
  refine aw_dup (npc := 49) rfl dX0_init_48 rfl ?_
  refine aw_iconst (npc := 50) (v := 4) (by decide) dX0_init_49 rfl ?_
  refine aw_iconst (npc := 51) (v := 1) (by decide) dX0_init_50 rfl ?_
  refine aw_iast (npc := 52) (j := 4) dX0_init_51 rfl am_eq ⟨by decide, by decide⟩ (Nat.le_of_ble_eq_true rfl) (show _ = am_up _ 15 (.inl (0, [1, 1, 1, 1, 1, 0, 0, 0])) from am_uu) ?_
  refine aw_dup (npc := 53) rfl dX0_init_52 rfl ?_
  refine aw_iconst (npc := 54) (v := 5) (by decide) dX0_init_53 rfl ?_
  refine aw_iconst (npc := 55) (v := 1) (by decide) dX0_init_54 rfl ?_
  refine aw_iast (npc := 56) (j := 5) dX0_init_55 rfl am_eq ⟨by decide, by decide⟩ (Nat.le_of_ble_eq_true rfl) (show _ = am_up _ 15 (.inl (0, [1, 1, 1, 1, 1, 1, 0, 0])) from am_uu) ?_
  refine aw_dup (npc := 57) rfl dX0_init_56 rfl ?_
  refine aw_bipush (npc := 59) (v := 6) (by decide) dX0_init_57 rfl ?_
  refine aw_iconst (npc := 60) (v := 1) (by decide) dX0_init_59 rfl ?_
  refine aw_iast (npc := 61) (j := 6) dX0_init_60 rfl am_eq ⟨by decide, by decide⟩ (Nat.le_of_ble_eq_true rfl) (show _ = am_up _ 15 (.inl (0, [1, 1, 1, 1, 1, 1, 1, 0])) from am_uu) ?_
  refine aw_dup (npc := 62) rfl dX0_init_61 rfl ?_
  refine aw_bipush (npc := 64) (v := 7) (by decide) dX0_init_62 rfl ?_
  refine aw_iconst (npc := 65) (v := 1) (by decide) dX0_init_64 rfl ?_
  refine aw_iast (npc := 66) (j := 7) dX0_init_65 rfl am_eq ⟨by decide, by decide⟩ (Nat.le_of_ble_eq_true rfl) (show _ = am_up _ 15 (.inl (0, [1, 1, 1, 1, 1, 1, 1, 1])) from am_uu) ?_
  refine aw_putF (npc := 69) dX0_init_66 rfl rfl (fun _ _ _ h9 => by cases h9; rfl) kf_X0_15 (am_ne (by decide) am_eq) (by decide) (am_ok_arr _ _) rfl ?_
  refine aw_aload_n (npc := 70) rfl dX0_init_69 rfl ?_
  refine aw_iconst (npc := 71) (v := 2) (by decide) dX0_init_70 rfl ?_
  refine aw_newi (npc := 73) (N := 2) dX0_init_71 rfl ka_int ⟨by decide, by decide⟩ (by decide) (by decide) rfl rfl rfl ?_
  refine aw_nn (n' := 17) rfl ?_
  refine aw_dup (npc := 74) rfl dX0_init_73 rfl ?_
  refine aw_iconst (npc := 75) (v := 0) (by decide) dX0_init_74 rfl ?_
  refine aw_bipush (npc := 77) (v := 20) (by decide) dX0_init_75 rfl ?_
  refine aw_iast (npc := 78) (j := 0) dX0_init_77 rfl am_eq ⟨by decide, by decide⟩ (Nat.le_of_ble_eq_true rfl) (show _ = am_up _ 16 (.inl (0, [20, 0])) from am_uu) ?_
  refine aw_dup (npc := 79) rfl dX0_init_78 rfl ?_
  refine aw_iconst (npc := 80) (v := 1) (by decide) dX0_init_79 rfl ?_
  refine aw_bipush (npc := 82) (v := 20) (by decide) dX0_init_80 rfl ?_
  refine aw_iast (npc := 83) (j := 1) dX0_init_82 rfl am_eq ⟨by decide, by decide⟩ (Nat.le_of_ble_eq_true rfl) (show _ = am_up _ 16 (.inl (0, [20, 20])) from am_uu) ?_
  refine aw_putF (npc := 86) dX0_init_83 rfl rfl (fun _ _ _ h9 => by cases h9; rfl) kf_X0_18 (am_ne (by decide) am_eq) (by decide) (am_ok_arr _ _) rfl ?_
  refine aw_aload_n (npc := 87) rfl dX0_init_86 rfl ?_
  refine aw_iconst (npc := 88) (v := 0) (by decide) dX0_init_87 rfl ?_
  refine aw_put (npc := 91) dX0_init_88 rfl kf_X0_21 am_eq (Nat.le_of_ble_eq_true rfl) (am_ok_int _) am_uu ?_
  refine aw_aload_n (npc := 92) rfl dX0_init_91 rfl ?_
  refine aw_bipush (npc := 94) (v := 60) (by decide) dX0_init_92 rfl ?_
  refine aw_put (npc := 97) dX0_init_94 rfl kf_X0_25 am_eq (Nat.le_of_ble_eq_true rfl) (am_ok_int _) am_uu ?_
  refine aw_aload_n (npc := 98) rfl dX0_init_97 rfl ?_
  refine aw_bipush (npc := 100) (v := 10) (by decide) dX0_init_98 rfl ?_
  refine aw_put (npc := 103) dX0_init_100 rfl kf_X0_28 am_eq (Nat.le_of_ble_eq_true rfl) (am_ok_int _) am_uu ?_
  refine aw_aload_n (npc := 104) rfl dX0_init_103 rfl ?_
  refine aw_iconst (npc := 105) (v := 0) (by decide) dX0_init_104 rfl ?_
  refine aw_put (npc := 108) dX0_init_105 rfl kf_X0_31 am_eq (Nat.le_of_ble_eq_true rfl) (am_ok_int _) am_uu ?_
  refine aw_aload_n (npc := 109) rfl dX0_init_108 rfl ?_
  refine aw_iconst (npc := 110) (v := 0) (by decide) dX0_init_109 rfl ?_
  refine aw_put (npc := 113) dX0_init_110 rfl kf_X0_34 am_eq (Nat.le_of_ble_eq_true rfl) (am_ok_int _) am_uu ?_
  refine aw_aload_n (npc := 114) rfl dX0_init_113 rfl ?_
  refine aw_iconst (npc := 115) (v := 1) (by decide) dX0_init_114 rfl ?_
  refine aw_put (npc := 118) dX0_init_115 rfl kf_X0_37 am_eq (Nat.le_of_ble_eq_true rfl) (am_ok_int _) am_uu ?_
  refine aw_aload_n (npc := 119) rfl dX0_init_118 rfl ?_
  refine aw_iconst (npc := 120) (v := 0) (by decide) dX0_init_119 rfl ?_
  refine aw_put (npc := 123) dX0_init_120 rfl kf_X0_40 am_eq (Nat.le_of_ble_eq_true rfl) (am_ok_int _) am_uu ?_
  refine aw_aload_n (npc := 124) rfl dX0_init_123 rfl ?_
  refine aw_bipush (npc := 126) (v := 8) (by decide) dX0_init_124 rfl ?_
  refine aw_newi (npc := 128) (N := 8) dX0_init_126 rfl ka_int ⟨by decide, by decide⟩ (by decide) (by decide) rfl rfl rfl ?_
  refine aw_nn (n' := 18) rfl ?_
  refine aw_putF (npc := 131) dX0_init_128 rfl rfl (fun _ _ _ h9 => by cases h9; rfl) kf_X0_43 (am_ne (by decide) am_eq) (by decide) (am_ok_arr _ _) rfl ?_
  refine aw_aload_n (npc := 132) rfl dX0_init_131 rfl ?_
  refine aw_bipush (npc := 134) (v := 8) (by decide) dX0_init_132 rfl ?_
  refine aw_newi (npc := 136) (N := 8) dX0_init_134 rfl ka_int ⟨by decide, by decide⟩ (by decide) (by decide) rfl rfl rfl ?_
  refine aw_nn (n' := 19) rfl ?_
  refine aw_putF (npc := 139) dX0_init_136 rfl rfl (fun _ _ _ h9 => by cases h9; rfl) kf_X0_46 (am_ne (by decide) am_eq) (by decide) (am_ok_arr _ _) rfl ?_
  refine aw_aload_n (npc := 140) rfl dX0_init_139 rfl ?_
  refine aw_bipush (npc := 142) (v := 8) (by decide) dX0_init_140 rfl ?_
  refine aw_newi (npc := 144) (N := 8) dX0_init_142 rfl ka_int ⟨by decide, by decide⟩ (by decide) (by decide) rfl rfl rfl ?_
  refine aw_nn (n' := 20) rfl ?_
  refine aw_putF (npc := 147) dX0_init_144 rfl rfl (fun _ _ _ h9 => by cases h9; rfl) kf_X0_49 (am_ne (by decide) am_eq) (by decide) (am_ok_arr _ _) rfl ?_
  refine aw_aload_n (npc := 148) rfl dX0_init_147 rfl ?_
  refine aw_bipush (npc := 150) (v := 8) (by decide) dX0_init_148 rfl ?_
  refine aw_newi (npc := 152) (N := 8) dX0_init_150 rfl ka_int ⟨by decide, by decide⟩ (by decide) (by decide) rfl rfl rfl ?_
  refine aw_nn (n' := 21) rfl ?_
  refine aw_putF (npc := 155) dX0_init_152 rfl rfl (fun _ _ _ h9 => by cases h9; rfl) kf_X0_52 (am_ne (by decide) am_eq) (by decide) (am_ok_arr _ _) rfl ?_
  refine aw_aload_n (npc := 156) rfl dX0_init_155 rfl ?_
  refine aw_bipush (npc := 158) (v := 8) (by decide) dX0_init_156 rfl ?_
  refine aw_newi (npc := 160) (N := 8) dX0_init_158 rfl ka_int ⟨by decide, by decide⟩ (by decide) (by decide) rfl rfl rfl ?_
  refine aw_nn (n' := 22) rfl ?_
  refine aw_putF (npc := 163) dX0_init_160 rfl rfl (fun _ _ _ h9 => by cases h9; rfl) kf_X0_55 (am_ne (by decide) am_eq) (by decide) (am_ok_arr _ _) rfl ?_
  refine aw_aload_n (npc := 164) rfl dX0_init_163 rfl ?_
  refine aw_bipush (npc := 166) (v := 14) (by decide) dX0_init_164 rfl ?_
  refine aw_newq (npc := 169) (t := 15) (N := 14) dX0_init_166 rfl (by decide) (by decide) kl_X0_58 ⟨by decide, by decide⟩ (by decide) (by decide) rfl rfl rfl ?_
  refine aw_nn (n' := 23) rfl ?_
  refine aw_putF (npc := 172) dX0_init_169 rfl rfl (fun _ _ _ h9 => by cases h9; rfl) kf_X0_60 (am_ne (by decide) am_eq) (by decide) (am_ok_arr _ _) rfl ?_
  refine aw_aload_n (npc := 173) rfl dX0_init_172 rfl ?_
  refine aw_iconst (npc := 174) (v := 0) (by decide) dX0_init_173 rfl ?_
  refine aw_put (npc := 177) dX0_init_174 rfl kf_X0_64 am_eq (Nat.le_of_ble_eq_true rfl) (am_ok_int _) am_uu ?_
  refine aw_aload_n (npc := 178) rfl dX0_init_177 rfl ?_
  refine aw_iconst (npc := 179) (v := 3) (by decide) dX0_init_178 rfl ?_
  refine aw_newi (npc := 181) (N := 3) dX0_init_179 rfl ka_int ⟨by decide, by decide⟩ (by decide) (by decide) rfl rfl rfl ?_
  refine aw_nn (n' := 24) rfl ?_
  refine aw_dup (npc := 182) rfl dX0_init_181 rfl ?_
  refine aw_iconst (npc := 183) (v := 0) (by decide) dX0_init_182 rfl ?_
  refine aw_iconst (npc := 184) (v := -1) (by decide) dX0_init_183 rfl ?_
  refine aw_iast (npc := 185) (j := 0) dX0_init_184 rfl am_eq ⟨by decide, by decide⟩ (Nat.le_of_ble_eq_true rfl) (show _ = am_up _ 23 (.inl (0, [(-1), 0, 0])) from am_uu) ?_
  refine aw_dup (npc := 186) rfl dX0_init_185 rfl ?_
  refine aw_iconst (npc := 187) (v := 1) (by decide) dX0_init_186 rfl ?_
  refine aw_iconst (npc := 188) (v := -1) (by decide) dX0_init_187 rfl ?_
  refine aw_iast (npc := 189) (j := 1) dX0_init_188 rfl am_eq ⟨by decide, by decide⟩ (Nat.le_of_ble_eq_true rfl) (show _ = am_up _ 23 (.inl (0, [(-1), (-1), 0])) from am_uu) ?_
  refine aw_dup (npc := 190) rfl dX0_init_189 rfl ?_
  refine aw_iconst (npc := 191) (v := 2) (by decide) dX0_init_190 rfl ?_
  refine aw_iconst (npc := 192) (v := -1) (by decide) dX0_init_191 rfl ?_
  refine aw_iast (npc := 193) (j := 2) dX0_init_192 rfl am_eq ⟨by decide, by decide⟩ (Nat.le_of_ble_eq_true rfl) (show _ = am_up _ 23 (.inl (0, [(-1), (-1), (-1)])) from am_uu) ?_
  refine aw_putF (npc := 196) dX0_init_193 rfl rfl (fun _ _ _ h9 => by cases h9; rfl) kf_X0_67 (am_ne (by decide) am_eq) (by decide) (am_ok_arr _ _) rfl ?_
  refine aw_aload_n (npc := 197) rfl dX0_init_196 rfl ?_
  refine aw_iconst (npc := 198) (v := 4) (by decide) dX0_init_197 rfl ?_
  refine aw_newi (npc := 200) (N := 4) dX0_init_198 rfl ka_int ⟨by decide, by decide⟩ (by decide) (by decide) rfl rfl rfl ?_
  refine aw_nn (n' := 25) rfl ?_
  refine aw_putF (npc := 203) dX0_init_200 rfl rfl (fun _ _ _ h9 => by cases h9; rfl) kf_X0_70 (am_ne (by decide) am_eq) (by decide) (am_ok_arr _ _) rfl ?_
  refine aw_vret rfl dX0_init_203 ?_
  refine aw_putF (npc := 26) dX7_init_23 rfl rfl (fun _ _ _ h9 => by cases h9; rfl) kf_X7_16 (am_ne (by decide) (am_ne (by decide) (am_ne (by decide) (am_ne (by decide) (am_ne (by decide) (am_ne (by decide) (am_ne (by decide) (am_ne (by decide) (am_ne (by decide) (am_ne (by decide) (am_ne (by decide) (am_ne (by decide) (am_ne (by decide) (am_ne (by decide) (am_ne (by decide) (am_ne (by decide) (am_ne (by decide) (am_ne (by decide) (am_ne (by decide) (am_ne (by decide) (am_ne (by decide) (am_ne (by decide) (am_ne (by decide) am_eq))))))))))))))))))))))) (by decide) (am_ok_obj _ _) rfl ?_
  refine aw_aload_n (npc := 27) rfl dX7_init_26 rfl ?_
  refine aw_new (npc := 30) dX7_init_27 rfl kn_X7_7 (by decide) rfl rfl rfl ?_
  refine aw_nn (n' := 26) rfl ?_
  refine aw_dup (npc := 31) rfl dX7_init_30 rfl ?_
  refine aw_callIN (npc := 34) (b := 25) (mc := 11) (ms := 75) (A := []) (S := [.ref 25, .ref 0]) (L0 := [some (.ref 25)]) (rc' := 32) (rs' := 549) dX7_init_31 rfl km_X0_init kk_X7_9 rfl ⟨rfl, by decide⟩ rfl (Nat.le_of_ble_eq_true rfl) rfl rfl rfl ?_
  refine aw_aload_n (npc := 1) rfl dX0_init_0 rfl ?_
  refine aw_obj (npc := 4) dX0_init_1 rfl ko_X0_3 ko_i ko_c (Nat.le_of_ble_eq_true rfl) ?_
  refine aw_aload_n (npc := 5) rfl dX0_init_4 rfl ?_
  refine aw_iconst (npc := 6) (v := 4) (by decide) dX0_init_5 rfl ?_
  refine aw_newi (npc := 8) (N := 4) dX0_init_6 rfl ka_int ⟨by decide, by decide⟩ (by decide) (by decide) rfl rfl rfl ?_
  refine aw_nn (n' := 27) rfl ?_
  refine aw_dup (npc := 9) rfl dX0_init_8 rfl ?_
  refine aw_iconst (npc := 10) (v := 0) (by decide) dX0_init_9 rfl ?_
  refine aw_iconst (npc := 11) (v := 5) (by decide) dX0_init_10 rfl ?_
  refine aw_iast (npc := 12) (j := 0) dX0_init_11 rfl am_eq ⟨by decide, by decide⟩ (Nat.le_of_ble_eq_true rfl) (show _ = am_up _ 26 (.inl (0, [5, 0, 0, 0])) from am_uu) ?_
  refine aw_dup (npc := 13) rfl dX0_init_12 rfl ?_
  refine aw_iconst (npc := 14) (v := 1) (by decide) dX0_init_13 rfl ?_
  refine aw_iconst (npc := 15) (v := 5) (by decide) dX0_init_14 rfl ?_
  refine aw_iast (npc := 16) (j := 1) dX0_init_15 rfl am_eq ⟨by decide, by decide⟩ (Nat.le_of_ble_eq_true rfl) (show _ = am_up _ 26 (.inl (0, [5, 5, 0, 0])) from am_uu) ?_
  refine aw_dup (npc := 17) rfl dX0_init_16 rfl ?_
  refine aw_iconst (npc := 18) (v := 2) (by decide) dX0_init_17 rfl ?_
  refine aw_iconst (npc := 19) (v := 5) (by decide) dX0_init_18 rfl ?_
  refine aw_iast (npc := 20) (j := 2) dX0_init_19 rfl am_eq ⟨by decide, by decide⟩ (Nat.le_of_ble_eq_true rfl) (show _ = am_up _ 26 (.inl (0, [5, 5, 5, 0])) from am_uu) ?_
  refine aw_dup (npc := 21) rfl dX0_init_20 rfl ?_
  refine aw_iconst (npc := 22) (v := 3) (by decide) dX0_init_21 rfl ?_
  refine aw_iconst (npc := 23) (v := 5) (by decide) dX0_init_22 rfl ?_
  refine aw_iast (npc := 24) (j := 3) dX0_init_23 rfl am_eq ⟨by decide, by decide⟩ (Nat.le_of_ble_eq_true rfl) (show _ = am_up _ 26 (.inl (0, [5, 5, 5, 5])) from am_uu) ?_
  refine aw_putF (npc := 27) dX0_init_24 rfl rfl (fun _ _ _ h9 => by cases h9; rfl) kf_X0_9 (am_ne (by decide) am_eq) (by decide) (am_ok_arr _ _) rfl ?_
  refine aw_aload_n (npc := 28) rfl dX0_init_27 rfl ?_
  refine aw_bipush (npc := 30) (v := 8) (by decide) dX0_init_28 rfl ?_
  refine aw_newi (npc := 32) (N := 8) dX0_init_30 rfl ka_int ⟨by decide, by decide⟩ (by decide) (by decide) rfl rfl rfl ?_
  refine aw_nn (n' := 28) rfl ?_
  refine aw_dup (npc := 33) rfl dX0_init_32 rfl ?_
  refine aw_iconst (npc := 34) (v := 0) (by decide) dX0_init_33 rfl ?_
  refine aw_iconst (npc := 35) (v := 1) (by decide) dX0_init_34 rfl ?_
  refine aw_iast (npc := 36) (j := 0) dX0_init_35 rfl am_eq ⟨by decide, by decide⟩ (Nat.le_of_ble_eq_true rfl) (show _ = am_up _ 27 (.inl (0, [1, 0, 0, 0, 0, 0, 0, 0])) from am_uu) ?_
  refine aw_dup (npc := 37) rfl dX0_init_36 rfl ?_
  refine aw_iconst (npc := 38) (v := 1) (by decide) dX0_init_37 rfl ?_
  refine aw_iconst (npc := 39) (v := 1) (by decide) dX0_init_38 rfl ?_
  refine aw_iast (npc := 40) (j := 1) dX0_init_39 rfl am_eq ⟨by decide, by decide⟩ (Nat.le_of_ble_eq_true rfl) (show _ = am_up _ 27 (.inl (0, [1, 1, 0, 0, 0, 0, 0, 0])) from am_uu) ?_
  refine aw_dup (npc := 41) rfl dX0_init_40 rfl ?_
  refine aw_iconst (npc := 42) (v := 2) (by decide) dX0_init_41 rfl ?_
  refine aw_iconst (npc := 43) (v := 1) (by decide) dX0_init_42 rfl ?_
  refine aw_iast (npc := 44) (j := 2) dX0_init_43 rfl am_eq ⟨by decide, by decide⟩ (Nat.le_of_ble_eq_true rfl) (show _ = am_up _ 27 (.inl (0, [1, 1, 1, 0, 0, 0, 0, 0])) from am_uu) ?_
  refine aw_dup (npc := 45) rfl dX0_init_44 rfl ?_
  refine aw_iconst (npc := 46) (v := 3) (by decide) dX0_init_45 rfl ?_
  refine aw_iconst (npc := 47) (v := 1) (by decide) dX0_init_46 rfl ?_
  refine aw_iast (npc := 48) (j := 3) dX0_init_47 rfl am_eq ⟨by decide, by decide⟩ (Nat.le_of_ble_eq_true rfl) (show _ = am_up _ 27 (.inl (0, [1, 1, 1, 1, 0, 0, 0, 0])) from am_uu) ?_
  refine aw_dup (npc := 49) rfl dX0_init_48 rfl ?_
  refine aw_iconst (npc := 50) (v := 4) (by decide) dX0_init_49 rfl ?_
  refine aw_iconst (npc := 51) (v := 1) (by decide) dX0_init_50 rfl ?_
  refine aw_iast (npc := 52) (j := 4) dX0_init_51 rfl am_eq ⟨by decide, by decide⟩ (Nat.le_of_ble_eq_true rfl) (show _ = am_up _ 27 (.inl (0, [1, 1, 1, 1, 1, 0, 0, 0])) from am_uu) ?_
  refine aw_dup (npc := 53) rfl dX0_init_52 rfl ?_
  refine aw_iconst (npc := 54) (v := 5) (by decide) dX0_init_53 rfl ?_
  refine aw_iconst (npc := 55) (v := 1) (by decide) dX0_init_54 rfl ?_
  refine aw_iast (npc := 56) (j := 5) dX0_init_55 rfl am_eq ⟨by decide, by decide⟩ (Nat.le_of_ble_eq_true rfl) (show _ = am_up _ 27 (.inl (0, [1, 1, 1, 1, 1, 1, 0, 0])) from am_uu) ?_
  refine aw_dup (npc := 57) rfl dX0_init_56 rfl ?_
  refine aw_bipush (npc := 59) (v := 6) (by decide) dX0_init_57 rfl ?_
  refine aw_iconst (npc := 60) (v := 1) (by decide) dX0_init_59 rfl ?_
  refine aw_iast (npc := 61) (j := 6) dX0_init_60 rfl am_eq ⟨by decide, by decide⟩ (Nat.le_of_ble_eq_true rfl) (show _ = am_up _ 27 (.inl (0, [1, 1, 1, 1, 1, 1, 1, 0])) from am_uu) ?_
  refine aw_dup (npc := 62) rfl dX0_init_61 rfl ?_
  refine aw_bipush (npc := 64) (v := 7) (by decide) dX0_init_62 rfl ?_
  refine aw_iconst (npc := 65) (v := 1) (by decide) dX0_init_64 rfl ?_
  refine aw_iast (npc := 66) (j := 7) dX0_init_65 rfl am_eq ⟨by decide, by decide⟩ (Nat.le_of_ble_eq_true rfl) (show _ = am_up _ 27 (.inl (0, [1, 1, 1, 1, 1, 1, 1, 1])) from am_uu) ?_
  refine aw_putF (npc := 69) dX0_init_66 rfl rfl (fun _ _ _ h9 => by cases h9; rfl) kf_X0_15 (am_ne (by decide) am_eq) (by decide) (am_ok_arr _ _) rfl ?_
  refine aw_aload_n (npc := 70) rfl dX0_init_69 rfl ?_
  refine aw_iconst (npc := 71) (v := 2) (by decide) dX0_init_70 rfl ?_
  refine aw_newi (npc := 73) (N := 2) dX0_init_71 rfl ka_int ⟨by decide, by decide⟩ (by decide) (by decide) rfl rfl rfl ?_
  refine aw_nn (n' := 29) rfl ?_
  refine aw_dup (npc := 74) rfl dX0_init_73 rfl ?_
  refine aw_iconst (npc := 75) (v := 0) (by decide) dX0_init_74 rfl ?_
  refine aw_bipush (npc := 77) (v := 20) (by decide) dX0_init_75 rfl ?_
  refine aw_iast (npc := 78) (j := 0) dX0_init_77 rfl am_eq ⟨by decide, by decide⟩ (Nat.le_of_ble_eq_true rfl) (show _ = am_up _ 28 (.inl (0, [20, 0])) from am_uu) ?_
  refine aw_dup (npc := 79) rfl dX0_init_78 rfl ?_
  refine aw_iconst (npc := 80) (v := 1) (by decide) dX0_init_79 rfl ?_
  refine aw_bipush (npc := 82) (v := 20) (by decide) dX0_init_80 rfl ?_
  refine aw_iast (npc := 83) (j := 1) dX0_init_82 rfl am_eq ⟨by decide, by decide⟩ (Nat.le_of_ble_eq_true rfl) (show _ = am_up _ 28 (.inl (0, [20, 20])) from am_uu) ?_
  refine aw_putF (npc := 86) dX0_init_83 rfl rfl (fun _ _ _ h9 => by cases h9; rfl) kf_X0_18 (am_ne (by decide) am_eq) (by decide) (am_ok_arr _ _) rfl ?_
  refine aw_aload_n (npc := 87) rfl dX0_init_86 rfl ?_
  refine aw_iconst (npc := 88) (v := 0) (by decide) dX0_init_87 rfl ?_
  refine aw_put (npc := 91) dX0_init_88 rfl kf_X0_21 am_eq (Nat.le_of_ble_eq_true rfl) (am_ok_int _) am_uu ?_
  refine aw_aload_n (npc := 92) rfl dX0_init_91 rfl ?_
  refine aw_bipush (npc := 94) (v := 60) (by decide) dX0_init_92 rfl ?_
  refine aw_put (npc := 97) dX0_init_94 rfl kf_X0_25 am_eq (Nat.le_of_ble_eq_true rfl) (am_ok_int _) am_uu ?_
  refine aw_aload_n (npc := 98) rfl dX0_init_97 rfl ?_
  refine aw_bipush (npc := 100) (v := 10) (by decide) dX0_init_98 rfl ?_
  refine aw_put (npc := 103) dX0_init_100 rfl kf_X0_28 am_eq (Nat.le_of_ble_eq_true rfl) (am_ok_int _) am_uu ?_
  refine aw_aload_n (npc := 104) rfl dX0_init_103 rfl ?_
  refine aw_iconst (npc := 105) (v := 0) (by decide) dX0_init_104 rfl ?_
  refine aw_put (npc := 108) dX0_init_105 rfl kf_X0_31 am_eq (Nat.le_of_ble_eq_true rfl) (am_ok_int _) am_uu ?_
  refine aw_aload_n (npc := 109) rfl dX0_init_108 rfl ?_
  refine aw_iconst (npc := 110) (v := 0) (by decide) dX0_init_109 rfl ?_
  refine aw_put (npc := 113) dX0_init_110 rfl kf_X0_34 am_eq (Nat.le_of_ble_eq_true rfl) (am_ok_int _) am_uu ?_
  refine aw_aload_n (npc := 114) rfl dX0_init_113 rfl ?_
  refine aw_iconst (npc := 115) (v := 1) (by decide) dX0_init_114 rfl ?_
  refine aw_put (npc := 118) dX0_init_115 rfl kf_X0_37 am_eq (Nat.le_of_ble_eq_true rfl) (am_ok_int _) am_uu ?_
  refine aw_aload_n (npc := 119) rfl dX0_init_118 rfl ?_
  refine aw_iconst (npc := 120) (v := 0) (by decide) dX0_init_119 rfl ?_
  refine aw_put (npc := 123) dX0_init_120 rfl kf_X0_40 am_eq (Nat.le_of_ble_eq_true rfl) (am_ok_int _) am_uu ?_
  refine aw_aload_n (npc := 124) rfl dX0_init_123 rfl ?_
  refine aw_bipush (npc := 126) (v := 8) (by decide) dX0_init_124 rfl ?_
  refine aw_newi (npc := 128) (N := 8) dX0_init_126 rfl ka_int ⟨by decide, by decide⟩ (by decide) (by decide) rfl rfl rfl ?_
  refine aw_nn (n' := 30) rfl ?_
  refine aw_putF (npc := 131) dX0_init_128 rfl rfl (fun _ _ _ h9 => by cases h9; rfl) kf_X0_43 (am_ne (by decide) am_eq) (by decide) (am_ok_arr _ _) rfl ?_
  refine aw_aload_n (npc := 132) rfl dX0_init_131 rfl ?_
  refine aw_bipush (npc := 134) (v := 8) (by decide) dX0_init_132 rfl ?_
  refine aw_newi (npc := 136) (N := 8) dX0_init_134 rfl ka_int ⟨by decide, by decide⟩ (by decide) (by decide) rfl rfl rfl ?_
  refine aw_nn (n' := 31) rfl ?_
  refine aw_putF (npc := 139) dX0_init_136 rfl rfl (fun _ _ _ h9 => by cases h9; rfl) kf_X0_46 (am_ne (by decide) am_eq) (by decide) (am_ok_arr _ _) rfl ?_
  refine aw_aload_n (npc := 140) rfl dX0_init_139 rfl ?_
  refine aw_bipush (npc := 142) (v := 8) (by decide) dX0_init_140 rfl ?_
  refine aw_newi (npc := 144) (N := 8) dX0_init_142 rfl ka_int ⟨by decide, by decide⟩ (by decide) (by decide) rfl rfl rfl ?_
  refine aw_nn (n' := 32) rfl ?_
  refine aw_putF (npc := 147) dX0_init_144 rfl rfl (fun _ _ _ h9 => by cases h9; rfl) kf_X0_49 (am_ne (by decide) am_eq) (by decide) (am_ok_arr _ _) rfl ?_
  refine aw_aload_n (npc := 148) rfl dX0_init_147 rfl ?_
  refine aw_bipush (npc := 150) (v := 8) (by decide) dX0_init_148 rfl ?_
  refine aw_newi (npc := 152) (N := 8) dX0_init_150 rfl ka_int ⟨by decide, by decide⟩ (by decide) (by decide) rfl rfl rfl ?_
  refine aw_nn (n' := 33) rfl ?_
  refine aw_putF (npc := 155) dX0_init_152 rfl rfl (fun _ _ _ h9 => by cases h9; rfl) kf_X0_52 (am_ne (by decide) am_eq) (by decide) (am_ok_arr _ _) rfl ?_
  refine aw_aload_n (npc := 156) rfl dX0_init_155 rfl ?_
  refine aw_bipush (npc := 158) (v := 8) (by decide) dX0_init_156 rfl ?_
  refine aw_newi (npc := 160) (N := 8) dX0_init_158 rfl ka_int ⟨by decide, by decide⟩ (by decide) (by decide) rfl rfl rfl ?_
  refine aw_nn (n' := 34) rfl ?_
  refine aw_putF (npc := 163) dX0_init_160 rfl rfl (fun _ _ _ h9 => by cases h9; rfl) kf_X0_55 (am_ne (by decide) am_eq) (by decide) (am_ok_arr _ _) rfl ?_
  refine aw_aload_n (npc := 164) rfl dX0_init_163 rfl ?_
  refine aw_bipush (npc := 166) (v := 14) (by decide) dX0_init_164 rfl ?_
  refine aw_newq (npc := 169) (t := 15) (N := 14) dX0_init_166 rfl (by decide) (by decide) kl_X0_58 ⟨by decide, by decide⟩ (by decide) (by decide) rfl rfl rfl ?_
  refine aw_nn (n' := 35) rfl ?_
  refine aw_putF (npc := 172) dX0_init_169 rfl rfl (fun _ _ _ h9 => by cases h9; rfl) kf_X0_60 (am_ne (by decide) am_eq) (by decide) (am_ok_arr _ _) rfl ?_
  refine aw_aload_n (npc := 173) rfl dX0_init_172 rfl ?_
  refine aw_iconst (npc := 174) (v := 0) (by decide) dX0_init_173 rfl ?_
  refine aw_put (npc := 177) dX0_init_174 rfl kf_X0_64 am_eq (Nat.le_of_ble_eq_true rfl) (am_ok_int _) am_uu ?_
  refine aw_aload_n (npc := 178) rfl dX0_init_177 rfl ?_
  refine aw_iconst (npc := 179) (v := 3) (by decide) dX0_init_178 rfl ?_
  refine aw_newi (npc := 181) (N := 3) dX0_init_179 rfl ka_int ⟨by decide, by decide⟩ (by decide) (by decide) rfl rfl rfl ?_
  refine aw_nn (n' := 36) rfl ?_
  refine aw_dup (npc := 182) rfl dX0_init_181 rfl ?_
  refine aw_iconst (npc := 183) (v := 0) (by decide) dX0_init_182 rfl ?_
  refine aw_iconst (npc := 184) (v := -1) (by decide) dX0_init_183 rfl ?_
  refine aw_iast (npc := 185) (j := 0) dX0_init_184 rfl am_eq ⟨by decide, by decide⟩ (Nat.le_of_ble_eq_true rfl) (show _ = am_up _ 35 (.inl (0, [(-1), 0, 0])) from am_uu) ?_
  refine aw_dup (npc := 186) rfl dX0_init_185 rfl ?_
  refine aw_iconst (npc := 187) (v := 1) (by decide) dX0_init_186 rfl ?_
  refine aw_iconst (npc := 188) (v := -1) (by decide) dX0_init_187 rfl ?_
  refine aw_iast (npc := 189) (j := 1) dX0_init_188 rfl am_eq ⟨by decide, by decide⟩ (Nat.le_of_ble_eq_true rfl) (show _ = am_up _ 35 (.inl (0, [(-1), (-1), 0])) from am_uu) ?_
  refine aw_dup (npc := 190) rfl dX0_init_189 rfl ?_
  refine aw_iconst (npc := 191) (v := 2) (by decide) dX0_init_190 rfl ?_
  refine aw_iconst (npc := 192) (v := -1) (by decide) dX0_init_191 rfl ?_
  refine aw_iast (npc := 193) (j := 2) dX0_init_192 rfl am_eq ⟨by decide, by decide⟩ (Nat.le_of_ble_eq_true rfl) (show _ = am_up _ 35 (.inl (0, [(-1), (-1), (-1)])) from am_uu) ?_
  refine aw_putF (npc := 196) dX0_init_193 rfl rfl (fun _ _ _ h9 => by cases h9; rfl) kf_X0_67 (am_ne (by decide) am_eq) (by decide) (am_ok_arr _ _) rfl ?_
  refine aw_aload_n (npc := 197) rfl dX0_init_196 rfl ?_
  refine aw_iconst (npc := 198) (v := 4) (by decide) dX0_init_197 rfl ?_
  refine aw_newi (npc := 200) (N := 4) dX0_init_198 rfl ka_int ⟨by decide, by decide⟩ (by decide) (by decide) rfl rfl rfl ?_
  refine aw_nn (n' := 37) rfl ?_
  refine aw_putF (npc := 203) dX0_init_200 rfl rfl (fun _ _ _ h9 => by cases h9; rfl) kf_X0_70 (am_ne (by decide) am_eq) (by decide) (am_ok_arr _ _) rfl ?_
  refine aw_vret rfl dX0_init_203 ?_
  refine aw_putF (npc := 37) dX7_init_34 rfl rfl (fun _ _ _ h9 => by cases h9; rfl) kf_X7_19 (am_ne (by decide) (am_ne (by decide) (am_ne (by decide) (am_ne (by decide) (am_ne (by decide) (am_ne (by decide) (am_ne (by decide) (am_ne (by decide) (am_ne (by decide) (am_ne (by decide) (am_ne (by decide) (am_ne (by decide) (am_ne (by decide) (am_ne (by decide) (am_ne (by decide) (am_ne (by decide) (am_ne (by decide) (am_ne (by decide) (am_ne (by decide) (am_ne (by decide) (am_ne (by decide) (am_ne (by decide) (am_ne (by decide) am_eq))))))))))))))))))))))) (by decide) (am_ok_obj _ _) rfl ?_
  refine aw_aload_n (npc := 38) rfl dX7_init_37 rfl ?_
  refine aw_iconst (npc := 39) (v := 0) (by decide) dX7_init_38 rfl ?_
  refine aw_put (npc := 42) dX7_init_39 rfl kf_X7_22 am_eq (Nat.le_of_ble_eq_true rfl) am_ok_z0 am_uu ?_
  refine aw_aload_n (npc := 43) rfl dX7_init_42 rfl ?_
  refine aw_new (npc := 46) dX7_init_43 rfl kn_X7_26 (by decide) rfl rfl rfl ?_
  refine aw_nn (n' := 38) rfl ?_
  refine aw_dup (npc := 47) rfl dX7_init_46 rfl ?_
  refine aw_callIN (npc := 50) (b := 37) (mc := 1) (ms := 4) (A := []) (S := [.ref 37, .ref 0]) (L0 := [some (.ref 37)]) (rc' := 30) (rs' := 542) dX7_init_47 rfl km_X6_init kk_X7_28 rfl ⟨rfl, by decide⟩ rfl (Nat.le_of_ble_eq_true rfl) rfl rfl rfl ?_
  refine aw_aload_n (npc := 1) rfl dX6_init_0 rfl ?_
  refine aw_obj (npc := 4) dX6_init_1 rfl ko_X6_3 ko_i ko_c (Nat.le_of_ble_eq_true rfl) ?_
  refine aw_aload_n (npc := 5) rfl dX6_init_4 rfl ?_
  refine aw_iconst (npc := 6) (v := 4) (by decide) dX6_init_5 rfl ?_
  refine aw_newi (npc := 8) (N := 4) dX6_init_6 rfl ka_int ⟨by decide, by decide⟩ (by decide) (by decide) rfl rfl rfl ?_
  refine aw_nn (n' := 39) rfl ?_
  refine aw_putF (npc := 11) dX6_init_8 rfl rfl (fun _ _ _ h9 => by cases h9; rfl) kf_X6_9 (am_ne (by decide) am_eq) (by decide) (am_ok_arr _ _) rfl ?_
  refine aw_aload_n (npc := 12) rfl dX6_init_11 rfl ?_
  refine aw_iconst (npc := 13) (v := 0) (by decide) dX6_init_12 rfl ?_
  refine aw_put (npc := 16) dX6_init_13 rfl kf_X6_15 am_eq (Nat.le_of_ble_eq_true rfl) (am_ok_int _) am_uu ?_
  refine aw_aload_n (npc := 17) rfl dX6_init_16 rfl ?_
  refine aw_iconst (npc := 18) (v := 0) (by decide) dX6_init_17 rfl ?_
  refine aw_put (npc := 21) dX6_init_18 rfl kf_X6_19 am_eq (Nat.le_of_ble_eq_true rfl) (am_ok_int _) am_uu ?_
  refine aw_vret rfl dX6_init_21 ?_
  refine aw_putF (npc := 53) dX7_init_50 rfl rfl (fun _ _ _ h9 => by cases h9; rfl) kf_X7_29 (am_ne (by decide) (am_ne (by decide) (am_ne (by decide) am_eq))) (by decide) (am_ok_obj _ _) rfl ?_
  refine aw_aload_n (npc := 54) rfl dX7_init_53 rfl ?_
  refine aw_new (npc := 57) dX7_init_54 rfl kn_X7_33 (by decide) rfl rfl rfl ?_
  refine aw_nn (n' := 40) rfl ?_
  refine aw_dup (npc := 58) rfl dX7_init_57 rfl ?_
  refine aw_callIN (npc := 61) (b := 39) (mc := 3) (ms := 194) (A := []) (S := [.ref 39, .ref 0]) (L0 := [some (.ref 39)]) (rc' := 26) (rs' := 337) dX7_init_58 rfl km_X1_init kk_X7_35 rfl ⟨rfl, by decide⟩ rfl (Nat.le_of_ble_eq_true rfl) rfl rfl rfl ?_
  refine aw_aload_n (npc := 1) rfl dX1_init_0 rfl ?_
  refine aw_obj (npc := 4) dX1_init_1 rfl ko_X1_3 ko_i ko_c (Nat.le_of_ble_eq_true rfl) ?_
  refine aw_aload_n (npc := 5) rfl dX1_init_4 rfl ?_
  refine aw_new (npc := 8) dX1_init_5 rfl kn_X1_9 (by decide) rfl rfl rfl ?_
  refine aw_nn (n' := 41) rfl ?_
  refine aw_dup (npc := 9) rfl dX1_init_8 rfl ?_
  refine aw_callIN (npc := 12) (b := 40) (mc := 1) (ms := 96) (A := []) (S := [.ref 40, .ref 39]) (L0 := [some (.ref 40)]) (rc' := 1) (rs' := 96) dX1_init_9 rfl km_X4_init kk_X1_11 rfl ⟨rfl, by decide⟩ rfl (Nat.le_of_ble_eq_true rfl) rfl rfl rfl ?_
  refine aw_aload_n (npc := 1) rfl dX4_init_0 rfl ?_
  refine aw_obj (npc := 4) dX4_init_1 rfl ko_X4_3 ko_i ko_c (Nat.le_of_ble_eq_true rfl) ?_
  refine aw_aload_n (npc := 5) rfl dX4_init_4 rfl ?_
  refine aw_bipush (npc := 7) (v := 96) (by decide) dX4_init_5 rfl ?_
  refine aw_newi (npc := 9) (N := 96) dX4_init_7 rfl ka_int ⟨by decide, by decide⟩ (by decide) (by decide) rfl rfl rfl ?_
  refine aw_nn (n' := 42) rfl ?_
  refine aw_putF (npc := 12) dX4_init_9 rfl rfl (fun _ _ _ h9 => by cases h9; rfl) kf_X4_9 (am_ne (by decide) am_eq) (by decide) (am_ok_arr _ _) rfl ?_
  refine aw_aload_n (npc := 13) rfl dX4_init_12 rfl ?_
  refine aw_iconst (npc := 14) (v := 0) (by decide) dX4_init_13 rfl ?_
  refine aw_put (npc := 17) dX4_init_14 rfl kf_X4_15 am_eq (Nat.le_of_ble_eq_true rfl) (am_ok_int _) am_uu ?_
  refine aw_vret rfl dX4_init_17 ?_
  refine aw_putF (npc := 15) dX1_init_12 rfl rfl (fun _ _ _ h9 => by cases h9; rfl) kf_X1_12 (am_ne (by decide) (am_ne (by decide) (am_ne (by decide) am_eq))) (by decide) (am_ok_obj _ _) rfl ?_
  refine aw_aload_n (npc := 16) rfl dX1_init_15 rfl ?_
  refine aw_iconst (npc := 17) (v := 0) (by decide) dX1_init_16 rfl ?_
  refine aw_put (npc := 20) dX1_init_17 rfl kf_X1_18 am_eq (Nat.le_of_ble_eq_true rfl) (am_ok_int _) am_uu ?_
  refine aw_aload_n (npc := 21) rfl dX1_init_20 rfl ?_
  refine aw_iconst (npc := 22) (v := 0) (by decide) dX1_init_21 rfl ?_
  refine aw_put (npc := 25) dX1_init_22 rfl kf_X1_22 am_eq (Nat.le_of_ble_eq_true rfl) (am_ok_int _) am_uu ?_
  refine aw_aload_n (npc := 26) rfl dX1_init_25 rfl ?_
  refine aw_iconst (npc := 27) (v := 0) (by decide) dX1_init_26 rfl ?_
  refine aw_put (npc := 30) dX1_init_27 rfl kf_X1_25 am_eq (Nat.le_of_ble_eq_true rfl) (am_ok_int _) am_uu ?_
  refine aw_aload_n (npc := 31) rfl dX1_init_30 rfl ?_
  refine aw_iconst (npc := 32) (v := -1) (by decide) dX1_init_31 rfl ?_
  refine aw_put (npc := 35) dX1_init_32 rfl kf_X1_28 am_eq (Nat.le_of_ble_eq_true rfl) (am_ok_int _) am_uu ?_
  refine aw_aload_n (npc := 36) rfl dX1_init_35 rfl ?_
  refine aw_iconst (npc := 37) (v := -1) (by decide) dX1_init_36 rfl ?_
  refine aw_put (npc := 40) dX1_init_37 rfl kf_X1_31 am_eq (Nat.le_of_ble_eq_true rfl) (am_ok_int _) am_uu ?_
  refine aw_aload_n (npc := 41) rfl dX1_init_40 rfl ?_
  refine aw_bipush (npc := 43) (v := 96) (by decide) dX1_init_41 rfl ?_
  refine aw_newi (npc := 45) (N := 96) dX1_init_43 rfl ka_int ⟨by decide, by decide⟩ (by decide) (by decide) rfl rfl rfl ?_
  refine aw_nn (n' := 43) rfl ?_
  refine aw_putF (npc := 48) dX1_init_45 rfl rfl (fun _ _ _ h9 => by cases h9; rfl) kf_X1_34 (am_ne (by decide) am_eq) (by decide) (am_ok_arr _ _) rfl ?_
  refine aw_aload_n (npc := 49) rfl dX1_init_48 rfl ?_
  refine aw_iconst (npc := 50) (v := 0) (by decide) dX1_init_49 rfl ?_
  refine aw_put (npc := 53) dX1_init_50 rfl kf_X1_38 am_eq (Nat.le_of_ble_eq_true rfl) (am_ok_int _) am_uu ?_
  refine aw_aload_n (npc := 54) rfl dX1_init_53 rfl ?_
  refine aw_iconst (npc := 55) (v := 0) (by decide) dX1_init_54 rfl ?_
  refine aw_put (npc := 58) dX1_init_55 rfl kf_X1_41 am_eq (Nat.le_of_ble_eq_true rfl) (am_ok_int _) am_uu ?_
  refine aw_aload_n (npc := 59) rfl dX1_init_58 rfl ?_
  refine aw_iconst (npc := 60) (v := 0) (by decide) dX1_init_59 rfl ?_
  refine aw_put (npc := 63) dX1_init_60 rfl kf_X1_44 am_eq (Nat.le_of_ble_eq_true rfl) (am_ok_int _) am_uu ?_
  refine aw_aload_n (npc := 64) rfl dX1_init_63 rfl ?_
  refine aw_iconst (npc := 65) (v := 0) (by decide) dX1_init_64 rfl ?_
  refine aw_put (npc := 68) dX1_init_65 rfl kf_X1_47 am_eq (Nat.le_of_ble_eq_true rfl) (am_ok_int _) am_uu ?_
  refine aw_vret rfl dX1_init_68 ?_
  refine aw_putF (npc := 64) dX7_init_61 rfl rfl (fun _ _ _ h9 => by cases h9; rfl) kf_X7_36 (am_ne (by decide) (am_ne (by decide) (am_ne (by decide) (am_ne (by decide) (am_ne (by decide) (am_ne (by decide) (am_ne (by decide) am_eq))))))) (by decide) (am_ok_obj _ _) rfl ?_
  refine aw_aload_n (npc := 65) rfl dX7_init_64 rfl ?_
  refine aw_aload_n (npc := 66) rfl dX7_init_65 rfl ?_
  refine aw_get (npc := 69) dX7_init_66 rfl kf_X7_36 am_eq rfl ?_
  refine aw_get (npc := 72) dX7_init_69 rfl kf_X7_40 (am_ne (by decide) am_eq) rfl ?_
  refine aw_putF (npc := 75) dX7_init_72 rfl rfl (fun _ _ _ h9 => by cases h9; rfl) kf_X7_44 am_eq (by decide) (am_ok_obj _ _) am_uu ?_
  refine aw_aload_n (npc := 76) rfl dX7_init_75 rfl ?_
  refine aw_iconst (npc := 77) (v := 4) (by decide) dX7_init_76 rfl ?_
  refine aw_newq (npc := 80) (t := 13) (N := 4) dX7_init_77 rfl (by decide) (by decide) kl_X7_45 ⟨by decide, by decide⟩ (by decide) (by decide) rfl rfl rfl ?_
  refine aw_nn (n' := 44) rfl ?_
  refine aw_putF (npc := 83) dX7_init_80 rfl rfl (fun _ _ _ h9 => by cases h9; rfl) kf_X7_47 (am_ne (by decide) am_eq) (by decide) (am_ok_arr _ _) rfl ?_
  refine aw_aload_n (npc := 84) rfl dX7_init_83 rfl ?_
  refine aw_iconst (npc := 85) (v := 5) (by decide) dX7_init_84 rfl ?_
  refine aw_newq (npc := 88) (t := 14) (N := 5) dX7_init_85 rfl (by decide) (by decide) kl_X7_51 ⟨by decide, by decide⟩ (by decide) (by decide) rfl rfl rfl ?_
  refine aw_nn (n' := 45) rfl ?_
  refine aw_putF (npc := 91) dX7_init_88 rfl rfl (fun _ _ _ h9 => by cases h9; rfl) kf_X7_53 (am_ne (by decide) am_eq) (by decide) (am_ok_arr _ _) rfl ?_
  refine aw_aload_n (npc := 92) rfl dX7_init_91 rfl ?_
  refine aw_bipush (npc := 94) (v := 60) (by decide) dX7_init_92 rfl ?_
  refine aw_newi (npc := 96) (N := 60) dX7_init_94 rfl ka_int ⟨by decide, by decide⟩ (by decide) (by decide) rfl rfl rfl ?_
  refine aw_nn (n' := 46) rfl ?_
  refine aw_putF (npc := 99) dX7_init_96 rfl rfl (fun _ _ _ h9 => by cases h9; rfl) kf_X7_57 (am_ne (by decide) am_eq) (by decide) (am_ok_arr _ _) rfl ?_
  refine aw_aload_n (npc := 100) rfl dX7_init_99 rfl ?_
  refine aw_iconst (npc := 101) (v := 0) (by decide) dX7_init_100 rfl ?_
  refine aw_put (npc := 104) dX7_init_101 rfl kf_X7_61 am_eq (Nat.le_of_ble_eq_true rfl) (am_ok_int _) am_uu ?_
  refine aw_iconst (npc := 105) (v := 0) (by decide) dX7_init_104 rfl ?_
  refine aw_istore_n (npc := 106) (L' := [some (.ref 0), some (.int 0)]) dX7_init_105 rfl (by decide) rfl rfl ?_
  refine aw_iload_n (npc := 107) rfl dX7_init_106 rfl ?_
  refine aw_iconst (npc := 108) (v := 4) (by decide) dX7_init_107 rfl ?_
  refine aw_icmp_ge (npc := 111) (tgt := 130) dX7_init_108 rfl (by decide) (fun hc => absurd hc (by decide)) (fun _ => ?_)
  refine aw_aload_n (npc := 112) rfl dX7_init_111 rfl ?_
  refine aw_get (npc := 115) dX7_init_112 rfl kf_X7_47 am_eq rfl ?_
  refine aw_iload_n (npc := 116) rfl dX7_init_115 rfl ?_
  refine aw_new (npc := 119) dX7_init_116 rfl kn_X7_45 (by decide) rfl rfl rfl ?_
  refine aw_nn (n' := 47) rfl ?_
  refine aw_dup (npc := 120) rfl dX7_init_119 rfl ?_
  refine aw_callIN (npc := 123) (b := 46) (mc := 1) (ms := 24) (A := []) (S := [.ref 46, .int 0, .ref 43]) (L0 := [some (.ref 46)]) (rc' := 21) (rs' := 241) dX7_init_120 rfl km_X2_init kk_X7_65 rfl ⟨rfl, by decide⟩ rfl (Nat.le_of_ble_eq_true rfl) rfl rfl rfl ?_
  refine aw_aload_n (npc := 1) rfl dX2_init_0 rfl ?_
  refine aw_obj (npc := 4) dX2_init_1 rfl ko_X2_3 ko_i ko_c (Nat.le_of_ble_eq_true rfl) ?_
  refine aw_aload_n (npc := 5) rfl dX2_init_4 rfl ?_
  refine aw_iconst (npc := 6) (v := -1) (by decide) dX2_init_5 rfl ?_
  refine aw_put (npc := 9) dX2_init_6 rfl kf_X2_9 am_eq (Nat.le_of_ble_eq_true rfl) (am_ok_int _) am_uu ?_
  refine aw_aload_n (npc := 10) rfl dX2_init_9 rfl ?_
  refine aw_iconst (npc := 11) (v := 0) (by decide) dX2_init_10 rfl ?_
  refine aw_put (npc := 14) dX2_init_11 rfl kf_X2_15 am_eq (Nat.le_of_ble_eq_true rfl) (am_ok_int _) am_uu ?_
  refine aw_aload_n (npc := 15) rfl dX2_init_14 rfl ?_
  refine aw_bipush (npc := 17) (v := 24) (by decide) dX2_init_15 rfl ?_
  refine aw_newi (npc := 19) (N := 24) dX2_init_17 rfl ka_int ⟨by decide, by decide⟩ (by decide) (by decide) rfl rfl rfl ?_
  refine aw_nn (n' := 48) rfl ?_
  refine aw_putF (npc := 22) dX2_init_19 rfl rfl (fun _ _ _ h9 => by cases h9; rfl) kf_X2_18 (am_ne (by decide) am_eq) (by decide) (am_ok_arr _ _) rfl ?_
  refine aw_vret rfl dX2_init_22 ?_
  refine aw_aast (npc := 124) (j := 0) dX7_init_123 rfl (am_ne (by decide) (am_ne (by decide) (am_ne (by decide) (am_ne (by decide) (am_ne (by decide) (am_ne (by decide) (am_ne (by decide) (am_ne (by decide) am_eq)))))))) am_eq (by decide) ⟨by decide, by decide⟩ (by decide) rfl ?_
  refine aw_iinc (npc := 127) (v := 1) (L' := [some (.ref 0), some (.int 1)]) dX7_init_124 rfl rfl (by decide) (by decide) rfl rfl ?_
  refine aw_goto (npc := 106) dX7_init_127 (by decide) ?_
  refine aw_iload_n (npc := 107) rfl dX7_init_106 rfl ?_
  refine aw_iconst (npc := 108) (v := 4) (by decide) dX7_init_107 rfl ?_
  refine aw_icmp_ge (npc := 111) (tgt := 130) dX7_init_108 rfl (by decide) (fun hc => absurd hc (by decide)) (fun _ => ?_)
  refine aw_aload_n (npc := 112) rfl dX7_init_111 rfl ?_
  refine aw_get (npc := 115) dX7_init_112 rfl kf_X7_47 (am_ne (by decide) (am_ne (by decide) (am_ne (by decide) (am_ne (by decide) am_eq)))) rfl ?_
  refine aw_iload_n (npc := 116) rfl dX7_init_115 rfl ?_
  refine aw_new (npc := 119) dX7_init_116 rfl kn_X7_45 (by decide) rfl rfl rfl ?_
  refine aw_nn (n' := 49) rfl ?_
  refine aw_dup (npc := 120) rfl dX7_init_119 rfl ?_
  refine aw_callIN (npc := 123) (b := 48) (mc := 1) (ms := 24) (A := []) (S := [.ref 48, .int 1, .ref 43]) (L0 := [some (.ref 48)]) (rc' := 19) (rs' := 214) dX7_init_120 rfl km_X2_init kk_X7_65 rfl ⟨rfl, by decide⟩ rfl (Nat.le_of_ble_eq_true rfl) rfl rfl rfl ?_
  refine aw_aload_n (npc := 1) rfl dX2_init_0 rfl ?_
  refine aw_obj (npc := 4) dX2_init_1 rfl ko_X2_3 ko_i ko_c (Nat.le_of_ble_eq_true rfl) ?_
  refine aw_aload_n (npc := 5) rfl dX2_init_4 rfl ?_
  refine aw_iconst (npc := 6) (v := -1) (by decide) dX2_init_5 rfl ?_
  refine aw_put (npc := 9) dX2_init_6 rfl kf_X2_9 am_eq (Nat.le_of_ble_eq_true rfl) (am_ok_int _) am_uu ?_
  refine aw_aload_n (npc := 10) rfl dX2_init_9 rfl ?_
  refine aw_iconst (npc := 11) (v := 0) (by decide) dX2_init_10 rfl ?_
  refine aw_put (npc := 14) dX2_init_11 rfl kf_X2_15 am_eq (Nat.le_of_ble_eq_true rfl) (am_ok_int _) am_uu ?_
  refine aw_aload_n (npc := 15) rfl dX2_init_14 rfl ?_
  refine aw_bipush (npc := 17) (v := 24) (by decide) dX2_init_15 rfl ?_
  refine aw_newi (npc := 19) (N := 24) dX2_init_17 rfl ka_int ⟨by decide, by decide⟩ (by decide) (by decide) rfl rfl rfl ?_
  refine aw_nn (n' := 50) rfl ?_
  refine aw_putF (npc := 22) dX2_init_19 rfl rfl (fun _ _ _ h9 => by cases h9; rfl) kf_X2_18 (am_ne (by decide) am_eq) (by decide) (am_ok_arr _ _) rfl ?_
  refine aw_vret rfl dX2_init_22 ?_
  refine aw_aast (npc := 124) (j := 1) dX7_init_123 rfl (am_ne (by decide) (am_ne (by decide) (am_ne (by decide) am_eq))) am_eq (by decide) ⟨by decide, by decide⟩ (by decide) rfl ?_
  refine aw_iinc (npc := 127) (v := 2) (L' := [some (.ref 0), some (.int 2)]) dX7_init_124 rfl rfl (by decide) (by decide) rfl rfl ?_
  refine aw_goto (npc := 106) dX7_init_127 (by decide) ?_
  refine aw_iload_n (npc := 107) rfl dX7_init_106 rfl ?_
  refine aw_iconst (npc := 108) (v := 4) (by decide) dX7_init_107 rfl ?_
  refine aw_icmp_ge (npc := 111) (tgt := 130) dX7_init_108 rfl (by decide) (fun hc => absurd hc (by decide)) (fun _ => ?_)
  refine aw_aload_n (npc := 112) rfl dX7_init_111 rfl ?_
  refine aw_get (npc := 115) dX7_init_112 rfl kf_X7_47 (am_ne (by decide) (am_ne (by decide) (am_ne (by decide) (am_ne (by decide) (am_ne (by decide) (am_ne (by decide) (am_ne (by decide) (am_ne (by decide) am_eq)))))))) rfl ?_
  refine aw_iload_n (npc := 116) rfl dX7_init_115 rfl ?_
  refine aw_new (npc := 119) dX7_init_116 rfl kn_X7_45 (by decide) rfl rfl rfl ?_
  refine aw_nn (n' := 51) rfl ?_
  refine aw_dup (npc := 120) rfl dX7_init_119 rfl ?_
  refine aw_callIN (npc := 123) (b := 50) (mc := 1) (ms := 24) (A := []) (S := [.ref 50, .int 2, .ref 43]) (L0 := [some (.ref 50)]) (rc' := 17) (rs' := 187) dX7_init_120 rfl km_X2_init kk_X7_65 rfl ⟨rfl, by decide⟩ rfl (Nat.le_of_ble_eq_true rfl) rfl rfl rfl ?_
  refine aw_aload_n (npc := 1) rfl dX2_init_0 rfl ?_
  refine aw_obj (npc := 4) dX2_init_1 rfl ko_X2_3 ko_i ko_c (Nat.le_of_ble_eq_true rfl) ?_
  refine aw_aload_n (npc := 5) rfl dX2_init_4 rfl ?_
  refine aw_iconst (npc := 6) (v := -1) (by decide) dX2_init_5 rfl ?_
  refine aw_put (npc := 9) dX2_init_6 rfl kf_X2_9 am_eq (Nat.le_of_ble_eq_true rfl) (am_ok_int _) am_uu ?_
  refine aw_aload_n (npc := 10) rfl dX2_init_9 rfl ?_
  refine aw_iconst (npc := 11) (v := 0) (by decide) dX2_init_10 rfl ?_
  refine aw_put (npc := 14) dX2_init_11 rfl kf_X2_15 am_eq (Nat.le_of_ble_eq_true rfl) (am_ok_int _) am_uu ?_
  refine aw_aload_n (npc := 15) rfl dX2_init_14 rfl ?_
  refine aw_bipush (npc := 17) (v := 24) (by decide) dX2_init_15 rfl ?_
  refine aw_newi (npc := 19) (N := 24) dX2_init_17 rfl ka_int ⟨by decide, by decide⟩ (by decide) (by decide) rfl rfl rfl ?_
  refine aw_nn (n' := 52) rfl ?_
  refine aw_putF (npc := 22) dX2_init_19 rfl rfl (fun _ _ _ h9 => by cases h9; rfl) kf_X2_18 (am_ne (by decide) am_eq) (by decide) (am_ok_arr _ _) rfl ?_
  refine aw_vret rfl dX2_init_22 ?_
  refine aw_aast (npc := 124) (j := 2) dX7_init_123 rfl (am_ne (by decide) (am_ne (by decide) (am_ne (by decide) am_eq))) am_eq (by decide) ⟨by decide, by decide⟩ (by decide) rfl ?_
  refine aw_iinc (npc := 127) (v := 3) (L' := [some (.ref 0), some (.int 3)]) dX7_init_124 rfl rfl (by decide) (by decide) rfl rfl ?_
  refine aw_goto (npc := 106) dX7_init_127 (by decide) ?_
  refine aw_iload_n (npc := 107) rfl dX7_init_106 rfl ?_
  refine aw_iconst (npc := 108) (v := 4) (by decide) dX7_init_107 rfl ?_
  refine aw_icmp_ge (npc := 111) (tgt := 130) dX7_init_108 rfl (by decide) (fun hc => absurd hc (by decide)) (fun _ => ?_)
  refine aw_aload_n (npc := 112) rfl dX7_init_111 rfl ?_
  refine aw_get (npc := 115) dX7_init_112 rfl kf_X7_47 (am_ne (by decide) (am_ne (by decide) (am_ne (by decide) (am_ne (by decide) (am_ne (by decide) (am_ne (by decide) (am_ne (by decide) (am_ne (by decide) (am_ne (by decide) (am_ne (by decide) (am_ne (by decide) (am_ne (by decide) am_eq)))))))))))) rfl ?_
  refine aw_iload_n (npc := 116) rfl dX7_init_115 rfl ?_
  refine aw_new (npc := 119) dX7_init_116 rfl kn_X7_45 (by decide) rfl rfl rfl ?_
  refine aw_nn (n' := 53) rfl ?_
  refine aw_dup (npc := 120) rfl dX7_init_119 rfl ?_
  refine aw_callIN (npc := 123) (b := 52) (mc := 1) (ms := 24) (A := []) (S := [.ref 52, .int 3, .ref 43]) (L0 := [some (.ref 52)]) (rc' := 15) (rs' := 160) dX7_init_120 rfl km_X2_init kk_X7_65 rfl ⟨rfl, by decide⟩ rfl (Nat.le_of_ble_eq_true rfl) rfl rfl rfl ?_
  refine aw_aload_n (npc := 1) rfl dX2_init_0 rfl ?_
  refine aw_obj (npc := 4) dX2_init_1 rfl ko_X2_3 ko_i ko_c (Nat.le_of_ble_eq_true rfl) ?_
  refine aw_aload_n (npc := 5) rfl dX2_init_4 rfl ?_
  refine aw_iconst (npc := 6) (v := -1) (by decide) dX2_init_5 rfl ?_
  refine aw_put (npc := 9) dX2_init_6 rfl kf_X2_9 am_eq (Nat.le_of_ble_eq_true rfl) (am_ok_int _) am_uu ?_
  refine aw_aload_n (npc := 10) rfl dX2_init_9 rfl ?_
  refine aw_iconst (npc := 11) (v := 0) (by decide) dX2_init_10 rfl ?_
  refine aw_put (npc := 14) dX2_init_11 rfl kf_X2_15 am_eq (Nat.le_of_ble_eq_true rfl) (am_ok_int _) am_uu ?_
  refine aw_aload_n (npc := 15) rfl dX2_init_14 rfl ?_
  refine aw_bipush (npc := 17) (v := 24) (by decide) dX2_init_15 rfl ?_
  refine aw_newi (npc := 19) (N := 24) dX2_init_17 rfl ka_int ⟨by decide, by decide⟩ (by decide) (by decide) rfl rfl rfl ?_
  refine aw_nn (n' := 54) rfl ?_
  refine aw_putF (npc := 22) dX2_init_19 rfl rfl (fun _ _ _ h9 => by cases h9; rfl) kf_X2_18 (am_ne (by decide) am_eq) (by decide) (am_ok_arr _ _) rfl ?_
  refine aw_vret rfl dX2_init_22 ?_
  refine aw_aast (npc := 124) (j := 3) dX7_init_123 rfl (am_ne (by decide) (am_ne (by decide) (am_ne (by decide) am_eq))) am_eq (by decide) ⟨by decide, by decide⟩ (by decide) rfl ?_
  refine aw_iinc (npc := 127) (v := 4) (L' := [some (.ref 0), some (.int 4)]) dX7_init_124 rfl rfl (by decide) (by decide) rfl rfl ?_
  refine aw_goto (npc := 106) dX7_init_127 (by decide) ?_
  refine aw_iload_n (npc := 107) rfl dX7_init_106 rfl ?_
  refine aw_iconst (npc := 108) (v := 4) (by decide) dX7_init_107 rfl ?_
  refine aw_icmp_ge (npc := 111) (tgt := 130) dX7_init_108 rfl (by decide) (fun _ => ?_) (fun hc => absurd (by decide) hc)
  refine aw_iconst (npc := 131) (v := 0) (by decide) dX7_init_130 rfl ?_
  refine aw_istore_n (npc := 132) (L' := [some (.ref 0), some (.int 0)]) dX7_init_131 rfl (by decide) rfl rfl ?_
  refine aw_iload_n (npc := 133) rfl dX7_init_132 rfl ?_
  refine aw_iconst (npc := 134) (v := 5) (by decide) dX7_init_133 rfl ?_
  refine aw_icmp_ge (npc := 137) (tgt := 156) dX7_init_134 rfl (by decide) (fun hc => absurd hc (by decide)) (fun _ => ?_)
  refine aw_aload_n (npc := 138) rfl dX7_init_137 rfl ?_
  refine aw_get (npc := 141) dX7_init_138 rfl kf_X7_53 (am_ne (by decide) (am_ne (by decide) (am_ne (by decide) (am_ne (by decide) (am_ne (by decide) (am_ne (by decide) (am_ne (by decide) (am_ne (by decide) (am_ne (by decide) (am_ne (by decide) (am_ne (by decide) (am_ne (by decide) (am_ne (by decide) (am_ne (by decide) (am_ne (by decide) (am_ne (by decide) am_eq)))))))))))))))) rfl ?_
  refine aw_iload_n (npc := 142) rfl dX7_init_141 rfl ?_
  refine aw_new (npc := 145) dX7_init_142 rfl kn_X7_51 (by decide) rfl rfl rfl ?_
  refine aw_nn (n' := 55) rfl ?_
  refine aw_dup (npc := 146) rfl dX7_init_145 rfl ?_
  refine aw_callIN (npc := 149) (b := 54) (mc := 2) (ms := 27) (A := []) (S := [.ref 54, .int 0, .ref 44]) (L0 := [some (.ref 54)]) (rc' := 12) (rs' := 128) dX7_init_146 rfl km_X3_init kk_X7_66 rfl ⟨rfl, by decide⟩ rfl (Nat.le_of_ble_eq_true rfl) rfl rfl rfl ?_
  refine aw_aload_n (npc := 1) rfl dX3_init_0 rfl ?_
  refine aw_obj (npc := 4) dX3_init_1 rfl ko_X3_3 ko_i ko_c (Nat.le_of_ble_eq_true rfl) ?_
  refine aw_aload_n (npc := 5) rfl dX3_init_4 rfl ?_
  refine aw_iconst (npc := 6) (v := 0) (by decide) dX3_init_5 rfl ?_
  refine aw_put (npc := 9) dX3_init_6 rfl kf_X3_9 am_eq (Nat.le_of_ble_eq_true rfl) (am_ok_int _) am_uu ?_
  refine aw_aload_n (npc := 10) rfl dX3_init_9 rfl ?_
  refine aw_iconst (npc := 11) (v := 0) (by decide) dX3_init_10 rfl ?_
  refine aw_put (npc := 14) dX3_init_11 rfl kf_X3_15 am_eq (Nat.le_of_ble_eq_true rfl) (am_ok_int _) am_uu ?_
  refine aw_aload_n (npc := 15) rfl dX3_init_14 rfl ?_
  refine aw_iconst (npc := 16) (v := 0) (by decide) dX3_init_15 rfl ?_
  refine aw_put (npc := 19) dX3_init_16 rfl kf_X3_18 am_eq (Nat.le_of_ble_eq_true rfl) (am_ok_int _) am_uu ?_
  refine aw_aload_n (npc := 20) rfl dX3_init_19 rfl ?_
  refine aw_iconst (npc := 21) (v := 0) (by decide) dX3_init_20 rfl ?_
  refine aw_put (npc := 24) dX3_init_21 rfl kf_X3_21 am_eq (Nat.le_of_ble_eq_true rfl) (am_ok_int _) am_uu ?_
  refine aw_aload_n (npc := 25) rfl dX3_init_24 rfl ?_
  refine aw_new (npc := 28) dX3_init_25 rfl kn_X3_24 (by decide) rfl rfl rfl ?_
  refine aw_nn (n' := 56) rfl ?_
  refine aw_dup (npc := 29) rfl dX3_init_28 rfl ?_
  refine aw_callIN (npc := 32) (b := 55) (mc := 1) (ms := 24) (A := []) (S := [.ref 55, .ref 54]) (L0 := [some (.ref 55)]) (rc' := 0) (rs' := 0) dX3_init_29 rfl km_X2_init kk_X3_26 rfl ⟨rfl, by decide⟩ rfl (Nat.le_of_ble_eq_true rfl) rfl rfl rfl ?_
  refine aw_aload_n (npc := 1) rfl dX2_init_0 rfl ?_
  refine aw_obj (npc := 4) dX2_init_1 rfl ko_X2_3 ko_i ko_c (Nat.le_of_ble_eq_true rfl) ?_
  refine aw_aload_n (npc := 5) rfl dX2_init_4 rfl ?_
  refine aw_iconst (npc := 6) (v := -1) (by decide) dX2_init_5 rfl ?_
  refine aw_put (npc := 9) dX2_init_6 rfl kf_X2_9 am_eq (Nat.le_of_ble_eq_true rfl) (am_ok_int _) am_uu ?_
  refine aw_aload_n (npc := 10) rfl dX2_init_9 rfl ?_
  refine aw_iconst (npc := 11) (v := 0) (by decide) dX2_init_10 rfl ?_
  refine aw_put (npc := 14) dX2_init_11 rfl kf_X2_15 am_eq (Nat.le_of_ble_eq_true rfl) (am_ok_int _) am_uu ?_
  refine aw_aload_n (npc := 15) rfl dX2_init_14 rfl ?_
  refine aw_bipush (npc := 17) (v := 24) (by decide) dX2_init_15 rfl ?_
  refine aw_newi (npc := 19) (N := 24) dX2_init_17 rfl ka_int ⟨by decide, by decide⟩ (by decide) (by decide) rfl rfl rfl ?_
  refine aw_nn (n' := 57) rfl ?_
  refine aw_putF (npc := 22) dX2_init_19 rfl rfl (fun _ _ _ h9 => by cases h9; rfl) kf_X2_18 (am_ne (by decide) am_eq) (by decide) (am_ok_arr _ _) rfl ?_
  refine aw_vret rfl dX2_init_22 ?_
  refine aw_putF (npc := 35) dX3_init_32 rfl rfl (fun _ _ _ h9 => by cases h9; rfl) kf_X3_27 (am_ne (by decide) (am_ne (by decide) (am_ne (by decide) am_eq))) (by decide) (am_ok_obj _ _) rfl ?_
  refine aw_vret rfl dX3_init_35 ?_
  refine aw_aast (npc := 150) (j := 0) dX7_init_149 rfl (am_ne (by decide) (am_ne (by decide) (am_ne (by decide) (am_ne (by decide) (am_ne (by decide) (am_ne (by decide) (am_ne (by decide) (am_ne (by decide) (am_ne (by decide) (am_ne (by decide) (am_ne (by decide) (am_ne (by decide) (am_ne (by decide) (am_ne (by decide) (am_ne (by decide) (am_ne (by decide) (am_ne (by decide) (am_ne (by decide) (am_ne (by decide) (am_ne (by decide) (am_ne (by decide) (am_ne (by decide) (am_ne (by decide) (am_ne (by decide) am_eq)))))))))))))))))))))))) am_eq (by decide) ⟨by decide, by decide⟩ (by decide) rfl ?_
  refine aw_iinc (npc := 153) (v := 1) (L' := [some (.ref 0), some (.int 1)]) dX7_init_150 rfl rfl (by decide) (by decide) rfl rfl ?_
  refine aw_goto (npc := 132) dX7_init_153 (by decide) ?_
  refine aw_iload_n (npc := 133) rfl dX7_init_132 rfl ?_
  refine aw_iconst (npc := 134) (v := 5) (by decide) dX7_init_133 rfl ?_
  refine aw_icmp_ge (npc := 137) (tgt := 156) dX7_init_134 rfl (by decide) (fun hc => absurd hc (by decide)) (fun _ => ?_)
  refine aw_aload_n (npc := 138) rfl dX7_init_137 rfl ?_
  refine aw_get (npc := 141) dX7_init_138 rfl kf_X7_53 (am_ne (by decide) (am_ne (by decide) (am_ne (by decide) (am_ne (by decide) (am_ne (by decide) (am_ne (by decide) (am_ne (by decide) (am_ne (by decide) (am_ne (by decide) (am_ne (by decide) (am_ne (by decide) (am_ne (by decide) (am_ne (by decide) (am_ne (by decide) (am_ne (by decide) (am_ne (by decide) (am_ne (by decide) (am_ne (by decide) (am_ne (by decide) (am_ne (by decide) (am_ne (by decide) (am_ne (by decide) am_eq)))))))))))))))))))))) rfl ?_
  refine aw_iload_n (npc := 142) rfl dX7_init_141 rfl ?_
  refine aw_new (npc := 145) dX7_init_142 rfl kn_X7_51 (by decide) rfl rfl rfl ?_
  refine aw_nn (n' := 58) rfl ?_
  refine aw_dup (npc := 146) rfl dX7_init_145 rfl ?_
  refine aw_callIN (npc := 149) (b := 57) (mc := 2) (ms := 27) (A := []) (S := [.ref 57, .int 1, .ref 44]) (L0 := [some (.ref 57)]) (rc' := 9) (rs' := 96) dX7_init_146 rfl km_X3_init kk_X7_66 rfl ⟨rfl, by decide⟩ rfl (Nat.le_of_ble_eq_true rfl) rfl rfl rfl ?_
  refine aw_aload_n (npc := 1) rfl dX3_init_0 rfl ?_
  refine aw_obj (npc := 4) dX3_init_1 rfl ko_X3_3 ko_i ko_c (Nat.le_of_ble_eq_true rfl) ?_
  refine aw_aload_n (npc := 5) rfl dX3_init_4 rfl ?_
  refine aw_iconst (npc := 6) (v := 0) (by decide) dX3_init_5 rfl ?_
  refine aw_put (npc := 9) dX3_init_6 rfl kf_X3_9 am_eq (Nat.le_of_ble_eq_true rfl) (am_ok_int _) am_uu ?_
  refine aw_aload_n (npc := 10) rfl dX3_init_9 rfl ?_
  refine aw_iconst (npc := 11) (v := 0) (by decide) dX3_init_10 rfl ?_
  refine aw_put (npc := 14) dX3_init_11 rfl kf_X3_15 am_eq (Nat.le_of_ble_eq_true rfl) (am_ok_int _) am_uu ?_
  refine aw_aload_n (npc := 15) rfl dX3_init_14 rfl ?_
  refine aw_iconst (npc := 16) (v := 0) (by decide) dX3_init_15 rfl ?_
  refine aw_put (npc := 19) dX3_init_16 rfl kf_X3_18 am_eq (Nat.le_of_ble_eq_true rfl) (am_ok_int _) am_uu ?_
  refine aw_aload_n (npc := 20) rfl dX3_init_19 rfl ?_
  refine aw_iconst (npc := 21) (v := 0) (by decide) dX3_init_20 rfl ?_
  refine aw_put (npc := 24) dX3_init_21 rfl kf_X3_21 am_eq (Nat.le_of_ble_eq_true rfl) (am_ok_int _) am_uu ?_
  refine aw_aload_n (npc := 25) rfl dX3_init_24 rfl ?_
  refine aw_new (npc := 28) dX3_init_25 rfl kn_X3_24 (by decide) rfl rfl rfl ?_
  refine aw_nn (n' := 59) rfl ?_
  refine aw_dup (npc := 29) rfl dX3_init_28 rfl ?_
  refine aw_callIN (npc := 32) (b := 58) (mc := 1) (ms := 24) (A := []) (S := [.ref 58, .ref 57]) (L0 := [some (.ref 58)]) (rc' := 0) (rs' := 0) dX3_init_29 rfl km_X2_init kk_X3_26 rfl ⟨rfl, by decide⟩ rfl (Nat.le_of_ble_eq_true rfl) rfl rfl rfl ?_
  refine aw_aload_n (npc := 1) rfl dX2_init_0 rfl ?_
  refine aw_obj (npc := 4) dX2_init_1 rfl ko_X2_3 ko_i ko_c (Nat.le_of_ble_eq_true rfl) ?_
  refine aw_aload_n (npc := 5) rfl dX2_init_4 rfl ?_
  refine aw_iconst (npc := 6) (v := -1) (by decide) dX2_init_5 rfl ?_
  refine aw_put (npc := 9) dX2_init_6 rfl kf_X2_9 am_eq (Nat.le_of_ble_eq_true rfl) (am_ok_int _) am_uu ?_
  refine aw_aload_n (npc := 10) rfl dX2_init_9 rfl ?_
  refine aw_iconst (npc := 11) (v := 0) (by decide) dX2_init_10 rfl ?_
  refine aw_put (npc := 14) dX2_init_11 rfl kf_X2_15 am_eq (Nat.le_of_ble_eq_true rfl) (am_ok_int _) am_uu ?_
  refine aw_aload_n (npc := 15) rfl dX2_init_14 rfl ?_
  refine aw_bipush (npc := 17) (v := 24) (by decide) dX2_init_15 rfl ?_
  refine aw_newi (npc := 19) (N := 24) dX2_init_17 rfl ka_int ⟨by decide, by decide⟩ (by decide) (by decide) rfl rfl rfl ?_
  refine aw_nn (n' := 60) rfl ?_
  refine aw_putF (npc := 22) dX2_init_19 rfl rfl (fun _ _ _ h9 => by cases h9; rfl) kf_X2_18 (am_ne (by decide) am_eq) (by decide) (am_ok_arr _ _) rfl ?_
  refine aw_vret rfl dX2_init_22 ?_
  refine aw_putF (npc := 35) dX3_init_32 rfl rfl (fun _ _ _ h9 => by cases h9; rfl) kf_X3_27 (am_ne (by decide) (am_ne (by decide) (am_ne (by decide) am_eq))) (by decide) (am_ok_obj _ _) rfl ?_
  refine aw_vret rfl dX3_init_35 ?_
  refine aw_aast (npc := 150) (j := 1) dX7_init_149 rfl (am_ne (by decide) (am_ne (by decide) (am_ne (by decide) (am_ne (by decide) (am_ne (by decide) am_eq))))) am_eq (by decide) ⟨by decide, by decide⟩ (by decide) rfl ?_
  refine aw_iinc (npc := 153) (v := 2) (L' := [some (.ref 0), some (.int 2)]) dX7_init_150 rfl rfl (by decide) (by decide) rfl rfl ?_
  refine aw_goto (npc := 132) dX7_init_153 (by decide) ?_
  refine aw_iload_n (npc := 133) rfl dX7_init_132 rfl ?_
  refine aw_iconst (npc := 134) (v := 5) (by decide) dX7_init_133 rfl ?_
  refine aw_icmp_ge (npc := 137) (tgt := 156) dX7_init_134 rfl (by decide) (fun hc => absurd hc (by decide)) (fun _ => ?_)
  refine aw_aload_n (npc := 138) rfl dX7_init_137 rfl ?_
  refine aw_get (npc := 141) dX7_init_138 rfl kf_X7_53 (am_ne (by decide) (am_ne (by decide) (am_ne (by decide) (am_ne (by decide) (am_ne (by decide) (am_ne (by decide) (am_ne (by decide) (am_ne (by decide) (am_ne (by decide) (am_ne (by decide) (am_ne (by decide) (am_ne (by decide) (am_ne (by decide) (am_ne (by decide) (am_ne (by decide) (am_ne (by decide) (am_ne (by decide) (am_ne (by decide) (am_ne (by decide) (am_ne (by decide) (am_ne (by decide) (am_ne (by decide) (am_ne (by decide) (am_ne (by decide) (am_ne (by decide) (am_ne (by decide) (am_ne (by decide) (am_ne (by decide) am_eq)))))))))))))))))))))))))))) rfl ?_
  refine aw_iload_n (npc := 142) rfl dX7_init_141 rfl ?_
  refine aw_new (npc := 145) dX7_init_142 rfl kn_X7_51 (by decide) rfl rfl rfl ?_
  refine aw_nn (n' := 61) rfl ?_
  refine aw_dup (npc := 146) rfl dX7_init_145 rfl ?_
  refine aw_callIN (npc := 149) (b := 60) (mc := 2) (ms := 27) (A := []) (S := [.ref 60, .int 2, .ref 44]) (L0 := [some (.ref 60)]) (rc' := 6) (rs' := 64) dX7_init_146 rfl km_X3_init kk_X7_66 rfl ⟨rfl, by decide⟩ rfl (Nat.le_of_ble_eq_true rfl) rfl rfl rfl ?_
  refine aw_aload_n (npc := 1) rfl dX3_init_0 rfl ?_
  refine aw_obj (npc := 4) dX3_init_1 rfl ko_X3_3 ko_i ko_c (Nat.le_of_ble_eq_true rfl) ?_
  refine aw_aload_n (npc := 5) rfl dX3_init_4 rfl ?_
  refine aw_iconst (npc := 6) (v := 0) (by decide) dX3_init_5 rfl ?_
  refine aw_put (npc := 9) dX3_init_6 rfl kf_X3_9 am_eq (Nat.le_of_ble_eq_true rfl) (am_ok_int _) am_uu ?_
  refine aw_aload_n (npc := 10) rfl dX3_init_9 rfl ?_
  refine aw_iconst (npc := 11) (v := 0) (by decide) dX3_init_10 rfl ?_
  refine aw_put (npc := 14) dX3_init_11 rfl kf_X3_15 am_eq (Nat.le_of_ble_eq_true rfl) (am_ok_int _) am_uu ?_
  refine aw_aload_n (npc := 15) rfl dX3_init_14 rfl ?_
  refine aw_iconst (npc := 16) (v := 0) (by decide) dX3_init_15 rfl ?_
  refine aw_put (npc := 19) dX3_init_16 rfl kf_X3_18 am_eq (Nat.le_of_ble_eq_true rfl) (am_ok_int _) am_uu ?_
  refine aw_aload_n (npc := 20) rfl dX3_init_19 rfl ?_
  refine aw_iconst (npc := 21) (v := 0) (by decide) dX3_init_20 rfl ?_
  refine aw_put (npc := 24) dX3_init_21 rfl kf_X3_21 am_eq (Nat.le_of_ble_eq_true rfl) (am_ok_int _) am_uu ?_
  refine aw_aload_n (npc := 25) rfl dX3_init_24 rfl ?_
  refine aw_new (npc := 28) dX3_init_25 rfl kn_X3_24 (by decide) rfl rfl rfl ?_
  refine aw_nn (n' := 62) rfl ?_
  refine aw_dup (npc := 29) rfl dX3_init_28 rfl ?_
  refine aw_callIN (npc := 32) (b := 61) (mc := 1) (ms := 24) (A := []) (S := [.ref 61, .ref 60]) (L0 := [some (.ref 61)]) (rc' := 0) (rs' := 0) dX3_init_29 rfl km_X2_init kk_X3_26 rfl ⟨rfl, by decide⟩ rfl (Nat.le_of_ble_eq_true rfl) rfl rfl rfl ?_
  refine aw_aload_n (npc := 1) rfl dX2_init_0 rfl ?_
  refine aw_obj (npc := 4) dX2_init_1 rfl ko_X2_3 ko_i ko_c (Nat.le_of_ble_eq_true rfl) ?_
  refine aw_aload_n (npc := 5) rfl dX2_init_4 rfl ?_
  refine aw_iconst (npc := 6) (v := -1) (by decide) dX2_init_5 rfl ?_
  refine aw_put (npc := 9) dX2_init_6 rfl kf_X2_9 am_eq (Nat.le_of_ble_eq_true rfl) (am_ok_int _) am_uu ?_
  refine aw_aload_n (npc := 10) rfl dX2_init_9 rfl ?_
  refine aw_iconst (npc := 11) (v := 0) (by decide) dX2_init_10 rfl ?_
  refine aw_put (npc := 14) dX2_init_11 rfl kf_X2_15 am_eq (Nat.le_of_ble_eq_true rfl) (am_ok_int _) am_uu ?_
  refine aw_aload_n (npc := 15) rfl dX2_init_14 rfl ?_
  refine aw_bipush (npc := 17) (v := 24) (by decide) dX2_init_15 rfl ?_
  refine aw_newi (npc := 19) (N := 24) dX2_init_17 rfl ka_int ⟨by decide, by decide⟩ (by decide) (by decide) rfl rfl rfl ?_
  refine aw_nn (n' := 63) rfl ?_
  refine aw_putF (npc := 22) dX2_init_19 rfl rfl (fun _ _ _ h9 => by cases h9; rfl) kf_X2_18 (am_ne (by decide) am_eq) (by decide) (am_ok_arr _ _) rfl ?_
  refine aw_vret rfl dX2_init_22 ?_
  refine aw_putF (npc := 35) dX3_init_32 rfl rfl (fun _ _ _ h9 => by cases h9; rfl) kf_X3_27 (am_ne (by decide) (am_ne (by decide) (am_ne (by decide) am_eq))) (by decide) (am_ok_obj _ _) rfl ?_
  refine aw_vret rfl dX3_init_35 ?_
  refine aw_aast (npc := 150) (j := 2) dX7_init_149 rfl (am_ne (by decide) (am_ne (by decide) (am_ne (by decide) (am_ne (by decide) (am_ne (by decide) am_eq))))) am_eq (by decide) ⟨by decide, by decide⟩ (by decide) rfl ?_
  refine aw_iinc (npc := 153) (v := 3) (L' := [some (.ref 0), some (.int 3)]) dX7_init_150 rfl rfl (by decide) (by decide) rfl rfl ?_
  refine aw_goto (npc := 132) dX7_init_153 (by decide) ?_
  refine aw_iload_n (npc := 133) rfl dX7_init_132 rfl ?_
  refine aw_iconst (npc := 134) (v := 5) (by decide) dX7_init_133 rfl ?_
  refine aw_icmp_ge (npc := 137) (tgt := 156) dX7_init_134 rfl (by decide) (fun hc => absurd hc (by decide)) (fun _ => ?_)
  refine aw_aload_n (npc := 138) rfl dX7_init_137 rfl ?_
  refine aw_get (npc := 141) dX7_init_138 rfl kf_X7_53 (am_ne (by decide) (am_ne (by decide) (am_ne (by decide) (am_ne (by decide) (am_ne (by decide) (am_ne (by decide) (am_ne (by decide) (am_ne (by decide) (am_ne (by decide) (am_ne (by decide) (am_ne (by decide) (am_ne (by decide) (am_ne (by decide) (am_ne (by decide) (am_ne (by decide) (am_ne (by decide) (am_ne (by decide) (am_ne (by decide) (am_ne (by decide) (am_ne (by decide) (am_ne (by decide) (am_ne (by decide) (am_ne (by decide) (am_ne (by decide) (am_ne (by decide) (am_ne (by decide) (am_ne (by decide) (am_ne (by decide) (am_ne (by decide) (am_ne (by decide) (am_ne (by decide) (am_ne (by decide) (am_ne (by decide) (am_ne (by decide) am_eq)))))))))))))))))))))))))))))))))) rfl ?_
  refine aw_iload_n (npc := 142) rfl dX7_init_141 rfl ?_
  refine aw_new (npc := 145) dX7_init_142 rfl kn_X7_51 (by decide) rfl rfl rfl ?_
  refine aw_nn (n' := 64) rfl ?_
  refine aw_dup (npc := 146) rfl dX7_init_145 rfl ?_
  refine aw_callIN (npc := 149) (b := 63) (mc := 2) (ms := 27) (A := []) (S := [.ref 63, .int 3, .ref 44]) (L0 := [some (.ref 63)]) (rc' := 3) (rs' := 32) dX7_init_146 rfl km_X3_init kk_X7_66 rfl ⟨rfl, by decide⟩ rfl (Nat.le_of_ble_eq_true rfl) rfl rfl rfl ?_
  refine aw_aload_n (npc := 1) rfl dX3_init_0 rfl ?_
  refine aw_obj (npc := 4) dX3_init_1 rfl ko_X3_3 ko_i ko_c (Nat.le_of_ble_eq_true rfl) ?_
  refine aw_aload_n (npc := 5) rfl dX3_init_4 rfl ?_
  refine aw_iconst (npc := 6) (v := 0) (by decide) dX3_init_5 rfl ?_
  refine aw_put (npc := 9) dX3_init_6 rfl kf_X3_9 am_eq (Nat.le_of_ble_eq_true rfl) (am_ok_int _) am_uu ?_
  refine aw_aload_n (npc := 10) rfl dX3_init_9 rfl ?_
  refine aw_iconst (npc := 11) (v := 0) (by decide) dX3_init_10 rfl ?_
  refine aw_put (npc := 14) dX3_init_11 rfl kf_X3_15 am_eq (Nat.le_of_ble_eq_true rfl) (am_ok_int _) am_uu ?_
  refine aw_aload_n (npc := 15) rfl dX3_init_14 rfl ?_
  refine aw_iconst (npc := 16) (v := 0) (by decide) dX3_init_15 rfl ?_
  refine aw_put (npc := 19) dX3_init_16 rfl kf_X3_18 am_eq (Nat.le_of_ble_eq_true rfl) (am_ok_int _) am_uu ?_
  refine aw_aload_n (npc := 20) rfl dX3_init_19 rfl ?_
  refine aw_iconst (npc := 21) (v := 0) (by decide) dX3_init_20 rfl ?_
  refine aw_put (npc := 24) dX3_init_21 rfl kf_X3_21 am_eq (Nat.le_of_ble_eq_true rfl) (am_ok_int _) am_uu ?_
  refine aw_aload_n (npc := 25) rfl dX3_init_24 rfl ?_
  refine aw_new (npc := 28) dX3_init_25 rfl kn_X3_24 (by decide) rfl rfl rfl ?_
  refine aw_nn (n' := 65) rfl ?_
  refine aw_dup (npc := 29) rfl dX3_init_28 rfl ?_
  refine aw_callIN (npc := 32) (b := 64) (mc := 1) (ms := 24) (A := []) (S := [.ref 64, .ref 63]) (L0 := [some (.ref 64)]) (rc' := 0) (rs' := 0) dX3_init_29 rfl km_X2_init kk_X3_26 rfl ⟨rfl, by decide⟩ rfl (Nat.le_of_ble_eq_true rfl) rfl rfl rfl ?_
  refine aw_aload_n (npc := 1) rfl dX2_init_0 rfl ?_
  refine aw_obj (npc := 4) dX2_init_1 rfl ko_X2_3 ko_i ko_c (Nat.le_of_ble_eq_true rfl) ?_
  refine aw_aload_n (npc := 5) rfl dX2_init_4 rfl ?_
  refine aw_iconst (npc := 6) (v := -1) (by decide) dX2_init_5 rfl ?_
  refine aw_put (npc := 9) dX2_init_6 rfl kf_X2_9 am_eq (Nat.le_of_ble_eq_true rfl) (am_ok_int _) am_uu ?_
  refine aw_aload_n (npc := 10) rfl dX2_init_9 rfl ?_
  refine aw_iconst (npc := 11) (v := 0) (by decide) dX2_init_10 rfl ?_
  refine aw_put (npc := 14) dX2_init_11 rfl kf_X2_15 am_eq (Nat.le_of_ble_eq_true rfl) (am_ok_int _) am_uu ?_
  refine aw_aload_n (npc := 15) rfl dX2_init_14 rfl ?_
  refine aw_bipush (npc := 17) (v := 24) (by decide) dX2_init_15 rfl ?_
  refine aw_newi (npc := 19) (N := 24) dX2_init_17 rfl ka_int ⟨by decide, by decide⟩ (by decide) (by decide) rfl rfl rfl ?_
  refine aw_nn (n' := 66) rfl ?_
  refine aw_putF (npc := 22) dX2_init_19 rfl rfl (fun _ _ _ h9 => by cases h9; rfl) kf_X2_18 (am_ne (by decide) am_eq) (by decide) (am_ok_arr _ _) rfl ?_
  refine aw_vret rfl dX2_init_22 ?_
  refine aw_putF (npc := 35) dX3_init_32 rfl rfl (fun _ _ _ h9 => by cases h9; rfl) kf_X3_27 (am_ne (by decide) (am_ne (by decide) (am_ne (by decide) am_eq))) (by decide) (am_ok_obj _ _) rfl ?_
  refine aw_vret rfl dX3_init_35 ?_
  refine aw_aast (npc := 150) (j := 3) dX7_init_149 rfl (am_ne (by decide) (am_ne (by decide) (am_ne (by decide) (am_ne (by decide) (am_ne (by decide) am_eq))))) am_eq (by decide) ⟨by decide, by decide⟩ (by decide) rfl ?_
  refine aw_iinc (npc := 153) (v := 4) (L' := [some (.ref 0), some (.int 4)]) dX7_init_150 rfl rfl (by decide) (by decide) rfl rfl ?_
  refine aw_goto (npc := 132) dX7_init_153 (by decide) ?_
  refine aw_iload_n (npc := 133) rfl dX7_init_132 rfl ?_
  refine aw_iconst (npc := 134) (v := 5) (by decide) dX7_init_133 rfl ?_
  refine aw_icmp_ge (npc := 137) (tgt := 156) dX7_init_134 rfl (by decide) (fun hc => absurd hc (by decide)) (fun _ => ?_)
  refine aw_aload_n (npc := 138) rfl dX7_init_137 rfl ?_
  refine aw_get (npc := 141) dX7_init_138 rfl kf_X7_53 (am_ne (by decide) (am_ne (by decide) (am_ne (by decide) (am_ne (by decide) (am_ne (by decide) (am_ne (by decide) (am_ne (by decide) (am_ne (by decide) (am_ne (by decide) (am_ne (by decide) (am_ne (by decide) (am_ne (by decide) (am_ne (by decide) (am_ne (by decide) (am_ne (by decide) (am_ne (by decide) (am_ne (by decide) (am_ne (by decide) (am_ne (by decide) (am_ne (by decide) (am_ne (by decide) (am_ne (by decide) (am_ne (by decide) (am_ne (by decide) (am_ne (by decide) (am_ne (by decide) (am_ne (by decide) (am_ne (by decide) (am_ne (by decide) (am_ne (by decide) (am_ne (by decide) (am_ne (by decide) (am_ne (by decide) (am_ne (by decide) (am_ne (by decide) (am_ne (by decide) (am_ne (by decide) (am_ne (by decide) (am_ne (by decide) (am_ne (by decide) am_eq)))))))))))))))))))))))))))))))))))))))) rfl ?_
  refine aw_iload_n (npc := 142) rfl dX7_init_141 rfl ?_
  refine aw_new (npc := 145) dX7_init_142 rfl kn_X7_51 (by decide) rfl rfl rfl ?_
  refine aw_nn (n' := 67) rfl ?_
  refine aw_dup (npc := 146) rfl dX7_init_145 rfl ?_
  refine aw_callIN (npc := 149) (b := 66) (mc := 2) (ms := 27) (A := []) (S := [.ref 66, .int 4, .ref 44]) (L0 := [some (.ref 66)]) (rc' := 0) (rs' := 0) dX7_init_146 rfl km_X3_init kk_X7_66 rfl ⟨rfl, by decide⟩ rfl (Nat.le_of_ble_eq_true rfl) rfl rfl rfl ?_
  refine aw_aload_n (npc := 1) rfl dX3_init_0 rfl ?_
  refine aw_obj (npc := 4) dX3_init_1 rfl ko_X3_3 ko_i ko_c (Nat.le_of_ble_eq_true rfl) ?_
  refine aw_aload_n (npc := 5) rfl dX3_init_4 rfl ?_
  refine aw_iconst (npc := 6) (v := 0) (by decide) dX3_init_5 rfl ?_
  refine aw_put (npc := 9) dX3_init_6 rfl kf_X3_9 am_eq (Nat.le_of_ble_eq_true rfl) (am_ok_int _) am_uu ?_
  refine aw_aload_n (npc := 10) rfl dX3_init_9 rfl ?_
  refine aw_iconst (npc := 11) (v := 0) (by decide) dX3_init_10 rfl ?_
  refine aw_put (npc := 14) dX3_init_11 rfl kf_X3_15 am_eq (Nat.le_of_ble_eq_true rfl) (am_ok_int _) am_uu ?_
  refine aw_aload_n (npc := 15) rfl dX3_init_14 rfl ?_
  refine aw_iconst (npc := 16) (v := 0) (by decide) dX3_init_15 rfl ?_
  refine aw_put (npc := 19) dX3_init_16 rfl kf_X3_18 am_eq (Nat.le_of_ble_eq_true rfl) (am_ok_int _) am_uu ?_
  refine aw_aload_n (npc := 20) rfl dX3_init_19 rfl ?_
  refine aw_iconst (npc := 21) (v := 0) (by decide) dX3_init_20 rfl ?_
  refine aw_put (npc := 24) dX3_init_21 rfl kf_X3_21 am_eq (Nat.le_of_ble_eq_true rfl) (am_ok_int _) am_uu ?_
  refine aw_aload_n (npc := 25) rfl dX3_init_24 rfl ?_
  refine aw_new (npc := 28) dX3_init_25 rfl kn_X3_24 (by decide) rfl rfl rfl ?_
  refine aw_nn (n' := 68) rfl ?_
  refine aw_dup (npc := 29) rfl dX3_init_28 rfl ?_
  refine aw_callIN (npc := 32) (b := 67) (mc := 1) (ms := 24) (A := []) (S := [.ref 67, .ref 66]) (L0 := [some (.ref 67)]) (rc' := 0) (rs' := 0) dX3_init_29 rfl km_X2_init kk_X3_26 rfl ⟨rfl, by decide⟩ rfl (Nat.le_of_ble_eq_true rfl) rfl rfl rfl ?_
  refine aw_aload_n (npc := 1) rfl dX2_init_0 rfl ?_
  refine aw_obj (npc := 4) dX2_init_1 rfl ko_X2_3 ko_i ko_c (Nat.le_of_ble_eq_true rfl) ?_
  refine aw_aload_n (npc := 5) rfl dX2_init_4 rfl ?_
  refine aw_iconst (npc := 6) (v := -1) (by decide) dX2_init_5 rfl ?_
  refine aw_put (npc := 9) dX2_init_6 rfl kf_X2_9 am_eq (Nat.le_of_ble_eq_true rfl) (am_ok_int _) am_uu ?_
  refine aw_aload_n (npc := 10) rfl dX2_init_9 rfl ?_
  refine aw_iconst (npc := 11) (v := 0) (by decide) dX2_init_10 rfl ?_
  refine aw_put (npc := 14) dX2_init_11 rfl kf_X2_15 am_eq (Nat.le_of_ble_eq_true rfl) (am_ok_int _) am_uu ?_
  refine aw_aload_n (npc := 15) rfl dX2_init_14 rfl ?_
  refine aw_bipush (npc := 17) (v := 24) (by decide) dX2_init_15 rfl ?_
  refine aw_newi (npc := 19) (N := 24) dX2_init_17 rfl ka_int ⟨by decide, by decide⟩ (by decide) (by decide) rfl rfl rfl ?_
  refine aw_nn (n' := 69) rfl ?_
  refine aw_putF (npc := 22) dX2_init_19 rfl rfl (fun _ _ _ h9 => by cases h9; rfl) kf_X2_18 (am_ne (by decide) am_eq) (by decide) (am_ok_arr _ _) rfl ?_
  refine aw_vret rfl dX2_init_22 ?_
  refine aw_putF (npc := 35) dX3_init_32 rfl rfl (fun _ _ _ h9 => by cases h9; rfl) kf_X3_27 (am_ne (by decide) (am_ne (by decide) (am_ne (by decide) am_eq))) (by decide) (am_ok_obj _ _) rfl ?_
  refine aw_vret rfl dX3_init_35 ?_
  refine aw_aast (npc := 150) (j := 4) dX7_init_149 rfl (am_ne (by decide) (am_ne (by decide) (am_ne (by decide) (am_ne (by decide) (am_ne (by decide) am_eq))))) am_eq (by decide) ⟨by decide, by decide⟩ (by decide) rfl ?_
  refine aw_iinc (npc := 153) (v := 5) (L' := [some (.ref 0), some (.int 5)]) dX7_init_150 rfl rfl (by decide) (by decide) rfl rfl ?_
  refine aw_goto (npc := 132) dX7_init_153 (by decide) ?_
  refine aw_iload_n (npc := 133) rfl dX7_init_132 rfl ?_
  refine aw_iconst (npc := 134) (v := 5) (by decide) dX7_init_133 rfl ?_
  refine aw_icmp_ge (npc := 137) (tgt := 156) dX7_init_134 rfl (by decide) (fun _ => ?_) (fun hc => absurd (by decide) hc)
  refine aw_vret rfl dX7_init_156 ?_
  refine hq _ ?_ ?_
  · exact ⟨(am_ne (by decide) (am_ne (by decide) (am_ne (by decide) (am_ne (by decide) (am_ne (by decide) (am_ne (by decide) (am_ne (by decide) (am_ne (by decide) (am_ne (by decide) (am_ne (by decide) (am_ne (by decide) (am_ne (by decide) (am_ne (by decide) (am_ne (by decide) (am_ne (by decide) (am_ne (by decide) (am_ne (by decide) (am_ne (by decide) (am_ne (by decide) (am_ne (by decide) (am_ne (by decide) (am_ne (by decide) (am_ne (by decide) (am_ne (by decide) (am_ne (by decide) (am_ne (by decide) (am_ne (by decide) (am_ne (by decide) (am_ne (by decide) (am_ne (by decide) (am_ne (by decide) (am_ne (by decide) (am_ne (by decide) (am_ne (by decide) (am_ne (by decide) (am_ne (by decide) (am_ne (by decide) (am_ne (by decide) (am_ne (by decide) (am_ne (by decide) (am_ne (by decide) (am_ne (by decide) (am_ne (by decide) (am_ne (by decide) (am_ne (by decide) (am_ne (by decide) am_eq)))))))))))))))))))))))))))))))))))))))))))))), (am_ne (by decide) (am_ne (by decide) (am_ne (by decide) (am_ne (by decide) (am_ne (by decide) (am_ne (by decide) (am_ne (by decide) (am_ne (by decide) (am_ne (by decide) (am_ne (by decide) (am_ne (by decide) (am_ne (by decide) (am_ne (by decide) (am_ne (by decide) (am_ne (by decide) (am_ne (by decide) (am_ne (by decide) (am_ne (by decide) (am_ne (by decide) (am_ne (by decide) (am_ne (by decide) (am_ne (by decide) (am_ne (by decide) (am_ne (by decide) (am_ne (by decide) (am_ne (by decide) (am_ne (by decide) (am_ne (by decide) (am_ne (by decide) (am_ne (by decide) (am_ne (by decide) (am_ne (by decide) (am_ne (by decide) (am_ne (by decide) (am_ne (by decide) (am_ne (by decide) (am_ne (by decide) (am_ne (by decide) (am_ne (by decide) (am_ne (by decide) (am_ne (by decide) (am_ne (by decide) (am_ne (by decide) (am_ne (by decide) (am_ne (by decide) (am_ne (by decide) (am_ne (by decide) (am_ne (by decide) (am_ne (by decide) (am_ne (by decide) (am_ne (by decide) (am_ne (by decide) (am_ne (by decide) (am_ne (by decide) (am_ne (by decide) (am_ne (by decide) (am_ne (by decide) (am_ne (by decide) (am_ne (by decide) (am_ne (by decide) (am_ne (by decide) (am_ne (by decide) (am_ne (by decide) (am_ne (by decide) (am_ne (by decide) (am_ne (by decide) (am_ne (by decide) (am_ne (by decide) (am_ne (by decide) (am_ne (by decide) (am_ne (by decide) (am_ne (by decide) (am_ne (by decide) (am_ne (by decide) (am_ne (by decide) (am_ne (by decide) (am_ne (by decide) (am_ne (by decide) (am_ne (by decide) (am_ne (by decide) (am_ne (by decide) (am_ne (by decide) (am_ne (by decide) (am_ne (by decide) (am_ne (by decide) (am_ne (by decide) (am_ne (by decide) (am_ne (by decide) (am_ne (by decide) (am_ne (by decide) (am_ne (by decide) (am_ne (by decide) (am_ne (by decide) (am_ne (by decide) (am_ne (by decide) (am_ne (by decide) (am_ne (by decide) (am_ne (by decide) (am_ne (by decide) (am_ne (by decide) (am_ne (by decide) (am_ne (by decide) (am_ne (by decide) (am_ne (by decide) (am_ne (by decide) (am_ne (by decide) (am_ne (by decide) (am_ne (by decide) (am_ne (by decide) (am_ne (by decide) (am_ne (by decide) (am_ne (by decide) (am_ne (by decide) am_eq))))))))))))))))))))))))))))))))))))))))))))))))))))))))))))))))))))))))))))))))))))))))))))))))))))))))))))))))), (am_ne (by decide) (am_ne (by decide) (am_ne (by decide) (am_ne (by decide) (am_ne (by decide) (am_ne (by decide) (am_ne (by decide) (am_ne (by decide) (am_ne (by decide) (am_ne (by decide) (am_ne (by decide) (am_ne (by decide) (am_ne (by decide) (am_ne (by decide) (am_ne (by decide) (am_ne (by decide) (am_ne (by decide) (am_ne (by decide) (am_ne (by decide) (am_ne (by decide) (am_ne (by decide) (am_ne (by decide) (am_ne (by decide) (am_ne (by decide) (am_ne (by decide) (am_ne (by decide) (am_ne (by decide) (am_ne (by decide) (am_ne (by decide) (am_ne (by decide) (am_ne (by decide) (am_ne (by decide) (am_ne (by decide) (am_ne (by decide) (am_ne (by decide) (am_ne (by decide) (am_ne (by decide) (am_ne (by decide) (am_ne (by decide) (am_ne (by decide) (am_ne (by decide) (am_ne (by decide) (am_ne (by decide) (am_ne (by decide) (am_ne (by decide) (am_ne (by decide) (am_ne (by decide) (am_ne (by decide) (am_ne (by decide) (am_ne (by decide) (am_ne (by decide) (am_ne (by decide) (am_ne (by decide) (am_ne (by decide) (am_ne (by decide) (am_ne (by decide) (am_ne (by decide) (am_ne (by decide) (am_ne (by decide) (am_ne (by decide) (am_ne (by decide) (am_ne (by decide) (am_ne (by decide) (am_ne (by decide) (am_ne (by decide) (am_ne (by decide) (am_ne (by decide) (am_ne (by decide) (am_ne (by decide) (am_ne (by decide) (am_ne (by decide) (am_ne (by decide) (am_ne (by decide) (am_ne (by decide) (am_ne (by decide) (am_ne (by decide) (am_ne (by decide) (am_ne (by decide) (am_ne (by decide) (am_ne (by decide) (am_ne (by decide) (am_ne (by decide) (am_ne (by decide) (am_ne (by decide) (am_ne (by decide) (am_ne (by decide) (am_ne (by decide) (am_ne (by decide) (am_ne (by decide) (am_ne (by decide) (am_ne (by decide) (am_ne (by decide) (am_ne (by decide) (am_ne (by decide) (am_ne (by decide) (am_ne (by decide) (am_ne (by decide) (am_ne (by decide) (am_ne (by decide) (am_ne (by decide) (am_ne (by decide) (am_ne (by decide) (am_ne (by decide) (am_ne (by decide) (am_ne (by decide) (am_ne (by decide) (am_ne (by decide) (am_ne (by decide) (am_ne (by decide) (am_ne (by decide) (am_ne (by decide) (am_ne (by decide) (am_ne (by decide) (am_ne (by decide) (am_ne (by decide) (am_ne (by decide) (am_ne (by decide) (am_ne (by decide) (am_ne (by decide) (am_ne (by decide) (am_ne (by decide) (am_ne (by decide) (am_ne (by decide) (am_ne (by decide) (am_ne (by decide) (am_ne (by decide) (am_ne (by decide) (am_ne (by decide) (am_ne (by decide) (am_ne (by decide) (am_ne (by decide) (am_ne (by decide) (am_ne (by decide) (am_ne (by decide) am_eq)))))))))))))))))))))))))))))))))))))))))))))))))))))))))))))))))))))))))))))))))))))))))))))))))))))))))))))))))))))))))))))))))))))), (am_ne (by decide) (am_ne (by decide) (am_ne (by decide) (am_ne (by decide) (am_ne (by decide) (am_ne (by decide) (am_ne (by decide) (am_ne (by decide) (am_ne (by decide) (am_ne (by decide) (am_ne (by decide) (am_ne (by decide) (am_ne (by decide) (am_ne (by decide) (am_ne (by decide) (am_ne (by decide) (am_ne (by decide) (am_ne (by decide) (am_ne (by decide) (am_ne (by decide) (am_ne (by decide) (am_ne (by decide) (am_ne (by decide) (am_ne (by decide) (am_ne (by decide) (am_ne (by decide) (am_ne (by decide) (am_ne (by decide) (am_ne (by decide) (am_ne (by decide) (am_ne (by decide) (am_ne (by decide) (am_ne (by decide) (am_ne (by decide) (am_ne (by decide) (am_ne (by decide) (am_ne (by decide) (am_ne (by decide) (am_ne (by decide) (am_ne (by decide) (am_ne (by decide) (am_ne (by decide) (am_ne (by decide) (am_ne (by decide) (am_ne (by decide) (am_ne (by decide) (am_ne (by decide) (am_ne (by decide) (am_ne (by decide) (am_ne (by decide) (am_ne (by decide) (am_ne (by decide) (am_ne (by decide) (am_ne (by decide) (am_ne (by decide) (am_ne (by decide) (am_ne (by decide) (am_ne (by decide) (am_ne (by decide) (am_ne (by decide) (am_ne (by decide) (am_ne (by decide) (am_ne (by decide) (am_ne (by decide) (am_ne (by decide) (am_ne (by decide) (am_ne (by decide) (am_ne (by decide) (am_ne (by decide) (am_ne (by decide) (am_ne (by decide) (am_ne (by decide) (am_ne (by decide) (am_ne (by decide) (am_ne (by decide) (am_ne (by decide) (am_ne (by decide) (am_ne (by decide) (am_ne (by decide) (am_ne (by decide) (am_ne (by decide) (am_ne (by decide) (am_ne (by decide) (am_ne (by decide) (am_ne (by decide) (am_ne (by decide) (am_ne (by decide) (am_ne (by decide) (am_ne (by decide) (am_ne (by decide) (am_ne (by decide) (am_ne (by decide) (am_ne (by decide) (am_ne (by decide) (am_ne (by decide) (am_ne (by decide) (am_ne (by decide) (am_ne (by decide) (am_ne (by decide) (am_ne (by decide) (am_ne (by decide) (am_ne (by decide) (am_ne (by decide) (am_ne (by decide) (am_ne (by decide) (am_ne (by decide) (am_ne (by decide) (am_ne (by decide) (am_ne (by decide) (am_ne (by decide) (am_ne (by decide) (am_ne (by decide) (am_ne (by decide) (am_ne (by decide) (am_ne (by decide) (am_ne (by decide) (am_ne (by decide) (am_ne (by decide) (am_ne (by decide) (am_ne (by decide) (am_ne (by decide) (am_ne (by decide) (am_ne (by decide) (am_ne (by decide) (am_ne (by decide) (am_ne (by decide) (am_ne (by decide) (am_ne (by decide) (am_ne (by decide) (am_ne (by decide) (am_ne (by decide) (am_ne (by decide) am_eq)))))))))))))))))))))))))))))))))))))))))))))))))))))))))))))))))))))))))))))))))))))))))))))))))))))))))))))))))))))))))))))))))))), (am_ne (by decide) (am_ne (by decide) (am_ne (by decide) (am_ne (by decide) (am_ne (by decide) (am_ne (by decide) (am_ne (by decide) (am_ne (by decide) (am_ne (by decide) (am_ne (by decide) (am_ne (by decide) (am_ne (by decide) (am_ne (by decide) (am_ne (by decide) (am_ne (by decide) (am_ne (by decide) (am_ne (by decide) (am_ne (by decide) (am_ne (by decide) (am_ne (by decide) (am_ne (by decide) (am_ne (by decide) (am_ne (by decide) (am_ne (by decide) (am_ne (by decide) (am_ne (by decide) (am_ne (by decide) (am_ne (by decide) (am_ne (by decide) (am_ne (by decide) (am_ne (by decide) (am_ne (by decide) (am_ne (by decide) (am_ne (by decide) (am_ne (by decide) (am_ne (by decide) (am_ne (by decide) (am_ne (by decide) (am_ne (by decide) (am_ne (by decide) (am_ne (by decide) (am_ne (by decide) (am_ne (by decide) (am_ne (by decide) (am_ne (by decide) (am_ne (by decide) (am_ne (by decide) (am_ne (by decide) (am_ne (by decide) (am_ne (by decide) (am_ne (by decide) (am_ne (by decide) (am_ne (by decide) (am_ne (by decide) (am_ne (by decide) (am_ne (by decide) (am_ne (by decide) (am_ne (by decide) (am_ne (by decide) (am_ne (by decide) (am_ne (by decide) (am_ne (by decide) (am_ne (by decide) (am_ne (by decide) (am_ne (by decide) (am_ne (by decide) (am_ne (by decide) (am_ne (by decide) (am_ne (by decide) (am_ne (by decide) (am_ne (by decide) (am_ne (by decide) (am_ne (by decide) (am_ne (by decide) (am_ne (by decide) (am_ne (by decide) (am_ne (by decide) (am_ne (by decide) (am_ne (by decide) (am_ne (by decide) (am_ne (by decide) (am_ne (by decide) (am_ne (by decide) (am_ne (by decide) (am_ne (by decide) (am_ne (by decide) (am_ne (by decide) (am_ne (by decide) (am_ne (by decide) (am_ne (by decide) (am_ne (by decide) (am_ne (by decide) (am_ne (by decide) (am_ne (by decide) (am_ne (by decide) (am_ne (by decide) (am_ne (by decide) (am_ne (by decide) (am_ne (by decide) (am_ne (by decide) (am_ne (by decide) (am_ne (by decide) (am_ne (by decide) (am_ne (by decide) (am_ne (by decide) (am_ne (by decide) (am_ne (by decide) (am_ne (by decide) (am_ne (by decide) (am_ne (by decide) (am_ne (by decide) (am_ne (by decide) (am_ne (by decide) (am_ne (by decide) (am_ne (by decide) (am_ne (by decide) (am_ne (by decide) (am_ne (by decide) (am_ne (by decide) (am_ne (by decide) (am_ne (by decide) (am_ne (by decide) (am_ne (by decide) (am_ne (by decide) (am_ne (by decide) (am_ne (by decide) (am_ne (by decide) (am_ne (by decide) (am_ne (by decide) (am_ne (by decide) am_eq)))))))))))))))))))))))))))))))))))))))))))))))))))))))))))))))))))))))))))))))))))))))))))))))))))))))))))))))))))))))))))))))))), (am_ne (by decide) (am_ne (by decide) (am_ne (by decide) (am_ne (by decide) (am_ne (by decide) (am_ne (by decide) (am_ne (by decide) (am_ne (by decide) (am_ne (by decide) (am_ne (by decide) (am_ne (by decide) (am_ne (by decide) (am_ne (by decide) (am_ne (by decide) (am_ne (by decide) (am_ne (by decide) (am_ne (by decide) (am_ne (by decide) (am_ne (by decide) (am_ne (by decide) (am_ne (by decide) (am_ne (by decide) (am_ne (by decide) (am_ne (by decide) (am_ne (by decide) (am_ne (by decide) (am_ne (by decide) (am_ne (by decide) (am_ne (by decide) (am_ne (by decide) (am_ne (by decide) (am_ne (by decide) (am_ne (by decide) (am_ne (by decide) (am_ne (by decide) (am_ne (by decide) (am_ne (by decide) (am_ne (by decide) (am_ne (by decide) (am_ne (by decide) (am_ne (by decide) (am_ne (by decide) (am_ne (by decide) (am_ne (by decide) (am_ne (by decide) (am_ne (by decide) (am_ne (by decide) (am_ne (by decide) (am_ne (by decide) (am_ne (by decide) (am_ne (by decide) (am_ne (by decide) (am_ne (by decide) (am_ne (by decide) (am_ne (by decide) (am_ne (by decide) (am_ne (by decide) (am_ne (by decide) (am_ne (by decide) (am_ne (by decide) (am_ne (by decide) (am_ne (by decide) (am_ne (by decide) (am_ne (by decide) (am_ne (by decide) (am_ne (by decide) (am_ne (by decide) (am_ne (by decide) (am_ne (by decide) (am_ne (by decide) (am_ne (by decide) (am_ne (by decide) (am_ne (by decide) (am_ne (by decide) (am_ne (by decide) (am_ne (by decide) (am_ne (by decide) (am_ne (by decide) (am_ne (by decide) (am_ne (by decide) (am_ne (by decide) (am_ne (by decide) (am_ne (by decide) (am_ne (by decide) (am_ne (by decide) (am_ne (by decide) (am_ne (by decide) (am_ne (by decide) (am_ne (by decide) (am_ne (by decide) (am_ne (by decide) (am_ne (by decide) (am_ne (by decide) (am_ne (by decide) (am_ne (by decide) (am_ne (by decide) (am_ne (by decide) (am_ne (by decide) (am_ne (by decide) (am_ne (by decide) (am_ne (by decide) (am_ne (by decide) (am_ne (by decide) (am_ne (by decide) (am_ne (by decide) (am_ne (by decide) (am_ne (by decide) (am_ne (by decide) (am_ne (by decide) (am_ne (by decide) (am_ne (by decide) (am_ne (by decide) (am_ne (by decide) (am_ne (by decide) (am_ne (by decide) (am_ne (by decide) (am_ne (by decide) (am_ne (by decide) (am_ne (by decide) (am_ne (by decide) (am_ne (by decide) (am_ne (by decide) (am_ne (by decide) (am_ne (by decide) (am_ne (by decide) (am_ne (by decide) (am_ne (by decide) (am_ne (by decide) am_eq)))))))))))))))))))))))))))))))))))))))))))))))))))))))))))))))))))))))))))))))))))))))))))))))))))))))))))))))))))))))))))))))), (am_ne (by decide) (am_ne (by decide) (am_ne (by decide) (am_ne (by decide) (am_ne (by decide) (am_ne (by decide) (am_ne (by decide) (am_ne (by decide) (am_ne (by decide) (am_ne (by decide) (am_ne (by decide) (am_ne (by decide) (am_ne (by decide) (am_ne (by decide) (am_ne (by decide) (am_ne (by decide) (am_ne (by decide) (am_ne (by decide) (am_ne (by decide) (am_ne (by decide) (am_ne (by decide) (am_ne (by decide) (am_ne (by decide) (am_ne (by decide) (am_ne (by decide) (am_ne (by decide) (am_ne (by decide) (am_ne (by decide) (am_ne (by decide) (am_ne (by decide) (am_ne (by decide) (am_ne (by decide) (am_ne (by decide) (am_ne (by decide) (am_ne (by decide) (am_ne (by decide) (am_ne (by decide) (am_ne (by decide) (am_ne (by decide) (am_ne (by decide) (am_ne (by decide) (am_ne (by decide) (am_ne (by decide) (am_ne (by decide) (am_ne (by decide) (am_ne (by decide) (am_ne (by decide) (am_ne (by decide) (am_ne (by decide) (am_ne (by decide) (am_ne (by decide) (am_ne (by decide) (am_ne (by decide) (am_ne (by decide) (am_ne (by decide) (am_ne (by decide) (am_ne (by decide) (am_ne (by decide) (am_ne (by decide) (am_ne (by decide) (am_ne (by decide) (am_ne (by decide) (am_ne (by decide) (am_ne (by decide) (am_ne (by decide) (am_ne (by decide) (am_ne (by decide) (am_ne (by decide) (am_ne (by decide) (am_ne (by decide) (am_ne (by decide) (am_ne (by decide) (am_ne (by decide) (am_ne (by decide) (am_ne (by decide) (am_ne (by decide) (am_ne (by decide) (am_ne (by decide) (am_ne (by decide) (am_ne (by decide) (am_ne (by decide) (am_ne (by decide) (am_ne (by decide) (am_ne (by decide) (am_ne (by decide) (am_ne (by decide) (am_ne (by decide) (am_ne (by decide) (am_ne (by decide) (am_ne (by decide) (am_ne (by decide) (am_ne (by decide) (am_ne (by decide) (am_ne (by decide) (am_ne (by decide) (am_ne (by decide) (am_ne (by decide) (am_ne (by decide) (am_ne (by decide) (am_ne (by decide) (am_ne (by decide) (am_ne (by decide) (am_ne (by decide) (am_ne (by decide) (am_ne (by decide) (am_ne (by decide) (am_ne (by decide) (am_ne (by decide) (am_ne (by decide) (am_ne (by decide) (am_ne (by decide) (am_ne (by decide) (am_ne (by decide) (am_ne (by decide) (am_ne (by decide) (am_ne (by decide) (am_ne (by decide) (am_ne (by decide) (am_ne (by decide) (am_ne (by decide) (am_ne (by decide) (am_ne (by decide) (am_ne (by decide) (am_ne (by decide) (am_ne (by decide) (am_ne (by decide) am_eq)))))))))))))))))))))))))))))))))))))))))))))))))))))))))))))))))))))))))))))))))))))))))))))))))))))))))))))))))))))))))))))), (am_ne (by decide) (am_ne (by decide) (am_ne (by decide) (am_ne (by decide) (am_ne (by decide) (am_ne (by decide) (am_ne (by decide) (am_ne (by decide) (am_ne (by decide) (am_ne (by decide) (am_ne (by decide) (am_ne (by decide) (am_ne (by decide) (am_ne (by decide) (am_ne (by decide) (am_ne (by decide) (am_ne (by decide) (am_ne (by decide) (am_ne (by decide) (am_ne (by decide) (am_ne (by decide) (am_ne (by decide) (am_ne (by decide) (am_ne (by decide) (am_ne (by decide) (am_ne (by decide) (am_ne (by decide) (am_ne (by decide) (am_ne (by decide) (am_ne (by decide) (am_ne (by decide) (am_ne (by decide) (am_ne (by decide) (am_ne (by decide) (am_ne (by decide) (am_ne (by decide) (am_ne (by decide) (am_ne (by decide) (am_ne (by decide) (am_ne (by decide) (am_ne (by decide) (am_ne (by decide) (am_ne (by decide) (am_ne (by decide) (am_ne (by decide) (am_ne (by decide) (am_ne (by decide) (am_ne (by decide) (am_ne (by decide) (am_ne (by decide) (am_ne (by decide) (am_ne (by decide) (am_ne (by decide) (am_ne (by decide) (am_ne (by decide) (am_ne (by decide) (am_ne (by decide) (am_ne (by decide) (am_ne (by decide) (am_ne (by decide) (am_ne (by decide) (am_ne (by decide) (am_ne (by decide) (am_ne (by decide) (am_ne (by decide) (am_ne (by decide) (am_ne (by decide) (am_ne (by decide) (am_ne (by decide) (am_ne (by decide) (am_ne (by decide) (am_ne (by decide) (am_ne (by decide) (am_ne (by decide) (am_ne (by decide) (am_ne (by decide) (am_ne (by decide) (am_ne (by decide) (am_ne (by decide) (am_ne (by decide) (am_ne (by decide) (am_ne (by decide) (am_ne (by decide) (am_ne (by decide) (am_ne (by decide) (am_ne (by decide) (am_ne (by decide) (am_ne (by decide) (am_ne (by decide) (am_ne (by decide) (am_ne (by decide) (am_ne (by decide) (am_ne (by decide) (am_ne (by decide) (am_ne (by decide) (am_ne (by decide) (am_ne (by decide) (am_ne (by decide) (am_ne (by decide) (am_ne (by decide) (am_ne (by decide) (am_ne (by decide) (am_ne (by decide) (am_ne (by decide) (am_ne (by decide) (am_ne (by decide) (am_ne (by decide) (am_ne (by decide) (am_ne (by decide) (am_ne (by decide) (am_ne (by decide) (am_ne (by decide) (am_ne (by decide) (am_ne (by decide) (am_ne (by decide) (am_ne (by decide) (am_ne (by decide) (am_ne (by decide) (am_ne (by decide) (am_ne (by decide) (am_ne (by decide) (am_ne (by decide) (am_ne (by decide) (am_ne (by decide) am_eq)))))))))))))))))))))))))))))))))))))))))))))))))))))))))))))))))))))))))))))))))))))))))))))))))))))))))))))))))))))))))))), (am_ne (by decide) (am_ne (by decide) (am_ne (by decide) (am_ne (by decide) (am_ne (by decide) (am_ne (by decide) (am_ne (by decide) (am_ne (by decide) (am_ne (by decide) (am_ne (by decide) (am_ne (by decide) (am_ne (by decide) (am_ne (by decide) (am_ne (by decide) (am_ne (by decide) (am_ne (by decide) (am_ne (by decide) (am_ne (by decide) (am_ne (by decide) (am_ne (by decide) (am_ne (by decide) (am_ne (by decide) (am_ne (by decide) (am_ne (by decide) (am_ne (by decide) (am_ne (by decide) (am_ne (by decide) (am_ne (by decide) (am_ne (by decide) (am_ne (by decide) (am_ne (by decide) (am_ne (by decide) (am_ne (by decide) (am_ne (by decide) (am_ne (by decide) (am_ne (by decide) (am_ne (by decide) (am_ne (by decide) (am_ne (by decide) (am_ne (by decide) (am_ne (by decide) (am_ne (by decide) (am_ne (by decide) (am_ne (by decide) (am_ne (by decide) (am_ne (by decide) (am_ne (by decide) (am_ne (by decide) (am_ne (by decide) (am_ne (by decide) (am_ne (by decide) (am_ne (by decide) (am_ne (by decide) (am_ne (by decide) (am_ne (by decide) (am_ne (by decide) (am_ne (by decide) (am_ne (by decide) (am_ne (by decide) (am_ne (by decide) (am_ne (by decide) (am_ne (by decide) (am_ne (by decide) (am_ne (by decide) (am_ne (by decide) (am_ne (by decide) (am_ne (by decide) (am_ne (by decide) (am_ne (by decide) (am_ne (by decide) (am_ne (by decide) (am_ne (by decide) (am_ne (by decide) (am_ne (by decide) (am_ne (by decide) (am_ne (by decide) (am_ne (by decide) (am_ne (by decide) (am_ne (by decide) (am_ne (by decide) (am_ne (by decide) (am_ne (by decide) (am_ne (by decide) (am_ne (by decide) (am_ne (by decide) (am_ne (by decide) (am_ne (by decide) (am_ne (by decide) (am_ne (by decide) (am_ne (by decide) (am_ne (by decide) (am_ne (by decide) (am_ne (by decide) (am_ne (by decide) (am_ne (by decide) (am_ne (by decide) (am_ne (by decide) (am_ne (by decide) (am_ne (by decide) (am_ne (by decide) (am_ne (by decide) (am_ne (by decide) (am_ne (by decide) (am_ne (by decide) (am_ne (by decide) (am_ne (by decide) (am_ne (by decide) (am_ne (by decide) (am_ne (by decide) (am_ne (by decide) (am_ne (by decide) (am_ne (by decide) (am_ne (by decide) (am_ne (by decide) (am_ne (by decide) (am_ne (by decide) (am_ne (by decide) (am_ne (by decide) (am_ne (by decide) (am_ne (by decide) (am_ne (by decide) (am_ne (by decide) am_eq)))))))))))))))))))))))))))))))))))))))))))))))))))))))))))))))))))))))))))))))))))))))))))))))))))))))))))))))))))))))))), (am_ne (by decide) (am_ne (by decide) (am_ne (by decide) (am_ne (by decide) (am_ne (by decide) (am_ne (by decide) (am_ne (by decide) (am_ne (by decide) (am_ne (by decide) (am_ne (by decide) (am_ne (by decide) (am_ne (by decide) (am_ne (by decide) (am_ne (by decide) (am_ne (by decide) (am_ne (by decide) (am_ne (by decide) (am_ne (by decide) (am_ne (by decide) (am_ne (by decide) (am_ne (by decide) (am_ne (by decide) (am_ne (by decide) (am_ne (by decide) (am_ne (by decide) (am_ne (by decide) (am_ne (by decide) (am_ne (by decide) (am_ne (by decide) (am_ne (by decide) (am_ne (by decide) (am_ne (by decide) (am_ne (by decide) (am_ne (by decide) (am_ne (by decide) (am_ne (by decide) (am_ne (by decide) (am_ne (by decide) (am_ne (by decide) (am_ne (by decide) (am_ne (by decide) (am_ne (by decide) (am_ne (by decide) (am_ne (by decide) (am_ne (by decide) (am_ne (by decide) (am_ne (by decide) (am_ne (by decide) (am_ne (by decide) (am_ne (by decide) (am_ne (by decide) (am_ne (by decide) (am_ne (by decide) (am_ne (by decide) (am_ne (by decide) (am_ne (by decide) (am_ne (by decide) (am_ne (by decide) (am_ne (by decide) (am_ne (by decide) (am_ne (by decide) (am_ne (by decide) (am_ne (by decide) (am_ne (by decide) (am_ne (by decide) (am_ne (by decide) (am_ne (by decide) (am_ne (by decide) (am_ne (by decide) (am_ne (by decide) (am_ne (by decide) (am_ne (by decide) (am_ne (by decide) (am_ne (by decide) (am_ne (by decide) (am_ne (by decide) (am_ne (by decide) (am_ne (by decide) (am_ne (by decide) (am_ne (by decide) (am_ne (by decide) (am_ne (by decide) (am_ne (by decide) (am_ne (by decide) (am_ne (by decide) (am_ne (by decide) (am_ne (by decide) (am_ne (by decide) (am_ne (by decide) (am_ne (by decide) (am_ne (by decide) (am_ne (by decide) (am_ne (by decide) (am_ne (by decide) (am_ne (by decide) (am_ne (by decide) (am_ne (by decide) (am_ne (by decide) (am_ne (by decide) (am_ne (by decide) (am_ne (by decide) (am_ne (by decide) (am_ne (by decide) (am_ne (by decide) (am_ne (by decide) (am_ne (by decide) (am_ne (by decide) (am_ne (by decide) (am_ne (by decide) (am_ne (by decide) (am_ne (by decide) (am_ne (by decide) (am_ne (by decide) (am_ne (by decide) (am_ne (by decide) (am_ne (by decide) (am_ne (by decide) (am_ne (by decide) (am_ne (by decide) (am_ne (by decide) am_eq)))))))))))))))))))))))))))))))))))))))))))))))))))))))))))))))))))))))))))))))))))))))))))))))))))))))))))))))))))))))), (am_ne (by decide) (am_ne (by decide) (am_ne (by decide) (am_ne (by decide) (am_ne (by decide) (am_ne (by decide) (am_ne (by decide) (am_ne (by decide) (am_ne (by decide) (am_ne (by decide) (am_ne (by decide) (am_ne (by decide) (am_ne (by decide) (am_ne (by decide) (am_ne (by decide) (am_ne (by decide) (am_ne (by decide) (am_ne (by decide) (am_ne (by decide) (am_ne (by decide) (am_ne (by decide) (am_ne (by decide) (am_ne (by decide) (am_ne (by decide) (am_ne (by decide) (am_ne (by decide) (am_ne (by decide) (am_ne (by decide) (am_ne (by decide) (am_ne (by decide) (am_ne (by decide) (am_ne (by decide) (am_ne (by decide) (am_ne (by decide) (am_ne (by decide) (am_ne (by decide) (am_ne (by decide) (am_ne (by decide) (am_ne (by decide) (am_ne (by decide) (am_ne (by decide) (am_ne (by decide) (am_ne (by decide) (am_ne (by decide) (am_ne (by decide) (am_ne (by decide) (am_ne (by decide) (am_ne (by decide) (am_ne (by decide) (am_ne (by decide) (am_ne (by decide) (am_ne (by decide) (am_ne (by decide) (am_ne (by decide) (am_ne (by decide) (am_ne (by decide) (am_ne (by decide) (am_ne (by decide) (am_ne (by decide) (am_ne (by decide) (am_ne (by decide) (am_ne (by decide) (am_ne (by decide) (am_ne (by decide) (am_ne (by decide) (am_ne (by decide) (am_ne (by decide) (am_ne (by decide) (am_ne (by decide) (am_ne (by decide) (am_ne (by decide) (am_ne (by decide) (am_ne (by decide) (am_ne (by decide) (am_ne (by decide) (am_ne (by decide) (am_ne (by decide) (am_ne (by decide) (am_ne (by decide) (am_ne (by decide) (am_ne (by decide) (am_ne (by decide) (am_ne (by decide) (am_ne (by decide) (am_ne (by decide) (am_ne (by decide) (am_ne (by decide) (am_ne (by decide) (am_ne (by decide) (am_ne (by decide) (am_ne (by decide) (am_ne (by decide) (am_ne (by decide) (am_ne (by decide) (am_ne (by decide) (am_ne (by decide) (am_ne (by decide) (am_ne (by decide) (am_ne (by decide) (am_ne (by decide) (am_ne (by decide) (am_ne (by decide) (am_ne (by decide) (am_ne (by decide) (am_ne (by decide) (am_ne (by decide) (am_ne (by decide) (am_ne (by decide) (am_ne (by decide) (am_ne (by decide) (am_ne (by decide) (am_ne (by decide) (am_ne (by decide) (am_ne (by decide) (am_ne (by decide) (am_ne (by decide) (am_ne (by decide) (am_ne (by decide) am_eq)))))))))))))))))))))))))))))))))))))))))))))))))))))))))))))))))))))))))))))))))))))))))))))))))))))))))))))))))))))), (am_ne (by decide) (am_ne (by decide) (am_ne (by decide) (am_ne (by decide) (am_ne (by decide) (am_ne (by decide) (am_ne (by decide) (am_ne (by decide) (am_ne (by decide) (am_ne (by decide) (am_ne (by decide) (am_ne (by decide) (am_ne (by decide) (am_ne (by decide) (am_ne (by decide) (am_ne (by decide) (am_ne (by decide) (am_ne (by decide) (am_ne (by decide) (am_ne (by decide) (am_ne (by decide) (am_ne (by decide) (am_ne (by decide) (am_ne (by decide) (am_ne (by decide) (am_ne (by decide) (am_ne (by decide) (am_ne (by decide) (am_ne (by decide) (am_ne (by decide) (am_ne (by decide) (am_ne (by decide) (am_ne (by decide) (am_ne (by decide) (am_ne (by decide) (am_ne (by decide) (am_ne (by decide) (am_ne (by decide) (am_ne (by decide) (am_ne (by decide) (am_ne (by decide) (am_ne (by decide) (am_ne (by decide) (am_ne (by decide) (am_ne (by decide) (am_ne (by decide) (am_ne (by decide) (am_ne (by decide) (am_ne (by decide) (am_ne (by decide) (am_ne (by decide) (am_ne (by decide) (am_ne (by decide) (am_ne (by decide) (am_ne (by decide) (am_ne (by decide) (am_ne (by decide) (am_ne (by decide) (am_ne (by decide) (am_ne (by decide) (am_ne (by decide) (am_ne (by decide) (am_ne (by decide) (am_ne (by decide) (am_ne (by decide) (am_ne (by decide) (am_ne (by decide) (am_ne (by decide) (am_ne (by decide) (am_ne (by decide) (am_ne (by decide) (am_ne (by decide) (am_ne (by decide) (am_ne (by decide) (am_ne (by decide) (am_ne (by decide) (am_ne (by decide) (am_ne (by decide) (am_ne (by decide) (am_ne (by decide) (am_ne (by decide) (am_ne (by decide) (am_ne (by decide) (am_ne (by decide) (am_ne (by decide) (am_ne (by decide) (am_ne (by decide) (am_ne (by decide) (am_ne (by decide) (am_ne (by decide) (am_ne (by decide) (am_ne (by decide) (am_ne (by decide) (am_ne (by decide) (am_ne (by decide) (am_ne (by decide) (am_ne (by decide) (am_ne (by decide) (am_ne (by decide) (am_ne (by decide) (am_ne (by decide) (am_ne (by decide) (am_ne (by decide) (am_ne (by decide) (am_ne (by decide) (am_ne (by decide) (am_ne (by decide) (am_ne (by decide) (am_ne (by decide) (am_ne (by decide) (am_ne (by decide) (am_ne (by decide) (am_ne (by decide) (am_ne (by decide) (am_ne (by decide) (am_ne (by decide) am_eq)))))))))))))))))))))))))))))))))))))))))))))))))))))))))))))))))))))))))))))))))))))))))))))))))))))))))))))))))))), (am_ne (by decide) (am_ne (by decide) (am_ne (by decide) (am_ne (by decide) (am_ne (by decide) (am_ne (by decide) (am_ne (by decide) (am_ne (by decide) (am_ne (by decide) (am_ne (by decide) (am_ne (by decide) (am_ne (by decide) (am_ne (by decide) (am_ne (by decide) (am_ne (by decide) (am_ne (by decide) (am_ne (by decide) (am_ne (by decide) (am_ne (by decide) (am_ne (by decide) (am_ne (by decide) (am_ne (by decide) (am_ne (by decide) (am_ne (by decide) (am_ne (by decide) (am_ne (by decide) (am_ne (by decide) (am_ne (by decide) (am_ne (by decide) (am_ne (by decide) (am_ne (by decide) (am_ne (by decide) (am_ne (by decide) (am_ne (by decide) (am_ne (by decide) (am_ne (by decide) (am_ne (by decide) (am_ne (by decide) (am_ne (by decide) (am_ne (by decide) (am_ne (by decide) (am_ne (by decide) (am_ne (by decide) (am_ne (by decide) (am_ne (by decide) (am_ne (by decide) (am_ne (by decide) (am_ne (by decide) (am_ne (by decide) (am_ne (by decide) (am_ne (by decide) (am_ne (by decide) (am_ne (by decide) (am_ne (by decide) (am_ne (by decide) (am_ne (by decide) (am_ne (by decide) (am_ne (by decide) (am_ne (by decide) (am_ne (by decide) (am_ne (by decide) (am_ne (by decide) (am_ne (by decide) (am_ne (by decide) (am_ne (by decide) (am_ne (by decide) (am_ne (by decide) (am_ne (by decide) (am_ne (by decide) (am_ne (by decide) (am_ne (by decide) (am_ne (by decide) (am_ne (by decide) (am_ne (by decide) (am_ne (by decide) (am_ne (by decide) (am_ne (by decide) (am_ne (by decide) (am_ne (by decide) (am_ne (by decide) (am_ne (by decide) (am_ne (by decide) (am_ne (by decide) (am_ne (by decide) (am_ne (by decide) (am_ne (by decide) (am_ne (by decide) (am_ne (by decide) (am_ne (by decide) (am_ne (by decide) (am_ne (by decide) (am_ne (by decide) (am_ne (by decide) (am_ne (by decide) (am_ne (by decide) (am_ne (by decide) (am_ne (by decide) (am_ne (by decide) (am_ne (by decide) (am_ne (by decide) (am_ne (by decide) (am_ne (by decide) (am_ne (by decide) (am_ne (by decide) (am_ne (by decide) (am_ne (by decide) (am_ne (by decide) (am_ne (by decide) (am_ne (by decide) (am_ne (by decide) (am_ne (by decide) (am_ne (by decide) (am_ne (by decide) (am_ne (by decide) am_eq)))))))))))))))))))))))))))))))))))))))))))))))))))))))))))))))))))))))))))))))))))))))))))))))))))))))))))))))))), (am_ne (by decide) (am_ne (by decide) (am_ne (by decide) (am_ne (by decide) (am_ne (by decide) (am_ne (by decide) (am_ne (by decide) (am_ne (by decide) (am_ne (by decide) (am_ne (by decide) (am_ne (by decide) (am_ne (by decide) (am_ne (by decide) (am_ne (by decide) (am_ne (by decide) (am_ne (by decide) (am_ne (by decide) (am_ne (by decide) (am_ne (by decide) (am_ne (by decide) (am_ne (by decide) (am_ne (by decide) (am_ne (by decide) (am_ne (by decide) (am_ne (by decide) (am_ne (by decide) (am_ne (by decide) (am_ne (by decide) (am_ne (by decide) (am_ne (by decide) (am_ne (by decide) (am_ne (by decide) (am_ne (by decide) (am_ne (by decide) (am_ne (by decide) (am_ne (by decide) (am_ne (by decide) (am_ne (by decide) (am_ne (by decide) (am_ne (by decide) (am_ne (by decide) (am_ne (by decide) (am_ne (by decide) (am_ne (by decide) (am_ne (by decide) (am_ne (by decide) (am_ne (by decide) (am_ne (by decide) (am_ne (by decide) (am_ne (by decide) (am_ne (by decide) (am_ne (by decide) (am_ne (by decide) (am_ne (by decide) (am_ne (by decide) (am_ne (by decide) (am_ne (by decide) (am_ne (by decide) (am_ne (by decide) (am_ne (by decide) (am_ne (by decide) (am_ne (by decide) (am_ne (by decide) (am_ne (by decide) (am_ne (by decide) (am_ne (by decide) (am_ne (by decide) (am_ne (by decide) (am_ne (by decide) (am_ne (by decide) (am_ne (by decide) (am_ne (by decide) (am_ne (by decide) (am_ne (by decide) (am_ne (by decide) (am_ne (by decide) (am_ne (by decide) (am_ne (by decide) (am_ne (by decide) (am_ne (by decide) (am_ne (by decide) (am_ne (by decide) (am_ne (by decide) (am_ne (by decide) (am_ne (by decide) (am_ne (by decide) (am_ne (by decide) (am_ne (by decide) (am_ne (by decide) am_eq))))))))))))))))))))))))))))))))))))))))))))))))))))))))))))))))))))))))))))))))))))))))), (am_ne (by decide) (am_ne (by decide) (am_ne (by decide) (am_ne (by decide) (am_ne (by decide) (am_ne (by decide) (am_ne (by decide) (am_ne (by decide) (am_ne (by decide) (am_ne (by decide) (am_ne (by decide) (am_ne (by decide) (am_ne (by decide) (am_ne (by decide) (am_ne (by decide) (am_ne (by decide) (am_ne (by decide) (am_ne (by decide) (am_ne (by decide) (am_ne (by decide) (am_ne (by decide) (am_ne (by decide) (am_ne (by decide) (am_ne (by decide) (am_ne (by decide) (am_ne (by decide) (am_ne (by decide) (am_ne (by decide) (am_ne (by decide) (am_ne (by decide) (am_ne (by decide) (am_ne (by decide) (am_ne (by decide) (am_ne (by decide) (am_ne (by decide) (am_ne (by decide) (am_ne (by decide) (am_ne (by decide) (am_ne (by decide) (am_ne (by decide) (am_ne (by decide) (am_ne (by decide) (am_ne (by decide) (am_ne (by decide) (am_ne (by decide) (am_ne (by decide) (am_ne (by decide) (am_ne (by decide) (am_ne (by decide) (am_ne (by decide) (am_ne (by decide) (am_ne (by decide) (am_ne (by decide) (am_ne (by decide) (am_ne (by decide) (am_ne (by decide) (am_ne (by decide) (am_ne (by decide) (am_ne (by decide) (am_ne (by decide) (am_ne (by decide) (am_ne (by decide) (am_ne (by decide) (am_ne (by decide) (am_ne (by decide) (am_ne (by decide) (am_ne (by decide) (am_ne (by decide) (am_ne (by decide) (am_ne (by decide) (am_ne (by decide) (am_ne (by decide) (am_ne (by decide) (am_ne (by decide) (am_ne (by decide) (am_ne (by decide) (am_ne (by decide) (am_ne (by decide) (am_ne (by decide) (am_ne (by decide) (am_ne (by decide) (am_ne (by decide) (am_ne (by decide) (am_ne (by decide) (am_ne (by decide) (am_ne (by decide) (am_ne (by decide) (am_ne (by decide) (am_ne (by decide) (am_ne (by decide) (am_ne (by decide) (am_ne (by decide) (am_ne (by decide) (am_ne (by decide) (am_ne (by decide) (am_ne (by decide) (am_ne (by decide) (am_ne (by decide) (am_ne (by decide) (am_ne (by decide) (am_ne (by decide) (am_ne (by decide) (am_ne (by decide) (am_ne (by decide) (am_ne (by decide) (am_ne (by decide) (am_ne (by decide) (am_ne (by decide) (am_ne (by decide) (am_ne (by decide) am_eq)))))))))))))))))))))))))))))))))))))))))))))))))))))))))))))))))))))))))))))))))))))))))))))))))))))))))))))), (am_ne (by decide) (am_ne (by decide) (am_ne (by decide) (am_ne (by decide) (am_ne (by decide) (am_ne (by decide) (am_ne (by decide) (am_ne (by decide) (am_ne (by decide) (am_ne (by decide) (am_ne (by decide) (am_ne (by decide) (am_ne (by decide) (am_ne (by decide) (am_ne (by decide) (am_ne (by decide) (am_ne (by decide) (am_ne (by decide) (am_ne (by decide) (am_ne (by decide) (am_ne (by decide) (am_ne (by decide) (am_ne (by decide) (am_ne (by decide) (am_ne (by decide) (am_ne (by decide) (am_ne (by decide) (am_ne (by decide) (am_ne (by decide) (am_ne (by decide) (am_ne (by decide) (am_ne (by decide) (am_ne (by decide) (am_ne (by decide) (am_ne (by decide) (am_ne (by decide) (am_ne (by decide) (am_ne (by decide) (am_ne (by decide) (am_ne (by decide) (am_ne (by decide) (am_ne (by decide) (am_ne (by decide) (am_ne (by decide) (am_ne (by decide) (am_ne (by decide) (am_ne (by decide) (am_ne (by decide) (am_ne (by decide) (am_ne (by decide) (am_ne (by decide) (am_ne (by decide) (am_ne (by decide) (am_ne (by decide) (am_ne (by decide) (am_ne (by decide) (am_ne (by decide) (am_ne (by decide) (am_ne (by decide) (am_ne (by decide) (am_ne (by decide) (am_ne (by decide) (am_ne (by decide) (am_ne (by decide) (am_ne (by decide) (am_ne (by decide) (am_ne (by decide) (am_ne (by decide) (am_ne (by decide) (am_ne (by decide) (am_ne (by decide) (am_ne (by decide) (am_ne (by decide) (am_ne (by decide) (am_ne (by decide) (am_ne (by decide) (am_ne (by decide) (am_ne (by decide) (am_ne (by decide) (am_ne (by decide) (am_ne (by decide) (am_ne (by decide) (am_ne (by decide) (am_ne (by decide) (am_ne (by decide) (am_ne (by decide) (am_ne (by decide) (am_ne (by decide) (am_ne (by decide) (am_ne (by decide) (am_ne (by decide) (am_ne (by decide) (am_ne (by decide) (am_ne (by decide) (am_ne (by decide) (am_ne (by decide) (am_ne (by decide) (am_ne (by decide) (am_ne (by decide) (am_ne (by decide) (am_ne (by decide) (am_ne (by decide) (am_ne (by decide) (am_ne (by decide) (am_ne (by decide) (am_ne (by decide) (am_ne (by decide) (am_ne (by decide) am_eq)))))))))))))))))))))))))))))))))))))))))))))))))))))))))))))))))))))))))))))))))))))))))))))))))))))))))))), (am_ne (by decide) (am_ne (by decide) (am_ne (by decide) (am_ne (by decide) (am_ne (by decide) (am_ne (by decide) (am_ne (by decide) (am_ne (by decide) (am_ne (by decide) (am_ne (by decide) (am_ne (by decide) (am_ne (by decide) (am_ne (by decide) (am_ne (by decide) (am_ne (by decide) (am_ne (by decide) (am_ne (by decide) (am_ne (by decide) (am_ne (by decide) (am_ne (by decide) (am_ne (by decide) (am_ne (by decide) (am_ne (by decide) (am_ne (by decide) (am_ne (by decide) (am_ne (by decide) (am_ne (by decide) (am_ne (by decide) (am_ne (by decide) (am_ne (by decide) (am_ne (by decide) (am_ne (by decide) (am_ne (by decide) (am_ne (by decide) (am_ne (by decide) (am_ne (by decide) (am_ne (by decide) (am_ne (by decide) (am_ne (by decide) (am_ne (by decide) (am_ne (by decide) (am_ne (by decide) (am_ne (by decide) (am_ne (by decide) (am_ne (by decide) (am_ne (by decide) (am_ne (by decide) (am_ne (by decide) (am_ne (by decide) (am_ne (by decide) (am_ne (by decide) (am_ne (by decide) (am_ne (by decide) (am_ne (by decide) (am_ne (by decide) (am_ne (by decide) (am_ne (by decide) (am_ne (by decide) (am_ne (by decide) (am_ne (by decide) (am_ne (by decide) (am_ne (by decide) (am_ne (by decide) (am_ne (by decide) (am_ne (by decide) (am_ne (by decide) (am_ne (by decide) (am_ne (by decide) (am_ne (by decide) (am_ne (by decide) (am_ne (by decide) (am_ne (by decide) (am_ne (by decide) (am_ne (by decide) (am_ne (by decide) (am_ne (by decide) (am_ne (by decide) (am_ne (by decide) (am_ne (by decide) (am_ne (by decide) (am_ne (by decide) (am_ne (by decide) (am_ne (by decide) (am_ne (by decide) (am_ne (by decide) (am_ne (by decide) (am_ne (by decide) (am_ne (by decide) (am_ne (by decide) (am_ne (by decide) (am_ne (by decide) (am_ne (by decide) (am_ne (by decide) (am_ne (by decide) (am_ne (by decide) (am_ne (by decide) (am_ne (by decide) (am_ne (by decide) (am_ne (by decide) (am_ne (by decide) (am_ne (by decide) (am_ne (by decide) (am_ne (by decide) (am_ne (by decide) (am_ne (by decide) (am_ne (by decide) am_eq)))))))))))))))))))))))))))))))))))))))))))))))))))))))))))))))))))))))))))))))))))))))))))))))))))))))))), (am_ne (by decide) (am_ne (by decide) (am_ne (by decide) (am_ne (by decide) (am_ne (by decide) (am_ne (by decide) (am_ne (by decide) (am_ne (by decide) (am_ne (by decide) (am_ne (by decide) (am_ne (by decide) (am_ne (by decide) (am_ne (by decide) (am_ne (by decide) (am_ne (by decide) (am_ne (by decide) (am_ne (by decide) (am_ne (by decide) (am_ne (by decide) (am_ne (by decide) (am_ne (by decide) (am_ne (by decide) (am_ne (by decide) (am_ne (by decide) (am_ne (by decide) (am_ne (by decide) (am_ne (by decide) (am_ne (by decide) (am_ne (by decide) (am_ne (by decide) (am_ne (by decide) (am_ne (by decide) (am_ne (by decide) (am_ne (by decide) (am_ne (by decide) (am_ne (by decide) (am_ne (by decide) (am_ne (by decide) (am_ne (by decide) (am_ne (by decide) (am_ne (by decide) (am_ne (by decide) (am_ne (by decide) (am_ne (by decide) (am_ne (by decide) (am_ne (by decide) (am_ne (by decide) (am_ne (by decide) (am_ne (by decide) (am_ne (by decide) (am_ne (by decide) (am_ne (by decide) (am_ne (by decide) (am_ne (by decide) (am_ne (by decide) (am_ne (by decide) (am_ne (by decide) (am_ne (by decide) (am_ne (by decide) (am_ne (by decide) (am_ne (by decide) (am_ne (by decide) (am_ne (by decide) (am_ne (by decide) (am_ne (by decide) (am_ne (by decide) (am_ne (by decide) (am_ne (by decide) (am_ne (by decide) (am_ne (by decide) (am_ne (by decide) (am_ne (by decide) (am_ne (by decide) (am_ne (by decide) (am_ne (by decide) (am_ne (by decide) (am_ne (by decide) (am_ne (by decide) (am_ne (by decide) (am_ne (by decide) (am_ne (by decide) (am_ne (by decide) (am_ne (by decide) (am_ne (by decide) (am_ne (by decide) (am_ne (by decide) (am_ne (by decide) (am_ne (by decide) (am_ne (by decide) (am_ne (by decide) (am_ne (by decide) (am_ne (by decide) (am_ne (by decide) (am_ne (by decide) (am_ne (by decide) (am_ne (by decide) (am_ne (by decide) (am_ne (by decide) (am_ne (by decide) (am_ne (by decide) (am_ne (by decide) (am_ne (by decide) (am_ne (by decide) (am_ne (by decide) am_eq)))))))))))))))))))))))))))))))))))))))))))))))))))))))))))))))))))))))))))))))))))))))))))))))))))))))), (am_ne (by decide) (am_ne (by decide) (am_ne (by decide) (am_ne (by decide) (am_ne (by decide) (am_ne (by decide) (am_ne (by decide) (am_ne (by decide) (am_ne (by decide) (am_ne (by decide) (am_ne (by decide) (am_ne (by decide) (am_ne (by decide) (am_ne (by decide) (am_ne (by decide) (am_ne (by decide) (am_ne (by decide) (am_ne (by decide) (am_ne (by decide) (am_ne (by decide) (am_ne (by decide) (am_ne (by decide) (am_ne (by decide) (am_ne (by decide) (am_ne (by decide) (am_ne (by decide) (am_ne (by decide) (am_ne (by decide) (am_ne (by decide) (am_ne (by decide) (am_ne (by decide) (am_ne (by decide) (am_ne (by decide) (am_ne (by decide) (am_ne (by decide) (am_ne (by decide) (am_ne (by decide) (am_ne (by decide) (am_ne (by decide) (am_ne (by decide) (am_ne (by decide) (am_ne (by decide) (am_ne (by decide) (am_ne (by decide) (am_ne (by decide) (am_ne (by decide) (am_ne (by decide) (am_ne (by decide) (am_ne (by decide) (am_ne (by decide) (am_ne (by decide) (am_ne (by decide) (am_ne (by decide) (am_ne (by decide) (am_ne (by decide) (am_ne (by decide) (am_ne (by decide) (am_ne (by decide) (am_ne (by decide) (am_ne (by decide) (am_ne (by decide) (am_ne (by decide) (am_ne (by decide) (am_ne (by decide) (am_ne (by decide) (am_ne (by decide) (am_ne (by decide) (am_ne (by decide) (am_ne (by decide) (am_ne (by decide) (am_ne (by decide) (am_ne (by decide) (am_ne (by decide) (am_ne (by decide) (am_ne (by decide) (am_ne (by decide) (am_ne (by decide) (am_ne (by decide) (am_ne (by decide) (am_ne (by decide) (am_ne (by decide) (am_ne (by decide) (am_ne (by decide) (am_ne (by decide) (am_ne (by decide) (am_ne (by decide) (am_ne (by decide) (am_ne (by decide) (am_ne (by decide) (am_ne (by decide) (am_ne (by decide) (am_ne (by decide) (am_ne (by decide) (am_ne (by decide) (am_ne (by decide) (am_ne (by decide) (am_ne (by decide) (am_ne (by decide) (am_ne (by decide) (am_ne (by decide) (am_ne (by decide) (am_ne (by decide) am_eq)))))))))))))))))))))))))))))))))))))))))))))))))))))))))))))))))))))))))))))))))))))))))))))))))))))), (am_ne (by decide) (am_ne (by decide) (am_ne (by decide) (am_ne (by decide) (am_ne (by decide) (am_ne (by decide) (am_ne (by decide) (am_ne (by decide) (am_ne (by decide) (am_ne (by decide) (am_ne (by decide) (am_ne (by decide) (am_ne (by decide) (am_ne (by decide) (am_ne (by decide) (am_ne (by decide) (am_ne (by decide) (am_ne (by decide) (am_ne (by decide) (am_ne (by decide) (am_ne (by decide) (am_ne (by decide) (am_ne (by decide) (am_ne (by decide) (am_ne (by decide) (am_ne (by decide) (am_ne (by decide) (am_ne (by decide) (am_ne (by decide) (am_ne (by decide) (am_ne (by decide) (am_ne (by decide) (am_ne (by decide) (am_ne (by decide) (am_ne (by decide) (am_ne (by decide) (am_ne (by decide) (am_ne (by decide) (am_ne (by decide) (am_ne (by decide) (am_ne (by decide) (am_ne (by decide) (am_ne (by decide) (am_ne (by decide) (am_ne (by decide) (am_ne (by decide) (am_ne (by decide) (am_ne (by decide) (am_ne (by decide) (am_ne (by decide) (am_ne (by decide) (am_ne (by decide) (am_ne (by decide) (am_ne (by decide) (am_ne (by decide) (am_ne (by decide) (am_ne (by decide) (am_ne (by decide) (am_ne (by decide) (am_ne (by decide) (am_ne (by decide) (am_ne (by decide) (am_ne (by decide) (am_ne (by decide) (am_ne (by decide) (am_ne (by decide) (am_ne (by decide) (am_ne (by decide) (am_ne (by decide) (am_ne (by decide) (am_ne (by decide) (am_ne (by decide) (am_ne (by decide) (am_ne (by decide) (am_ne (by decide) (am_ne (by decide) (am_ne (by decide) (am_ne (by decide) (am_ne (by decide) (am_ne (by decide) (am_ne (by decide) (am_ne (by decide) (am_ne (by decide) (am_ne (by decide) (am_ne (by decide) (am_ne (by decide) (am_ne (by decide) (am_ne (by decide) (am_ne (by decide) (am_ne (by decide) (am_ne (by decide) (am_ne (by decide) (am_ne (by decide) (am_ne (by decide) (am_ne (by decide) (am_ne (by decide) (am_ne (by decide) (am_ne (by decide) (am_ne (by decide) (am_ne (by decide) am_eq)))))))))))))))))))))))))))))))))))))))))))))))))))))))))))))))))))))))))))))))))))))))))))))))))))), (am_ne (by decide) (am_ne (by decide) (am_ne (by decide) (am_ne (by decide) (am_ne (by decide) (am_ne (by decide) (am_ne (by decide) (am_ne (by decide) (am_ne (by decide) (am_ne (by decide) (am_ne (by decide) (am_ne (by decide) (am_ne (by decide) (am_ne (by decide) (am_ne (by decide) (am_ne (by decide) (am_ne (by decide) (am_ne (by decide) (am_ne (by decide) (am_ne (by decide) (am_ne (by decide) (am_ne (by decide) (am_ne (by decide) (am_ne (by decide) (am_ne (by decide) (am_ne (by decide) (am_ne (by decide) (am_ne (by decide) (am_ne (by decide) (am_ne (by decide) (am_ne (by decide) (am_ne (by decide) (am_ne (by decide) (am_ne (by decide) (am_ne (by decide) (am_ne (by decide) (am_ne (by decide) (am_ne (by decide) (am_ne (by decide) (am_ne (by decide) (am_ne (by decide) (am_ne (by decide) (am_ne (by decide) (am_ne (by decide) (am_ne (by decide) (am_ne (by decide) (am_ne (by decide) (am_ne (by decide) (am_ne (by decide) (am_ne (by decide) (am_ne (by decide) (am_ne (by decide) (am_ne (by decide) (am_ne (by decide) (am_ne (by decide) (am_ne (by decide) (am_ne (by decide) (am_ne (by decide) (am_ne (by decide) (am_ne (by decide) (am_ne (by decide) (am_ne (by decide) (am_ne (by decide) (am_ne (by decide) (am_ne (by decide) (am_ne (by decide) (am_ne (by decide) (am_ne (by decide) (am_ne (by decide) (am_ne (by decide) (am_ne (by decide) (am_ne (by decide) (am_ne (by decide) (am_ne (by decide) (am_ne (by decide) (am_ne (by decide) (am_ne (by decide) (am_ne (by decide) (am_ne (by decide) (am_ne (by decide) (am_ne (by decide) (am_ne (by decide) (am_ne (by decide) (am_ne (by decide) (am_ne (by decide) (am_ne (by decide) (am_ne (by decide) (am_ne (by decide) (am_ne (by decide) (am_ne (by decide) (am_ne (by decide) (am_ne (by decide) (am_ne (by decide) (am_ne (by decide) (am_ne (by decide) (am_ne (by decide) (am_ne (by decide) (am_ne (by decide) am_eq)))))))))))))))))))))))))))))))))))))))))))))))))))))))))))))))))))))))))))))))))))))))))))))))))), (am_ne (by decide) (am_ne (by decide) (am_ne (by decide) (am_ne (by decide) (am_ne (by decide) (am_ne (by decide) (am_ne (by decide) (am_ne (by decide) (am_ne (by decide) (am_ne (by decide) (am_ne (by decide) (am_ne (by decide) (am_ne (by decide) (am_ne (by decide) (am_ne (by decide) (am_ne (by decide) (am_ne (by decide) (am_ne (by decide) (am_ne (by decide) (am_ne (by decide) (am_ne (by decide) (am_ne (by decide) (am_ne (by decide) (am_ne (by decide) (am_ne (by decide) (am_ne (by decide) (am_ne (by decide) (am_ne (by decide) (am_ne (by decide) (am_ne (by decide) (am_ne (by decide) (am_ne (by decide) (am_ne (by decide) (am_ne (by decide) (am_ne (by decide) (am_ne (by decide) (am_ne (by decide) (am_ne (by decide) (am_ne (by decide) (am_ne (by decide) (am_ne (by decide) (am_ne (by decide) (am_ne (by decide) (am_ne (by decide) (am_ne (by decide) (am_ne (by decide) (am_ne (by decide) (am_ne (by decide) (am_ne (by decide) (am_ne (by decide) (am_ne (by decide) (am_ne (by decide) (am_ne (by decide) (am_ne (by decide) (am_ne (by decide) (am_ne (by decide) (am_ne (by decide) (am_ne (by decide) (am_ne (by decide) (am_ne (by decide) (am_ne (by decide) (am_ne (by decide) (am_ne (by decide) (am_ne (by decide) (am_ne (by decide) (am_ne (by decide) (am_ne (by decide) (am_ne (by decide) (am_ne (by decide) (am_ne (by decide) (am_ne (by decide) (am_ne (by decide) (am_ne (by decide) (am_ne (by decide) (am_ne (by decide) (am_ne (by decide) (am_ne (by decide) (am_ne (by decide) (am_ne (by decide) (am_ne (by decide) (am_ne (by decide) (am_ne (by decide) (am_ne (by decide) (am_ne (by decide) (am_ne (by decide) (am_ne (by decide) (am_ne (by decide) (am_ne (by decide) (am_ne (by decide) (am_ne (by decide) (am_ne (by decide) (am_ne (by decide) (am_ne (by decide) (am_ne (by decide) (am_ne (by decide) (am_ne (by decide) am_eq)))))))))))))))))))))))))))))))))))))))))))))))))))))))))))))))))))))))))))))))))))))))))))))))), (am_ne (by decide) (am_ne (by decide) (am_ne (by decide) (am_ne (by decide) (am_ne (by decide) (am_ne (by decide) (am_ne (by decide) (am_ne (by decide) (am_ne (by decide) (am_ne (by decide) (am_ne (by decide) (am_ne (by decide) (am_ne (by decide) (am_ne (by decide) (am_ne (by decide) (am_ne (by decide) (am_ne (by decide) (am_ne (by decide) (am_ne (by decide) (am_ne (by decide) (am_ne (by decide) (am_ne (by decide) (am_ne (by decide) (am_ne (by decide) (am_ne (by decide) (am_ne (by decide) (am_ne (by decide) (am_ne (by decide) (am_ne (by decide) (am_ne (by decide) (am_ne (by decide) (am_ne (by decide) (am_ne (by decide) (am_ne (by decide) (am_ne (by decide) (am_ne (by decide) (am_ne (by decide) (am_ne (by decide) (am_ne (by decide) (am_ne (by decide) (am_ne (by decide) (am_ne (by decide) (am_ne (by decide) (am_ne (by decide) (am_ne (by decide) (am_ne (by decide) (am_ne (by decide) (am_ne (by decide) (am_ne (by decide) (am_ne (by decide) (am_ne (by decide) (am_ne (by decide) (am_ne (by decide) (am_ne (by decide) (am_ne (by decide) (am_ne (by decide) (am_ne (by decide) (am_ne (by decide) (am_ne (by decide) (am_ne (by decide) (am_ne (by decide) (am_ne (by decide) (am_ne (by decide) (am_ne (by decide) (am_ne (by decide) (am_ne (by decide) (am_ne (by decide) (am_ne (by decide) (am_ne (by decide) (am_ne (by decide) (am_ne (by decide) (am_ne (by decide) (am_ne (by decide) (am_ne (by decide) (am_ne (by decide) (am_ne (by decide) (am_ne (by decide) (am_ne (by decide) (am_ne (by decide) (am_ne (by decide) (am_ne (by decide) (am_ne (by decide) (am_ne (by decide) (am_ne (by decide) (am_ne (by decide) (am_ne (by decide) (am_ne (by decide) (am_ne (by decide) (am_ne (by decide) (am_ne (by decide) (am_ne (by decide) (am_ne (by decide) (am_ne (by decide) (am_ne (by decide) am_eq)))))))))))))))))))))))))))))))))))))))))))))))))))))))))))))))))))))))))))))))))))))))))))))), (am_ne (by decide) (am_ne (by decide) (am_ne (by decide) (am_ne (by decide) (am_ne (by decide) (am_ne (by decide) (am_ne (by decide) (am_ne (by decide) (am_ne (by decide) (am_ne (by decide) (am_ne (by decide) (am_ne (by decide) (am_ne (by decide) (am_ne (by decide) (am_ne (by decide) (am_ne (by decide) (am_ne (by decide) (am_ne (by decide) (am_ne (by decide) (am_ne (by decide) (am_ne (by decide) (am_ne (by decide) (am_ne (by decide) (am_ne (by decide) (am_ne (by decide) (am_ne (by decide) (am_ne (by decide) (am_ne (by decide) (am_ne (by decide) (am_ne (by decide) (am_ne (by decide) (am_ne (by decide) (am_ne (by decide) (am_ne (by decide) (am_ne (by decide) (am_ne (by decide) (am_ne (by decide) (am_ne (by decide) (am_ne (by decide) (am_ne (by decide) (am_ne (by decide) (am_ne (by decide) (am_ne (by decide) (am_ne (by decide) (am_ne (by decide) (am_ne (by decide) (am_ne (by decide) (am_ne (by decide) (am_ne (by decide) (am_ne (by decide) (am_ne (by decide) (am_ne (by decide) (am_ne (by decide) (am_ne (by decide) (am_ne (by decide) (am_ne (by decide) (am_ne (by decide) (am_ne (by decide) (am_ne (by decide) (am_ne (by decide) (am_ne (by decide) (am_ne (by decide) (am_ne (by decide) (am_ne (by decide) (am_ne (by decide) (am_ne (by decide) (am_ne (by decide) (am_ne (by decide) (am_ne (by decide) (am_ne (by decide) (am_ne (by decide) (am_ne (by decide) (am_ne (by decide) (am_ne (by decide) (am_ne (by decide) (am_ne (by decide) (am_ne (by decide) (am_ne (by decide) (am_ne (by decide) (am_ne (by decide) (am_ne (by decide) (am_ne (by decide) (am_ne (by decide) (am_ne (by decide) (am_ne (by decide) (am_ne (by decide) (am_ne (by decide) (am_ne (by decide) (am_ne (by decide) (am_ne (by decide) (am_ne (by decide) (am_ne (by decide) am_eq)))))))))))))))))))))))))))))))))))))))))))))))))))))))))))))))))))))))))))))))))))))))))))), (am_ne (by decide) (am_ne (by decide) (am_ne (by decide) (am_ne (by decide) (am_ne (by decide) (am_ne (by decide) (am_ne (by decide) (am_ne (by decide) (am_ne (by decide) (am_ne (by decide) (am_ne (by decide) (am_ne (by decide) (am_ne (by decide) (am_ne (by decide) (am_ne (by decide) (am_ne (by decide) (am_ne (by decide) (am_ne (by decide) (am_ne (by decide) (am_ne (by decide) (am_ne (by decide) (am_ne (by decide) (am_ne (by decide) (am_ne (by decide) (am_ne (by decide) (am_ne (by decide) (am_ne (by decide) (am_ne (by decide) (am_ne (by decide) (am_ne (by decide) (am_ne (by decide) (am_ne (by decide) (am_ne (by decide) (am_ne (by decide) (am_ne (by decide) (am_ne (by decide) (am_ne (by decide) (am_ne (by decide) (am_ne (by decide) (am_ne (by decide) (am_ne (by decide) (am_ne (by decide) (am_ne (by decide) (am_ne (by decide) (am_ne (by decide) (am_ne (by decide) (am_ne (by decide) (am_ne (by decide) (am_ne (by decide) (am_ne (by decide) (am_ne (by decide) (am_ne (by decide) (am_ne (by decide) (am_ne (by decide) (am_ne (by decide) (am_ne (by decide) (am_ne (by decide) (am_ne (by decide) (am_ne (by decide) (am_ne (by decide) (am_ne (by decide) (am_ne (by decide) (am_ne (by decide) (am_ne (by decide) (am_ne (by decide) (am_ne (by decide) (am_ne (by decide) (am_ne (by decide) (am_ne (by decide) (am_ne (by decide) (am_ne (by decide) (am_ne (by decide) (am_ne (by decide) (am_ne (by decide) (am_ne (by decide) (am_ne (by decide) (am_ne (by decide) (am_ne (by decide) (am_ne (by decide) (am_ne (by decide) (am_ne (by decide) (am_ne (by decide) (am_ne (by decide) (am_ne (by decide) (am_ne (by decide) (am_ne (by decide) (am_ne (by decide) (am_ne (by decide) (am_ne (by decide) (am_ne (by decide) am_eq)))))))))))))))))))))))))))))))))))))))))))))))))))))))))))))))))))))))))))))))))))))))))), (am_ne (by decide) (am_ne (by decide) (am_ne (by decide) (am_ne (by decide) (am_ne (by decide) (am_ne (by decide) (am_ne (by decide) (am_ne (by decide) (am_ne (by decide) (am_ne (by decide) (am_ne (by decide) (am_ne (by decide) (am_ne (by decide) (am_ne (by decide) (am_ne (by decide) (am_ne (by decide) (am_ne (by decide) (am_ne (by decide) (am_ne (by decide) (am_ne (by decide) (am_ne (by decide) (am_ne (by decide) (am_ne (by decide) (am_ne (by decide) (am_ne (by decide) (am_ne (by decide) (am_ne (by decide) (am_ne (by decide) (am_ne (by decide) (am_ne (by decide) (am_ne (by decide) (am_ne (by decide) (am_ne (by decide) (am_ne (by decide) (am_ne (by decide) (am_ne (by decide) (am_ne (by decide) (am_ne (by decide) (am_ne (by decide) (am_ne (by decide) (am_ne (by decide) (am_ne (by decide) (am_ne (by decide) (am_ne (by decide) (am_ne (by decide) (am_ne (by decide) (am_ne (by decide) (am_ne (by decide) (am_ne (by decide) (am_ne (by decide) (am_ne (by decide) (am_ne (by decide) (am_ne (by decide) (am_ne (by decide) (am_ne (by decide) (am_ne (by decide) (am_ne (by decide) (am_ne (by decide) (am_ne (by decide) (am_ne (by decide) (am_ne (by decide) (am_ne (by decide) (am_ne (by decide) (am_ne (by decide) (am_ne (by decide) am_eq))))))))))))))))))))))))))))))))))))))))))))))))))))))))))))))))), (am_ne (by decide) (am_ne (by decide) (am_ne (by decide) (am_ne (by decide) (am_ne (by decide) (am_ne (by decide) (am_ne (by decide) (am_ne (by decide) (am_ne (by decide) (am_ne (by decide) (am_ne (by decide) (am_ne (by decide) (am_ne (by decide) (am_ne (by decide) (am_ne (by decide) (am_ne (by decide) (am_ne (by decide) (am_ne (by decide) (am_ne (by decide) (am_ne (by decide) (am_ne (by decide) (am_ne (by decide) (am_ne (by decide) (am_ne (by decide) (am_ne (by decide) (am_ne (by decide) (am_ne (by decide) (am_ne (by decide) (am_ne (by decide) (am_ne (by decide) (am_ne (by decide) (am_ne (by decide) (am_ne (by decide) (am_ne (by decide) (am_ne (by decide) (am_ne (by decide) (am_ne (by decide) (am_ne (by decide) (am_ne (by decide) (am_ne (by decide) (am_ne (by decide) (am_ne (by decide) (am_ne (by decide) (am_ne (by decide) (am_ne (by decide) (am_ne (by decide) (am_ne (by decide) (am_ne (by decide) (am_ne (by decide) (am_ne (by decide) (am_ne (by decide) (am_ne (by decide) (am_ne (by decide) (am_ne (by decide) (am_ne (by decide) (am_ne (by decide) (am_ne (by decide) (am_ne (by decide) (am_ne (by decide) (am_ne (by decide) (am_ne (by decide) (am_ne (by decide) (am_ne (by decide) (am_ne (by decide) (am_ne (by decide) (am_ne (by decide) (am_ne (by decide) (am_ne (by decide) (am_ne (by decide) (am_ne (by decide) (am_ne (by decide) (am_ne (by decide) (am_ne (by decide) (am_ne (by decide) (am_ne (by decide) (am_ne (by decide) (am_ne (by decide) (am_ne (by decide) (am_ne (by decide) (am_ne (by decide) (am_ne (by decide) (am_ne (by decide) (am_ne (by decide) (am_ne (by decide) (am_ne (by decide) (am_ne (by decide) am_eq)))))))))))))))))))))))))))))))))))))))))))))))))))))))))))))))))))))))))))))))))))))), (am_ne (by decide) (am_ne (by decide) (am_ne (by decide) (am_ne (by decide) (am_ne (by decide) (am_ne (by decide) (am_ne (by decide) (am_ne (by decide) (am_ne (by decide) (am_ne (by decide) (am_ne (by decide) (am_ne (by decide) (am_ne (by decide) (am_ne (by decide) (am_ne (by decide) (am_ne (by decide) (am_ne (by decide) (am_ne (by decide) (am_ne (by decide) (am_ne (by decide) (am_ne (by decide) (am_ne (by decide) (am_ne (by decide) (am_ne (by decide) (am_ne (by decide) (am_ne (by decide) (am_ne (by decide) (am_ne (by decide) (am_ne (by decide) (am_ne (by decide) (am_ne (by decide) (am_ne (by decide) (am_ne (by decide) (am_ne (by decide) (am_ne (by decide) (am_ne (by decide) (am_ne (by decide) (am_ne (by decide) (am_ne (by decide) (am_ne (by decide) (am_ne (by decide) (am_ne (by decide) (am_ne (by decide) (am_ne (by decide) (am_ne (by decide) (am_ne (by decide) (am_ne (by decide) (am_ne (by decide) (am_ne (by decide) (am_ne (by decide) (am_ne (by decide) (am_ne (by decide) (am_ne (by decide) (am_ne (by decide) (am_ne (by decide) (am_ne (by decide) (am_ne (by decide) (am_ne (by decide) (am_ne (by decide) (am_ne (by decide) (am_ne (by decide) (am_ne (by decide) (am_ne (by decide) (am_ne (by decide) (am_ne (by decide) (am_ne (by decide) (am_ne (by decide) (am_ne (by decide) (am_ne (by decide) (am_ne (by decide) (am_ne (by decide) (am_ne (by decide) (am_ne (by decide) (am_ne (by decide) (am_ne (by decide) (am_ne (by decide) (am_ne (by decide) (am_ne (by decide) (am_ne (by decide) (am_ne (by decide) (am_ne (by decide) (am_ne (by decide) (am_ne (by decide) (am_ne (by decide) am_eq)))))))))))))))))))))))))))))))))))))))))))))))))))))))))))))))))))))))))))))))))))), (am_ne (by decide) (am_ne (by decide) (am_ne (by decide) (am_ne (by decide) (am_ne (by decide) (am_ne (by decide) (am_ne (by decide) (am_ne (by decide) (am_ne (by decide) (am_ne (by decide) (am_ne (by decide) (am_ne (by decide) (am_ne (by decide) (am_ne (by decide) (am_ne (by decide) (am_ne (by decide) (am_ne (by decide) (am_ne (by decide) (am_ne (by decide) (am_ne (by decide) (am_ne (by decide) (am_ne (by decide) (am_ne (by decide) (am_ne (by decide) (am_ne (by decide) (am_ne (by decide) (am_ne (by decide) (am_ne (by decide) (am_ne (by decide) (am_ne (by decide) (am_ne (by decide) (am_ne (by decide) (am_ne (by decide) (am_ne (by decide) (am_ne (by decide) (am_ne (by decide) (am_ne (by decide) (am_ne (by decide) (am_ne (by decide) (am_ne (by decide) (am_ne (by decide) (am_ne (by decide) (am_ne (by decide) (am_ne (by decide) (am_ne (by decide) (am_ne (by decide) (am_ne (by decide) (am_ne (by decide) (am_ne (by decide) (am_ne (by decide) (am_ne (by decide) (am_ne (by decide) (am_ne (by decide) (am_ne (by decide) (am_ne (by decide) (am_ne (by decide) (am_ne (by decide) (am_ne (by decide) (am_ne (by decide) (am_ne (by decide) (am_ne (by decide) (am_ne (by decide) (am_ne (by decide) (am_ne (by decide) (am_ne (by decide) (am_ne (by decide) (am_ne (by decide) (am_ne (by decide) (am_ne (by decide) (am_ne (by decide) (am_ne (by decide) (am_ne (by decide) (am_ne (by decide) (am_ne (by decide) (am_ne (by decide) (am_ne (by decide) (am_ne (by decide) (am_ne (by decide) (am_ne (by decide) (am_ne (by decide) (am_ne (by decide) (am_ne (by decide) am_eq)))))))))))))))))))))))))))))))))))))))))))))))))))))))))))))))))))))))))))))))))), (am_ne (by decide) (am_ne (by decide) (am_ne (by decide) (am_ne (by decide) (am_ne (by decide) (am_ne (by decide) (am_ne (by decide) (am_ne (by decide) (am_ne (by decide) (am_ne (by decide) (am_ne (by decide) (am_ne (by decide) (am_ne (by decide) (am_ne (by decide) (am_ne (by decide) (am_ne (by decide) (am_ne (by decide) (am_ne (by decide) (am_ne (by decide) (am_ne (by decide) (am_ne (by decide) (am_ne (by decide) (am_ne (by decide) (am_ne (by decide) (am_ne (by decide) (am_ne (by decide) (am_ne (by decide) (am_ne (by decide) (am_ne (by decide) (am_ne (by decide) (am_ne (by decide) (am_ne (by decide) (am_ne (by decide) (am_ne (by decide) (am_ne (by decide) (am_ne (by decide) (am_ne (by decide) (am_ne (by decide) (am_ne (by decide) (am_ne (by decide) (am_ne (by decide) (am_ne (by decide) (am_ne (by decide) (am_ne (by decide) (am_ne (by decide) (am_ne (by decide) (am_ne (by decide) (am_ne (by decide) (am_ne (by decide) (am_ne (by decide) (am_ne (by decide) (am_ne (by decide) (am_ne (by decide) (am_ne (by decide) (am_ne (by decide) (am_ne (by decide) (am_ne (by decide) (am_ne (by decide) (am_ne (by decide) (am_ne (by decide) (am_ne (by decide) (am_ne (by decide) (am_ne (by decide) (am_ne (by decide) (am_ne (by decide) (am_ne (by decide) (am_ne (by decide) (am_ne (by decide) (am_ne (by decide) (am_ne (by decide) (am_ne (by decide) (am_ne (by decide) (am_ne (by decide) (am_ne (by decide) (am_ne (by decide) (am_ne (by decide) (am_ne (by decide) (am_ne (by decide) (am_ne (by decide) (am_ne (by decide) am_eq)))))))))))))))))))))))))))))))))))))))))))))))))))))))))))))))))))))))))))))))), (am_ne (by decide) (am_ne (by decide) (am_ne (by decide) (am_ne (by decide) (am_ne (by decide) (am_ne (by decide) (am_ne (by decide) (am_ne (by decide) (am_ne (by decide) (am_ne (by decide) (am_ne (by decide) (am_ne (by decide) (am_ne (by decide) (am_ne (by decide) (am_ne (by decide) (am_ne (by decide) (am_ne (by decide) (am_ne (by decide) (am_ne (by decide) (am_ne (by decide) (am_ne (by decide) (am_ne (by decide) (am_ne (by decide) (am_ne (by decide) (am_ne (by decide) (am_ne (by decide) (am_ne (by decide) (am_ne (by decide) (am_ne (by decide) (am_ne (by decide) (am_ne (by decide) (am_ne (by decide) (am_ne (by decide) (am_ne (by decide) (am_ne (by decide) (am_ne (by decide) (am_ne (by decide) (am_ne (by decide) (am_ne (by decide) (am_ne (by decide) (am_ne (by decide) (am_ne (by decide) (am_ne (by decide) (am_ne (by decide) (am_ne (by decide) (am_ne (by decide) (am_ne (by decide) (am_ne (by decide) (am_ne (by decide) (am_ne (by decide) (am_ne (by decide) (am_ne (by decide) (am_ne (by decide) (am_ne (by decide) (am_ne (by decide) (am_ne (by decide) (am_ne (by decide) (am_ne (by decide) (am_ne (by decide) (am_ne (by decide) (am_ne (by decide) (am_ne (by decide) (am_ne (by decide) (am_ne (by decide) (am_ne (by decide) (am_ne (by decide) (am_ne (by decide) (am_ne (by decide) (am_ne (by decide) (am_ne (by decide) (am_ne (by decide) (am_ne (by decide) (am_ne (by decide) (am_ne (by decide) (am_ne (by decide) (am_ne (by decide) (am_ne (by decide) (am_ne (by decide) am_eq)))))))))))))))))))))))))))))))))))))))))))))))))))))))))))))))))))))))))))))), (am_ne (by decide) (am_ne (by decide) (am_ne (by decide) (am_ne (by decide) (am_ne (by decide) (am_ne (by decide) (am_ne (by decide) (am_ne (by decide) (am_ne (by decide) (am_ne (by decide) (am_ne (by decide) (am_ne (by decide) (am_ne (by decide) (am_ne (by decide) (am_ne (by decide) (am_ne (by decide) (am_ne (by decide) (am_ne (by decide) (am_ne (by decide) (am_ne (by decide) (am_ne (by decide) (am_ne (by decide) (am_ne (by decide) (am_ne (by decide) (am_ne (by decide) (am_ne (by decide) (am_ne (by decide) (am_ne (by decide) (am_ne (by decide) (am_ne (by decide) (am_ne (by decide) (am_ne (by decide) (am_ne (by decide) (am_ne (by decide) (am_ne (by decide) (am_ne (by decide) (am_ne (by decide) (am_ne (by decide) (am_ne (by decide) (am_ne (by decide) (am_ne (by decide) (am_ne (by decide) (am_ne (by decide) (am_ne (by decide) (am_ne (by decide) (am_ne (by decide) (am_ne (by decide) (am_ne (by decide) (am_ne (by decide) (am_ne (by decide) (am_ne (by decide) (am_ne (by decide) (am_ne (by decide) (am_ne (by decide) (am_ne (by decide) (am_ne (by decide) (am_ne (by decide) (am_ne (by decide) (am_ne (by decide) (am_ne (by decide) (am_ne (by decide) (am_ne (by decide) (am_ne (by decide) (am_ne (by decide) (am_ne (by decide) (am_ne (by decide) (am_ne (by decide) (am_ne (by decide) (am_ne (by decide) (am_ne (by decide) (am_ne (by decide) (am_ne (by decide) (am_ne (by decide) (am_ne (by decide) (am_ne (by decide) (am_ne (by decide) am_eq)))))))))))))))))))))))))))))))))))))))))))))))))))))))))))))))))))))))))))), (am_ne (by decide) (am_ne (by decide) (am_ne (by decide) (am_ne (by decide) (am_ne (by decide) (am_ne (by decide) (am_ne (by decide) (am_ne (by decide) (am_ne (by decide) (am_ne (by decide) (am_ne (by decide) (am_ne (by decide) (am_ne (by decide) (am_ne (by decide) (am_ne (by decide) (am_ne (by decide) (am_ne (by decide) (am_ne (by decide) (am_ne (by decide) (am_ne (by decide) (am_ne (by decide) (am_ne (by decide) (am_ne (by decide) (am_ne (by decide) (am_ne (by decide) (am_ne (by decide) (am_ne (by decide) (am_ne (by decide) (am_ne (by decide) (am_ne (by decide) (am_ne (by decide) (am_ne (by decide) (am_ne (by decide) (am_ne (by decide) (am_ne (by decide) (am_ne (by decide) (am_ne (by decide) (am_ne (by decide) (am_ne (by decide) (am_ne (by decide) (am_ne (by decide) (am_ne (by decide) (am_ne (by decide) (am_ne (by decide) (am_ne (by decide) (am_ne (by decide) (am_ne (by decide) (am_ne (by decide) (am_ne (by decide) (am_ne (by decide) (am_ne (by decide) (am_ne (by decide) (am_ne (by decide) (am_ne (by decide) (am_ne (by decide) (am_ne (by decide) (am_ne (by decide) (am_ne (by decide) (am_ne (by decide) (am_ne (by decide) (am_ne (by decide) (am_ne (by decide) (am_ne (by decide) (am_ne (by decide) (am_ne (by decide) (am_ne (by decide) (am_ne (by decide) (am_ne (by decide) (am_ne (by decide) (am_ne (by decide) (am_ne (by decide) (am_ne (by decide) (am_ne (by decide) (am_ne (by decide) am_eq)))))))))))))))))))))))))))))))))))))))))))))))))))))))))))))))))))))))))), (am_ne (by decide) (am_ne (by decide) (am_ne (by decide) (am_ne (by decide) (am_ne (by decide) (am_ne (by decide) (am_ne (by decide) (am_ne (by decide) (am_ne (by decide) (am_ne (by decide) (am_ne (by decide) (am_ne (by decide) (am_ne (by decide) (am_ne (by decide) (am_ne (by decide) (am_ne (by decide) (am_ne (by decide) (am_ne (by decide) (am_ne (by decide) (am_ne (by decide) (am_ne (by decide) (am_ne (by decide) (am_ne (by decide) (am_ne (by decide) (am_ne (by decide) (am_ne (by decide) (am_ne (by decide) (am_ne (by decide) (am_ne (by decide) (am_ne (by decide) (am_ne (by decide) (am_ne (by decide) (am_ne (by decide) (am_ne (by decide) (am_ne (by decide) (am_ne (by decide) (am_ne (by decide) (am_ne (by decide) (am_ne (by decide) (am_ne (by decide) (am_ne (by decide) (am_ne (by decide) (am_ne (by decide) (am_ne (by decide) (am_ne (by decide) (am_ne (by decide) (am_ne (by decide) (am_ne (by decide) (am_ne (by decide) (am_ne (by decide) (am_ne (by decide) (am_ne (by decide) (am_ne (by decide) (am_ne (by decide) (am_ne (by decide) (am_ne (by decide) (am_ne (by decide) (am_ne (by decide) (am_ne (by decide) (am_ne (by decide) (am_ne (by decide) (am_ne (by decide) (am_ne (by decide) (am_ne (by decide) (am_ne (by decide) (am_ne (by decide) (am_ne (by decide) (am_ne (by decide) (am_ne (by decide) (am_ne (by decide) (am_ne (by decide) (am_ne (by decide) am_eq)))))))))))))))))))))))))))))))))))))))))))))))))))))))))))))))))))))))), (am_ne (by decide) (am_ne (by decide) (am_ne (by decide) (am_ne (by decide) (am_ne (by decide) (am_ne (by decide) (am_ne (by decide) (am_ne (by decide) (am_ne (by decide) (am_ne (by decide) (am_ne (by decide) (am_ne (by decide) (am_ne (by decide) (am_ne (by decide) (am_ne (by decide) (am_ne (by decide) (am_ne (by decide) (am_ne (by decide) (am_ne (by decide) (am_ne (by decide) (am_ne (by decide) (am_ne (by decide) (am_ne (by decide) (am_ne (by decide) (am_ne (by decide) (am_ne (by decide) (am_ne (by decide) (am_ne (by decide) (am_ne (by decide) (am_ne (by decide) (am_ne (by decide) (am_ne (by decide) (am_ne (by decide) (am_ne (by decide) (am_ne (by decide) (am_ne (by decide) (am_ne (by decide) (am_ne (by decide) (am_ne (by decide) (am_ne (by decide) (am_ne (by decide) (am_ne (by decide) (am_ne (by decide) (am_ne (by decide) (am_ne (by decide) (am_ne (by decide) (am_ne (by decide) (am_ne (by decide) (am_ne (by decide) (am_ne (by decide) (am_ne (by decide) (am_ne (by decide) (am_ne (by decide) (am_ne (by decide) (am_ne (by decide) (am_ne (by decide) (am_ne (by decide) (am_ne (by decide) (am_ne (by decide) (am_ne (by decide) (am_ne (by decide) (am_ne (by decide) (am_ne (by decide) (am_ne (by decide) (am_ne (by decide) (am_ne (by decide) (am_ne (by decide) (am_ne (by decide) (am_ne (by decide) (am_ne (by decide) am_eq)))))))))))))))))))))))))))))))))))))))))))))))))))))))))))))))))))))), (am_ne (by decide) (am_ne (by decide) (am_ne (by decide) (am_ne (by decide) (am_ne (by decide) (am_ne (by decide) (am_ne (by decide) (am_ne (by decide) (am_ne (by decide) (am_ne (by decide) (am_ne (by decide) (am_ne (by decide) (am_ne (by decide) (am_ne (by decide) (am_ne (by decide) (am_ne (by decide) (am_ne (by decide) (am_ne (by decide) (am_ne (by decide) (am_ne (by decide) (am_ne (by decide) (am_ne (by decide) (am_ne (by decide) (am_ne (by decide) (am_ne (by decide) (am_ne (by decide) (am_ne (by decide) (am_ne (by decide) (am_ne (by decide) (am_ne (by decide) (am_ne (by decide) (am_ne (by decide) (am_ne (by decide) (am_ne (by decide) (am_ne (by decide) (am_ne (by decide) (am_ne (by decide) (am_ne (by decide) (am_ne (by decide) (am_ne (by decide) (am_ne (by decide) (am_ne (by decide) (am_ne (by decide) (am_ne (by decide) (am_ne (by decide) (am_ne (by decide) (am_ne (by decide) (am_ne (by decide) (am_ne (by decide) (am_ne (by decide) (am_ne (by decide) (am_ne (by decide) (am_ne (by decide) (am_ne (by decide) (am_ne (by decide) (am_ne (by decide) (am_ne (by decide) (am_ne (by decide) (am_ne (by decide) (am_ne (by decide) (am_ne (by decide) (am_ne (by decide) (am_ne (by decide) (am_ne (by decide) (am_ne (by decide) (am_ne (by decide) (am_ne (by decide) (am_ne (by decide) am_eq)))))))))))))))))))))))))))))))))))))))))))))))))))))))))))))))))))), (am_ne (by decide) (am_ne (by decide) (am_ne (by decide) (am_ne (by decide) (am_ne (by decide) (am_ne (by decide) (am_ne (by decide) (am_ne (by decide) (am_ne (by decide) (am_ne (by decide) (am_ne (by decide) (am_ne (by decide) (am_ne (by decide) (am_ne (by decide) (am_ne (by decide) (am_ne (by decide) (am_ne (by decide) (am_ne (by decide) (am_ne (by decide) (am_ne (by decide) (am_ne (by decide) (am_ne (by decide) (am_ne (by decide) (am_ne (by decide) (am_ne (by decide) (am_ne (by decide) (am_ne (by decide) (am_ne (by decide) (am_ne (by decide) (am_ne (by decide) (am_ne (by decide) (am_ne (by decide) (am_ne (by decide) (am_ne (by decide) (am_ne (by decide) (am_ne (by decide) (am_ne (by decide) (am_ne (by decide) (am_ne (by decide) (am_ne (by decide) (am_ne (by decide) (am_ne (by decide) (am_ne (by decide) (am_ne (by decide) (am_ne (by decide) (am_ne (by decide) (am_ne (by decide) (am_ne (by decide) (am_ne (by decide) (am_ne (by decide) (am_ne (by decide) (am_ne (by decide) (am_ne (by decide) (am_ne (by decide) (am_ne (by decide) (am_ne (by decide) (am_ne (by decide) (am_ne (by decide) (am_ne (by decide) (am_ne (by decide) (am_ne (by decide) (am_ne (by decide) (am_ne (by decide) (am_ne (by decide) (am_ne (by decide) (am_ne (by decide) am_eq)))))))))))))))))))))))))))))))))))))))))))))))))))))))))))))))))), (am_ne (by decide) (am_ne (by decide) (am_ne (by decide) (am_ne (by decide) (am_ne (by decide) (am_ne (by decide) (am_ne (by decide) (am_ne (by decide) (am_ne (by decide) (am_ne (by decide) (am_ne (by decide) (am_ne (by decide) (am_ne (by decide) (am_ne (by decide) (am_ne (by decide) (am_ne (by decide) (am_ne (by decide) (am_ne (by decide) (am_ne (by decide) (am_ne (by decide) (am_ne (by decide) (am_ne (by decide) (am_ne (by decide) (am_ne (by decide) (am_ne (by decide) (am_ne (by decide) (am_ne (by decide) (am_ne (by decide) (am_ne (by decide) (am_ne (by decide) (am_ne (by decide) (am_ne (by decide) (am_ne (by decide) (am_ne (by decide) (am_ne (by decide) (am_ne (by decide) (am_ne (by decide) (am_ne (by decide) (am_ne (by decide) (am_ne (by decide) (am_ne (by decide) (am_ne (by decide) (am_ne (by decide) (am_ne (by decide) (am_ne (by decide) (am_ne (by decide) (am_ne (by decide) (am_ne (by decide) (am_ne (by decide) (am_ne (by decide) (am_ne (by decide) (am_ne (by decide) (am_ne (by decide) (am_ne (by decide) (am_ne (by decide) (am_ne (by decide) (am_ne (by decide) (am_ne (by decide) (am_ne (by decide) (am_ne (by decide) (am_ne (by decide) am_eq))))))))))))))))))))))))))))))))))))))))))))))))))))))))))))), (am_ne (by decide) (am_ne (by decide) (am_ne (by decide) (am_ne (by decide) (am_ne (by decide) (am_ne (by decide) (am_ne (by decide) (am_ne (by decide) (am_ne (by decide) (am_ne (by decide) (am_ne (by decide) (am_ne (by decide) (am_ne (by decide) (am_ne (by decide) (am_ne (by decide) (am_ne (by decide) (am_ne (by decide) (am_ne (by decide) (am_ne (by decide) (am_ne (by decide) (am_ne (by decide) (am_ne (by decide) (am_ne (by decide) (am_ne (by decide) (am_ne (by decide) (am_ne (by decide) (am_ne (by decide) (am_ne (by decide) (am_ne (by decide) (am_ne (by decide) (am_ne (by decide) (am_ne (by decide) (am_ne (by decide) (am_ne (by decide) (am_ne (by decide) (am_ne (by decide) (am_ne (by decide) (am_ne (by decide) (am_ne (by decide) (am_ne (by decide) (am_ne (by decide) (am_ne (by decide) (am_ne (by decide) (am_ne (by decide) (am_ne (by decide) (am_ne (by decide) (am_ne (by decide) (am_ne (by decide) (am_ne (by decide) (am_ne (by decide) (am_ne (by decide) (am_ne (by decide) (am_ne (by decide) (am_ne (by decide) (am_ne (by decide) (am_ne (by decide) (am_ne (by decide) (am_ne (by decide) (am_ne (by decide) (am_ne (by decide) (am_ne (by decide) (am_ne (by decide) am_eq)))))))))))))))))))))))))))))))))))))))))))))))))))))))))))))), (am_ne (by decide) (am_ne (by decide) (am_ne (by decide) (am_ne (by decide) (am_ne (by decide) (am_ne (by decide) (am_ne (by decide) (am_ne (by decide) (am_ne (by decide) (am_ne (by decide) (am_ne (by decide) (am_ne (by decide) (am_ne (by decide) (am_ne (by decide) (am_ne (by decide) (am_ne (by decide) (am_ne (by decide) (am_ne (by decide) (am_ne (by decide) (am_ne (by decide) (am_ne (by decide) (am_ne (by decide) (am_ne (by decide) (am_ne (by decide) (am_ne (by decide) (am_ne (by decide) (am_ne (by decide) (am_ne (by decide) (am_ne (by decide) (am_ne (by decide) (am_ne (by decide) (am_ne (by decide) (am_ne (by decide) (am_ne (by decide) (am_ne (by decide) (am_ne (by decide) (am_ne (by decide) (am_ne (by decide) (am_ne (by decide) (am_ne (by decide) (am_ne (by decide) (am_ne (by decide) (am_ne (by decide) (am_ne (by decide) (am_ne (by decide) (am_ne (by decide) (am_ne (by decide) (am_ne (by decide) (am_ne (by decide) (am_ne (by decide) (am_ne (by decide) (am_ne (by decide) (am_ne (by decide) am_eq))))))))))))))))))))))))))))))))))))))))))))))))))))), (am_ne (by decide) (am_ne (by decide) (am_ne (by decide) (am_ne (by decide) (am_ne (by decide) (am_ne (by decide) (am_ne (by decide) (am_ne (by decide) (am_ne (by decide) (am_ne (by decide) (am_ne (by decide) (am_ne (by decide) (am_ne (by decide) (am_ne (by decide) (am_ne (by decide) (am_ne (by decide) (am_ne (by decide) (am_ne (by decide) (am_ne (by decide) (am_ne (by decide) (am_ne (by decide) (am_ne (by decide) (am_ne (by decide) (am_ne (by decide) (am_ne (by decide) (am_ne (by decide) (am_ne (by decide) (am_ne (by decide) (am_ne (by decide) (am_ne (by decide) (am_ne (by decide) (am_ne (by decide) (am_ne (by decide) (am_ne (by decide) (am_ne (by decide) (am_ne (by decide) (am_ne (by decide) (am_ne (by decide) (am_ne (by decide) (am_ne (by decide) (am_ne (by decide) (am_ne (by decide) (am_ne (by decide) (am_ne (by decide) (am_ne (by decide) (am_ne (by decide) (am_ne (by decide) (am_ne (by decide) (am_ne (by decide) (am_ne (by decide) (am_ne (by decide) (am_ne (by decide) (am_ne (by decide) (am_ne (by decide) (am_ne (by decide) (am_ne (by decide) am_eq)))))))))))))))))))))))))))))))))))))))))))))))))))))))), (am_ne (by decide) (am_ne (by decide) (am_ne (by decide) (am_ne (by decide) (am_ne (by decide) (am_ne (by decide) (am_ne (by decide) (am_ne (by decide) (am_ne (by decide) (am_ne (by decide) (am_ne (by decide) (am_ne (by decide) (am_ne (by decide) (am_ne (by decide) (am_ne (by decide) (am_ne (by decide) (am_ne (by decide) (am_ne (by decide) (am_ne (by decide) (am_ne (by decide) (am_ne (by decide) (am_ne (by decide) (am_ne (by decide) (am_ne (by decide) (am_ne (by decide) (am_ne (by decide) (am_ne (by decide) (am_ne (by decide) (am_ne (by decide) (am_ne (by decide) (am_ne (by decide) (am_ne (by decide) (am_ne (by decide) (am_ne (by decide) (am_ne (by decide) (am_ne (by decide) (am_ne (by decide) (am_ne (by decide) (am_ne (by decide) (am_ne (by decide) (am_ne (by decide) (am_ne (by decide) (am_ne (by decide) (am_ne (by decide) (am_ne (by decide) (am_ne (by decide) (am_ne (by decide) (am_ne (by decide) (am_ne (by decide) (am_ne (by decide) (am_ne (by decide) (am_ne (by decide) (am_ne (by decide) (am_ne (by decide) (am_ne (by decide) (am_ne (by decide) (am_ne (by decide) am_eq))))))))))))))))))))))))))))))))))))))))))))))))))))))))), (am_ne (by decide) (am_ne (by decide) (am_ne (by decide) (am_ne (by decide) (am_ne (by decide) (am_ne (by decide) (am_ne (by decide) (am_ne (by decide) (am_ne (by decide) (am_ne (by decide) (am_ne (by decide) (am_ne (by decide) (am_ne (by decide) (am_ne (by decide) (am_ne (by decide) (am_ne (by decide) (am_ne (by decide) (am_ne (by decide) (am_ne (by decide) (am_ne (by decide) (am_ne (by decide) (am_ne (by decide) (am_ne (by decide) (am_ne (by decide) (am_ne (by decide) (am_ne (by decide) (am_ne (by decide) (am_ne (by decide) (am_ne (by decide) (am_ne (by decide) (am_ne (by decide) (am_ne (by decide) (am_ne (by decide) (am_ne (by decide) (am_ne (by decide) (am_ne (by decide) (am_ne (by decide) (am_ne (by decide) (am_ne (by decide) (am_ne (by decide) (am_ne (by decide) (am_ne (by decide) (am_ne (by decide) (am_ne (by decide) (am_ne (by decide) (am_ne (by decide) (am_ne (by decide) (am_ne (by decide) (am_ne (by decide) (am_ne (by decide) (am_ne (by decide) (am_ne (by decide) (am_ne (by decide) (am_ne (by decide) am_eq)))))))))))))))))))))))))))))))))))))))))))))))))))))), (am_ne (by decide) (am_ne (by decide) (am_ne (by decide) (am_ne (by decide) (am_ne (by decide) (am_ne (by decide) (am_ne (by decide) (am_ne (by decide) (am_ne (by decide) (am_ne (by decide) (am_ne (by decide) (am_ne (by decide) (am_ne (by decide) (am_ne (by decide) (am_ne (by decide) (am_ne (by decide) (am_ne (by decide) (am_ne (by decide) (am_ne (by decide) (am_ne (by decide) (am_ne (by decide) (am_ne (by decide) (am_ne (by decide) (am_ne (by decide) (am_ne (by decide) (am_ne (by decide) (am_ne (by decide) (am_ne (by decide) (am_ne (by decide) (am_ne (by decide) am_eq)))))))))))))))))))))))))))))), am_eq, (am_ne (by decide) (am_ne (by decide) (am_ne (by decide) (am_ne (by decide) (am_ne (by decide) (am_ne (by decide) (am_ne (by decide) (am_ne (by decide) (am_ne (by decide) (am_ne (by decide) (am_ne (by decide) (am_ne (by decide) (am_ne (by decide) (am_ne (by decide) (am_ne (by decide) (am_ne (by decide) (am_ne (by decide) (am_ne (by decide) (am_ne (by decide) (am_ne (by decide) (am_ne (by decide) (am_ne (by decide) (am_ne (by decide) (am_ne (by decide) (am_ne (by decide) (am_ne (by decide) (am_ne (by decide) (am_ne (by decide) (am_ne (by decide) (am_ne (by decide) (am_ne (by decide) (am_ne (by decide) (am_ne (by decide) (am_ne (by decide) (am_ne (by decide) (am_ne (by decide) (am_ne (by decide) (am_ne (by decide) (am_ne (by decide) (am_ne (by decide) (am_ne (by decide) (am_ne (by decide) (am_ne (by decide) (am_ne (by decide) (am_ne (by decide) (am_ne (by decide) (am_ne (by decide) am_eq))))))))))))))))))))))))))))))))))))))))))))))), (am_ne (by decide) (am_ne (by decide) (am_ne (by decide) (am_ne (by decide) (am_ne (by decide) (am_ne (by decide) (am_ne (by decide) (am_ne (by decide) (am_ne (by decide) (am_ne (by decide) (am_ne (by decide) (am_ne (by decide) (am_ne (by decide) (am_ne (by decide) (am_ne (by decide) (am_ne (by decide) (am_ne (by decide) (am_ne (by decide) (am_ne (by decide) (am_ne (by decide) (am_ne (by decide) (am_ne (by decide) (am_ne (by decide) (am_ne (by decide) (am_ne (by decide) (am_ne (by decide) (am_ne (by decide) (am_ne (by decide) (am_ne (by decide) (am_ne (by decide) (am_ne (by decide) (am_ne (by decide) (am_ne (by decide) (am_ne (by decide) (am_ne (by decide) (am_ne (by decide) (am_ne (by decide) (am_ne (by decide) (am_ne (by decide) (am_ne (by decide) (am_ne (by decide) (am_ne (by decide) (am_ne (by decide) am_eq))))))))))))))))))))))))))))))))))))))))))), (am_ne (by decide) (am_ne (by decide) (am_ne (by decide) (am_ne (by decide) (am_ne (by decide) (am_ne (by decide) (am_ne (by decide) (am_ne (by decide) (am_ne (by decide) (am_ne (by decide) (am_ne (by decide) (am_ne (by decide) (am_ne (by decide) (am_ne (by decide) (am_ne (by decide) (am_ne (by decide) (am_ne (by decide) (am_ne (by decide) (am_ne (by decide) (am_ne (by decide) (am_ne (by decide) (am_ne (by decide) (am_ne (by decide) (am_ne (by decide) (am_ne (by decide) (am_ne (by decide) (am_ne (by decide) (am_ne (by decide) (am_ne (by decide) (am_ne (by decide) (am_ne (by decide) (am_ne (by decide) (am_ne (by decide) (am_ne (by decide) (am_ne (by decide) (am_ne (by decide) (am_ne (by decide) (am_ne (by decide) (am_ne (by decide) (am_ne (by decide) (am_ne (by decide) (am_ne (by decide) (am_ne (by decide) (am_ne (by decide) am_eq)))))))))))))))))))))))))))))))))))))))))))), (am_ne (by decide) (am_ne (by decide) (am_ne (by decide) (am_ne (by decide) (am_ne (by decide) (am_ne (by decide) (am_ne (by decide) (am_ne (by decide) (am_ne (by decide) (am_ne (by decide) (am_ne (by decide) (am_ne (by decide) (am_ne (by decide) (am_ne (by decide) (am_ne (by decide) (am_ne (by decide) (am_ne (by decide) (am_ne (by decide) (am_ne (by decide) (am_ne (by decide) (am_ne (by decide) (am_ne (by decide) (am_ne (by decide) (am_ne (by decide) (am_ne (by decide) (am_ne (by decide) (am_ne (by decide) (am_ne (by decide) (am_ne (by decide) (am_ne (by decide) (am_ne (by decide) (am_ne (by decide) (am_ne (by decide) (am_ne (by decide) (am_ne (by decide) (am_ne (by decide) (am_ne (by decide) (am_ne (by decide) (am_ne (by decide) am_eq))))))))))))))))))))))))))))))))))))))), (am_ne (by decide) (am_ne (by decide) (am_ne (by decide) (am_ne (by decide) (am_ne (by decide) (am_ne (by decide) (am_ne (by decide) (am_ne (by decide) (am_ne (by decide) (am_ne (by decide) (am_ne (by decide) (am_ne (by decide) (am_ne (by decide) (am_ne (by decide) (am_ne (by decide) (am_ne (by decide) (am_ne (by decide) (am_ne (by decide) (am_ne (by decide) (am_ne (by decide) (am_ne (by decide) (am_ne (by decide) (am_ne (by decide) (am_ne (by decide) (am_ne (by decide) (am_ne (by decide) (am_ne (by decide) (am_ne (by decide) (am_ne (by decide) (am_ne (by decide) (am_ne (by decide) (am_ne (by decide) (am_ne (by decide) (am_ne (by decide) (am_ne (by decide) (am_ne (by decide) (am_ne (by decide) (am_ne (by decide) (am_ne (by decide) (am_ne (by decide) am_eq)))))))))))))))))))))))))))))))))))))))), (am_ne (by decide) (am_ne (by decide) (am_ne (by decide) (am_ne (by decide) (am_ne (by decide) (am_ne (by decide) (am_ne (by decide) (am_ne (by decide) (am_ne (by decide) (am_ne (by decide) (am_ne (by decide) (am_ne (by decide) (am_ne (by decide) (am_ne (by decide) (am_ne (by decide) (am_ne (by decide) (am_ne (by decide) (am_ne (by decide) (am_ne (by decide) (am_ne (by decide) (am_ne (by decide) (am_ne (by decide) (am_ne (by decide) (am_ne (by decide) (am_ne (by decide) (am_ne (by decide) (am_ne (by decide) (am_ne (by decide) (am_ne (by decide) (am_ne (by decide) (am_ne (by decide) (am_ne (by decide) (am_ne (by decide) (am_ne (by decide) (am_ne (by decide) am_eq))))))))))))))))))))))))))))))))))), (am_ne (by decide) (am_ne (by decide) (am_ne (by decide) (am_ne (by decide) (am_ne (by decide) (am_ne (by decide) (am_ne (by decide) (am_ne (by decide) (am_ne (by decide) (am_ne (by decide) (am_ne (by decide) (am_ne (by decide) (am_ne (by decide) (am_ne (by decide) (am_ne (by decide) (am_ne (by decide) (am_ne (by decide) (am_ne (by decide) (am_ne (by decide) (am_ne (by decide) (am_ne (by decide) (am_ne (by decide) (am_ne (by decide) (am_ne (by decide) (am_ne (by decide) (am_ne (by decide) (am_ne (by decide) (am_ne (by decide) (am_ne (by decide) (am_ne (by decide) (am_ne (by decide) (am_ne (by decide) (am_ne (by decide) (am_ne (by decide) (am_ne (by decide) (am_ne (by decide) am_eq)))))))))))))))))))))))))))))))))))), (am_ne (by decide) (am_ne (by decide) (am_ne (by decide) (am_ne (by decide) (am_ne (by decide) (am_ne (by decide) (am_ne (by decide) (am_ne (by decide) (am_ne (by decide) (am_ne (by decide) (am_ne (by decide) (am_ne (by decide) (am_ne (by decide) (am_ne (by decide) (am_ne (by decide) (am_ne (by decide) (am_ne (by decide) (am_ne (by decide) (am_ne (by decide) (am_ne (by decide) (am_ne (by decide) (am_ne (by decide) (am_ne (by decide) (am_ne (by decide) (am_ne (by decide) (am_ne (by decide) (am_ne (by decide) (am_ne (by decide) (am_ne (by decide) (am_ne (by decide) (am_ne (by decide) am_eq))))))))))))))))))))))))))))))), (am_ne (by decide) (am_ne (by decide) (am_ne (by decide) (am_ne (by decide) (am_ne (by decide) (am_ne (by decide) (am_ne (by decide) (am_ne (by decide) (am_ne (by decide) (am_ne (by decide) (am_ne (by decide) (am_ne (by decide) (am_ne (by decide) (am_ne (by decide) (am_ne (by decide) (am_ne (by decide) (am_ne (by decide) (am_ne (by decide) (am_ne (by decide) (am_ne (by decide) (am_ne (by decide) (am_ne (by decide) (am_ne (by decide) (am_ne (by decide) (am_ne (by decide) (am_ne (by decide) (am_ne (by decide) (am_ne (by decide) (am_ne (by decide) (am_ne (by decide) (am_ne (by decide) (am_ne (by decide) am_eq)))))))))))))))))))))))))))))))), (am_ne (by decide) (am_ne (by decide) (am_ne (by decide) (am_ne (by decide) (am_ne (by decide) (am_ne (by decide) (am_ne (by decide) (am_ne (by decide) (am_ne (by decide) (am_ne (by decide) (am_ne (by decide) (am_ne (by decide) (am_ne (by decide) (am_ne (by decide) (am_ne (by decide) (am_ne (by decide) (am_ne (by decide) (am_ne (by decide) (am_ne (by decide) (am_ne (by decide) (am_ne (by decide) (am_ne (by decide) (am_ne (by decide) (am_ne (by decide) (am_ne (by decide) am_eq))))))))))))))))))))))))), (am_ne (by decide) (am_ne (by decide) (am_ne (by decide) (am_ne (by decide) (am_ne (by decide) (am_ne (by decide) (am_ne (by decide) (am_ne (by decide) (am_ne (by decide) (am_ne (by decide) (am_ne (by decide) (am_ne (by decide) (am_ne (by decide) (am_ne (by decide) (am_ne (by decide) (am_ne (by decide) (am_ne (by decide) (am_ne (by decide) (am_ne (by decide) (am_ne (by decide) (am_ne (by decide) (am_ne (by decide) (am_ne (by decide) (am_ne (by decide) (am_ne (by decide) (am_ne (by decide) am_eq)))))))))))))))))))))))))), (am_ne (by decide) (am_ne (by decide) (am_ne (by decide) (am_ne (by decide) (am_ne (by decide) (am_ne (by decide) (am_ne (by decide) (am_ne (by decide) (am_ne (by decide) (am_ne (by decide) (am_ne (by decide) (am_ne (by decide) (am_ne (by decide) (am_ne (by decide) (am_ne (by decide) (am_ne (by decide) (am_ne (by decide) (am_ne (by decide) (am_ne (by decide) (am_ne (by decide) (am_ne (by decide) (am_ne (by decide) (am_ne (by decide) (am_ne (by decide) (am_ne (by decide) (am_ne (by decide) (am_ne (by decide) am_eq))))))))))))))))))))))))))), (am_ne (by decide) (am_ne (by decide) (am_ne (by decide) (am_ne (by decide) (am_ne (by decide) (am_ne (by decide) (am_ne (by decide) (am_ne (by decide) (am_ne (by decide) (am_ne (by decide) (am_ne (by decide) (am_ne (by decide) (am_ne (by decide) (am_ne (by decide) (am_ne (by decide) (am_ne (by decide) (am_ne (by decide) (am_ne (by decide) (am_ne (by decide) am_eq))))))))))))))))))), (am_ne (by decide) (am_ne (by decide) (am_ne (by decide) (am_ne (by decide) (am_ne (by decide) (am_ne (by decide) (am_ne (by decide) (am_ne (by decide) (am_ne (by decide) (am_ne (by decide) (am_ne (by decide) (am_ne (by decide) (am_ne (by decide) (am_ne (by decide) (am_ne (by decide) (am_ne (by decide) (am_ne (by decide) (am_ne (by decide) (am_ne (by decide) (am_ne (by decide) am_eq)))))))))))))))))))), (am_ne (by decide) (am_ne (by decide) (am_ne (by decide) (am_ne (by decide) (am_ne (by decide) (am_ne (by decide) (am_ne (by decide) (am_ne (by decide) (am_ne (by decide) (am_ne (by decide) (am_ne (by decide) (am_ne (by decide) (am_ne (by decide) (am_ne (by decide) (am_ne (by decide) (am_ne (by decide) (am_ne (by decide) (am_ne (by decide) (am_ne (by decide) (am_ne (by decide) (am_ne (by decide) am_eq))))))))))))))))))))), (am_ne (by decide) (am_ne (by decide) (am_ne (by decide) (am_ne (by decide) (am_ne (by decide) (am_ne (by decide) (am_ne (by decide) (am_ne (by decide) (am_ne (by decide) (am_ne (by decide) (am_ne (by decide) (am_ne (by decide) (am_ne (by decide) am_eq))))))))))))), (am_ne (by decide) (am_ne (by decide) (am_ne (by decide) (am_ne (by decide) (am_ne (by decide) (am_ne (by decide) (am_ne (by decide) (am_ne (by decide) (am_ne (by decide) (am_ne (by decide) (am_ne (by decide) (am_ne (by decide) (am_ne (by decide) (am_ne (by decide) am_eq)))))))))))))), (am_ne (by decide) (am_ne (by decide) (am_ne (by decide) (am_ne (by decide) (am_ne (by decide) (am_ne (by decide) (am_ne (by decide) (am_ne (by decide) (am_ne (by decide) (am_ne (by decide) (am_ne (by decide) (am_ne (by decide) (am_ne (by decide) (am_ne (by decide) (am_ne (by decide) am_eq))))))))))))))), (am_ne (by decide) (am_ne (by decide) (am_ne (by decide) (am_ne (by decide) (am_ne (by decide) (am_ne (by decide) (am_ne (by decide) am_eq))))))), (am_ne (by decide) (am_ne (by decide) (am_ne (by decide) (am_ne (by decide) (am_ne (by decide) (am_ne (by decide) (am_ne (by decide) (am_ne (by decide) am_eq)))))))), (am_ne (by decide) (am_ne (by decide) (am_ne (by decide) (am_ne (by decide) (am_ne (by decide) (am_ne (by decide) (am_ne (by decide) (am_ne (by decide) (am_ne (by decide) am_eq))))))))), (am_ne (by decide) am_eq), (am_ne (by decide) (am_ne (by decide) am_eq)), (am_ne (by decide) (am_ne (by decide) (am_ne (by decide) am_eq)))⟩
  · intro k hk1 hk2
    rw [am_nE (by omega), am_nE (by omega), am_nE (by omega), am_nE (by omega), am_nE (by omega), am_nE (by omega), am_nE (by omega), am_nE (by omega), am_nE (by omega), am_nE (by omega), am_nE (by omega), am_nE (by omega), am_nE (by omega), am_nE (by omega), am_nE (by omega), am_nE (by omega), am_nE (by omega), am_nE (by omega), am_nE (by omega), am_nE (by omega), am_nE (by omega), am_nE (by omega), am_nE (by omega), am_nE (by omega), am_nE (by omega), am_nE (by omega), am_nE (by omega), am_nE (by omega), am_nE (by omega), am_nE (by omega), am_nE (by omega), am_nE (by omega), am_nE (by omega), am_nE (by omega), am_nE (by omega), am_nE (by omega), am_nE (by omega), am_nE (by omega), am_nE (by omega), am_nE (by omega), am_nE (by omega), am_nE (by omega), am_nE (by omega), am_nE (by omega), am_nE (by omega), am_nE (by omega), am_nE (by omega), am_nE (by omega), am_nE (by omega), am_nE (by omega), am_nE (by omega), am_nE (by omega), am_nE (by omega), am_nE (by omega), am_nE (by omega), am_nE (by omega), am_nE (by omega), am_nE (by omega), am_nE (by omega), am_nE (by omega), am_nE (by omega), am_nE (by omega), am_nE (by omega), am_nE (by omega), am_nE (by omega), am_nE (by omega), am_nE (by omega), am_nE (by omega), am_nE (by omega), am_nE (by omega), am_nE (by omega), am_nE (by omega), am_nE (by omega), am_nE (by omega), am_nE (by omega), am_nE (by omega), am_nE (by omega), am_nE (by omega), am_nE (by omega), am_nE (by omega), am_nE (by omega), am_nE (by omega), am_nE (by omega), am_nE (by omega), am_nE (by omega), am_nE (by omega), am_nE (by omega), am_nE (by omega), am_nE (by omega), am_nE (by omega), am_nE (by omega), am_nE (by omega), am_nE (by omega), am_nE (by omega), am_nE (by omega), am_nE (by omega), am_nE (by omega), am_nE (by omega), am_nE (by omega), am_nE (by omega), am_nE (by omega), am_nE (by omega), am_nE (by omega), am_nE (by omega), am_nE (by omega), am_nE (by omega), am_nE (by omega), am_nE (by omega), am_nE (by omega), am_nE (by omega), am_nE (by omega), am_nE (by omega), am_nE (by omega), am_nE (by omega), am_nE (by omega), am_nE (by omega), am_nE (by omega), am_nE (by omega), am_nE (by omega), am_nE (by omega), am_nE (by omega), am_nE (by omega), am_nE (by omega), am_nE (by omega), am_nE (by omega), am_nE (by omega), am_nE (by omega), am_nE (by omega), am_nE (by omega), am_nE (by omega), am_nE (by omega), am_nE (by omega), am_nE (by omega), am_nE (by omega), am_nE (by omega), am_nE (by omega), am_nE (by omega)]
def f0_X8 (h : am_H) : Prop := h 69 = some (.inr (8, [.ref 70, .ref 71, .ref 72, .int 0, .int (-1), .ref 73, .int 0, .ref 74, .ref 75, .int 0, .int 0, .int 0, .int 0, .int 0, .int 0, .int 0, .ref 76, .ref 77, .ref 78, .int 0, .int 0, .ref 79, .int 0, .ref 80, .ref 81, .ref 82, .ref 83, .ref 84, .ref 85, .ref 86, .ref 87, .ref 88, .ref 89, .ref 90, .ref 91, .int 0])) ∧ h 70 = some (.inl (0, (((((((((((((((((List.replicate 1434 0).set 0 1).set 4 60).set 5 10).set 20 20).set 21 20).set 8 5).set 12 1).set 16 1).set 9 5).set 13 1).set 17 1).set 10 5).set 14 1).set 18 1).set 11 5).set 15 1).set 19 1)) ∧ h 71 = some (.inl (0, List.replicate 1434 0)) ∧ h 72 = some (.inl (0, List.replicate 1434 0)) ∧ h 73 = some (.inl (0, List.replicate 4 0)) ∧ h 74 = some (.inl (0, List.replicate 62 0)) ∧ h 75 = some (.inl (0, List.replicate 96 0)) ∧ h 76 = some (.inl (2, [116, 111, 110, 101, 102, 101, 101, 102, 105, 110, 101])) ∧ h 77 = some (.inl (0, [0, 4, 7, 11])) ∧ h 78 = some (.inl (0, List.replicate 96 0)) ∧ h 79 = some (.inl (0, List.replicate 96 0)) ∧ h 80 = some (.inl (1, List.replicate 10 0)) ∧ h 81 = some (.inl (0, List.replicate 96 0)) ∧ h 82 = some (.inl (0, List.replicate 4 0)) ∧ h 83 = some (.inl (0, [(-1), (-1), (-1), (-1)])) ∧ h 84 = some (.inl (0, List.replicate 4 0)) ∧ h 85 = some (.inl (0, List.replicate 96 0)) ∧ h 86 = some (.inl (0, List.replicate 5 0)) ∧ h 87 = some (.inl (0, List.replicate 5 0)) ∧ h 88 = some (.inl (0, List.replicate 5 0)) ∧ h 89 = some (.inl (0, List.replicate 120 0)) ∧ h 90 = some (.inl (0, List.replicate 24 0)) ∧ h 91 = some (.inl (0, List.replicate 60 0))
set_option maxHeartbeats 40000000 in
set_option maxRecDepth 100000 in
theorem c_X8_init {X : List Int32} {d : Nat} {h : am_H} {Q : am_Q} (hq : ∀ h9, f0_X8 h9 → (∀ k, k ≠ 69 → (k < 69 ∨ 92 ≤ k) → h9 k = h k) → Q none 92 h9) : AW X mX8_init (d + 6) 22 5104 0 [some (.ref 69), none] [] 70 (am_up h 69 (.inr (8, [.null, .null, .null, .int 0, .int 0, .null, .int 0, .null, .null, .int 0, .int 0, .int 0, .int 0, .int 0, .int 0, .int 0, .null, .null, .null, .int 0, .int 0, .null, .int 0, .null, .null, .null, .null, .null, .null, .null, .null, .null, .null, .null, .null, .int 0]))) Q := by
  refine aw_aload_n (npc := 1) rfl dX8_init_0 rfl ?_
  refine aw_obj (npc := 4) dX8_init_1 rfl ko_X8_1 ko_i ko_c (Nat.le_of_ble_eq_true rfl) ?_
  refine aw_aload_n (npc := 5) rfl dX8_init_4 rfl ?_
  refine aw_sipush (npc := 8) (v := 1434) (by decide) dX8_init_5 rfl ?_
  refine aw_newi (npc := 10) (N := 1434) dX8_init_8 rfl ka_int ⟨by decide, by decide⟩ (by decide) (by decide) rfl rfl rfl ?_
  refine aw_nn (n' := 71) rfl ?_
  refine aw_putF (npc := 13) dX8_init_10 rfl rfl (fun _ _ _ h9 => by cases h9; rfl) kf_X8_9 (am_ne (by decide) am_eq) (by decide) (am_ok_arr _ _) rfl ?_
  refine aw_aload_n (npc := 14) rfl dX8_init_13 rfl ?_
  refine aw_sipush (npc := 17) (v := 1434) (by decide) dX8_init_14 rfl ?_
  refine aw_newi (npc := 19) (N := 1434) dX8_init_17 rfl ka_int ⟨by decide, by decide⟩ (by decide) (by decide) rfl rfl rfl ?_
  refine aw_nn (n' := 72) rfl ?_
  refine aw_putF (npc := 22) dX8_init_19 rfl rfl (fun _ _ _ h9 => by cases h9; rfl) kf_X8_13 (am_ne (by decide) am_eq) (by decide) (am_ok_arr _ _) rfl ?_
  refine aw_aload_n (npc := 23) rfl dX8_init_22 rfl ?_
  refine aw_sipush (npc := 26) (v := 1434) (by decide) dX8_init_23 rfl ?_
  refine aw_newi (npc := 28) (N := 1434) dX8_init_26 rfl ka_int ⟨by decide, by decide⟩ (by decide) (by decide) rfl rfl rfl ?_
  refine aw_nn (n' := 73) rfl ?_
  refine aw_putF (npc := 31) dX8_init_28 rfl rfl (fun _ _ _ h9 => by cases h9; rfl) kf_X8_16 (am_ne (by decide) am_eq) (by decide) (am_ok_arr _ _) rfl ?_
  refine aw_aload_n (npc := 32) rfl dX8_init_31 rfl ?_
  refine aw_iconst (npc := 33) (v := -1) (by decide) dX8_init_32 rfl ?_
  refine aw_put (npc := 36) dX8_init_33 rfl kf_X8_19 am_eq (Nat.le_of_ble_eq_true rfl) (am_ok_int _) am_uu ?_
  refine aw_aload_n (npc := 37) rfl dX8_init_36 rfl ?_
  refine aw_iconst (npc := 38) (v := 4) (by decide) dX8_init_37 rfl ?_
  refine aw_newi (npc := 40) (N := 4) dX8_init_38 rfl ka_int ⟨by decide, by decide⟩ (by decide) (by decide) rfl rfl rfl ?_
  refine aw_nn (n' := 74) rfl ?_
  refine aw_putF (npc := 43) dX8_init_40 rfl rfl (fun _ _ _ h9 => by cases h9; rfl) kf_X8_23 (am_ne (by decide) am_eq) (by decide) (am_ok_arr _ _) rfl ?_
  refine aw_aload_n (npc := 44) rfl dX8_init_43 rfl ?_
  refine aw_bipush (npc := 46) (v := 62) (by decide) dX8_init_44 rfl ?_
  refine aw_newi (npc := 48) (N := 62) dX8_init_46 rfl ka_int ⟨by decide, by decide⟩ (by decide) (by decide) rfl rfl rfl ?_
  refine aw_nn (n' := 75) rfl ?_
  refine aw_putF (npc := 51) dX8_init_48 rfl rfl (fun _ _ _ h9 => by cases h9; rfl) kf_X8_26 (am_ne (by decide) am_eq) (by decide) (am_ok_arr _ _) rfl ?_
  refine aw_aload_n (npc := 52) rfl dX8_init_51 rfl ?_
  refine aw_bipush (npc := 54) (v := 96) (by decide) dX8_init_52 rfl ?_
  refine aw_newi (npc := 56) (N := 96) dX8_init_54 rfl ka_int ⟨by decide, by decide⟩ (by decide) (by decide) rfl rfl rfl ?_
  refine aw_nn (n' := 76) rfl ?_
  refine aw_putF (npc := 59) dX8_init_56 rfl rfl (fun _ _ _ h9 => by cases h9; rfl) kf_X8_29 (am_ne (by decide) am_eq) (by decide) (am_ok_arr _ _) rfl ?_
  refine aw_aload_n (npc := 60) rfl dX8_init_59 rfl ?_
  refine aw_bipush (npc := 62) (v := 11) (by decide) dX8_init_60 rfl ?_
  refine aw_newc (npc := 64) (N := 11) dX8_init_62 rfl ka_char ⟨by decide, by decide⟩ (by decide) (by decide) rfl rfl rfl ?_
  refine aw_nn (n' := 77) rfl ?_
  refine aw_dup (npc := 65) rfl dX8_init_64 rfl ?_
  refine aw_iconst (npc := 66) (v := 0) (by decide) dX8_init_65 rfl ?_
  refine aw_bipush (npc := 68) (v := 116) (by decide) dX8_init_66 rfl ?_
  refine aw_cast (npc := 69) (j := 0) dX8_init_68 rfl am_eq ⟨by decide, by decide⟩ (Nat.le_of_ble_eq_true rfl) (by decide) (show _ = am_up _ 76 (.inl (2, [116, 0, 0, 0, 0, 0, 0, 0, 0, 0, 0])) from am_uu) ?_
  refine aw_dup (npc := 70) rfl dX8_init_69 rfl ?_
  refine aw_iconst (npc := 71) (v := 1) (by decide) dX8_init_70 rfl ?_
  refine aw_bipush (npc := 73) (v := 111) (by decide) dX8_init_71 rfl ?_
  refine aw_cast (npc := 74) (j := 1) dX8_init_73 rfl am_eq ⟨by decide, by decide⟩ (Nat.le_of_ble_eq_true rfl) (by decide) (show _ = am_up _ 76 (.inl (2, [116, 111, 0, 0, 0, 0, 0, 0, 0, 0, 0])) from am_uu) ?_
  refine aw_dup (npc := 75) rfl dX8_init_74 rfl ?_
  refine aw_iconst (npc := 76) (v := 2) (by decide) dX8_init_75 rfl ?_
  refine aw_bipush (npc := 78) (v := 110) (by decide) dX8_init_76 rfl ?_
  refine aw_cast (npc := 79) (j := 2) dX8_init_78 rfl am_eq ⟨by decide, by decide⟩ (Nat.le_of_ble_eq_true rfl) (by decide) (show _ = am_up _ 76 (.inl (2, [116, 111, 110, 0, 0, 0, 0, 0, 0, 0, 0])) from am_uu) ?_
  refine aw_dup (npc := 80) rfl dX8_init_79 rfl ?_
  refine aw_iconst (npc := 81) (v := 3) (by decide) dX8_init_80 rfl ?_
  refine aw_bipush (npc := 83) (v := 101) (by decide) dX8_init_81 rfl ?_
  refine aw_cast (npc := 84) (j := 3) dX8_init_83 rfl am_eq ⟨by decide, by decide⟩ (Nat.le_of_ble_eq_true rfl) (by decide) (show _ = am_up _ 76 (.inl (2, [116, 111, 110, 101, 0, 0, 0, 0, 0, 0, 0])) from am_uu) ?_
  refine aw_dup (npc := 85) rfl dX8_init_84 rfl ?_
  refine aw_iconst (npc := 86) (v := 4) (by decide) dX8_init_85 rfl ?_
  refine aw_bipush (npc := 88) (v := 102) (by decide) dX8_init_86 rfl ?_
  refine aw_cast (npc := 89) (j := 4) dX8_init_88 rfl am_eq ⟨by decide, by decide⟩ (Nat.le_of_ble_eq_true rfl) (by decide) (show _ = am_up _ 76 (.inl (2, [116, 111, 110, 101, 102, 0, 0, 0, 0, 0, 0])) from am_uu) ?_
  refine aw_dup (npc := 90) rfl dX8_init_89 rfl ?_
  refine aw_iconst (npc := 91) (v := 5) (by decide) dX8_init_90 rfl ?_
  refine aw_bipush (npc := 93) (v := 101) (by decide) dX8_init_91 rfl ?_
  refine aw_cast (npc := 94) (j := 5) dX8_init_93 rfl am_eq ⟨by decide, by decide⟩ (Nat.le_of_ble_eq_true rfl) (by decide) (show _ = am_up _ 76 (.inl (2, [116, 111, 110, 101, 102, 101, 0, 0, 0, 0, 0])) from am_uu) ?_
  refine aw_dup (npc := 95) rfl dX8_init_94 rfl ?_
  refine aw_bipush (npc := 97) (v := 6) (by decide) dX8_init_95 rfl ?_
  refine aw_bipush (npc := 99) (v := 101) (by decide) dX8_init_97 rfl ?_
  refine aw_cast (npc := 100) (j := 6) dX8_init_99 rfl am_eq ⟨by decide, by decide⟩ (Nat.le_of_ble_eq_true rfl) (by decide) (show _ = am_up _ 76 (.inl (2, [116, 111, 110, 101, 102, 101, 101, 0, 0, 0, 0])) from am_uu) ?_
  refine aw_dup (npc := 101) rfl dX8_init_100 rfl ?_
  refine aw_bipush (npc := 103) (v := 7) (by decide) dX8_init_101 rfl ?_
  refine aw_bipush (npc := 105) (v := 102) (by decide) dX8_init_103 rfl ?_
  refine aw_cast (npc := 106) (j := 7) dX8_init_105 rfl am_eq ⟨by decide, by decide⟩ (Nat.le_of_ble_eq_true rfl) (by decide) (show _ = am_up _ 76 (.inl (2, [116, 111, 110, 101, 102, 101, 101, 102, 0, 0, 0])) from am_uu) ?_
  refine aw_dup (npc := 107) rfl dX8_init_106 rfl ?_
  refine aw_bipush (npc := 109) (v := 8) (by decide) dX8_init_107 rfl ?_
  refine aw_bipush (npc := 111) (v := 105) (by decide) dX8_init_109 rfl ?_
  refine aw_cast (npc := 112) (j := 8) dX8_init_111 rfl am_eq ⟨by decide, by decide⟩ (Nat.le_of_ble_eq_true rfl) (by decide) (show _ = am_up _ 76 (.inl (2, [116, 111, 110, 101, 102, 101, 101, 102, 105, 0, 0])) from am_uu) ?_
  refine aw_dup (npc := 113) rfl dX8_init_112 rfl ?_
  refine aw_bipush (npc := 115) (v := 9) (by decide) dX8_init_113 rfl ?_
  refine aw_bipush (npc := 117) (v := 110) (by decide) dX8_init_115 rfl ?_
  refine aw_cast (npc := 118) (j := 9) dX8_init_117 rfl am_eq ⟨by decide, by decide⟩ (Nat.le_of_ble_eq_true rfl) (by decide) (show _ = am_up _ 76 (.inl (2, [116, 111, 110, 101, 102, 101, 101, 102, 105, 110, 0])) from am_uu) ?_
  refine aw_dup (npc := 119) rfl dX8_init_118 rfl ?_
  refine aw_bipush (npc := 121) (v := 10) (by decide) dX8_init_119 rfl ?_
  refine aw_bipush (npc := 123) (v := 101) (by decide) dX8_init_121 rfl ?_
  refine aw_cast (npc := 124) (j := 10) dX8_init_123 rfl am_eq ⟨by decide, by decide⟩ (Nat.le_of_ble_eq_true rfl) (by decide) (show _ = am_up _ 76 (.inl (2, [116, 111, 110, 101, 102, 101, 101, 102, 105, 110, 101])) from am_uu) ?_
  refine aw_putF (npc := 127) dX8_init_124 rfl rfl (fun _ _ _ h9 => by cases h9; rfl) kf_X8_32 (am_ne (by decide) am_eq) (by decide) (am_ok_arr _ _) rfl ?_
  refine aw_aload_n (npc := 128) rfl dX8_init_127 rfl ?_
  refine aw_iconst (npc := 129) (v := 4) (by decide) dX8_init_128 rfl ?_
  refine aw_newi (npc := 131) (N := 4) dX8_init_129 rfl ka_int ⟨by decide, by decide⟩ (by decide) (by decide) rfl rfl rfl ?_
  refine aw_nn (n' := 78) rfl ?_
  refine aw_dup (npc := 132) rfl dX8_init_131 rfl ?_
  refine aw_iconst (npc := 133) (v := 0) (by decide) dX8_init_132 rfl ?_
  refine aw_iconst (npc := 134) (v := 0) (by decide) dX8_init_133 rfl ?_
  refine aw_iast (npc := 135) (j := 0) dX8_init_134 rfl am_eq ⟨by decide, by decide⟩ (Nat.le_of_ble_eq_true rfl) (show _ = am_up _ 77 (.inl (0, [0, 0, 0, 0])) from am_uu) ?_
  refine aw_dup (npc := 136) rfl dX8_init_135 rfl ?_
  refine aw_iconst (npc := 137) (v := 1) (by decide) dX8_init_136 rfl ?_
  refine aw_iconst (npc := 138) (v := 4) (by decide) dX8_init_137 rfl ?_
  refine aw_iast (npc := 139) (j := 1) dX8_init_138 rfl am_eq ⟨by decide, by decide⟩ (Nat.le_of_ble_eq_true rfl) (show _ = am_up _ 77 (.inl (0, [0, 4, 0, 0])) from am_uu) ?_
  refine aw_dup (npc := 140) rfl dX8_init_139 rfl ?_
  refine aw_iconst (npc := 141) (v := 2) (by decide) dX8_init_140 rfl ?_
  refine aw_bipush (npc := 143) (v := 7) (by decide) dX8_init_141 rfl ?_
  refine aw_iast (npc := 144) (j := 2) dX8_init_143 rfl am_eq ⟨by decide, by decide⟩ (Nat.le_of_ble_eq_true rfl) (show _ = am_up _ 77 (.inl (0, [0, 4, 7, 0])) from am_uu) ?_
  refine aw_dup (npc := 145) rfl dX8_init_144 rfl ?_
  refine aw_iconst (npc := 146) (v := 3) (by decide) dX8_init_145 rfl ?_
  refine aw_bipush (npc := 148) (v := 11) (by decide) dX8_init_146 rfl ?_
  refine aw_iast (npc := 149) (j := 3) dX8_init_148 rfl am_eq ⟨by decide, by decide⟩ (Nat.le_of_ble_eq_true rfl) (show _ = am_up _ 77 (.inl (0, [0, 4, 7, 11])) from am_uu) ?_
  refine aw_putF (npc := 152) dX8_init_149 rfl rfl (fun _ _ _ h9 => by cases h9; rfl) kf_X8_36 (am_ne (by decide) am_eq) (by decide) (am_ok_arr _ _) rfl ?_
  refine aw_aload_n (npc := 153) rfl dX8_init_152 rfl ?_
  refine aw_bipush (npc := 155) (v := 96) (by decide) dX8_init_153 rfl ?_
  refine aw_newi (npc := 157) (N := 96) dX8_init_155 rfl ka_int ⟨by decide, by decide⟩ (by decide) (by decide) rfl rfl rfl ?_
  refine aw_nn (n' := 79) rfl ?_
  refine aw_putF (npc := 160) dX8_init_157 rfl rfl (fun _ _ _ h9 => by cases h9; rfl) kf_X8_39 (am_ne (by decide) am_eq) (by decide) (am_ok_arr _ _) rfl ?_
  refine aw_aload_n (npc := 161) rfl dX8_init_160 rfl ?_
  refine aw_bipush (npc := 163) (v := 96) (by decide) dX8_init_161 rfl ?_
  refine aw_newi (npc := 165) (N := 96) dX8_init_163 rfl ka_int ⟨by decide, by decide⟩ (by decide) (by decide) rfl rfl rfl ?_
  refine aw_nn (n' := 80) rfl ?_
  refine aw_putF (npc := 168) dX8_init_165 rfl rfl (fun _ _ _ h9 => by cases h9; rfl) kf_X8_42 (am_ne (by decide) am_eq) (by decide) (am_ok_arr _ _) rfl ?_
  refine aw_aload_n (npc := 169) rfl dX8_init_168 rfl ?_
  refine aw_bipush (npc := 171) (v := 10) (by decide) dX8_init_169 rfl ?_
  refine aw_newz (npc := 173) (N := 10) dX8_init_171 rfl ka_boolean ⟨by decide, by decide⟩ (by decide) (by decide) rfl rfl rfl ?_
  refine aw_nn (n' := 81) rfl ?_
  refine aw_putF (npc := 176) dX8_init_173 rfl rfl (fun _ _ _ h9 => by cases h9; rfl) kf_X8_45 (am_ne (by decide) am_eq) (by decide) (am_ok_arr _ _) rfl ?_
  refine aw_aload_n (npc := 177) rfl dX8_init_176 rfl ?_
  refine aw_bipush (npc := 179) (v := 96) (by decide) dX8_init_177 rfl ?_
  refine aw_newi (npc := 181) (N := 96) dX8_init_179 rfl ka_int ⟨by decide, by decide⟩ (by decide) (by decide) rfl rfl rfl ?_
  refine aw_nn (n' := 82) rfl ?_
  refine aw_putF (npc := 184) dX8_init_181 rfl rfl (fun _ _ _ h9 => by cases h9; rfl) kf_X8_49 (am_ne (by decide) am_eq) (by decide) (am_ok_arr _ _) rfl ?_
  refine aw_aload_n (npc := 185) rfl dX8_init_184 rfl ?_
  refine aw_iconst (npc := 186) (v := 4) (by decide) dX8_init_185 rfl ?_
  refine aw_newi (npc := 188) (N := 4) dX8_init_186 rfl ka_int ⟨by decide, by decide⟩ (by decide) (by decide) rfl rfl rfl ?_
  refine aw_nn (n' := 83) rfl ?_
  refine aw_putF (npc := 191) dX8_init_188 rfl rfl (fun _ _ _ h9 => by cases h9; rfl) kf_X8_52 (am_ne (by decide) am_eq) (by decide) (am_ok_arr _ _) rfl ?_
  refine aw_aload_n (npc := 192) rfl dX8_init_191 rfl ?_
  refine aw_iconst (npc := 193) (v := 4) (by decide) dX8_init_192 rfl ?_
  refine aw_newi (npc := 195) (N := 4) dX8_init_193 rfl ka_int ⟨by decide, by decide⟩ (by decide) (by decide) rfl rfl rfl ?_
  refine aw_nn (n' := 84) rfl ?_
  refine aw_dup (npc := 196) rfl dX8_init_195 rfl ?_
  refine aw_iconst (npc := 197) (v := 0) (by decide) dX8_init_196 rfl ?_
  refine aw_iconst (npc := 198) (v := -1) (by decide) dX8_init_197 rfl ?_
  refine aw_iast (npc := 199) (j := 0) dX8_init_198 rfl am_eq ⟨by decide, by decide⟩ (Nat.le_of_ble_eq_true rfl) (show _ = am_up _ 83 (.inl (0, [(-1), 0, 0, 0])) from am_uu) ?_
  refine aw_dup (npc := 200) rfl dX8_init_199 rfl ?_
  refine aw_iconst (npc := 201) (v := 1) (by decide) dX8_init_200 rfl ?_
  refine aw_iconst (npc := 202) (v := -1) (by decide) dX8_init_201 rfl ?_
  refine aw_iast (npc := 203) (j := 1) dX8_init_202 rfl am_eq ⟨by decide, by decide⟩ (Nat.le_of_ble_eq_true rfl) (show _ = am_up _ 83 (.inl (0, [(-1), (-1), 0, 0])) from am_uu) ?_
  refine aw_dup (npc := 204) rfl dX8_init_203 rfl ?_
  refine aw_iconst (npc := 205) (v := 2) (by decide) dX8_init_204 rfl ?_
  refine aw_iconst (npc := 206) (v := -1) (by decide) dX8_init_205 rfl ?_
  refine aw_iast (npc := 207) (j := 2) dX8_init_206 rfl am_eq ⟨by decide, by decide⟩ (Nat.le_of_ble_eq_true rfl) (show _ = am_up _ 83 (.inl (0, [(-1), (-1), (-1), 0])) from am_uu) ?_
  refine aw_dup (npc := 208) rfl dX8_init_207 rfl ?_
  refine aw_iconst (npc := 209) (v := 3) (by decide) dX8_init_208 rfl ?_
  refine aw_iconst (npc := 210) (v := -1) (by decide) dX8_init_209 rfl ?_
  refine aw_iast (npc := 211) (j := 3) dX8_init_210 rfl am_eq ⟨by decide, by decide⟩ (Nat.le_of_ble_eq_true rfl) (show _ = am_up _ 83 (.inl (0, [(-1), (-1), (-1), (-1)])) from am_uu) ?_
  refine aw_putF (npc := 214) dX8_init_211 rfl rfl (fun _ _ _ h9 => by cases h9; rfl) kf_X8_55 (am_ne (by decide) am_eq) (by decide) (am_ok_arr _ _) rfl ?_
  refine aw_aload_n (npc := 215) rfl dX8_init_214 rfl ?_
  refine aw_iconst (npc := 216) (v := 4) (by decide) dX8_init_215 rfl ?_
  refine aw_newi (npc := 218) (N := 4) dX8_init_216 rfl ka_int ⟨by decide, by decide⟩ (by decide) (by decide) rfl rfl rfl ?_
  refine aw_nn (n' := 85) rfl ?_
  refine aw_putF (npc := 221) dX8_init_218 rfl rfl (fun _ _ _ h9 => by cases h9; rfl) kf_X8_58 (am_ne (by decide) am_eq) (by decide) (am_ok_arr _ _) rfl ?_
  refine aw_aload_n (npc := 222) rfl dX8_init_221 rfl ?_
  refine aw_bipush (npc := 224) (v := 96) (by decide) dX8_init_222 rfl ?_
  refine aw_newi (npc := 226) (N := 96) dX8_init_224 rfl ka_int ⟨by decide, by decide⟩ (by decide) (by decide) rfl rfl rfl ?_
  refine aw_nn (n' := 86) rfl ?_
  refine aw_putF (npc := 229) dX8_init_226 rfl rfl (fun _ _ _ h9 => by cases h9; rfl) kf_X8_61 (am_ne (by decide) am_eq) (by decide) (am_ok_arr _ _) rfl ?_
  refine aw_aload_n (npc := 230) rfl dX8_init_229 rfl ?_
  refine aw_iconst (npc := 231) (v := 5) (by decide) dX8_init_230 rfl ?_
  refine aw_newi (npc := 233) (N := 5) dX8_init_231 rfl ka_int ⟨by decide, by decide⟩ (by decide) (by decide) rfl rfl rfl ?_
  refine aw_nn (n' := 87) rfl ?_
  refine aw_putF (npc := 236) dX8_init_233 rfl rfl (fun _ _ _ h9 => by cases h9; rfl) kf_X8_64 (am_ne (by decide) am_eq) (by decide) (am_ok_arr _ _) rfl ?_
  refine aw_aload_n (npc := 237) rfl dX8_init_236 rfl ?_
  refine aw_iconst (npc := 238) (v := 5) (by decide) dX8_init_237 rfl ?_
  refine aw_newi (npc := 240) (N := 5) dX8_init_238 rfl ka_int ⟨by decide, by decide⟩ (by decide) (by decide) rfl rfl rfl ?_
  refine aw_nn (n' := 88) rfl ?_
  refine aw_putF (npc := 243) dX8_init_240 rfl rfl (fun _ _ _ h9 => by cases h9; rfl) kf_X8_67 (am_ne (by decide) am_eq) (by decide) (am_ok_arr _ _) rfl ?_
  refine aw_aload_n (npc := 244) rfl dX8_init_243 rfl ?_
  refine aw_iconst (npc := 245) (v := 5) (by decide) dX8_init_244 rfl ?_
  refine aw_newi (npc := 247) (N := 5) dX8_init_245 rfl ka_int ⟨by decide, by decide⟩ (by decide) (by decide) rfl rfl rfl ?_
  refine aw_nn (n' := 89) rfl ?_
  refine aw_putF (npc := 250) dX8_init_247 rfl rfl (fun _ _ _ h9 => by cases h9; rfl) kf_X8_70 (am_ne (by decide) am_eq) (by decide) (am_ok_arr _ _) rfl ?_
  refine aw_aload_n (npc := 251) rfl dX8_init_250 rfl ?_
  refine aw_bipush (npc := 253) (v := 120) (by decide) dX8_init_251 rfl ?_
  refine aw_newi (npc := 255) (N := 120) dX8_init_253 rfl ka_int ⟨by decide, by decide⟩ (by decide) (by decide) rfl rfl rfl ?_
  refine aw_nn (n' := 90) rfl ?_
  refine aw_putF (npc := 258) dX8_init_255 rfl rfl (fun _ _ _ h9 => by cases h9; rfl) kf_X8_73 (am_ne (by decide) am_eq) (by decide) (am_ok_arr _ _) rfl ?_
  refine aw_aload_n (npc := 259) rfl dX8_init_258 rfl ?_
  refine aw_bipush (npc := 261) (v := 24) (by decide) dX8_init_259 rfl ?_
  refine aw_newi (npc := 263) (N := 24) dX8_init_261 rfl ka_int ⟨by decide, by decide⟩ (by decide) (by decide) rfl rfl rfl ?_
  refine aw_nn (n' := 91) rfl ?_
  refine aw_putF (npc := 266) dX8_init_263 rfl rfl (fun _ _ _ h9 => by cases h9; rfl) kf_X8_76 (am_ne (by decide) am_eq) (by decide) (am_ok_arr _ _) rfl ?_
  refine aw_aload_n (npc := 267) rfl dX8_init_266 rfl ?_
  refine aw_bipush (npc := 269) (v := 60) (by decide) dX8_init_267 rfl ?_
  refine aw_newi (npc := 271) (N := 60) dX8_init_269 rfl ka_int ⟨by decide, by decide⟩ (by decide) (by decide) rfl rfl rfl ?_
  refine aw_nn (n' := 92) rfl ?_
  refine aw_putF (npc := 274) dX8_init_271 rfl rfl (fun _ _ _ h9 => by cases h9; rfl) kf_X8_79 (am_ne (by decide) am_eq) (by decide) (am_ok_arr _ _) rfl ?_
  refine aw_aload_n (npc := 275) rfl dX8_init_274 rfl ?_
  refine aw_get (npc := 278) dX8_init_275 rfl kf_X8_9 am_eq rfl ?_
  refine aw_iconst (npc := 279) (v := 0) (by decide) dX8_init_278 rfl ?_
  refine aw_iconst (npc := 280) (v := 1) (by decide) dX8_init_279 rfl ?_
  refine aw_iast (npc := 281) (j := 0) dX8_init_280 rfl (am_ne (by decide) (am_ne (by decide) (am_ne (by decide) (am_ne (by decide) (am_ne (by decide) (am_ne (by decide) (am_ne (by decide) (am_ne (by decide) (am_ne (by decide) (am_ne (by decide) (am_ne (by decide) (am_ne (by decide) (am_ne (by decide) (am_ne (by decide) (am_ne (by decide) (am_ne (by decide) (am_ne (by decide) (am_ne (by decide) (am_ne (by decide) (am_ne (by decide) (am_ne (by decide) (am_ne (by decide) (am_ne (by decide) (am_ne (by decide) (am_ne (by decide) (am_ne (by decide) (am_ne (by decide) (am_ne (by decide) (am_ne (by decide) (am_ne (by decide) (am_ne (by decide) (am_ne (by decide) (am_ne (by decide) (am_ne (by decide) (am_ne (by decide) (am_ne (by decide) (am_ne (by decide) (am_ne (by decide) (am_ne (by decide) (am_ne (by decide) (am_ne (by decide) (am_ne (by decide) (am_ne (by decide) am_eq))))))))))))))))))))))))))))))))))))))))))) ⟨by decide, by decide⟩ (Nat.le_of_ble_eq_true rfl) rfl ?_
  refine aw_aload_n (npc := 282) rfl dX8_init_281 rfl ?_
  refine aw_get (npc := 285) dX8_init_282 rfl kf_X8_9 (am_ne (by decide) am_eq) rfl ?_
  refine aw_iconst (npc := 286) (v := 4) (by decide) dX8_init_285 rfl ?_
  refine aw_bipush (npc := 288) (v := 60) (by decide) dX8_init_286 rfl ?_
  refine aw_iast (npc := 289) (j := 4) dX8_init_288 rfl am_eq ⟨by decide, by decide⟩ (Nat.le_of_ble_eq_true rfl) am_uu ?_
  refine aw_aload_n (npc := 290) rfl dX8_init_289 rfl ?_
  refine aw_get (npc := 293) dX8_init_290 rfl kf_X8_9 (am_ne (by decide) am_eq) rfl ?_
  refine aw_iconst (npc := 294) (v := 5) (by decide) dX8_init_293 rfl ?_
  refine aw_bipush (npc := 296) (v := 10) (by decide) dX8_init_294 rfl ?_
  refine aw_iast (npc := 297) (j := 5) dX8_init_296 rfl am_eq ⟨by decide, by decide⟩ (Nat.le_of_ble_eq_true rfl) am_uu ?_
  refine aw_aload_n (npc := 298) rfl dX8_init_297 rfl ?_
  refine aw_get (npc := 301) dX8_init_298 rfl kf_X8_9 (am_ne (by decide) am_eq) rfl ?_
  refine aw_bipush (npc := 303) (v := 20) (by decide) dX8_init_301 rfl ?_
  refine aw_bipush (npc := 305) (v := 20) (by decide) dX8_init_303 rfl ?_
  refine aw_iast (npc := 306) (j := 20) dX8_init_305 rfl am_eq ⟨by decide, by decide⟩ (Nat.le_of_ble_eq_true rfl) am_uu ?_
  refine aw_aload_n (npc := 307) rfl dX8_init_306 rfl ?_
  refine aw_get (npc := 310) dX8_init_307 rfl kf_X8_9 (am_ne (by decide) am_eq) rfl ?_
  refine aw_bipush (npc := 312) (v := 21) (by decide) dX8_init_310 rfl ?_
  refine aw_bipush (npc := 314) (v := 20) (by decide) dX8_init_312 rfl ?_
  refine aw_iast (npc := 315) (j := 21) dX8_init_314 rfl am_eq ⟨by decide, by decide⟩ (Nat.le_of_ble_eq_true rfl) am_uu ?_
  refine aw_iconst (npc := 316) (v := 0) (by decide) dX8_init_315 rfl ?_
  refine aw_istore_n (npc := 317) (L' := [some (.ref 69), some (.int 0)]) dX8_init_316 rfl (by decide) rfl rfl ?_
  refine aw_iload_n (npc := 318) rfl dX8_init_317 rfl ?_
  refine aw_iconst (npc := 319) (v := 4) (by decide) dX8_init_318 rfl ?_
  refine aw_icmp_ge (npc := 322) (tgt := 358) dX8_init_319 rfl (by decide) (fun hc => absurd hc (by decide)) (fun _ => ?_)
  refine aw_aload_n (npc := 323) rfl dX8_init_322 rfl ?_
  refine aw_get (npc := 326) dX8_init_323 rfl kf_X8_9 (am_ne (by decide) am_eq) rfl ?_
  refine aw_bipush (npc := 328) (v := 8) (by decide) dX8_init_326 rfl ?_
  refine aw_iload_n (npc := 329) rfl dX8_init_328 rfl ?_
  refine aw_iaddV (npc := 330) (v := 8) dX8_init_329 rfl (by decide) ?_
  refine aw_iconst (npc := 331) (v := 5) (by decide) dX8_init_330 rfl ?_
  refine aw_iast (npc := 332) (j := 8) dX8_init_331 rfl am_eq ⟨by decide, by decide⟩ (Nat.le_of_ble_eq_true rfl) am_uu ?_
  refine aw_aload_n (npc := 333) rfl dX8_init_332 rfl ?_
  refine aw_get (npc := 336) dX8_init_333 rfl kf_X8_9 (am_ne (by decide) am_eq) rfl ?_
  refine aw_bipush (npc := 338) (v := 12) (by decide) dX8_init_336 rfl ?_
  refine aw_iload_n (npc := 339) rfl dX8_init_338 rfl ?_
  refine aw_iaddV (npc := 340) (v := 12) dX8_init_339 rfl (by decide) ?_
  refine aw_iconst (npc := 341) (v := 1) (by decide) dX8_init_340 rfl ?_
  refine aw_iast (npc := 342) (j := 12) dX8_init_341 rfl am_eq ⟨by decide, by decide⟩ (Nat.le_of_ble_eq_true rfl) am_uu ?_
  refine aw_aload_n (npc := 343) rfl dX8_init_342 rfl ?_
  refine aw_get (npc := 346) dX8_init_343 rfl kf_X8_9 (am_ne (by decide) am_eq) rfl ?_
  refine aw_bipush (npc := 348) (v := 16) (by decide) dX8_init_346 rfl ?_
  refine aw_iload_n (npc := 349) rfl dX8_init_348 rfl ?_
  refine aw_iaddV (npc := 350) (v := 16) dX8_init_349 rfl (by decide) ?_
  refine aw_iconst (npc := 351) (v := 1) (by decide) dX8_init_350 rfl ?_
  refine aw_iast (npc := 352) (j := 16) dX8_init_351 rfl am_eq ⟨by decide, by decide⟩ (Nat.le_of_ble_eq_true rfl) am_uu ?_
  refine aw_iinc (npc := 355) (v := 1) (L' := [some (.ref 69), some (.int 1)]) dX8_init_352 rfl rfl (by decide) (by decide) rfl rfl ?_
  refine aw_goto (npc := 317) dX8_init_355 (by decide) ?_
  refine aw_iload_n (npc := 318) rfl dX8_init_317 rfl ?_
  refine aw_iconst (npc := 319) (v := 4) (by decide) dX8_init_318 rfl ?_
  refine aw_icmp_ge (npc := 322) (tgt := 358) dX8_init_319 rfl (by decide) (fun hc => absurd hc (by decide)) (fun _ => ?_)
  refine aw_aload_n (npc := 323) rfl dX8_init_322 rfl ?_
  refine aw_get (npc := 326) dX8_init_323 rfl kf_X8_9 (am_ne (by decide) am_eq) rfl ?_
  refine aw_bipush (npc := 328) (v := 8) (by decide) dX8_init_326 rfl ?_
  refine aw_iload_n (npc := 329) rfl dX8_init_328 rfl ?_
  refine aw_iaddV (npc := 330) (v := 9) dX8_init_329 rfl (by decide) ?_
  refine aw_iconst (npc := 331) (v := 5) (by decide) dX8_init_330 rfl ?_
  refine aw_iast (npc := 332) (j := 9) dX8_init_331 rfl am_eq ⟨by decide, by decide⟩ (Nat.le_of_ble_eq_true rfl) am_uu ?_
  refine aw_aload_n (npc := 333) rfl dX8_init_332 rfl ?_
  refine aw_get (npc := 336) dX8_init_333 rfl kf_X8_9 (am_ne (by decide) am_eq) rfl ?_
  refine aw_bipush (npc := 338) (v := 12) (by decide) dX8_init_336 rfl ?_
  refine aw_iload_n (npc := 339) rfl dX8_init_338 rfl ?_
  refine aw_iaddV (npc := 340) (v := 13) dX8_init_339 rfl (by decide) ?_
  refine aw_iconst (npc := 341) (v := 1) (by decide) dX8_init_340 rfl ?_
  refine aw_iast (npc := 342) (j := 13) dX8_init_341 rfl am_eq ⟨by decide, by decide⟩ (Nat.le_of_ble_eq_true rfl) am_uu ?_
  refine aw_aload_n (npc := 343) rfl dX8_init_342 rfl ?_
  refine aw_get (npc := 346) dX8_init_343 rfl kf_X8_9 (am_ne (by decide) am_eq) rfl ?_
  refine aw_bipush (npc := 348) (v := 16) (by decide) dX8_init_346 rfl ?_
  refine aw_iload_n (npc := 349) rfl dX8_init_348 rfl ?_
  refine aw_iaddV (npc := 350) (v := 17) dX8_init_349 rfl (by decide) ?_
  refine aw_iconst (npc := 351) (v := 1) (by decide) dX8_init_350 rfl ?_
  refine aw_iast (npc := 352) (j := 17) dX8_init_351 rfl am_eq ⟨by decide, by decide⟩ (Nat.le_of_ble_eq_true rfl) am_uu ?_
  refine aw_iinc (npc := 355) (v := 2) (L' := [some (.ref 69), some (.int 2)]) dX8_init_352 rfl rfl (by decide) (by decide) rfl rfl ?_
  refine aw_goto (npc := 317) dX8_init_355 (by decide) ?_
  refine aw_iload_n (npc := 318) rfl dX8_init_317 rfl ?_
  refine aw_iconst (npc := 319) (v := 4) (by decide) dX8_init_318 rfl ?_
  refine aw_icmp_ge (npc := 322) (tgt := 358) dX8_init_319 rfl (by decide) (fun hc => absurd hc (by decide)) (fun _ => ?_)
  refine aw_aload_n (npc := 323) rfl dX8_init_322 rfl ?_
  refine aw_get (npc := 326) dX8_init_323 rfl kf_X8_9 (am_ne (by decide) am_eq) rfl ?_
  refine aw_bipush (npc := 328) (v := 8) (by decide) dX8_init_326 rfl ?_
  refine aw_iload_n (npc := 329) rfl dX8_init_328 rfl ?_
  refine aw_iaddV (npc := 330) (v := 10) dX8_init_329 rfl (by decide) ?_
  refine aw_iconst (npc := 331) (v := 5) (by decide) dX8_init_330 rfl ?_
  refine aw_iast (npc := 332) (j := 10) dX8_init_331 rfl am_eq ⟨by decide, by decide⟩ (Nat.le_of_ble_eq_true rfl) am_uu ?_
  refine aw_aload_n (npc := 333) rfl dX8_init_332 rfl ?_
  refine aw_get (npc := 336) dX8_init_333 rfl kf_X8_9 (am_ne (by decide) am_eq) rfl ?_
  refine aw_bipush (npc := 338) (v := 12) (by decide) dX8_init_336 rfl ?_
  refine aw_iload_n (npc := 339) rfl dX8_init_338 rfl ?_
  refine aw_iaddV (npc := 340) (v := 14) dX8_init_339 rfl (by decide) ?_
  refine aw_iconst (npc := 341) (v := 1) (by decide) dX8_init_340 rfl ?_
  refine aw_iast (npc := 342) (j := 14) dX8_init_341 rfl am_eq ⟨by decide, by decide⟩ (Nat.le_of_ble_eq_true rfl) am_uu ?_
  refine aw_aload_n (npc := 343) rfl dX8_init_342 rfl ?_
  refine aw_get (npc := 346) dX8_init_343 rfl kf_X8_9 (am_ne (by decide) am_eq) rfl ?_
  refine aw_bipush (npc := 348) (v := 16) (by decide) dX8_init_346 rfl ?_
  refine aw_iload_n (npc := 349) rfl dX8_init_348 rfl ?_
  refine aw_iaddV (npc := 350) (v := 18) dX8_init_349 rfl (by decide) ?_
  refine aw_iconst (npc := 351) (v := 1) (by decide) dX8_init_350 rfl ?_
  refine aw_iast (npc := 352) (j := 18) dX8_init_351 rfl am_eq ⟨by decide, by decide⟩ (Nat.le_of_ble_eq_true rfl) am_uu ?_
  refine aw_iinc (npc := 355) (v := 3) (L' := [some (.ref 69), some (.int 3)]) dX8_init_352 rfl rfl (by decide) (by decide) rfl rfl ?_
  refine aw_goto (npc := 317) dX8_init_355 (by decide) ?_
  refine aw_iload_n (npc := 318) rfl dX8_init_317 rfl ?_
  refine aw_iconst (npc := 319) (v := 4) (by decide) dX8_init_318 rfl ?_
  refine aw_icmp_ge (npc := 322) (tgt := 358) dX8_init_319 rfl (by decide) (fun hc => absurd hc (by decide)) (fun _ => ?_)
  refine aw_aload_n (npc := 323) rfl dX8_init_322 rfl ?_
  refine aw_get (npc := 326) dX8_init_323 rfl kf_X8_9 (am_ne (by decide) am_eq) rfl ?_
  refine aw_bipush (npc := 328) (v := 8) (by decide) dX8_init_326 rfl ?_
  refine aw_iload_n (npc := 329) rfl dX8_init_328 rfl ?_
  refine aw_iaddV (npc := 330) (v := 11) dX8_init_329 rfl (by decide) ?_
  refine aw_iconst (npc := 331) (v := 5) (by decide) dX8_init_330 rfl ?_
  refine aw_iast (npc := 332) (j := 11) dX8_init_331 rfl am_eq ⟨by decide, by decide⟩ (Nat.le_of_ble_eq_true rfl) am_uu ?_
  refine aw_aload_n (npc := 333) rfl dX8_init_332 rfl ?_
  refine aw_get (npc := 336) dX8_init_333 rfl kf_X8_9 (am_ne (by decide) am_eq) rfl ?_
  refine aw_bipush (npc := 338) (v := 12) (by decide) dX8_init_336 rfl ?_
  refine aw_iload_n (npc := 339) rfl dX8_init_338 rfl ?_
  refine aw_iaddV (npc := 340) (v := 15) dX8_init_339 rfl (by decide) ?_
  refine aw_iconst (npc := 341) (v := 1) (by decide) dX8_init_340 rfl ?_
  refine aw_iast (npc := 342) (j := 15) dX8_init_341 rfl am_eq ⟨by decide, by decide⟩ (Nat.le_of_ble_eq_true rfl) am_uu ?_
  refine aw_aload_n (npc := 343) rfl dX8_init_342 rfl ?_
  refine aw_get (npc := 346) dX8_init_343 rfl kf_X8_9 (am_ne (by decide) am_eq) rfl ?_
  refine aw_bipush (npc := 348) (v := 16) (by decide) dX8_init_346 rfl ?_
  refine aw_iload_n (npc := 349) rfl dX8_init_348 rfl ?_
  refine aw_iaddV (npc := 350) (v := 19) dX8_init_349 rfl (by decide) ?_
  refine aw_iconst (npc := 351) (v := 1) (by decide) dX8_init_350 rfl ?_
  refine aw_iast (npc := 352) (j := 19) dX8_init_351 rfl am_eq ⟨by decide, by decide⟩ (Nat.le_of_ble_eq_true rfl) am_uu ?_
  refine aw_iinc (npc := 355) (v := 4) (L' := [some (.ref 69), some (.int 4)]) dX8_init_352 rfl rfl (by decide) (by decide) rfl rfl ?_
  refine aw_goto (npc := 317) dX8_init_355 (by decide) ?_
  refine aw_iload_n (npc := 318) rfl dX8_init_317 rfl ?_
  refine aw_iconst (npc := 319) (v := 4) (by decide) dX8_init_318 rfl ?_
  refine aw_icmp_ge (npc := 322) (tgt := 358) dX8_init_319 rfl (by decide) (fun _ => ?_) (fun hc => absurd (by decide) hc)
  refine aw_vret rfl dX8_init_358 ?_
  refine hq _ ?_ ?_
  · exact ⟨(am_ne (by decide) am_eq), am_eq, (am_ne (by decide) (am_ne (by decide) (am_ne (by decide) (am_ne (by decide) (am_ne (by decide) (am_ne (by decide) (am_ne (by decide) (am_ne (by decide) (am_ne (by decide) (am_ne (by decide) (am_ne (by decide) (am_ne (by decide) (am_ne (by decide) (am_ne (by decide) (am_ne (by decide) (am_ne (by decide) (am_ne (by decide) (am_ne (by decide) (am_ne (by decide) (am_ne (by decide) (am_ne (by decide) (am_ne (by decide) (am_ne (by decide) (am_ne (by decide) (am_ne (by decide) (am_ne (by decide) (am_ne (by decide) (am_ne (by decide) (am_ne (by decide) (am_ne (by decide) (am_ne (by decide) (am_ne (by decide) (am_ne (by decide) (am_ne (by decide) (am_ne (by decide) (am_ne (by decide) (am_ne (by decide) (am_ne (by decide) (am_ne (by decide) (am_ne (by decide) (am_ne (by decide) (am_ne (by decide) am_eq)))))))))))))))))))))))))))))))))))))))))), (am_ne (by decide) (am_ne (by decide) (am_ne (by decide) (am_ne (by decide) (am_ne (by decide) (am_ne (by decide) (am_ne (by decide) (am_ne (by decide) (am_ne (by decide) (am_ne (by decide) (am_ne (by decide) (am_ne (by decide) (am_ne (by decide) (am_ne (by decide) (am_ne (by decide) (am_ne (by decide) (am_ne (by decide) (am_ne (by decide) (am_ne (by decide) (am_ne (by decide) (am_ne (by decide) (am_ne (by decide) (am_ne (by decide) (am_ne (by decide) (am_ne (by decide) (am_ne (by decide) (am_ne (by decide) (am_ne (by decide) (am_ne (by decide) (am_ne (by decide) (am_ne (by decide) (am_ne (by decide) (am_ne (by decide) (am_ne (by decide) (am_ne (by decide) (am_ne (by decide) (am_ne (by decide) (am_ne (by decide) (am_ne (by decide) (am_ne (by decide) am_eq)))))))))))))))))))))))))))))))))))))))), (am_ne (by decide) (am_ne (by decide) (am_ne (by decide) (am_ne (by decide) (am_ne (by decide) (am_ne (by decide) (am_ne (by decide) (am_ne (by decide) (am_ne (by decide) (am_ne (by decide) (am_ne (by decide) (am_ne (by decide) (am_ne (by decide) (am_ne (by decide) (am_ne (by decide) (am_ne (by decide) (am_ne (by decide) (am_ne (by decide) (am_ne (by decide) (am_ne (by decide) (am_ne (by decide) (am_ne (by decide) (am_ne (by decide) (am_ne (by decide) (am_ne (by decide) (am_ne (by decide) (am_ne (by decide) (am_ne (by decide) (am_ne (by decide) (am_ne (by decide) (am_ne (by decide) (am_ne (by decide) (am_ne (by decide) (am_ne (by decide) (am_ne (by decide) (am_ne (by decide) (am_ne (by decide) (am_ne (by decide) am_eq)))))))))))))))))))))))))))))))))))))), (am_ne (by decide) (am_ne (by decide) (am_ne (by decide) (am_ne (by decide) (am_ne (by decide) (am_ne (by decide) (am_ne (by decide) (am_ne (by decide) (am_ne (by decide) (am_ne (by decide) (am_ne (by decide) (am_ne (by decide) (am_ne (by decide) (am_ne (by decide) (am_ne (by decide) (am_ne (by decide) (am_ne (by decide) (am_ne (by decide) (am_ne (by decide) (am_ne (by decide) (am_ne (by decide) (am_ne (by decide) (am_ne (by decide) (am_ne (by decide) (am_ne (by decide) (am_ne (by decide) (am_ne (by decide) (am_ne (by decide) (am_ne (by decide) (am_ne (by decide) (am_ne (by decide) (am_ne (by decide) (am_ne (by decide) (am_ne (by decide) (am_ne (by decide) (am_ne (by decide) am_eq)))))))))))))))))))))))))))))))))))), (am_ne (by decide) (am_ne (by decide) (am_ne (by decide) (am_ne (by decide) (am_ne (by decide) (am_ne (by decide) (am_ne (by decide) (am_ne (by decide) (am_ne (by decide) (am_ne (by decide) (am_ne (by decide) (am_ne (by decide) (am_ne (by decide) (am_ne (by decide) (am_ne (by decide) (am_ne (by decide) (am_ne (by decide) (am_ne (by decide) (am_ne (by decide) (am_ne (by decide) (am_ne (by decide) (am_ne (by decide) (am_ne (by decide) (am_ne (by decide) (am_ne (by decide) (am_ne (by decide) (am_ne (by decide) (am_ne (by decide) (am_ne (by decide) (am_ne (by decide) (am_ne (by decide) (am_ne (by decide) (am_ne (by decide) (am_ne (by decide) am_eq)))))))))))))))))))))))))))))))))), (am_ne (by decide) (am_ne (by decide) (am_ne (by decide) (am_ne (by decide) (am_ne (by decide) (am_ne (by decide) (am_ne (by decide) (am_ne (by decide) (am_ne (by decide) (am_ne (by decide) (am_ne (by decide) (am_ne (by decide) (am_ne (by decide) (am_ne (by decide) (am_ne (by decide) (am_ne (by decide) (am_ne (by decide) (am_ne (by decide) (am_ne (by decide) (am_ne (by decide) (am_ne (by decide) (am_ne (by decide) (am_ne (by decide) (am_ne (by decide) (am_ne (by decide) (am_ne (by decide) (am_ne (by decide) (am_ne (by decide) (am_ne (by decide) (am_ne (by decide) (am_ne (by decide) (am_ne (by decide) am_eq)))))))))))))))))))))))))))))))), (am_ne (by decide) (am_ne (by decide) (am_ne (by decide) (am_ne (by decide) (am_ne (by decide) (am_ne (by decide) (am_ne (by decide) (am_ne (by decide) (am_ne (by decide) (am_ne (by decide) (am_ne (by decide) (am_ne (by decide) (am_ne (by decide) (am_ne (by decide) (am_ne (by decide) (am_ne (by decide) (am_ne (by decide) (am_ne (by decide) (am_ne (by decide) (am_ne (by decide) (am_ne (by decide) (am_ne (by decide) (am_ne (by decide) (am_ne (by decide) (am_ne (by decide) (am_ne (by decide) (am_ne (by decide) (am_ne (by decide) (am_ne (by decide) (am_ne (by decide) am_eq)))))))))))))))))))))))))))))), (am_ne (by decide) (am_ne (by decide) (am_ne (by decide) (am_ne (by decide) (am_ne (by decide) (am_ne (by decide) (am_ne (by decide) (am_ne (by decide) (am_ne (by decide) (am_ne (by decide) (am_ne (by decide) (am_ne (by decide) (am_ne (by decide) (am_ne (by decide) (am_ne (by decide) (am_ne (by decide) (am_ne (by decide) (am_ne (by decide) (am_ne (by decide) (am_ne (by decide) (am_ne (by decide) (am_ne (by decide) (am_ne (by decide) (am_ne (by decide) (am_ne (by decide) (am_ne (by decide) (am_ne (by decide) (am_ne (by decide) am_eq)))))))))))))))))))))))))))), (am_ne (by decide) (am_ne (by decide) (am_ne (by decide) (am_ne (by decide) (am_ne (by decide) (am_ne (by decide) (am_ne (by decide) (am_ne (by decide) (am_ne (by decide) (am_ne (by decide) (am_ne (by decide) (am_ne (by decide) (am_ne (by decide) (am_ne (by decide) (am_ne (by decide) (am_ne (by decide) (am_ne (by decide) (am_ne (by decide) (am_ne (by decide) (am_ne (by decide) (am_ne (by decide) (am_ne (by decide) (am_ne (by decide) (am_ne (by decide) (am_ne (by decide) (am_ne (by decide) am_eq)))))))))))))))))))))))))), (am_ne (by decide) (am_ne (by decide) (am_ne (by decide) (am_ne (by decide) (am_ne (by decide) (am_ne (by decide) (am_ne (by decide) (am_ne (by decide) (am_ne (by decide) (am_ne (by decide) (am_ne (by decide) (am_ne (by decide) (am_ne (by decide) (am_ne (by decide) (am_ne (by decide) (am_ne (by decide) (am_ne (by decide) (am_ne (by decide) (am_ne (by decide) (am_ne (by decide) (am_ne (by decide) (am_ne (by decide) (am_ne (by decide) (am_ne (by decide) am_eq)))))))))))))))))))))))), (am_ne (by decide) (am_ne (by decide) (am_ne (by decide) (am_ne (by decide) (am_ne (by decide) (am_ne (by decide) (am_ne (by decide) (am_ne (by decide) (am_ne (by decide) (am_ne (by decide) (am_ne (by decide) (am_ne (by decide) (am_ne (by decide) (am_ne (by decide) (am_ne (by decide) (am_ne (by decide) (am_ne (by decide) (am_ne (by decide) (am_ne (by decide) (am_ne (by decide) (am_ne (by decide) (am_ne (by decide) am_eq)))))))))))))))))))))), (am_ne (by decide) (am_ne (by decide) (am_ne (by decide) (am_ne (by decide) (am_ne (by decide) (am_ne (by decide) (am_ne (by decide) (am_ne (by decide) (am_ne (by decide) (am_ne (by decide) (am_ne (by decide) (am_ne (by decide) (am_ne (by decide) (am_ne (by decide) (am_ne (by decide) (am_ne (by decide) (am_ne (by decide) (am_ne (by decide) (am_ne (by decide) (am_ne (by decide) am_eq)))))))))))))))))))), (am_ne (by decide) (am_ne (by decide) (am_ne (by decide) (am_ne (by decide) (am_ne (by decide) (am_ne (by decide) (am_ne (by decide) (am_ne (by decide) (am_ne (by decide) (am_ne (by decide) (am_ne (by decide) (am_ne (by decide) (am_ne (by decide) (am_ne (by decide) (am_ne (by decide) (am_ne (by decide) (am_ne (by decide) (am_ne (by decide) am_eq)))))))))))))))))), (am_ne (by decide) (am_ne (by decide) (am_ne (by decide) (am_ne (by decide) (am_ne (by decide) (am_ne (by decide) (am_ne (by decide) (am_ne (by decide) (am_ne (by decide) (am_ne (by decide) (am_ne (by decide) (am_ne (by decide) (am_ne (by decide) (am_ne (by decide) (am_ne (by decide) (am_ne (by decide) am_eq)))))))))))))))), (am_ne (by decide) (am_ne (by decide) (am_ne (by decide) (am_ne (by decide) (am_ne (by decide) (am_ne (by decide) (am_ne (by decide) (am_ne (by decide) (am_ne (by decide) (am_ne (by decide) (am_ne (by decide) (am_ne (by decide) (am_ne (by decide) (am_ne (by decide) am_eq)))))))))))))), (am_ne (by decide) (am_ne (by decide) (am_ne (by decide) (am_ne (by decide) (am_ne (by decide) (am_ne (by decide) (am_ne (by decide) (am_ne (by decide) (am_ne (by decide) (am_ne (by decide) (am_ne (by decide) (am_ne (by decide) am_eq)))))))))))), (am_ne (by decide) (am_ne (by decide) (am_ne (by decide) (am_ne (by decide) (am_ne (by decide) (am_ne (by decide) (am_ne (by decide) (am_ne (by decide) (am_ne (by decide) (am_ne (by decide) am_eq)))))))))), (am_ne (by decide) (am_ne (by decide) (am_ne (by decide) (am_ne (by decide) (am_ne (by decide) (am_ne (by decide) (am_ne (by decide) (am_ne (by decide) am_eq)))))))), (am_ne (by decide) (am_ne (by decide) (am_ne (by decide) (am_ne (by decide) (am_ne (by decide) (am_ne (by decide) am_eq)))))), (am_ne (by decide) (am_ne (by decide) (am_ne (by decide) (am_ne (by decide) am_eq)))), (am_ne (by decide) (am_ne (by decide) am_eq))⟩
  · intro k hk1 hk2
    rw [am_nE (by omega), am_nE (by omega), am_nE (by omega), am_nE (by omega), am_nE (by omega), am_nE (by omega), am_nE (by omega), am_nE (by omega), am_nE (by omega), am_nE (by omega), am_nE (by omega), am_nE (by omega), am_nE (by omega), am_nE (by omega), am_nE (by omega), am_nE (by omega), am_nE (by omega), am_nE (by omega), am_nE (by omega), am_nE (by omega), am_nE (by omega), am_nE (by omega), am_nE (by omega), am_nE (by omega), am_nE (by omega), am_nE (by omega), am_nE (by omega), am_nE (by omega), am_nE (by omega), am_nE (by omega), am_nE (by omega), am_nE (by omega), am_nE (by omega), am_nE (by omega), am_nE (by omega), am_nE (by omega), am_nE (by omega), am_nE (by omega), am_nE (by omega), am_nE (by omega), am_nE (by omega), am_nE (by omega), am_nE (by omega), am_nE (by omega), am_nE (by omega), am_nE (by omega)]
