theorem edX7_within_0 : (decode cX7_within 0 = .ok (.iload_n 0, 1)) ∧ (decode cX7_within 1 = .ok (.iload_n 1, 1)) ∧ (decode cX7_within 2 = .ok (.if_icmp .lt 12, 3)) ∧ (decode cX7_within 5 = .ok (.iload_n 0, 1)) ∧ (decode cX7_within 6 = .ok (.iload_n 2, 1)) ∧ (decode cX7_within 7 = .ok (.if_icmp .gt 7, 3)) ∧ (decode cX7_within 10 = .ok (.iconst 1, 1)) ∧ (decode cX7_within 11 = .ok (.goto 4, 3)) ∧ (decode cX7_within 14 = .ok (.iconst 0, 1)) ∧ (decode cX7_within 15 = .ok (.ireturn, 1)) := by decide +kernel
theorem dX7_within_0 : decode cX7_within 0 = .ok (.iload_n 0, 1) := edX7_within_0.1
theorem dX7_within_1 : decode cX7_within 1 = .ok (.iload_n 1, 1) := edX7_within_0.2.1
theorem dX7_within_2 : decode cX7_within 2 = .ok (.if_icmp .lt 12, 3) := edX7_within_0.2.2.1
theorem dX7_within_5 : decode cX7_within 5 = .ok (.iload_n 0, 1) := edX7_within_0.2.2.2.1
theorem dX7_within_6 : decode cX7_within 6 = .ok (.iload_n 2, 1) := edX7_within_0.2.2.2.2.1
theorem dX7_within_7 : decode cX7_within 7 = .ok (.if_icmp .gt 7, 3) := edX7_within_0.2.2.2.2.2.1
theorem dX7_within_10 : decode cX7_within 10 = .ok (.iconst 1, 1) := edX7_within_0.2.2.2.2.2.2.1
theorem dX7_within_11 : decode cX7_within 11 = .ok (.goto 4, 3) := edX7_within_0.2.2.2.2.2.2.2.1
theorem dX7_within_14 : decode cX7_within 14 = .ok (.iconst 0, 1) := edX7_within_0.2.2.2.2.2.2.2.2.1
theorem dX7_within_15 : decode cX7_within 15 = .ok (.ireturn, 1) := edX7_within_0.2.2.2.2.2.2.2.2.2
theorem edX7_heldWithin_0 : (decode cX7_heldWithin 0 = .ok (.iload_n 0, 1)) ∧ (decode cX7_heldWithin 1 = .ok (.ifCond .ge 7, 3)) ∧ (decode cX7_heldWithin 4 = .ok (.iconst 0, 1)) ∧ (decode cX7_heldWithin 5 = .ok (.goto 8, 3)) ∧ (decode cX7_heldWithin 8 = .ok (.iload_n 0, 1)) ∧ (decode cX7_heldWithin 9 = .ok (.iload_n 1, 1)) ∧ (decode cX7_heldWithin 10 = .ok (.invokestatic 148, 3)) ∧ (decode cX7_heldWithin 13 = .ok (.ireturn, 1)) := by decide +kernel
theorem dX7_heldWithin_0 : decode cX7_heldWithin 0 = .ok (.iload_n 0, 1) := edX7_heldWithin_0.1
theorem dX7_heldWithin_1 : decode cX7_heldWithin 1 = .ok (.ifCond .ge 7, 3) := edX7_heldWithin_0.2.1
theorem dX7_heldWithin_4 : decode cX7_heldWithin 4 = .ok (.iconst 0, 1) := edX7_heldWithin_0.2.2.1
theorem dX7_heldWithin_5 : decode cX7_heldWithin 5 = .ok (.goto 8, 3) := edX7_heldWithin_0.2.2.2.1
theorem dX7_heldWithin_8 : decode cX7_heldWithin 8 = .ok (.iload_n 0, 1) := edX7_heldWithin_0.2.2.2.2.1
theorem dX7_heldWithin_9 : decode cX7_heldWithin 9 = .ok (.iload_n 1, 1) := edX7_heldWithin_0.2.2.2.2.2.1
theorem dX7_heldWithin_10 : decode cX7_heldWithin 10 = .ok (.invokestatic 148, 3) := edX7_heldWithin_0.2.2.2.2.2.2.1
theorem dX7_heldWithin_13 : decode cX7_heldWithin 13 = .ok (.ireturn, 1) := edX7_heldWithin_0.2.2.2.2.2.2.2
theorem edX7_isSide_0 : (decode cX7_isSide 0 = .ok (.iload_n 0, 1)) ∧ (decode cX7_isSide 1 = .ok (.ifCond .eq 8, 3)) ∧ (decode cX7_isSide 4 = .ok (.iload_n 0, 1)) ∧ (decode cX7_isSide 5 = .ok (.iconst 1, 1)) ∧ (decode cX7_isSide 6 = .ok (.if_icmp .ne 7, 3)) ∧ (decode cX7_isSide 9 = .ok (.iconst 1, 1)) ∧ (decode cX7_isSide 10 = .ok (.goto 4, 3)) ∧ (decode cX7_isSide 13 = .ok (.iconst 0, 1)) ∧ (decode cX7_isSide 14 = .ok (.ireturn, 1)) := by decide +kernel
theorem dX7_isSide_0 : decode cX7_isSide 0 = .ok (.iload_n 0, 1) := edX7_isSide_0.1
theorem dX7_isSide_1 : decode cX7_isSide 1 = .ok (.ifCond .eq 8, 3) := edX7_isSide_0.2.1
theorem dX7_isSide_4 : decode cX7_isSide 4 = .ok (.iload_n 0, 1) := edX7_isSide_0.2.2.1
theorem dX7_isSide_5 : decode cX7_isSide 5 = .ok (.iconst 1, 1) := edX7_isSide_0.2.2.2.1
theorem dX7_isSide_6 : decode cX7_isSide 6 = .ok (.if_icmp .ne 7, 3) := edX7_isSide_0.2.2.2.2.1
theorem dX7_isSide_9 : decode cX7_isSide 9 = .ok (.iconst 1, 1) := edX7_isSide_0.2.2.2.2.2.1
theorem dX7_isSide_10 : decode cX7_isSide 10 = .ok (.goto 4, 3) := edX7_isSide_0.2.2.2.2.2.2.1
theorem dX7_isSide_13 : decode cX7_isSide 13 = .ok (.iconst 0, 1) := edX7_isSide_0.2.2.2.2.2.2.2.1
theorem dX7_isSide_14 : decode cX7_isSide 14 = .ok (.ireturn, 1) := edX7_isSide_0.2.2.2.2.2.2.2.2
theorem edX7_isTerm_0 : (decode cX7_isTerm 0 = .ok (.iload_n 0, 1)) ∧ (decode cX7_isTerm 1 = .ok (.iconst 0, 1)) ∧ (decode cX7_isTerm 2 = .ok (.iconst 3, 1)) ∧ (decode cX7_isTerm 3 = .ok (.invokestatic 74, 3)) ∧ (decode cX7_isTerm 6 = .ok (.ireturn, 1)) := by decide +kernel
theorem dX7_isTerm_0 : decode cX7_isTerm 0 = .ok (.iload_n 0, 1) := edX7_isTerm_0.1
theorem dX7_isTerm_1 : decode cX7_isTerm 1 = .ok (.iconst 0, 1) := edX7_isTerm_0.2.1
theorem dX7_isTerm_2 : decode cX7_isTerm 2 = .ok (.iconst 3, 1) := edX7_isTerm_0.2.2.1
theorem dX7_isTerm_3 : decode cX7_isTerm 3 = .ok (.invokestatic 74, 3) := edX7_isTerm_0.2.2.2.1
theorem dX7_isTerm_6 : decode cX7_isTerm 6 = .ok (.ireturn, 1) := edX7_isTerm_0.2.2.2.2
theorem edX7_isKind_0 : (decode cX7_isKind 0 = .ok (.iload_n 0, 1)) ∧ (decode cX7_isKind 1 = .ok (.iconst 0, 1)) ∧ (decode cX7_isKind 2 = .ok (.iconst 5, 1)) ∧ (decode cX7_isKind 3 = .ok (.invokestatic 74, 3)) ∧ (decode cX7_isKind 6 = .ok (.ireturn, 1)) := by decide +kernel
theorem dX7_isKind_0 : decode cX7_isKind 0 = .ok (.iload_n 0, 1) := edX7_isKind_0.1
theorem dX7_isKind_1 : decode cX7_isKind 1 = .ok (.iconst 0, 1) := edX7_isKind_0.2.1
theorem dX7_isKind_2 : decode cX7_isKind 2 = .ok (.iconst 5, 1) := edX7_isKind_0.2.2.1
theorem dX7_isKind_3 : decode cX7_isKind 3 = .ok (.invokestatic 74, 3) := edX7_isKind_0.2.2.2.1
theorem dX7_isKind_6 : decode cX7_isKind 6 = .ok (.ireturn, 1) := edX7_isKind_0.2.2.2.2
theorem edX7_isSheet_0 : (decode cX7_isSheet 0 = .ok (.iload_n 0, 1)) ∧ (decode cX7_isSheet 1 = .ok (.iconst 0, 1)) ∧ (decode cX7_isSheet 2 = .ok (.iconst 3, 1)) ∧ (decode cX7_isSheet 3 = .ok (.invokestatic 74, 3)) ∧ (decode cX7_isSheet 6 = .ok (.ireturn, 1)) := by decide +kernel
theorem dX7_isSheet_0 : decode cX7_isSheet 0 = .ok (.iload_n 0, 1) := edX7_isSheet_0.1
theorem dX7_isSheet_1 : decode cX7_isSheet 1 = .ok (.iconst 0, 1) := edX7_isSheet_0.2.1
theorem dX7_isSheet_2 : decode cX7_isSheet 2 = .ok (.iconst 3, 1) := edX7_isSheet_0.2.2.1
theorem dX7_isSheet_3 : decode cX7_isSheet 3 = .ok (.invokestatic 74, 3) := edX7_isSheet_0.2.2.2.1
theorem dX7_isSheet_6 : decode cX7_isSheet 6 = .ok (.ireturn, 1) := edX7_isSheet_0.2.2.2.2
theorem edX7_isSlot_0 : (decode cX7_isSlot 0 = .ok (.iload_n 0, 1)) ∧ (decode cX7_isSlot 1 = .ok (.iconst 0, 1)) ∧ (decode cX7_isSlot 2 = .ok (.iconst 4, 1)) ∧ (decode cX7_isSlot 3 = .ok (.invokestatic 74, 3)) ∧ (decode cX7_isSlot 6 = .ok (.ireturn, 1)) := by decide +kernel
theorem dX7_isSlot_0 : decode cX7_isSlot 0 = .ok (.iload_n 0, 1) := edX7_isSlot_0.1
theorem dX7_isSlot_1 : decode cX7_isSlot 1 = .ok (.iconst 0, 1) := edX7_isSlot_0.2.1
theorem dX7_isSlot_2 : decode cX7_isSlot 2 = .ok (.iconst 4, 1) := edX7_isSlot_0.2.2.1
theorem dX7_isSlot_3 : decode cX7_isSlot 3 = .ok (.invokestatic 74, 3) := edX7_isSlot_0.2.2.2.1
theorem dX7_isSlot_6 : decode cX7_isSlot 6 = .ok (.ireturn, 1) := edX7_isSlot_0.2.2.2.2
theorem edX7_carePlace_0 : (decode cX7_carePlace 0 = .ok (.iload_n 0, 1)) ∧ (decode cX7_carePlace 1 = .ok (.iconst 4, 1)) ∧ (decode cX7_carePlace 2 = .ok (.imul, 1)) ∧ (decode cX7_carePlace 3 = .ok (.iload_n 1, 1)) ∧ (decode cX7_carePlace 4 = .ok (.iadd, 1)) ∧ (decode cX7_carePlace 5 = .ok (.ireturn, 1)) := by decide +kernel
theorem dX7_carePlace_0 : decode cX7_carePlace 0 = .ok (.iload_n 0, 1) := edX7_carePlace_0.1
theorem dX7_carePlace_1 : decode cX7_carePlace 1 = .ok (.iconst 4, 1) := edX7_carePlace_0.2.1
theorem dX7_carePlace_2 : decode cX7_carePlace 2 = .ok (.imul, 1) := edX7_carePlace_0.2.2.1
theorem dX7_carePlace_3 : decode cX7_carePlace 3 = .ok (.iload_n 1, 1) := edX7_carePlace_0.2.2.2.1
theorem dX7_carePlace_4 : decode cX7_carePlace 4 = .ok (.iadd, 1) := edX7_carePlace_0.2.2.2.2.1
theorem dX7_carePlace_5 : decode cX7_carePlace 5 = .ok (.ireturn, 1) := edX7_carePlace_0.2.2.2.2.2
theorem edX7_orNone_0 : (decode cX7_orNone 0 = .ok (.iload_n 0, 1)) ∧ (decode cX7_orNone 1 = .ok (.ifCond .ge 8, 3)) ∧ (decode cX7_orNone 4 = .ok (.ldc 200, 2)) ∧ (decode cX7_orNone 6 = .ok (.goto 4, 3)) ∧ (decode cX7_orNone 9 = .ok (.iload_n 0, 1)) ∧ (decode cX7_orNone 10 = .ok (.ireturn, 1)) := by decide +kernel
theorem dX7_orNone_0 : decode cX7_orNone 0 = .ok (.iload_n 0, 1) := edX7_orNone_0.1
theorem dX7_orNone_1 : decode cX7_orNone 1 = .ok (.ifCond .ge 8, 3) := edX7_orNone_0.2.1
theorem dX7_orNone_4 : decode cX7_orNone 4 = .ok (.ldc 200, 2) := edX7_orNone_0.2.2.1
theorem dX7_orNone_6 : decode cX7_orNone 6 = .ok (.goto 4, 3) := edX7_orNone_0.2.2.2.1
theorem dX7_orNone_9 : decode cX7_orNone 9 = .ok (.iload_n 0, 1) := edX7_orNone_0.2.2.2.2.1
theorem dX7_orNone_10 : decode cX7_orNone 10 = .ok (.ireturn, 1) := edX7_orNone_0.2.2.2.2.2
theorem edX7_isUnder_0 : (decode cX7_isUnder 0 = .ok (.iload_n 0, 1)) ∧ (decode cX7_isUnder 1 = .ok (.istore_n 2, 1)) ∧ (decode cX7_isUnder 2 = .ok (.iconst 0, 1)) ∧ (decode cX7_isUnder 3 = .ok (.istore_n 3, 1)) ∧ (decode cX7_isUnder 4 = .ok (.iload_n 3, 1)) ∧ (decode cX7_isUnder 5 = .ok (.bipush 6, 2)) ∧ (decode cX7_isUnder 7 = .ok (.if_icmp .ge 29, 3)) ∧ (decode cX7_isUnder 10 = .ok (.iload_n 2, 1)) ∧ (decode cX7_isUnder 11 = .ok (.invokestatic 67, 3)) ∧ (decode cX7_isUnder 14 = .ok (.ifCond .eq 22, 3)) ∧ (decode cX7_isUnder 17 = .ok (.iload_n 2, 1)) ∧ (decode cX7_isUnder 18 = .ok (.iload_n 1, 1)) ∧ (decode cX7_isUnder 19 = .ok (.if_icmp .ne 5, 3)) ∧ (decode cX7_isUnder 22 = .ok (.iconst 1, 1)) ∧ (decode cX7_isUnder 23 = .ok (.ireturn, 1)) ∧ (decode cX7_isUnder 24 = .ok (.getstatic 322, 3)) ∧ (decode cX7_isUnder 27 = .ok (.iload_n 2, 1)) ∧ (decode cX7_isUnder 28 = .ok (.iaload, 1)) ∧ (decode cX7_isUnder 29 = .ok (.istore_n 2, 1)) ∧ (decode cX7_isUnder 30 = .ok (.iinc 3 1, 3)) ∧ (decode cX7_isUnder 33 = .ok (.goto (-29), 3)) ∧ (decode cX7_isUnder 36 = .ok (.iconst 0, 1)) ∧ (decode cX7_isUnder 37 = .ok (.ireturn, 1)) := by decide +kernel
theorem dX7_isUnder_0 : decode cX7_isUnder 0 = .ok (.iload_n 0, 1) := edX7_isUnder_0.1
theorem dX7_isUnder_1 : decode cX7_isUnder 1 = .ok (.istore_n 2, 1) := edX7_isUnder_0.2.1
theorem dX7_isUnder_2 : decode cX7_isUnder 2 = .ok (.iconst 0, 1) := edX7_isUnder_0.2.2.1
theorem dX7_isUnder_3 : decode cX7_isUnder 3 = .ok (.istore_n 3, 1) := edX7_isUnder_0.2.2.2.1
theorem dX7_isUnder_4 : decode cX7_isUnder 4 = .ok (.iload_n 3, 1) := edX7_isUnder_0.2.2.2.2.1
theorem dX7_isUnder_5 : decode cX7_isUnder 5 = .ok (.bipush 6, 2) := edX7_isUnder_0.2.2.2.2.2.1
theorem dX7_isUnder_7 : decode cX7_isUnder 7 = .ok (.if_icmp .ge 29, 3) := edX7_isUnder_0.2.2.2.2.2.2.1
theorem dX7_isUnder_10 : decode cX7_isUnder 10 = .ok (.iload_n 2, 1) := edX7_isUnder_0.2.2.2.2.2.2.2.1
theorem dX7_isUnder_11 : decode cX7_isUnder 11 = .ok (.invokestatic 67, 3) := edX7_isUnder_0.2.2.2.2.2.2.2.2.1
theorem dX7_isUnder_14 : decode cX7_isUnder 14 = .ok (.ifCond .eq 22, 3) := edX7_isUnder_0.2.2.2.2.2.2.2.2.2.1
theorem dX7_isUnder_17 : decode cX7_isUnder 17 = .ok (.iload_n 2, 1) := edX7_isUnder_0.2.2.2.2.2.2.2.2.2.2.1
theorem dX7_isUnder_18 : decode cX7_isUnder 18 = .ok (.iload_n 1, 1) := edX7_isUnder_0.2.2.2.2.2.2.2.2.2.2.2.1
theorem dX7_isUnder_19 : decode cX7_isUnder 19 = .ok (.if_icmp .ne 5, 3) := edX7_isUnder_0.2.2.2.2.2.2.2.2.2.2.2.2.1
theorem dX7_isUnder_22 : decode cX7_isUnder 22 = .ok (.iconst 1, 1) := edX7_isUnder_0.2.2.2.2.2.2.2.2.2.2.2.2.2.1
theorem dX7_isUnder_23 : decode cX7_isUnder 23 = .ok (.ireturn, 1) := edX7_isUnder_0.2.2.2.2.2.2.2.2.2.2.2.2.2.2.1
theorem dX7_isUnder_24 : decode cX7_isUnder 24 = .ok (.getstatic 322, 3) := edX7_isUnder_0.2.2.2.2.2.2.2.2.2.2.2.2.2.2.2.1
theorem dX7_isUnder_27 : decode cX7_isUnder 27 = .ok (.iload_n 2, 1) := edX7_isUnder_0.2.2.2.2.2.2.2.2.2.2.2.2.2.2.2.2.1
theorem dX7_isUnder_28 : decode cX7_isUnder 28 = .ok (.iaload, 1) := edX7_isUnder_0.2.2.2.2.2.2.2.2.2.2.2.2.2.2.2.2.2.1
theorem dX7_isUnder_29 : decode cX7_isUnder 29 = .ok (.istore_n 2, 1) := edX7_isUnder_0.2.2.2.2.2.2.2.2.2.2.2.2.2.2.2.2.2.2.1
theorem dX7_isUnder_30 : decode cX7_isUnder 30 = .ok (.iinc 3 1, 3) := edX7_isUnder_0.2.2.2.2.2.2.2.2.2.2.2.2.2.2.2.2.2.2.2.1
theorem dX7_isUnder_33 : decode cX7_isUnder 33 = .ok (.goto (-29), 3) := edX7_isUnder_0.2.2.2.2.2.2.2.2.2.2.2.2.2.2.2.2.2.2.2.2.1
theorem dX7_isUnder_36 : decode cX7_isUnder 36 = .ok (.iconst 0, 1) := edX7_isUnder_0.2.2.2.2.2.2.2.2.2.2.2.2.2.2.2.2.2.2.2.2.2.1
theorem dX7_isUnder_37 : decode cX7_isUnder 37 = .ok (.ireturn, 1) := edX7_isUnder_0.2.2.2.2.2.2.2.2.2.2.2.2.2.2.2.2.2.2.2.2.2.2
theorem edX7_worthOf_0 : (decode cX7_worthOf 0 = .ok (.iload_n 0, 1)) ∧ (decode cX7_worthOf 1 = .ok (.tableswitch 61 1 5 #[35, 45, 39, 50, 58], 35)) ∧ (decode cX7_worthOf 36 = .ok (.iload_n 1, 1)) ∧ (decode cX7_worthOf 37 = .ok (.iconst 4, 1)) ∧ (decode cX7_worthOf 38 = .ok (.iadd, 1)) ∧ (decode cX7_worthOf 39 = .ok (.ireturn, 1)) ∧ (decode cX7_worthOf 40 = .ok (.iconst 2, 1)) ∧ (decode cX7_worthOf 41 = .ok (.iload_n 1, 1)) ∧ (decode cX7_worthOf 42 = .ok (.iconst 4, 1)) ∧ (decode cX7_worthOf 43 = .ok (.iadd, 1)) ∧ (decode cX7_worthOf 44 = .ok (.imul, 1)) ∧ (decode cX7_worthOf 45 = .ok (.ireturn, 1)) ∧ (decode cX7_worthOf 46 = .ok (.bipush 99, 2)) ∧ (decode cX7_worthOf 48 = .ok (.iload_n 1, 1)) ∧ (decode cX7_worthOf 49 = .ok (.isub, 1)) ∧ (decode cX7_worthOf 50 = .ok (.ireturn, 1)) ∧ (decode cX7_worthOf 51 = .ok (.bipush 99, 2)) ∧ (decode cX7_worthOf 53 = .ok (.iload_n 1, 1)) ∧ (decode cX7_worthOf 54 = .ok (.isub, 1)) ∧ (decode cX7_worthOf 55 = .ok (.bipush 9, 2)) ∧ (decode cX7_worthOf 57 = .ok (.isub, 1)) ∧ (decode cX7_worthOf 58 = .ok (.ireturn, 1)) ∧ (decode cX7_worthOf 59 = .ok (.bipush 7, 2)) ∧ (decode cX7_worthOf 61 = .ok (.ireturn, 1)) := by decide +kernel
theorem dX7_worthOf_0 : decode cX7_worthOf 0 = .ok (.iload_n 0, 1) := edX7_worthOf_0.1
theorem dX7_worthOf_1 : decode cX7_worthOf 1 = .ok (.tableswitch 61 1 5 #[35, 45, 39, 50, 58], 35) := edX7_worthOf_0.2.1
theorem dX7_worthOf_36 : decode cX7_worthOf 36 = .ok (.iload_n 1, 1) := edX7_worthOf_0.2.2.1
theorem dX7_worthOf_37 : decode cX7_worthOf 37 = .ok (.iconst 4, 1) := edX7_worthOf_0.2.2.2.1
theorem dX7_worthOf_38 : decode cX7_worthOf 38 = .ok (.iadd, 1) := edX7_worthOf_0.2.2.2.2.1
theorem dX7_worthOf_39 : decode cX7_worthOf 39 = .ok (.ireturn, 1) := edX7_worthOf_0.2.2.2.2.2.1
theorem dX7_worthOf_40 : decode cX7_worthOf 40 = .ok (.iconst 2, 1) := edX7_worthOf_0.2.2.2.2.2.2.1
theorem dX7_worthOf_41 : decode cX7_worthOf 41 = .ok (.iload_n 1, 1) := edX7_worthOf_0.2.2.2.2.2.2.2.1
theorem dX7_worthOf_42 : decode cX7_worthOf 42 = .ok (.iconst 4, 1) := edX7_worthOf_0.2.2.2.2.2.2.2.2.1
theorem dX7_worthOf_43 : decode cX7_worthOf 43 = .ok (.iadd, 1) := edX7_worthOf_0.2.2.2.2.2.2.2.2.2.1
theorem dX7_worthOf_44 : decode cX7_worthOf 44 = .ok (.imul, 1) := edX7_worthOf_0.2.2.2.2.2.2.2.2.2.2.1
theorem dX7_worthOf_45 : decode cX7_worthOf 45 = .ok (.ireturn, 1) := edX7_worthOf_0.2.2.2.2.2.2.2.2.2.2.2.1
theorem dX7_worthOf_46 : decode cX7_worthOf 46 = .ok (.bipush 99, 2) := edX7_worthOf_0.2.2.2.2.2.2.2.2.2.2.2.2.1
theorem dX7_worthOf_48 : decode cX7_worthOf 48 = .ok (.iload_n 1, 1) := edX7_worthOf_0.2.2.2.2.2.2.2.2.2.2.2.2.2.1
theorem dX7_worthOf_49 : decode cX7_worthOf 49 = .ok (.isub, 1) := edX7_worthOf_0.2.2.2.2.2.2.2.2.2.2.2.2.2.2.1
theorem dX7_worthOf_50 : decode cX7_worthOf 50 = .ok (.ireturn, 1) := edX7_worthOf_0.2.2.2.2.2.2.2.2.2.2.2.2.2.2.2.1
theorem dX7_worthOf_51 : decode cX7_worthOf 51 = .ok (.bipush 99, 2) := edX7_worthOf_0.2.2.2.2.2.2.2.2.2.2.2.2.2.2.2.2.1
theorem dX7_worthOf_53 : decode cX7_worthOf 53 = .ok (.iload_n 1, 1) := edX7_worthOf_0.2.2.2.2.2.2.2.2.2.2.2.2.2.2.2.2.2.1
theorem dX7_worthOf_54 : decode cX7_worthOf 54 = .ok (.isub, 1) := edX7_worthOf_0.2.2.2.2.2.2.2.2.2.2.2.2.2.2.2.2.2.2.1
theorem dX7_worthOf_55 : decode cX7_worthOf 55 = .ok (.bipush 9, 2) := edX7_worthOf_0.2.2.2.2.2.2.2.2.2.2.2.2.2.2.2.2.2.2.2.1
theorem dX7_worthOf_57 : decode cX7_worthOf 57 = .ok (.isub, 1) := edX7_worthOf_0.2.2.2.2.2.2.2.2.2.2.2.2.2.2.2.2.2.2.2.2.1
theorem dX7_worthOf_58 : decode cX7_worthOf 58 = .ok (.ireturn, 1) := edX7_worthOf_0.2.2.2.2.2.2.2.2.2.2.2.2.2.2.2.2.2.2.2.2.2.1
theorem dX7_worthOf_59 : decode cX7_worthOf 59 = .ok (.bipush 7, 2) := edX7_worthOf_0.2.2.2.2.2.2.2.2.2.2.2.2.2.2.2.2.2.2.2.2.2.2.1
theorem dX7_worthOf_61 : decode cX7_worthOf 61 = .ok (.ireturn, 1) := edX7_worthOf_0.2.2.2.2.2.2.2.2.2.2.2.2.2.2.2.2.2.2.2.2.2.2.2
theorem edX7_worthOf_62 : (decode cX7_worthOf 62 = .ok (.iload_n 1, 1)) ∧ (decode cX7_worthOf 63 = .ok (.ireturn, 1)) := by decide +kernel
theorem dX7_worthOf_62 : decode cX7_worthOf 62 = .ok (.iload_n 1, 1) := edX7_worthOf_62.1
theorem dX7_worthOf_63 : decode cX7_worthOf 63 = .ok (.ireturn, 1) := edX7_worthOf_62.2
theorem edX8_init_0 : (decode cX8_init 0 = .ok (.aload_n 0, 1)) ∧ (decode cX8_init 1 = .ok (.invokespecial 1, 3)) ∧ (decode cX8_init 4 = .ok (.aload_n 0, 1)) ∧ (decode cX8_init 5 = .ok (.sipush 1434, 3)) ∧ (decode cX8_init 8 = .ok (.newarray .int, 2)) ∧ (decode cX8_init 10 = .ok (.putfield 9, 3)) ∧ (decode cX8_init 13 = .ok (.aload_n 0, 1)) ∧ (decode cX8_init 14 = .ok (.sipush 1434, 3)) ∧ (decode cX8_init 17 = .ok (.newarray .int, 2)) ∧ (decode cX8_init 19 = .ok (.putfield 13, 3)) ∧ (decode cX8_init 22 = .ok (.aload_n 0, 1)) ∧ (decode cX8_init 23 = .ok (.sipush 1434, 3)) ∧ (decode cX8_init 26 = .ok (.newarray .int, 2)) ∧ (decode cX8_init 28 = .ok (.putfield 16, 3)) ∧ (decode cX8_init 31 = .ok (.aload_n 0, 1)) ∧ (decode cX8_init 32 = .ok (.iconst (-1), 1)) ∧ (decode cX8_init 33 = .ok (.putfield 19, 3)) ∧ (decode cX8_init 36 = .ok (.aload_n 0, 1)) ∧ (decode cX8_init 37 = .ok (.iconst 4, 1)) ∧ (decode cX8_init 38 = .ok (.newarray .int, 2)) ∧ (decode cX8_init 40 = .ok (.putfield 23, 3)) ∧ (decode cX8_init 43 = .ok (.aload_n 0, 1)) ∧ (decode cX8_init 44 = .ok (.bipush 62, 2)) ∧ (decode cX8_init 46 = .ok (.newarray .int, 2)) := by decide +kernel
theorem dX8_init_0 : decode cX8_init 0 = .ok (.aload_n 0, 1) := edX8_init_0.1
theorem dX8_init_1 : decode cX8_init 1 = .ok (.invokespecial 1, 3) := edX8_init_0.2.1
theorem dX8_init_4 : decode cX8_init 4 = .ok (.aload_n 0, 1) := edX8_init_0.2.2.1
theorem dX8_init_5 : decode cX8_init 5 = .ok (.sipush 1434, 3) := edX8_init_0.2.2.2.1
theorem dX8_init_8 : decode cX8_init 8 = .ok (.newarray .int, 2) := edX8_init_0.2.2.2.2.1
theorem dX8_init_10 : decode cX8_init 10 = .ok (.putfield 9, 3) := edX8_init_0.2.2.2.2.2.1
theorem dX8_init_13 : decode cX8_init 13 = .ok (.aload_n 0, 1) := edX8_init_0.2.2.2.2.2.2.1
theorem dX8_init_14 : decode cX8_init 14 = .ok (.sipush 1434, 3) := edX8_init_0.2.2.2.2.2.2.2.1
theorem dX8_init_17 : decode cX8_init 17 = .ok (.newarray .int, 2) := edX8_init_0.2.2.2.2.2.2.2.2.1
theorem dX8_init_19 : decode cX8_init 19 = .ok (.putfield 13, 3) := edX8_init_0.2.2.2.2.2.2.2.2.2.1
theorem dX8_init_22 : decode cX8_init 22 = .ok (.aload_n 0, 1) := edX8_init_0.2.2.2.2.2.2.2.2.2.2.1
theorem dX8_init_23 : decode cX8_init 23 = .ok (.sipush 1434, 3) := edX8_init_0.2.2.2.2.2.2.2.2.2.2.2.1
theorem dX8_init_26 : decode cX8_init 26 = .ok (.newarray .int, 2) := edX8_init_0.2.2.2.2.2.2.2.2.2.2.2.2.1
theorem dX8_init_28 : decode cX8_init 28 = .ok (.putfield 16, 3) := edX8_init_0.2.2.2.2.2.2.2.2.2.2.2.2.2.1
theorem dX8_init_31 : decode cX8_init 31 = .ok (.aload_n 0, 1) := edX8_init_0.2.2.2.2.2.2.2.2.2.2.2.2.2.2.1
theorem dX8_init_32 : decode cX8_init 32 = .ok (.iconst (-1), 1) := edX8_init_0.2.2.2.2.2.2.2.2.2.2.2.2.2.2.2.1
theorem dX8_init_33 : decode cX8_init 33 = .ok (.putfield 19, 3) := edX8_init_0.2.2.2.2.2.2.2.2.2.2.2.2.2.2.2.2.1
theorem dX8_init_36 : decode cX8_init 36 = .ok (.aload_n 0, 1) := edX8_init_0.2.2.2.2.2.2.2.2.2.2.2.2.2.2.2.2.2.1
theorem dX8_init_37 : decode cX8_init 37 = .ok (.iconst 4, 1) := edX8_init_0.2.2.2.2.2.2.2.2.2.2.2.2.2.2.2.2.2.2.1
theorem dX8_init_38 : decode cX8_init 38 = .ok (.newarray .int, 2) := edX8_init_0.2.2.2.2.2.2.2.2.2.2.2.2.2.2.2.2.2.2.2.1
theorem dX8_init_40 : decode cX8_init 40 = .ok (.putfield 23, 3) := edX8_init_0.2.2.2.2.2.2.2.2.2.2.2.2.2.2.2.2.2.2.2.2.1
theorem dX8_init_43 : decode cX8_init 43 = .ok (.aload_n 0, 1) := edX8_init_0.2.2.2.2.2.2.2.2.2.2.2.2.2.2.2.2.2.2.2.2.2.1
theorem dX8_init_44 : decode cX8_init 44 = .ok (.bipush 62, 2) := edX8_init_0.2.2.2.2.2.2.2.2.2.2.2.2.2.2.2.2.2.2.2.2.2.2.1
theorem dX8_init_46 : decode cX8_init 46 = .ok (.newarray .int, 2) := edX8_init_0.2.2.2.2.2.2.2.2.2.2.2.2.2.2.2.2.2.2.2.2.2.2.2
theorem edX8_init_48 : (decode cX8_init 48 = .ok (.putfield 26, 3)) ∧ (decode cX8_init 51 = .ok (.aload_n 0, 1)) ∧ (decode cX8_init 52 = .ok (.bipush 96, 2)) ∧ (decode cX8_init 54 = .ok (.newarray .int, 2)) ∧ (decode cX8_init 56 = .ok (.putfield 29, 3)) ∧ (decode cX8_init 59 = .ok (.aload_n 0, 1)) ∧ (decode cX8_init 60 = .ok (.bipush 11, 2)) ∧ (decode cX8_init 62 = .ok (.newarray .char, 2)) ∧ (decode cX8_init 64 = .ok (.dup, 1)) ∧ (decode cX8_init 65 = .ok (.iconst 0, 1)) ∧ (decode cX8_init 66 = .ok (.bipush 116, 2)) ∧ (decode cX8_init 68 = .ok (.castore, 1)) ∧ (decode cX8_init 69 = .ok (.dup, 1)) ∧ (decode cX8_init 70 = .ok (.iconst 1, 1)) ∧ (decode cX8_init 71 = .ok (.bipush 111, 2)) ∧ (decode cX8_init 73 = .ok (.castore, 1)) ∧ (decode cX8_init 74 = .ok (.dup, 1)) ∧ (decode cX8_init 75 = .ok (.iconst 2, 1)) ∧ (decode cX8_init 76 = .ok (.bipush 110, 2)) ∧ (decode cX8_init 78 = .ok (.castore, 1)) ∧ (decode cX8_init 79 = .ok (.dup, 1)) ∧ (decode cX8_init 80 = .ok (.iconst 3, 1)) ∧ (decode cX8_init 81 = .ok (.bipush 101, 2)) ∧ (decode cX8_init 83 = .ok (.castore, 1)) := by decide +kernel
theorem dX8_init_48 : decode cX8_init 48 = .ok (.putfield 26, 3) := edX8_init_48.1
theorem dX8_init_51 : decode cX8_init 51 = .ok (.aload_n 0, 1) := edX8_init_48.2.1
theorem dX8_init_52 : decode cX8_init 52 = .ok (.bipush 96, 2) := edX8_init_48.2.2.1
theorem dX8_init_54 : decode cX8_init 54 = .ok (.newarray .int, 2) := edX8_init_48.2.2.2.1
theorem dX8_init_56 : decode cX8_init 56 = .ok (.putfield 29, 3) := edX8_init_48.2.2.2.2.1
theorem dX8_init_59 : decode cX8_init 59 = .ok (.aload_n 0, 1) := edX8_init_48.2.2.2.2.2.1
theorem dX8_init_60 : decode cX8_init 60 = .ok (.bipush 11, 2) := edX8_init_48.2.2.2.2.2.2.1
theorem dX8_init_62 : decode cX8_init 62 = .ok (.newarray .char, 2) := edX8_init_48.2.2.2.2.2.2.2.1
theorem dX8_init_64 : decode cX8_init 64 = .ok (.dup, 1) := edX8_init_48.2.2.2.2.2.2.2.2.1
theorem dX8_init_65 : decode cX8_init 65 = .ok (.iconst 0, 1) := edX8_init_48.2.2.2.2.2.2.2.2.2.1
theorem dX8_init_66 : decode cX8_init 66 = .ok (.bipush 116, 2) := edX8_init_48.2.2.2.2.2.2.2.2.2.2.1
theorem dX8_init_68 : decode cX8_init 68 = .ok (.castore, 1) := edX8_init_48.2.2.2.2.2.2.2.2.2.2.2.1
theorem dX8_init_69 : decode cX8_init 69 = .ok (.dup, 1) := edX8_init_48.2.2.2.2.2.2.2.2.2.2.2.2.1
theorem dX8_init_70 : decode cX8_init 70 = .ok (.iconst 1, 1) := edX8_init_48.2.2.2.2.2.2.2.2.2.2.2.2.2.1
theorem dX8_init_71 : decode cX8_init 71 = .ok (.bipush 111, 2) := edX8_init_48.2.2.2.2.2.2.2.2.2.2.2.2.2.2.1
theorem dX8_init_73 : decode cX8_init 73 = .ok (.castore, 1) := edX8_init_48.2.2.2.2.2.2.2.2.2.2.2.2.2.2.2.1
theorem dX8_init_74 : decode cX8_init 74 = .ok (.dup, 1) := edX8_init_48.2.2.2.2.2.2.2.2.2.2.2.2.2.2.2.2.1
theorem dX8_init_75 : decode cX8_init 75 = .ok (.iconst 2, 1) := edX8_init_48.2.2.2.2.2.2.2.2.2.2.2.2.2.2.2.2.2.1
theorem dX8_init_76 : decode cX8_init 76 = .ok (.bipush 110, 2) := edX8_init_48.2.2.2.2.2.2.2.2.2.2.2.2.2.2.2.2.2.2.1
theorem dX8_init_78 : decode cX8_init 78 = .ok (.castore, 1) := edX8_init_48.2.2.2.2.2.2.2.2.2.2.2.2.2.2.2.2.2.2.2.1
theorem dX8_init_79 : decode cX8_init 79 = .ok (.dup, 1) := edX8_init_48.2.2.2.2.2.2.2.2.2.2.2.2.2.2.2.2.2.2.2.2.1
theorem dX8_init_80 : decode cX8_init 80 = .ok (.iconst 3, 1) := edX8_init_48.2.2.2.2.2.2.2.2.2.2.2.2.2.2.2.2.2.2.2.2.2.1
theorem dX8_init_81 : decode cX8_init 81 = .ok (.bipush 101, 2) := edX8_init_48.2.2.2.2.2.2.2.2.2.2.2.2.2.2.2.2.2.2.2.2.2.2.1
theorem dX8_init_83 : decode cX8_init 83 = .ok (.castore, 1) := edX8_init_48.2.2.2.2.2.2.2.2.2.2.2.2.2.2.2.2.2.2.2.2.2.2.2
theorem edX8_init_84 : (decode cX8_init 84 = .ok (.dup, 1)) ∧ (decode cX8_init 85 = .ok (.iconst 4, 1)) ∧ (decode cX8_init 86 = .ok (.bipush 102, 2)) ∧ (decode cX8_init 88 = .ok (.castore, 1)) ∧ (decode cX8_init 89 = .ok (.dup, 1)) ∧ (decode cX8_init 90 = .ok (.iconst 5, 1)) ∧ (decode cX8_init 91 = .ok (.bipush 101, 2)) ∧ (decode cX8_init 93 = .ok (.castore, 1)) ∧ (decode cX8_init 94 = .ok (.dup, 1)) ∧ (decode cX8_init 95 = .ok (.bipush 6, 2)) ∧ (decode cX8_init 97 = .ok (.bipush 101, 2)) ∧ (decode cX8_init 99 = .ok (.castore, 1)) ∧ (decode cX8_init 100 = .ok (.dup, 1)) ∧ (decode cX8_init 101 = .ok (.bipush 7, 2)) ∧ (decode cX8_init 103 = .ok (.bipush 102, 2)) ∧ (decode cX8_init 105 = .ok (.castore, 1)) ∧ (decode cX8_init 106 = .ok (.dup, 1)) ∧ (decode cX8_init 107 = .ok (.bipush 8, 2)) ∧ (decode cX8_init 109 = .ok (.bipush 105, 2)) ∧ (decode cX8_init 111 = .ok (.castore, 1)) ∧ (decode cX8_init 112 = .ok (.dup, 1)) ∧ (decode cX8_init 113 = .ok (.bipush 9, 2)) ∧ (decode cX8_init 115 = .ok (.bipush 110, 2)) ∧ (decode cX8_init 117 = .ok (.castore, 1)) := by decide +kernel
theorem dX8_init_84 : decode cX8_init 84 = .ok (.dup, 1) := edX8_init_84.1
theorem dX8_init_85 : decode cX8_init 85 = .ok (.iconst 4, 1) := edX8_init_84.2.1
theorem dX8_init_86 : decode cX8_init 86 = .ok (.bipush 102, 2) := edX8_init_84.2.2.1
theorem dX8_init_88 : decode cX8_init 88 = .ok (.castore, 1) := edX8_init_84.2.2.2.1
theorem dX8_init_89 : decode cX8_init 89 = .ok (.dup, 1) := edX8_init_84.2.2.2.2.1
theorem dX8_init_90 : decode cX8_init 90 = .ok (.iconst 5, 1) := edX8_init_84.2.2.2.2.2.1
theorem dX8_init_91 : decode cX8_init 91 = .ok (.bipush 101, 2) := edX8_init_84.2.2.2.2.2.2.1
theorem dX8_init_93 : decode cX8_init 93 = .ok (.castore, 1) := edX8_init_84.2.2.2.2.2.2.2.1
theorem dX8_init_94 : decode cX8_init 94 = .ok (.dup, 1) := edX8_init_84.2.2.2.2.2.2.2.2.1
theorem dX8_init_95 : decode cX8_init 95 = .ok (.bipush 6, 2) := edX8_init_84.2.2.2.2.2.2.2.2.2.1
theorem dX8_init_97 : decode cX8_init 97 = .ok (.bipush 101, 2) := edX8_init_84.2.2.2.2.2.2.2.2.2.2.1
theorem dX8_init_99 : decode cX8_init 99 = .ok (.castore, 1) := edX8_init_84.2.2.2.2.2.2.2.2.2.2.2.1
theorem dX8_init_100 : decode cX8_init 100 = .ok (.dup, 1) := edX8_init_84.2.2.2.2.2.2.2.2.2.2.2.2.1
theorem dX8_init_101 : decode cX8_init 101 = .ok (.bipush 7, 2) := edX8_init_84.2.2.2.2.2.2.2.2.2.2.2.2.2.1
theorem dX8_init_103 : decode cX8_init 103 = .ok (.bipush 102, 2) := edX8_init_84.2.2.2.2.2.2.2.2.2.2.2.2.2.2.1
theorem dX8_init_105 : decode cX8_init 105 = .ok (.castore, 1) := edX8_init_84.2.2.2.2.2.2.2.2.2.2.2.2.2.2.2.1
theorem dX8_init_106 : decode cX8_init 106 = .ok (.dup, 1) := edX8_init_84.2.2.2.2.2.2.2.2.2.2.2.2.2.2.2.2.1
theorem dX8_init_107 : decode cX8_init 107 = .ok (.bipush 8, 2) := edX8_init_84.2.2.2.2.2.2.2.2.2.2.2.2.2.2.2.2.2.1
theorem dX8_init_109 : decode cX8_init 109 = .ok (.bipush 105, 2) := edX8_init_84.2.2.2.2.2.2.2.2.2.2.2.2.2.2.2.2.2.2.1
theorem dX8_init_111 : decode cX8_init 111 = .ok (.castore, 1) := edX8_init_84.2.2.2.2.2.2.2.2.2.2.2.2.2.2.2.2.2.2.2.1
theorem dX8_init_112 : decode cX8_init 112 = .ok (.dup, 1) := edX8_init_84.2.2.2.2.2.2.2.2.2.2.2.2.2.2.2.2.2.2.2.2.1
theorem dX8_init_113 : decode cX8_init 113 = .ok (.bipush 9, 2) := edX8_init_84.2.2.2.2.2.2.2.2.2.2.2.2.2.2.2.2.2.2.2.2.2.1
theorem dX8_init_115 : decode cX8_init 115 = .ok (.bipush 110, 2) := edX8_init_84.2.2.2.2.2.2.2.2.2.2.2.2.2.2.2.2.2.2.2.2.2.2.1
theorem dX8_init_117 : decode cX8_init 117 = .ok (.castore, 1) := edX8_init_84.2.2.2.2.2.2.2.2.2.2.2.2.2.2.2.2.2.2.2.2.2.2.2
theorem edX8_init_118 : (decode cX8_init 118 = .ok (.dup, 1)) ∧ (decode cX8_init 119 = .ok (.bipush 10, 2)) ∧ (decode cX8_init 121 = .ok (.bipush 101, 2)) ∧ (decode cX8_init 123 = .ok (.castore, 1)) ∧ (decode cX8_init 124 = .ok (.putfield 32, 3)) ∧ (decode cX8_init 127 = .ok (.aload_n 0, 1)) ∧ (decode cX8_init 128 = .ok (.iconst 4, 1)) ∧ (decode cX8_init 129 = .ok (.newarray .int, 2)) ∧ (decode cX8_init 131 = .ok (.dup, 1)) ∧ (decode cX8_init 132 = .ok (.iconst 0, 1)) ∧ (decode cX8_init 133 = .ok (.iconst 0, 1)) ∧ (decode cX8_init 134 = .ok (.iastore, 1)) ∧ (decode cX8_init 135 = .ok (.dup, 1)) ∧ (decode cX8_init 136 = .ok (.iconst 1, 1)) ∧ (decode cX8_init 137 = .ok (.iconst 4, 1)) ∧ (decode cX8_init 138 = .ok (.iastore, 1)) ∧ (decode cX8_init 139 = .ok (.dup, 1)) ∧ (decode cX8_init 140 = .ok (.iconst 2, 1)) ∧ (decode cX8_init 141 = .ok (.bipush 7, 2)) ∧ (decode cX8_init 143 = .ok (.iastore, 1)) ∧ (decode cX8_init 144 = .ok (.dup, 1)) ∧ (decode cX8_init 145 = .ok (.iconst 3, 1)) ∧ (decode cX8_init 146 = .ok (.bipush 11, 2)) ∧ (decode cX8_init 148 = .ok (.iastore, 1)) := by decide +kernel
theorem dX8_init_118 : decode cX8_init 118 = .ok (.dup, 1) := edX8_init_118.1
theorem dX8_init_119 : decode cX8_init 119 = .ok (.bipush 10, 2) := edX8_init_118.2.1
theorem dX8_init_121 : decode cX8_init 121 = .ok (.bipush 101, 2) := edX8_init_118.2.2.1
theorem dX8_init_123 : decode cX8_init 123 = .ok (.castore, 1) := edX8_init_118.2.2.2.1
theorem dX8_init_124 : decode cX8_init 124 = .ok (.putfield 32, 3) := edX8_init_118.2.2.2.2.1
theorem dX8_init_127 : decode cX8_init 127 = .ok (.aload_n 0, 1) := edX8_init_118.2.2.2.2.2.1
theorem dX8_init_128 : decode cX8_init 128 = .ok (.iconst 4, 1) := edX8_init_118.2.2.2.2.2.2.1
theorem dX8_init_129 : decode cX8_init 129 = .ok (.newarray .int, 2) := edX8_init_118.2.2.2.2.2.2.2.1
theorem dX8_init_131 : decode cX8_init 131 = .ok (.dup, 1) := edX8_init_118.2.2.2.2.2.2.2.2.1
theorem dX8_init_132 : decode cX8_init 132 = .ok (.iconst 0, 1) := edX8_init_118.2.2.2.2.2.2.2.2.2.1
theorem dX8_init_133 : decode cX8_init 133 = .ok (.iconst 0, 1) := edX8_init_118.2.2.2.2.2.2.2.2.2.2.1
theorem dX8_init_134 : decode cX8_init 134 = .ok (.iastore, 1) := edX8_init_118.2.2.2.2.2.2.2.2.2.2.2.1
theorem dX8_init_135 : decode cX8_init 135 = .ok (.dup, 1) := edX8_init_118.2.2.2.2.2.2.2.2.2.2.2.2.1
theorem dX8_init_136 : decode cX8_init 136 = .ok (.iconst 1, 1) := edX8_init_118.2.2.2.2.2.2.2.2.2.2.2.2.2.1
theorem dX8_init_137 : decode cX8_init 137 = .ok (.iconst 4, 1) := edX8_init_118.2.2.2.2.2.2.2.2.2.2.2.2.2.2.1
theorem dX8_init_138 : decode cX8_init 138 = .ok (.iastore, 1) := edX8_init_118.2.2.2.2.2.2.2.2.2.2.2.2.2.2.2.1
theorem dX8_init_139 : decode cX8_init 139 = .ok (.dup, 1) := edX8_init_118.2.2.2.2.2.2.2.2.2.2.2.2.2.2.2.2.1
theorem dX8_init_140 : decode cX8_init 140 = .ok (.iconst 2, 1) := edX8_init_118.2.2.2.2.2.2.2.2.2.2.2.2.2.2.2.2.2.1
theorem dX8_init_141 : decode cX8_init 141 = .ok (.bipush 7, 2) := edX8_init_118.2.2.2.2.2.2.2.2.2.2.2.2.2.2.2.2.2.2.1
theorem dX8_init_143 : decode cX8_init 143 = .ok (.iastore, 1) := edX8_init_118.2.2.2.2.2.2.2.2.2.2.2.2.2.2.2.2.2.2.2.1
theorem dX8_init_144 : decode cX8_init 144 = .ok (.dup, 1) := edX8_init_118.2.2.2.2.2.2.2.2.2.2.2.2.2.2.2.2.2.2.2.2.1
theorem dX8_init_145 : decode cX8_init 145 = .ok (.iconst 3, 1) := edX8_init_118.2.2.2.2.2.2.2.2.2.2.2.2.2.2.2.2.2.2.2.2.2.1
theorem dX8_init_146 : decode cX8_init 146 = .ok (.bipush 11, 2) := edX8_init_118.2.2.2.2.2.2.2.2.2.2.2.2.2.2.2.2.2.2.2.2.2.2.1
theorem dX8_init_148 : decode cX8_init 148 = .ok (.iastore, 1) := edX8_init_118.2.2.2.2.2.2.2.2.2.2.2.2.2.2.2.2.2.2.2.2.2.2.2
theorem edX8_init_149 : (decode cX8_init 149 = .ok (.putfield 36, 3)) ∧ (decode cX8_init 152 = .ok (.aload_n 0, 1)) ∧ (decode cX8_init 153 = .ok (.bipush 96, 2)) ∧ (decode cX8_init 155 = .ok (.newarray .int, 2)) ∧ (decode cX8_init 157 = .ok (.putfield 39, 3)) ∧ (decode cX8_init 160 = .ok (.aload_n 0, 1)) ∧ (decode cX8_init 161 = .ok (.bipush 96, 2)) ∧ (decode cX8_init 163 = .ok (.newarray .int, 2)) ∧ (decode cX8_init 165 = .ok (.putfield 42, 3)) ∧ (decode cX8_init 168 = .ok (.aload_n 0, 1)) ∧ (decode cX8_init 169 = .ok (.bipush 10, 2)) ∧ (decode cX8_init 171 = .ok (.newarray .boolean, 2)) ∧ (decode cX8_init 173 = .ok (.putfield 45, 3)) ∧ (decode cX8_init 176 = .ok (.aload_n 0, 1)) ∧ (decode cX8_init 177 = .ok (.bipush 96, 2)) ∧ (decode cX8_init 179 = .ok (.newarray .int, 2)) ∧ (decode cX8_init 181 = .ok (.putfield 49, 3)) ∧ (decode cX8_init 184 = .ok (.aload_n 0, 1)) ∧ (decode cX8_init 185 = .ok (.iconst 4, 1)) ∧ (decode cX8_init 186 = .ok (.newarray .int, 2)) ∧ (decode cX8_init 188 = .ok (.putfield 52, 3)) ∧ (decode cX8_init 191 = .ok (.aload_n 0, 1)) ∧ (decode cX8_init 192 = .ok (.iconst 4, 1)) ∧ (decode cX8_init 193 = .ok (.newarray .int, 2)) := by decide +kernel
theorem dX8_init_149 : decode cX8_init 149 = .ok (.putfield 36, 3) := edX8_init_149.1
theorem dX8_init_152 : decode cX8_init 152 = .ok (.aload_n 0, 1) := edX8_init_149.2.1
theorem dX8_init_153 : decode cX8_init 153 = .ok (.bipush 96, 2) := edX8_init_149.2.2.1
theorem dX8_init_155 : decode cX8_init 155 = .ok (.newarray .int, 2) := edX8_init_149.2.2.2.1
theorem dX8_init_157 : decode cX8_init 157 = .ok (.putfield 39, 3) := edX8_init_149.2.2.2.2.1
theorem dX8_init_160 : decode cX8_init 160 = .ok (.aload_n 0, 1) := edX8_init_149.2.2.2.2.2.1
theorem dX8_init_161 : decode cX8_init 161 = .ok (.bipush 96, 2) := edX8_init_149.2.2.2.2.2.2.1
theorem dX8_init_163 : decode cX8_init 163 = .ok (.newarray .int, 2) := edX8_init_149.2.2.2.2.2.2.2.1
theorem dX8_init_165 : decode cX8_init 165 = .ok (.putfield 42, 3) := edX8_init_149.2.2.2.2.2.2.2.2.1
theorem dX8_init_168 : decode cX8_init 168 = .ok (.aload_n 0, 1) := edX8_init_149.2.2.2.2.2.2.2.2.2.1
theorem dX8_init_169 : decode cX8_init 169 = .ok (.bipush 10, 2) := edX8_init_149.2.2.2.2.2.2.2.2.2.2.1
theorem dX8_init_171 : decode cX8_init 171 = .ok (.newarray .boolean, 2) := edX8_init_149.2.2.2.2.2.2.2.2.2.2.2.1
theorem dX8_init_173 : decode cX8_init 173 = .ok (.putfield 45, 3) := edX8_init_149.2.2.2.2.2.2.2.2.2.2.2.2.1
theorem dX8_init_176 : decode cX8_init 176 = .ok (.aload_n 0, 1) := edX8_init_149.2.2.2.2.2.2.2.2.2.2.2.2.2.1
theorem dX8_init_177 : decode cX8_init 177 = .ok (.bipush 96, 2) := edX8_init_149.2.2.2.2.2.2.2.2.2.2.2.2.2.2.1
theorem dX8_init_179 : decode cX8_init 179 = .ok (.newarray .int, 2) := edX8_init_149.2.2.2.2.2.2.2.2.2.2.2.2.2.2.2.1
theorem dX8_init_181 : decode cX8_init 181 = .ok (.putfield 49, 3) := edX8_init_149.2.2.2.2.2.2.2.2.2.2.2.2.2.2.2.2.1
theorem dX8_init_184 : decode cX8_init 184 = .ok (.aload_n 0, 1) := edX8_init_149.2.2.2.2.2.2.2.2.2.2.2.2.2.2.2.2.2.1
theorem dX8_init_185 : decode cX8_init 185 = .ok (.iconst 4, 1) := edX8_init_149.2.2.2.2.2.2.2.2.2.2.2.2.2.2.2.2.2.2.1
theorem dX8_init_186 : decode cX8_init 186 = .ok (.newarray .int, 2) := edX8_init_149.2.2.2.2.2.2.2.2.2.2.2.2.2.2.2.2.2.2.2.1
theorem dX8_init_188 : decode cX8_init 188 = .ok (.putfield 52, 3) := edX8_init_149.2.2.2.2.2.2.2.2.2.2.2.2.2.2.2.2.2.2.2.2.1
theorem dX8_init_191 : decode cX8_init 191 = .ok (.aload_n 0, 1) := edX8_init_149.2.2.2.2.2.2.2.2.2.2.2.2.2.2.2.2.2.2.2.2.2.1
theorem dX8_init_192 : decode cX8_init 192 = .ok (.iconst 4, 1) := edX8_init_149.2.2.2.2.2.2.2.2.2.2.2.2.2.2.2.2.2.2.2.2.2.2.1
theorem dX8_init_193 : decode cX8_init 193 = .ok (.newarray .int, 2) := edX8_init_149.2.2.2.2.2.2.2.2.2.2.2.2.2.2.2.2.2.2.2.2.2.2.2
theorem edX8_init_195 : (decode cX8_init 195 = .ok (.dup, 1)) ∧ (decode cX8_init 196 = .ok (.iconst 0, 1)) ∧ (decode cX8_init 197 = .ok (.iconst (-1), 1)) ∧ (decode cX8_init 198 = .ok (.iastore, 1)) ∧ (decode cX8_init 199 = .ok (.dup, 1)) ∧ (decode cX8_init 200 = .ok (.iconst 1, 1)) ∧ (decode cX8_init 201 = .ok (.iconst (-1), 1)) ∧ (decode cX8_init 202 = .ok (.iastore, 1)) ∧ (decode cX8_init 203 = .ok (.dup, 1)) ∧ (decode cX8_init 204 = .ok (.iconst 2, 1)) ∧ (decode cX8_init 205 = .ok (.iconst (-1), 1)) ∧ (decode cX8_init 206 = .ok (.iastore, 1)) ∧ (decode cX8_init 207 = .ok (.dup, 1)) ∧ (decode cX8_init 208 = .ok (.iconst 3, 1)) ∧ (decode cX8_init 209 = .ok (.iconst (-1), 1)) ∧ (decode cX8_init 210 = .ok (.iastore, 1)) ∧ (decode cX8_init 211 = .ok (.putfield 55, 3)) ∧ (decode cX8_init 214 = .ok (.aload_n 0, 1)) ∧ (decode cX8_init 215 = .ok (.iconst 4, 1)) ∧ (decode cX8_init 216 = .ok (.newarray .int, 2)) ∧ (decode cX8_init 218 = .ok (.putfield 58, 3)) ∧ (decode cX8_init 221 = .ok (.aload_n 0, 1)) ∧ (decode cX8_init 222 = .ok (.bipush 96, 2)) ∧ (decode cX8_init 224 = .ok (.newarray .int, 2)) := by decide +kernel
theorem dX8_init_195 : decode cX8_init 195 = .ok (.dup, 1) := edX8_init_195.1
theorem dX8_init_196 : decode cX8_init 196 = .ok (.iconst 0, 1) := edX8_init_195.2.1
theorem dX8_init_197 : decode cX8_init 197 = .ok (.iconst (-1), 1) := edX8_init_195.2.2.1
theorem dX8_init_198 : decode cX8_init 198 = .ok (.iastore, 1) := edX8_init_195.2.2.2.1
theorem dX8_init_199 : decode cX8_init 199 = .ok (.dup, 1) := edX8_init_195.2.2.2.2.1
theorem dX8_init_200 : decode cX8_init 200 = .ok (.iconst 1, 1) := edX8_init_195.2.2.2.2.2.1
theorem dX8_init_201 : decode cX8_init 201 = .ok (.iconst (-1), 1) := edX8_init_195.2.2.2.2.2.2.1
theorem dX8_init_202 : decode cX8_init 202 = .ok (.iastore, 1) := edX8_init_195.2.2.2.2.2.2.2.1
theorem dX8_init_203 : decode cX8_init 203 = .ok (.dup, 1) := edX8_init_195.2.2.2.2.2.2.2.2.1
theorem dX8_init_204 : decode cX8_init 204 = .ok (.iconst 2, 1) := edX8_init_195.2.2.2.2.2.2.2.2.2.1
theorem dX8_init_205 : decode cX8_init 205 = .ok (.iconst (-1), 1) := edX8_init_195.2.2.2.2.2.2.2.2.2.2.1
theorem dX8_init_206 : decode cX8_init 206 = .ok (.iastore, 1) := edX8_init_195.2.2.2.2.2.2.2.2.2.2.2.1
theorem dX8_init_207 : decode cX8_init 207 = .ok (.dup, 1) := edX8_init_195.2.2.2.2.2.2.2.2.2.2.2.2.1
theorem dX8_init_208 : decode cX8_init 208 = .ok (.iconst 3, 1) := edX8_init_195.2.2.2.2.2.2.2.2.2.2.2.2.2.1
theorem dX8_init_209 : decode cX8_init 209 = .ok (.iconst (-1), 1) := edX8_init_195.2.2.2.2.2.2.2.2.2.2.2.2.2.2.1
theorem dX8_init_210 : decode cX8_init 210 = .ok (.iastore, 1) := edX8_init_195.2.2.2.2.2.2.2.2.2.2.2.2.2.2.2.1
theorem dX8_init_211 : decode cX8_init 211 = .ok (.putfield 55, 3) := edX8_init_195.2.2.2.2.2.2.2.2.2.2.2.2.2.2.2.2.1
theorem dX8_init_214 : decode cX8_init 214 = .ok (.aload_n 0, 1) := edX8_init_195.2.2.2.2.2.2.2.2.2.2.2.2.2.2.2.2.2.1
theorem dX8_init_215 : decode cX8_init 215 = .ok (.iconst 4, 1) := edX8_init_195.2.2.2.2.2.2.2.2.2.2.2.2.2.2.2.2.2.2.1
theorem dX8_init_216 : decode cX8_init 216 = .ok (.newarray .int, 2) := edX8_init_195.2.2.2.2.2.2.2.2.2.2.2.2.2.2.2.2.2.2.2.1
theorem dX8_init_218 : decode cX8_init 218 = .ok (.putfield 58, 3) := edX8_init_195.2.2.2.2.2.2.2.2.2.2.2.2.2.2.2.2.2.2.2.2.1
theorem dX8_init_221 : decode cX8_init 221 = .ok (.aload_n 0, 1) := edX8_init_195.2.2.2.2.2.2.2.2.2.2.2.2.2.2.2.2.2.2.2.2.2.1
theorem dX8_init_222 : decode cX8_init 222 = .ok (.bipush 96, 2) := edX8_init_195.2.2.2.2.2.2.2.2.2.2.2.2.2.2.2.2.2.2.2.2.2.2.1
theorem dX8_init_224 : decode cX8_init 224 = .ok (.newarray .int, 2) := edX8_init_195.2.2.2.2.2.2.2.2.2.2.2.2.2.2.2.2.2.2.2.2.2.2.2
theorem edX8_init_226 : (decode cX8_init 226 = .ok (.putfield 61, 3)) ∧ (decode cX8_init 229 = .ok (.aload_n 0, 1)) ∧ (decode cX8_init 230 = .ok (.iconst 5, 1)) ∧ (decode cX8_init 231 = .ok (.newarray .int, 2)) ∧ (decode cX8_init 233 = .ok (.putfield 64, 3)) ∧ (decode cX8_init 236 = .ok (.aload_n 0, 1)) ∧ (decode cX8_init 237 = .ok (.iconst 5, 1)) ∧ (decode cX8_init 238 = .ok (.newarray .int, 2)) ∧ (decode cX8_init 240 = .ok (.putfield 67, 3)) ∧ (decode cX8_init 243 = .ok (.aload_n 0, 1)) ∧ (decode cX8_init 244 = .ok (.iconst 5, 1)) ∧ (decode cX8_init 245 = .ok (.newarray .int, 2)) ∧ (decode cX8_init 247 = .ok (.putfield 70, 3)) ∧ (decode cX8_init 250 = .ok (.aload_n 0, 1)) ∧ (decode cX8_init 251 = .ok (.bipush 120, 2)) ∧ (decode cX8_init 253 = .ok (.newarray .int, 2)) ∧ (decode cX8_init 255 = .ok (.putfield 73, 3)) ∧ (decode cX8_init 258 = .ok (.aload_n 0, 1)) ∧ (decode cX8_init 259 = .ok (.bipush 24, 2)) ∧ (decode cX8_init 261 = .ok (.newarray .int, 2)) ∧ (decode cX8_init 263 = .ok (.putfield 76, 3)) ∧ (decode cX8_init 266 = .ok (.aload_n 0, 1)) ∧ (decode cX8_init 267 = .ok (.bipush 60, 2)) ∧ (decode cX8_init 269 = .ok (.newarray .int, 2)) := by decide +kernel
theorem dX8_init_226 : decode cX8_init 226 = .ok (.putfield 61, 3) := edX8_init_226.1
theorem dX8_init_229 : decode cX8_init 229 = .ok (.aload_n 0, 1) := edX8_init_226.2.1
theorem dX8_init_230 : decode cX8_init 230 = .ok (.iconst 5, 1) := edX8_init_226.2.2.1
theorem dX8_init_231 : decode cX8_init 231 = .ok (.newarray .int, 2) := edX8_init_226.2.2.2.1
theorem dX8_init_233 : decode cX8_init 233 = .ok (.putfield 64, 3) := edX8_init_226.2.2.2.2.1
theorem dX8_init_236 : decode cX8_init 236 = .ok (.aload_n 0, 1) := edX8_init_226.2.2.2.2.2.1
theorem dX8_init_237 : decode cX8_init 237 = .ok (.iconst 5, 1) := edX8_init_226.2.2.2.2.2.2.1
theorem dX8_init_238 : decode cX8_init 238 = .ok (.newarray .int, 2) := edX8_init_226.2.2.2.2.2.2.2.1
theorem dX8_init_240 : decode cX8_init 240 = .ok (.putfield 67, 3) := edX8_init_226.2.2.2.2.2.2.2.2.1
theorem dX8_init_243 : decode cX8_init 243 = .ok (.aload_n 0, 1) := edX8_init_226.2.2.2.2.2.2.2.2.2.1
theorem dX8_init_244 : decode cX8_init 244 = .ok (.iconst 5, 1) := edX8_init_226.2.2.2.2.2.2.2.2.2.2.1
theorem dX8_init_245 : decode cX8_init 245 = .ok (.newarray .int, 2) := edX8_init_226.2.2.2.2.2.2.2.2.2.2.2.1
theorem dX8_init_247 : decode cX8_init 247 = .ok (.putfield 70, 3) := edX8_init_226.2.2.2.2.2.2.2.2.2.2.2.2.1
theorem dX8_init_250 : decode cX8_init 250 = .ok (.aload_n 0, 1) := edX8_init_226.2.2.2.2.2.2.2.2.2.2.2.2.2.1
theorem dX8_init_251 : decode cX8_init 251 = .ok (.bipush 120, 2) := edX8_init_226.2.2.2.2.2.2.2.2.2.2.2.2.2.2.1
theorem dX8_init_253 : decode cX8_init 253 = .ok (.newarray .int, 2) := edX8_init_226.2.2.2.2.2.2.2.2.2.2.2.2.2.2.2.1
theorem dX8_init_255 : decode cX8_init 255 = .ok (.putfield 73, 3) := edX8_init_226.2.2.2.2.2.2.2.2.2.2.2.2.2.2.2.2.1
theorem dX8_init_258 : decode cX8_init 258 = .ok (.aload_n 0, 1) := edX8_init_226.2.2.2.2.2.2.2.2.2.2.2.2.2.2.2.2.2.1
theorem dX8_init_259 : decode cX8_init 259 = .ok (.bipush 24, 2) := edX8_init_226.2.2.2.2.2.2.2.2.2.2.2.2.2.2.2.2.2.2.1
theorem dX8_init_261 : decode cX8_init 261 = .ok (.newarray .int, 2) := edX8_init_226.2.2.2.2.2.2.2.2.2.2.2.2.2.2.2.2.2.2.2.1
theorem dX8_init_263 : decode cX8_init 263 = .ok (.putfield 76, 3) := edX8_init_226.2.2.2.2.2.2.2.2.2.2.2.2.2.2.2.2.2.2.2.2.1
theorem dX8_init_266 : decode cX8_init 266 = .ok (.aload_n 0, 1) := edX8_init_226.2.2.2.2.2.2.2.2.2.2.2.2.2.2.2.2.2.2.2.2.2.1
theorem dX8_init_267 : decode cX8_init 267 = .ok (.bipush 60, 2) := edX8_init_226.2.2.2.2.2.2.2.2.2.2.2.2.2.2.2.2.2.2.2.2.2.2.1
theorem dX8_init_269 : decode cX8_init 269 = .ok (.newarray .int, 2) := edX8_init_226.2.2.2.2.2.2.2.2.2.2.2.2.2.2.2.2.2.2.2.2.2.2.2
theorem edX8_init_271 : (decode cX8_init 271 = .ok (.putfield 79, 3)) ∧ (decode cX8_init 274 = .ok (.aload_n 0, 1)) ∧ (decode cX8_init 275 = .ok (.getfield 9, 3)) ∧ (decode cX8_init 278 = .ok (.iconst 0, 1)) ∧ (decode cX8_init 279 = .ok (.iconst 1, 1)) ∧ (decode cX8_init 280 = .ok (.iastore, 1)) ∧ (decode cX8_init 281 = .ok (.aload_n 0, 1)) ∧ (decode cX8_init 282 = .ok (.getfield 9, 3)) ∧ (decode cX8_init 285 = .ok (.iconst 4, 1)) ∧ (decode cX8_init 286 = .ok (.bipush 60, 2)) ∧ (decode cX8_init 288 = .ok (.iastore, 1)) ∧ (decode cX8_init 289 = .ok (.aload_n 0, 1)) ∧ (decode cX8_init 290 = .ok (.getfield 9, 3)) ∧ (decode cX8_init 293 = .ok (.iconst 5, 1)) ∧ (decode cX8_init 294 = .ok (.bipush 10, 2)) ∧ (decode cX8_init 296 = .ok (.iastore, 1)) ∧ (decode cX8_init 297 = .ok (.aload_n 0, 1)) ∧ (decode cX8_init 298 = .ok (.getfield 9, 3)) ∧ (decode cX8_init 301 = .ok (.bipush 20, 2)) ∧ (decode cX8_init 303 = .ok (.bipush 20, 2)) ∧ (decode cX8_init 305 = .ok (.iastore, 1)) ∧ (decode cX8_init 306 = .ok (.aload_n 0, 1)) ∧ (decode cX8_init 307 = .ok (.getfield 9, 3)) ∧ (decode cX8_init 310 = .ok (.bipush 21, 2)) := by decide +kernel
theorem dX8_init_271 : decode cX8_init 271 = .ok (.putfield 79, 3) := edX8_init_271.1
theorem dX8_init_274 : decode cX8_init 274 = .ok (.aload_n 0, 1) := edX8_init_271.2.1
theorem dX8_init_275 : decode cX8_init 275 = .ok (.getfield 9, 3) := edX8_init_271.2.2.1
theorem dX8_init_278 : decode cX8_init 278 = .ok (.iconst 0, 1) := edX8_init_271.2.2.2.1
theorem dX8_init_279 : decode cX8_init 279 = .ok (.iconst 1, 1) := edX8_init_271.2.2.2.2.1
theorem dX8_init_280 : decode cX8_init 280 = .ok (.iastore, 1) := edX8_init_271.2.2.2.2.2.1
theorem dX8_init_281 : decode cX8_init 281 = .ok (.aload_n 0, 1) := edX8_init_271.2.2.2.2.2.2.1
theorem dX8_init_282 : decode cX8_init 282 = .ok (.getfield 9, 3) := edX8_init_271.2.2.2.2.2.2.2.1
theorem dX8_init_285 : decode cX8_init 285 = .ok (.iconst 4, 1) := edX8_init_271.2.2.2.2.2.2.2.2.1
theorem dX8_init_286 : decode cX8_init 286 = .ok (.bipush 60, 2) := edX8_init_271.2.2.2.2.2.2.2.2.2.1
theorem dX8_init_288 : decode cX8_init 288 = .ok (.iastore, 1) := edX8_init_271.2.2.2.2.2.2.2.2.2.2.1
theorem dX8_init_289 : decode cX8_init 289 = .ok (.aload_n 0, 1) := edX8_init_271.2.2.2.2.2.2.2.2.2.2.2.1
theorem dX8_init_290 : decode cX8_init 290 = .ok (.getfield 9, 3) := edX8_init_271.2.2.2.2.2.2.2.2.2.2.2.2.1
theorem dX8_init_293 : decode cX8_init 293 = .ok (.iconst 5, 1) := edX8_init_271.2.2.2.2.2.2.2.2.2.2.2.2.2.1
theorem dX8_init_294 : decode cX8_init 294 = .ok (.bipush 10, 2) := edX8_init_271.2.2.2.2.2.2.2.2.2.2.2.2.2.2.1
theorem dX8_init_296 : decode cX8_init 296 = .ok (.iastore, 1) := edX8_init_271.2.2.2.2.2.2.2.2.2.2.2.2.2.2.2.1
theorem dX8_init_297 : decode cX8_init 297 = .ok (.aload_n 0, 1) := edX8_init_271.2.2.2.2.2.2.2.2.2.2.2.2.2.2.2.2.1
theorem dX8_init_298 : decode cX8_init 298 = .ok (.getfield 9, 3) := edX8_init_271.2.2.2.2.2.2.2.2.2.2.2.2.2.2.2.2.2.1
theorem dX8_init_301 : decode cX8_init 301 = .ok (.bipush 20, 2) := edX8_init_271.2.2.2.2.2.2.2.2.2.2.2.2.2.2.2.2.2.2.1
theorem dX8_init_303 : decode cX8_init 303 = .ok (.bipush 20, 2) := edX8_init_271.2.2.2.2.2.2.2.2.2.2.2.2.2.2.2.2.2.2.2.1
theorem dX8_init_305 : decode cX8_init 305 = .ok (.iastore, 1) := edX8_init_271.2.2.2.2.2.2.2.2.2.2.2.2.2.2.2.2.2.2.2.2.1
theorem dX8_init_306 : decode cX8_init 306 = .ok (.aload_n 0, 1) := edX8_init_271.2.2.2.2.2.2.2.2.2.2.2.2.2.2.2.2.2.2.2.2.2.1
theorem dX8_init_307 : decode cX8_init 307 = .ok (.getfield 9, 3) := edX8_init_271.2.2.2.2.2.2.2.2.2.2.2.2.2.2.2.2.2.2.2.2.2.2.1
theorem dX8_init_310 : decode cX8_init 310 = .ok (.bipush 21, 2) := edX8_init_271.2.2.2.2.2.2.2.2.2.2.2.2.2.2.2.2.2.2.2.2.2.2.2
theorem edX8_init_312 : (decode cX8_init 312 = .ok (.bipush 20, 2)) ∧ (decode cX8_init 314 = .ok (.iastore, 1)) ∧ (decode cX8_init 315 = .ok (.iconst 0, 1)) ∧ (decode cX8_init 316 = .ok (.istore_n 1, 1)) ∧ (decode cX8_init 317 = .ok (.iload_n 1, 1)) ∧ (decode cX8_init 318 = .ok (.iconst 4, 1)) ∧ (decode cX8_init 319 = .ok (.if_icmp .ge 39, 3)) ∧ (decode cX8_init 322 = .ok (.aload_n 0, 1)) ∧ (decode cX8_init 323 = .ok (.getfield 9, 3)) ∧ (decode cX8_init 326 = .ok (.bipush 8, 2)) ∧ (decode cX8_init 328 = .ok (.iload_n 1, 1)) ∧ (decode cX8_init 329 = .ok (.iadd, 1)) ∧ (decode cX8_init 330 = .ok (.iconst 5, 1)) ∧ (decode cX8_init 331 = .ok (.iastore, 1)) ∧ (decode cX8_init 332 = .ok (.aload_n 0, 1)) ∧ (decode cX8_init 333 = .ok (.getfield 9, 3)) ∧ (decode cX8_init 336 = .ok (.bipush 12, 2)) ∧ (decode cX8_init 338 = .ok (.iload_n 1, 1)) ∧ (decode cX8_init 339 = .ok (.iadd, 1)) ∧ (decode cX8_init 340 = .ok (.iconst 1, 1)) ∧ (decode cX8_init 341 = .ok (.iastore, 1)) ∧ (decode cX8_init 342 = .ok (.aload_n 0, 1)) ∧ (decode cX8_init 343 = .ok (.getfield 9, 3)) ∧ (decode cX8_init 346 = .ok (.bipush 16, 2)) := by decide +kernel
theorem dX8_init_312 : decode cX8_init 312 = .ok (.bipush 20, 2) := edX8_init_312.1
theorem dX8_init_314 : decode cX8_init 314 = .ok (.iastore, 1) := edX8_init_312.2.1
theorem dX8_init_315 : decode cX8_init 315 = .ok (.iconst 0, 1) := edX8_init_312.2.2.1
theorem dX8_init_316 : decode cX8_init 316 = .ok (.istore_n 1, 1) := edX8_init_312.2.2.2.1
theorem dX8_init_317 : decode cX8_init 317 = .ok (.iload_n 1, 1) := edX8_init_312.2.2.2.2.1
theorem dX8_init_318 : decode cX8_init 318 = .ok (.iconst 4, 1) := edX8_init_312.2.2.2.2.2.1
theorem dX8_init_319 : decode cX8_init 319 = .ok (.if_icmp .ge 39, 3) := edX8_init_312.2.2.2.2.2.2.1
theorem dX8_init_322 : decode cX8_init 322 = .ok (.aload_n 0, 1) := edX8_init_312.2.2.2.2.2.2.2.1
theorem dX8_init_323 : decode cX8_init 323 = .ok (.getfield 9, 3) := edX8_init_312.2.2.2.2.2.2.2.2.1
theorem dX8_init_326 : decode cX8_init 326 = .ok (.bipush 8, 2) := edX8_init_312.2.2.2.2.2.2.2.2.2.1
theorem dX8_init_328 : decode cX8_init 328 = .ok (.iload_n 1, 1) := edX8_init_312.2.2.2.2.2.2.2.2.2.2.1
theorem dX8_init_329 : decode cX8_init 329 = .ok (.iadd, 1) := edX8_init_312.2.2.2.2.2.2.2.2.2.2.2.1
theorem dX8_init_330 : decode cX8_init 330 = .ok (.iconst 5, 1) := edX8_init_312.2.2.2.2.2.2.2.2.2.2.2.2.1
theorem dX8_init_331 : decode cX8_init 331 = .ok (.iastore, 1) := edX8_init_312.2.2.2.2.2.2.2.2.2.2.2.2.2.1
theorem dX8_init_332 : decode cX8_init 332 = .ok (.aload_n 0, 1) := edX8_init_312.2.2.2.2.2.2.2.2.2.2.2.2.2.2.1
theorem dX8_init_333 : decode cX8_init 333 = .ok (.getfield 9, 3) := edX8_init_312.2.2.2.2.2.2.2.2.2.2.2.2.2.2.2.1
theorem dX8_init_336 : decode cX8_init 336 = .ok (.bipush 12, 2) := edX8_init_312.2.2.2.2.2.2.2.2.2.2.2.2.2.2.2.2.1
theorem dX8_init_338 : decode cX8_init 338 = .ok (.iload_n 1, 1) := edX8_init_312.2.2.2.2.2.2.2.2.2.2.2.2.2.2.2.2.2.1
theorem dX8_init_339 : decode cX8_init 339 = .ok (.iadd, 1) := edX8_init_312.2.2.2.2.2.2.2.2.2.2.2.2.2.2.2.2.2.2.1
theorem dX8_init_340 : decode cX8_init 340 = .ok (.iconst 1, 1) := edX8_init_312.2.2.2.2.2.2.2.2.2.2.2.2.2.2.2.2.2.2.2.1
theorem dX8_init_341 : decode cX8_init 341 = .ok (.iastore, 1) := edX8_init_312.2.2.2.2.2.2.2.2.2.2.2.2.2.2.2.2.2.2.2.2.1
theorem dX8_init_342 : decode cX8_init 342 = .ok (.aload_n 0, 1) := edX8_init_312.2.2.2.2.2.2.2.2.2.2.2.2.2.2.2.2.2.2.2.2.2.1
theorem dX8_init_343 : decode cX8_init 343 = .ok (.getfield 9, 3) := edX8_init_312.2.2.2.2.2.2.2.2.2.2.2.2.2.2.2.2.2.2.2.2.2.2.1
theorem dX8_init_346 : decode cX8_init 346 = .ok (.bipush 16, 2) := edX8_init_312.2.2.2.2.2.2.2.2.2.2.2.2.2.2.2.2.2.2.2.2.2.2.2
theorem edX8_init_348 : (decode cX8_init 348 = .ok (.iload_n 1, 1)) ∧ (decode cX8_init 349 = .ok (.iadd, 1)) ∧ (decode cX8_init 350 = .ok (.iconst 1, 1)) ∧ (decode cX8_init 351 = .ok (.iastore, 1)) ∧ (decode cX8_init 352 = .ok (.iinc 1 1, 3)) ∧ (decode cX8_init 355 = .ok (.goto (-38), 3)) ∧ (decode cX8_init 358 = .ok (.return_, 1)) := by decide +kernel
theorem dX8_init_348 : decode cX8_init 348 = .ok (.iload_n 1, 1) := edX8_init_348.1
theorem dX8_init_349 : decode cX8_init 349 = .ok (.iadd, 1) := edX8_init_348.2.1
theorem dX8_init_350 : decode cX8_init 350 = .ok (.iconst 1, 1) := edX8_init_348.2.2.1
theorem dX8_init_351 : decode cX8_init 351 = .ok (.iastore, 1) := edX8_init_348.2.2.2.1
theorem dX8_init_352 : decode cX8_init 352 = .ok (.iinc 1 1, 3) := edX8_init_348.2.2.2.2.1
theorem dX8_init_355 : decode cX8_init 355 = .ok (.goto (-38), 3) := edX8_init_348.2.2.2.2.2.1
theorem dX8_init_358 : decode cX8_init 358 = .ok (.return_, 1) := edX8_init_348.2.2.2.2.2.2
theorem edX8_in_0 : (decode cX8_in 0 = .ok (.iload_n 0, 1)) ∧ (decode cX8_in 1 = .ok (.iload_n 1, 1)) ∧ (decode cX8_in 2 = .ok (.if_icmp .lt 12, 3)) ∧ (decode cX8_in 5 = .ok (.iload_n 0, 1)) ∧ (decode cX8_in 6 = .ok (.iload_n 2, 1)) ∧ (decode cX8_in 7 = .ok (.if_icmp .gt 7, 3)) ∧ (decode cX8_in 10 = .ok (.iconst 1, 1)) ∧ (decode cX8_in 11 = .ok (.goto 4, 3)) ∧ (decode cX8_in 14 = .ok (.iconst 0, 1)) ∧ (decode cX8_in 15 = .ok (.ireturn, 1)) := by decide +kernel
theorem dX8_in_0 : decode cX8_in 0 = .ok (.iload_n 0, 1) := edX8_in_0.1
theorem dX8_in_1 : decode cX8_in 1 = .ok (.iload_n 1, 1) := edX8_in_0.2.1
theorem dX8_in_2 : decode cX8_in 2 = .ok (.if_icmp .lt 12, 3) := edX8_in_0.2.2.1
theorem dX8_in_5 : decode cX8_in 5 = .ok (.iload_n 0, 1) := edX8_in_0.2.2.2.1
theorem dX8_in_6 : decode cX8_in 6 = .ok (.iload_n 2, 1) := edX8_in_0.2.2.2.2.1
theorem dX8_in_7 : decode cX8_in 7 = .ok (.if_icmp .gt 7, 3) := edX8_in_0.2.2.2.2.2.1
theorem dX8_in_10 : decode cX8_in 10 = .ok (.iconst 1, 1) := edX8_in_0.2.2.2.2.2.2.1
theorem dX8_in_11 : decode cX8_in 11 = .ok (.goto 4, 3) := edX8_in_0.2.2.2.2.2.2.2.1
theorem dX8_in_14 : decode cX8_in 14 = .ok (.iconst 0, 1) := edX8_in_0.2.2.2.2.2.2.2.2.1
theorem dX8_in_15 : decode cX8_in 15 = .ok (.ireturn, 1) := edX8_in_0.2.2.2.2.2.2.2.2.2
theorem edX8_within_0 : (decode cX8_within 0 = .ok (.iload_n 0, 1)) ∧ (decode cX8_within 1 = .ok (.iload_n 1, 1)) ∧ (decode cX8_within 2 = .ok (.if_icmp .ge 7, 3)) ∧ (decode cX8_within 5 = .ok (.iload_n 1, 1)) ∧ (decode cX8_within 6 = .ok (.goto 13, 3)) ∧ (decode cX8_within 9 = .ok (.iload_n 0, 1)) ∧ (decode cX8_within 10 = .ok (.iload_n 2, 1)) ∧ (decode cX8_within 11 = .ok (.if_icmp .le 7, 3)) ∧ (decode cX8_within 14 = .ok (.iload_n 2, 1)) ∧ (decode cX8_within 15 = .ok (.goto 4, 3)) ∧ (decode cX8_within 18 = .ok (.iload_n 0, 1)) ∧ (decode cX8_within 19 = .ok (.ireturn, 1)) := by decide +kernel
theorem dX8_within_0 : decode cX8_within 0 = .ok (.iload_n 0, 1) := edX8_within_0.1
theorem dX8_within_1 : decode cX8_within 1 = .ok (.iload_n 1, 1) := edX8_within_0.2.1
theorem dX8_within_2 : decode cX8_within 2 = .ok (.if_icmp .ge 7, 3) := edX8_within_0.2.2.1
theorem dX8_within_5 : decode cX8_within 5 = .ok (.iload_n 1, 1) := edX8_within_0.2.2.2.1
theorem dX8_within_6 : decode cX8_within 6 = .ok (.goto 13, 3) := edX8_within_0.2.2.2.2.1
theorem dX8_within_9 : decode cX8_within 9 = .ok (.iload_n 0, 1) := edX8_within_0.2.2.2.2.2.1
theorem dX8_within_10 : decode cX8_within 10 = .ok (.iload_n 2, 1) := edX8_within_0.2.2.2.2.2.2.1
theorem dX8_within_11 : decode cX8_within 11 = .ok (.if_icmp .le 7, 3) := edX8_within_0.2.2.2.2.2.2.2.1
theorem dX8_within_14 : decode cX8_within 14 = .ok (.iload_n 2, 1) := edX8_within_0.2.2.2.2.2.2.2.2.1
theorem dX8_within_15 : decode cX8_within 15 = .ok (.goto 4, 3) := edX8_within_0.2.2.2.2.2.2.2.2.2.1
theorem dX8_within_18 : decode cX8_within 18 = .ok (.iload_n 0, 1) := edX8_within_0.2.2.2.2.2.2.2.2.2.2.1
theorem dX8_within_19 : decode cX8_within 19 = .ok (.ireturn, 1) := edX8_within_0.2.2.2.2.2.2.2.2.2.2.2
theorem edX8_copyAll_0 : (decode cX8_copyAll 0 = .ok (.iconst 0, 1)) ∧ (decode cX8_copyAll 1 = .ok (.istore_n 2, 1)) ∧ (decode cX8_copyAll 2 = .ok (.iload_n 2, 1)) ∧ (decode cX8_copyAll 3 = .ok (.sipush 1434, 3)) ∧ (decode cX8_copyAll 6 = .ok (.if_icmp .ge 15, 3)) ∧ (decode cX8_copyAll 9 = .ok (.aload_n 1, 1)) ∧ (decode cX8_copyAll 10 = .ok (.iload_n 2, 1)) ∧ (decode cX8_copyAll 11 = .ok (.aload_n 0, 1)) ∧ (decode cX8_copyAll 12 = .ok (.iload_n 2, 1)) ∧ (decode cX8_copyAll 13 = .ok (.iaload, 1)) ∧ (decode cX8_copyAll 14 = .ok (.iastore, 1)) ∧ (decode cX8_copyAll 15 = .ok (.iinc 2 1, 3)) ∧ (decode cX8_copyAll 18 = .ok (.goto (-16), 3)) ∧ (decode cX8_copyAll 21 = .ok (.return_, 1)) := by decide +kernel
theorem dX8_copyAll_0 : decode cX8_copyAll 0 = .ok (.iconst 0, 1) := edX8_copyAll_0.1
theorem dX8_copyAll_1 : decode cX8_copyAll 1 = .ok (.istore_n 2, 1) := edX8_copyAll_0.2.1
theorem dX8_copyAll_2 : decode cX8_copyAll 2 = .ok (.iload_n 2, 1) := edX8_copyAll_0.2.2.1
theorem dX8_copyAll_3 : decode cX8_copyAll 3 = .ok (.sipush 1434, 3) := edX8_copyAll_0.2.2.2.1
theorem dX8_copyAll_6 : decode cX8_copyAll 6 = .ok (.if_icmp .ge 15, 3) := edX8_copyAll_0.2.2.2.2.1
theorem dX8_copyAll_9 : decode cX8_copyAll 9 = .ok (.aload_n 1, 1) := edX8_copyAll_0.2.2.2.2.2.1
theorem dX8_copyAll_10 : decode cX8_copyAll 10 = .ok (.iload_n 2, 1) := edX8_copyAll_0.2.2.2.2.2.2.1
theorem dX8_copyAll_11 : decode cX8_copyAll 11 = .ok (.aload_n 0, 1) := edX8_copyAll_0.2.2.2.2.2.2.2.1
theorem dX8_copyAll_12 : decode cX8_copyAll 12 = .ok (.iload_n 2, 1) := edX8_copyAll_0.2.2.2.2.2.2.2.2.1
theorem dX8_copyAll_13 : decode cX8_copyAll 13 = .ok (.iaload, 1) := edX8_copyAll_0.2.2.2.2.2.2.2.2.2.1
theorem dX8_copyAll_14 : decode cX8_copyAll 14 = .ok (.iastore, 1) := edX8_copyAll_0.2.2.2.2.2.2.2.2.2.2.1
theorem dX8_copyAll_15 : decode cX8_copyAll 15 = .ok (.iinc 2 1, 3) := edX8_copyAll_0.2.2.2.2.2.2.2.2.2.2.2.1
theorem dX8_copyAll_18 : decode cX8_copyAll 18 = .ok (.goto (-16), 3) := edX8_copyAll_0.2.2.2.2.2.2.2.2.2.2.2.2.1
theorem dX8_copyAll_21 : decode cX8_copyAll 21 = .ok (.return_, 1) := edX8_copyAll_0.2.2.2.2.2.2.2.2.2.2.2.2.2
theorem edX8_told0_0 : (decode cX8_told0 0 = .ok (.iload_n 0, 1)) ∧ (decode cX8_told0 1 = .ok (.ifCond .ge 8, 3)) ∧ (decode cX8_told0 4 = .ok (.ldc 82, 2)) ∧ (decode cX8_told0 6 = .ok (.goto 4, 3)) ∧ (decode cX8_told0 9 = .ok (.iload_n 0, 1)) ∧ (decode cX8_told0 10 = .ok (.ireturn, 1)) := by decide +kernel
theorem dX8_told0_0 : decode cX8_told0 0 = .ok (.iload_n 0, 1) := edX8_told0_0.1
theorem dX8_told0_1 : decode cX8_told0 1 = .ok (.ifCond .ge 8, 3) := edX8_told0_0.2.1
theorem dX8_told0_4 : decode cX8_told0 4 = .ok (.ldc 82, 2) := edX8_told0_0.2.2.1
theorem dX8_told0_6 : decode cX8_told0 6 = .ok (.goto 4, 3) := edX8_told0_0.2.2.2.1
theorem dX8_told0_9 : decode cX8_told0 9 = .ok (.iload_n 0, 1) := edX8_told0_0.2.2.2.2.1
theorem dX8_told0_10 : decode cX8_told0 10 = .ok (.ireturn, 1) := edX8_told0_0.2.2.2.2.2
theorem edX8_isFriend_0 : (decode cX8_isFriend 0 = .ok (.iload_n 1, 1)) ∧ (decode cX8_isFriend 1 = .ok (.iconst 0, 1)) ∧ (decode cX8_isFriend 2 = .ok (.aload_n 0, 1)) ∧ (decode cX8_isFriend 3 = .ok (.getfield 9, 3)) ∧ (decode cX8_isFriend 6 = .ok (.iconst 1, 1)) ∧ (decode cX8_isFriend 7 = .ok (.iaload, 1)) ∧ (decode cX8_isFriend 8 = .ok (.iconst 1, 1)) ∧ (decode cX8_isFriend 9 = .ok (.isub, 1)) ∧ (decode cX8_isFriend 10 = .ok (.invokestatic 83, 3)) ∧ (decode cX8_isFriend 13 = .ok (.ireturn, 1)) := by decide +kernel
theorem dX8_isFriend_0 : decode cX8_isFriend 0 = .ok (.iload_n 1, 1) := edX8_isFriend_0.1
theorem dX8_isFriend_1 : decode cX8_isFriend 1 = .ok (.iconst 0, 1) := edX8_isFriend_0.2.1
theorem dX8_isFriend_2 : decode cX8_isFriend 2 = .ok (.aload_n 0, 1) := edX8_isFriend_0.2.2.1
theorem dX8_isFriend_3 : decode cX8_isFriend 3 = .ok (.getfield 9, 3) := edX8_isFriend_0.2.2.2.1
theorem dX8_isFriend_6 : decode cX8_isFriend 6 = .ok (.iconst 1, 1) := edX8_isFriend_0.2.2.2.2.1
theorem dX8_isFriend_7 : decode cX8_isFriend 7 = .ok (.iaload, 1) := edX8_isFriend_0.2.2.2.2.2.1
theorem dX8_isFriend_8 : decode cX8_isFriend 8 = .ok (.iconst 1, 1) := edX8_isFriend_0.2.2.2.2.2.2.1
theorem dX8_isFriend_9 : decode cX8_isFriend 9 = .ok (.isub, 1) := edX8_isFriend_0.2.2.2.2.2.2.2.1
theorem dX8_isFriend_10 : decode cX8_isFriend 10 = .ok (.invokestatic 83, 3) := edX8_isFriend_0.2.2.2.2.2.2.2.2.1
theorem dX8_isFriend_13 : decode cX8_isFriend 13 = .ok (.ireturn, 1) := edX8_isFriend_0.2.2.2.2.2.2.2.2.2
theorem edX8_of_0 : (decode cX8_of 0 = .ok (.aload_n 0, 1)) ∧ (decode cX8_of 1 = .ok (.getfield 9, 3)) ∧ (decode cX8_of 4 = .ok (.bipush 22, 2)) ∧ (decode cX8_of 6 = .ok (.iconst 5, 1)) ∧ (decode cX8_of 7 = .ok (.iload_n 1, 1)) ∧ (decode cX8_of 8 = .ok (.imul, 1)) ∧ (decode cX8_of 9 = .ok (.iadd, 1)) ∧ (decode cX8_of 10 = .ok (.iload_n 2, 1)) ∧ (decode cX8_of 11 = .ok (.iadd, 1)) ∧ (decode cX8_of 12 = .ok (.iaload, 1)) ∧ (decode cX8_of 13 = .ok (.ireturn, 1)) := by decide +kernel
theorem dX8_of_0 : decode cX8_of 0 = .ok (.aload_n 0, 1) := edX8_of_0.1
theorem dX8_of_1 : decode cX8_of 1 = .ok (.getfield 9, 3) := edX8_of_0.2.1
theorem dX8_of_4 : decode cX8_of 4 = .ok (.bipush 22, 2) := edX8_of_0.2.2.1
theorem dX8_of_6 : decode cX8_of 6 = .ok (.iconst 5, 1) := edX8_of_0.2.2.2.1
theorem dX8_of_7 : decode cX8_of 7 = .ok (.iload_n 1, 1) := edX8_of_0.2.2.2.2.1
theorem dX8_of_8 : decode cX8_of 8 = .ok (.imul, 1) := edX8_of_0.2.2.2.2.2.1
theorem dX8_of_9 : decode cX8_of 9 = .ok (.iadd, 1) := edX8_of_0.2.2.2.2.2.2.1
theorem dX8_of_10 : decode cX8_of 10 = .ok (.iload_n 2, 1) := edX8_of_0.2.2.2.2.2.2.2.1
theorem dX8_of_11 : decode cX8_of 11 = .ok (.iadd, 1) := edX8_of_0.2.2.2.2.2.2.2.2.1
theorem dX8_of_12 : decode cX8_of 12 = .ok (.iaload, 1) := edX8_of_0.2.2.2.2.2.2.2.2.2.1
theorem dX8_of_13 : decode cX8_of 13 = .ok (.ireturn, 1) := edX8_of_0.2.2.2.2.2.2.2.2.2.2
theorem edX8_put_0 : (decode cX8_put 0 = .ok (.aload_n 0, 1)) ∧ (decode cX8_put 1 = .ok (.getfield 9, 3)) ∧ (decode cX8_put 4 = .ok (.bipush 22, 2)) ∧ (decode cX8_put 6 = .ok (.iconst 5, 1)) ∧ (decode cX8_put 7 = .ok (.iload_n 1, 1)) ∧ (decode cX8_put 8 = .ok (.imul, 1)) ∧ (decode cX8_put 9 = .ok (.iadd, 1)) ∧ (decode cX8_put 10 = .ok (.iload_n 2, 1)) ∧ (decode cX8_put 11 = .ok (.iadd, 1)) ∧ (decode cX8_put 12 = .ok (.iload_n 3, 1)) ∧ (decode cX8_put 13 = .ok (.iastore, 1)) ∧ (decode cX8_put 14 = .ok (.return_, 1)) := by decide +kernel
theorem dX8_put_0 : decode cX8_put 0 = .ok (.aload_n 0, 1) := edX8_put_0.1
theorem dX8_put_1 : decode cX8_put 1 = .ok (.getfield 9, 3) := edX8_put_0.2.1
theorem dX8_put_4 : decode cX8_put 4 = .ok (.bipush 22, 2) := edX8_put_0.2.2.1
theorem dX8_put_6 : decode cX8_put 6 = .ok (.iconst 5, 1) := edX8_put_0.2.2.2.1
theorem dX8_put_7 : decode cX8_put 7 = .ok (.iload_n 1, 1) := edX8_put_0.2.2.2.2.1
theorem dX8_put_8 : decode cX8_put 8 = .ok (.imul, 1) := edX8_put_0.2.2.2.2.2.1
theorem dX8_put_9 : decode cX8_put 9 = .ok (.iadd, 1) := edX8_put_0.2.2.2.2.2.2.1
theorem dX8_put_10 : decode cX8_put 10 = .ok (.iload_n 2, 1) := edX8_put_0.2.2.2.2.2.2.2.1
theorem dX8_put_11 : decode cX8_put 11 = .ok (.iadd, 1) := edX8_put_0.2.2.2.2.2.2.2.2.1
theorem dX8_put_12 : decode cX8_put 12 = .ok (.iload_n 3, 1) := edX8_put_0.2.2.2.2.2.2.2.2.2.1
theorem dX8_put_13 : decode cX8_put 13 = .ok (.iastore, 1) := edX8_put_0.2.2.2.2.2.2.2.2.2.2.1
theorem dX8_put_14 : decode cX8_put 14 = .ok (.return_, 1) := edX8_put_0.2.2.2.2.2.2.2.2.2.2.2
theorem edX8_becomes_0 : (decode cX8_becomes 0 = .ok (.aload_n 0, 1)) ∧ (decode cX8_becomes 1 = .ok (.getfield 9, 3)) ∧ (decode cX8_becomes 4 = .ok (.iload_n 1, 1)) ∧ (decode cX8_becomes 5 = .ok (.iaload, 1)) ∧ (decode cX8_becomes 6 = .ok (.istore_n 3, 1)) ∧ (decode cX8_becomes 7 = .ok (.aload_n 0, 1)) ∧ (decode cX8_becomes 8 = .ok (.getfield 9, 3)) ∧ (decode cX8_becomes 11 = .ok (.iload_n 1, 1)) ∧ (decode cX8_becomes 12 = .ok (.iload_n 2, 1)) ∧ (decode cX8_becomes 13 = .ok (.iastore, 1)) ∧ (decode cX8_becomes 14 = .ok (.iload_n 3, 1)) ∧ (decode cX8_becomes 15 = .ok (.ireturn, 1)) := by decide +kernel
theorem dX8_becomes_0 : decode cX8_becomes 0 = .ok (.aload_n 0, 1) := edX8_becomes_0.1
theorem dX8_becomes_1 : decode cX8_becomes 1 = .ok (.getfield 9, 3) := edX8_becomes_0.2.1
theorem dX8_becomes_4 : decode cX8_becomes 4 = .ok (.iload_n 1, 1) := edX8_becomes_0.2.2.1
theorem dX8_becomes_5 : decode cX8_becomes 5 = .ok (.iaload, 1) := edX8_becomes_0.2.2.2.1
theorem dX8_becomes_6 : decode cX8_becomes 6 = .ok (.istore_n 3, 1) := edX8_becomes_0.2.2.2.2.1
theorem dX8_becomes_7 : decode cX8_becomes 7 = .ok (.aload_n 0, 1) := edX8_becomes_0.2.2.2.2.2.1
theorem dX8_becomes_8 : decode cX8_becomes 8 = .ok (.getfield 9, 3) := edX8_becomes_0.2.2.2.2.2.2.1
theorem dX8_becomes_11 : decode cX8_becomes 11 = .ok (.iload_n 1, 1) := edX8_becomes_0.2.2.2.2.2.2.2.1
theorem dX8_becomes_12 : decode cX8_becomes 12 = .ok (.iload_n 2, 1) := edX8_becomes_0.2.2.2.2.2.2.2.2.1
theorem dX8_becomes_13 : decode cX8_becomes 13 = .ok (.iastore, 1) := edX8_becomes_0.2.2.2.2.2.2.2.2.2.1
theorem dX8_becomes_14 : decode cX8_becomes 14 = .ok (.iload_n 3, 1) := edX8_becomes_0.2.2.2.2.2.2.2.2.2.2.1
theorem dX8_becomes_15 : decode cX8_becomes 15 = .ok (.ireturn, 1) := edX8_becomes_0.2.2.2.2.2.2.2.2.2.2.2
theorem edX8_comes_0 : (decode cX8_comes 0 = .ok (.aload_n 0, 1)) ∧ (decode cX8_comes 1 = .ok (.getfield 9, 3)) ∧ (decode cX8_comes 4 = .ok (.iconst 1, 1)) ∧ (decode cX8_comes 5 = .ok (.iaload, 1)) ∧ (decode cX8_comes 6 = .ok (.istore 4, 2)) ∧ (decode cX8_comes 8 = .ok (.aload_n 0, 1)) ∧ (decode cX8_comes 9 = .ok (.iload 4, 2)) ∧ (decode cX8_comes 11 = .ok (.iconst 0, 1)) ∧ (decode cX8_comes 12 = .ok (.iload_n 1, 1)) ∧ (decode cX8_comes 13 = .ok (.invokevirtual 87, 3)) ∧ (decode cX8_comes 16 = .ok (.aload_n 0, 1)) ∧ (decode cX8_comes 17 = .ok (.iload 4, 2)) ∧ (decode cX8_comes 19 = .ok (.iconst 1, 1)) ∧ (decode cX8_comes 20 = .ok (.iload_n 2, 1)) ∧ (decode cX8_comes 21 = .ok (.invokevirtual 87, 3)) ∧ (decode cX8_comes 24 = .ok (.aload_n 0, 1)) ∧ (decode cX8_comes 25 = .ok (.iload 4, 2)) ∧ (decode cX8_comes 27 = .ok (.iconst 2, 1)) ∧ (decode cX8_comes 28 = .ok (.iload_n 3, 1)) ∧ (decode cX8_comes 29 = .ok (.invokevirtual 87, 3)) ∧ (decode cX8_comes 32 = .ok (.aload_n 0, 1)) ∧ (decode cX8_comes 33 = .ok (.iload 4, 2)) ∧ (decode cX8_comes 35 = .ok (.iconst 3, 1)) ∧ (decode cX8_comes 36 = .ok (.iconst 0, 1)) := by decide +kernel
theorem dX8_comes_0 : decode cX8_comes 0 = .ok (.aload_n 0, 1) := edX8_comes_0.1
theorem dX8_comes_1 : decode cX8_comes 1 = .ok (.getfield 9, 3) := edX8_comes_0.2.1
theorem dX8_comes_4 : decode cX8_comes 4 = .ok (.iconst 1, 1) := edX8_comes_0.2.2.1
theorem dX8_comes_5 : decode cX8_comes 5 = .ok (.iaload, 1) := edX8_comes_0.2.2.2.1
theorem dX8_comes_6 : decode cX8_comes 6 = .ok (.istore 4, 2) := edX8_comes_0.2.2.2.2.1
theorem dX8_comes_8 : decode cX8_comes 8 = .ok (.aload_n 0, 1) := edX8_comes_0.2.2.2.2.2.1
theorem dX8_comes_9 : decode cX8_comes 9 = .ok (.iload 4, 2) := edX8_comes_0.2.2.2.2.2.2.1
theorem dX8_comes_11 : decode cX8_comes 11 = .ok (.iconst 0, 1) := edX8_comes_0.2.2.2.2.2.2.2.1
theorem dX8_comes_12 : decode cX8_comes 12 = .ok (.iload_n 1, 1) := edX8_comes_0.2.2.2.2.2.2.2.2.1
theorem dX8_comes_13 : decode cX8_comes 13 = .ok (.invokevirtual 87, 3) := edX8_comes_0.2.2.2.2.2.2.2.2.2.1
theorem dX8_comes_16 : decode cX8_comes 16 = .ok (.aload_n 0, 1) := edX8_comes_0.2.2.2.2.2.2.2.2.2.2.1
theorem dX8_comes_17 : decode cX8_comes 17 = .ok (.iload 4, 2) := edX8_comes_0.2.2.2.2.2.2.2.2.2.2.2.1
theorem dX8_comes_19 : decode cX8_comes 19 = .ok (.iconst 1, 1) := edX8_comes_0.2.2.2.2.2.2.2.2.2.2.2.2.1
theorem dX8_comes_20 : decode cX8_comes 20 = .ok (.iload_n 2, 1) := edX8_comes_0.2.2.2.2.2.2.2.2.2.2.2.2.2.1
theorem dX8_comes_21 : decode cX8_comes 21 = .ok (.invokevirtual 87, 3) := edX8_comes_0.2.2.2.2.2.2.2.2.2.2.2.2.2.2.1
theorem dX8_comes_24 : decode cX8_comes 24 = .ok (.aload_n 0, 1) := edX8_comes_0.2.2.2.2.2.2.2.2.2.2.2.2.2.2.2.1
theorem dX8_comes_25 : decode cX8_comes 25 = .ok (.iload 4, 2) := edX8_comes_0.2.2.2.2.2.2.2.2.2.2.2.2.2.2.2.2.1
theorem dX8_comes_27 : decode cX8_comes 27 = .ok (.iconst 2, 1) := edX8_comes_0.2.2.2.2.2.2.2.2.2.2.2.2.2.2.2.2.2.1
theorem dX8_comes_28 : decode cX8_comes 28 = .ok (.iload_n 3, 1) := edX8_comes_0.2.2.2.2.2.2.2.2.2.2.2.2.2.2.2.2.2.2.1
theorem dX8_comes_29 : decode cX8_comes 29 = .ok (.invokevirtual 87, 3) := edX8_comes_0.2.2.2.2.2.2.2.2.2.2.2.2.2.2.2.2.2.2.2.1
theorem dX8_comes_32 : decode cX8_comes 32 = .ok (.aload_n 0, 1) := edX8_comes_0.2.2.2.2.2.2.2.2.2.2.2.2.2.2.2.2.2.2.2.2.1
theorem dX8_comes_33 : decode cX8_comes 33 = .ok (.iload 4, 2) := edX8_comes_0.2.2.2.2.2.2.2.2.2.2.2.2.2.2.2.2.2.2.2.2.2.1
theorem dX8_comes_35 : decode cX8_comes 35 = .ok (.iconst 3, 1) := edX8_comes_0.2.2.2.2.2.2.2.2.2.2.2.2.2.2.2.2.2.2.2.2.2.2.1
theorem dX8_comes_36 : decode cX8_comes 36 = .ok (.iconst 0, 1) := edX8_comes_0.2.2.2.2.2.2.2.2.2.2.2.2.2.2.2.2.2.2.2.2.2.2.2
theorem edX8_comes_37 : (decode cX8_comes 37 = .ok (.invokevirtual 87, 3)) ∧ (decode cX8_comes 40 = .ok (.aload_n 0, 1)) ∧ (decode cX8_comes 41 = .ok (.iload 4, 2)) ∧ (decode cX8_comes 43 = .ok (.iconst 4, 1)) ∧ (decode cX8_comes 44 = .ok (.iconst 0, 1)) ∧ (decode cX8_comes 45 = .ok (.invokevirtual 87, 3)) ∧ (decode cX8_comes 48 = .ok (.aload_n 0, 1)) ∧ (decode cX8_comes 49 = .ok (.getfield 9, 3)) ∧ (decode cX8_comes 52 = .ok (.iconst 1, 1)) ∧ (decode cX8_comes 53 = .ok (.dup2, 1)) ∧ (decode cX8_comes 54 = .ok (.iaload, 1)) ∧ (decode cX8_comes 55 = .ok (.iconst 1, 1)) ∧ (decode cX8_comes 56 = .ok (.iadd, 1)) ∧ (decode cX8_comes 57 = .ok (.iastore, 1)) ∧ (decode cX8_comes 58 = .ok (.iload 4, 2)) ∧ (decode cX8_comes 60 = .ok (.ireturn, 1)) := by decide +kernel
theorem dX8_comes_37 : decode cX8_comes 37 = .ok (.invokevirtual 87, 3) := edX8_comes_37.1
theorem dX8_comes_40 : decode cX8_comes 40 = .ok (.aload_n 0, 1) := edX8_comes_37.2.1
theorem dX8_comes_41 : decode cX8_comes 41 = .ok (.iload 4, 2) := edX8_comes_37.2.2.1
theorem dX8_comes_43 : decode cX8_comes 43 = .ok (.iconst 4, 1) := edX8_comes_37.2.2.2.1
theorem dX8_comes_44 : decode cX8_comes 44 = .ok (.iconst 0, 1) := edX8_comes_37.2.2.2.2.1
theorem dX8_comes_45 : decode cX8_comes 45 = .ok (.invokevirtual 87, 3) := edX8_comes_37.2.2.2.2.2.1
theorem dX8_comes_48 : decode cX8_comes 48 = .ok (.aload_n 0, 1) := edX8_comes_37.2.2.2.2.2.2.1
theorem dX8_comes_49 : decode cX8_comes 49 = .ok (.getfield 9, 3) := edX8_comes_37.2.2.2.2.2.2.2.1
theorem dX8_comes_52 : decode cX8_comes 52 = .ok (.iconst 1, 1) := edX8_comes_37.2.2.2.2.2.2.2.2.1
theorem dX8_comes_53 : decode cX8_comes 53 = .ok (.dup2, 1) := edX8_comes_37.2.2.2.2.2.2.2.2.2.1
theorem dX8_comes_54 : decode cX8_comes 54 = .ok (.iaload, 1) := edX8_comes_37.2.2.2.2.2.2.2.2.2.2.1
theorem dX8_comes_55 : decode cX8_comes 55 = .ok (.iconst 1, 1) := edX8_comes_37.2.2.2.2.2.2.2.2.2.2.2.1
theorem dX8_comes_56 : decode cX8_comes 56 = .ok (.iadd, 1) := edX8_comes_37.2.2.2.2.2.2.2.2.2.2.2.2.1
theorem dX8_comes_57 : decode cX8_comes 57 = .ok (.iastore, 1) := edX8_comes_37.2.2.2.2.2.2.2.2.2.2.2.2.2.1
theorem dX8_comes_58 : decode cX8_comes 58 = .ok (.iload 4, 2) := edX8_comes_37.2.2.2.2.2.2.2.2.2.2.2.2.2.2.1
theorem dX8_comes_60 : decode cX8_comes 60 = .ok (.ireturn, 1) := edX8_comes_37.2.2.2.2.2.2.2.2.2.2.2.2.2.2.2
theorem edX8_friend_0 : (decode cX8_friend 0 = .ok (.iload_n 1, 1)) ∧ (decode cX8_friend 1 = .ok (.iconst 0, 1)) ∧ (decode cX8_friend 2 = .ok (.iconst 5, 1)) ∧ (decode cX8_friend 3 = .ok (.invokestatic 83, 3)) ∧ (decode cX8_friend 6 = .ok (.ifCond .eq 22, 3)) ∧ (decode cX8_friend 9 = .ok (.iload_n 2, 1)) ∧ (decode cX8_friend 10 = .ok (.iconst 0, 1)) ∧ (decode cX8_friend 11 = .ok (.iconst 1, 1)) ∧ (decode cX8_friend 12 = .ok (.invokestatic 83, 3)) ∧ (decode cX8_friend 15 = .ok (.ifCond .eq 13, 3)) ∧ (decode cX8_friend 18 = .ok (.iload_n 3, 1)) ∧ (decode cX8_friend 19 = .ok (.iconst 0, 1)) ∧ (decode cX8_friend 20 = .ok (.bipush 99, 2)) ∧ (decode cX8_friend 22 = .ok (.invokestatic 83, 3)) ∧ (decode cX8_friend 25 = .ok (.ifCond .ne 6, 3)) ∧ (decode cX8_friend 28 = .ok (.ldc 91, 2)) ∧ (decode cX8_friend 30 = .ok (.ireturn, 1)) ∧ (decode cX8_friend 31 = .ok (.aload_n 0, 1)) ∧ (decode cX8_friend 32 = .ok (.getfield 9, 3)) ∧ (decode cX8_friend 35 = .ok (.iconst 1, 1)) ∧ (decode cX8_friend 36 = .ok (.iaload, 1)) ∧ (decode cX8_friend 37 = .ok (.bipush 8, 2)) ∧ (decode cX8_friend 39 = .ok (.if_icmp .ne 8, 3)) ∧ (decode cX8_friend 42 = .ok (.ldc 92, 2)) := by decide +kernel
theorem dX8_friend_0 : decode cX8_friend 0 = .ok (.iload_n 1, 1) := edX8_friend_0.1
theorem dX8_friend_1 : decode cX8_friend 1 = .ok (.iconst 0, 1) := edX8_friend_0.2.1
theorem dX8_friend_2 : decode cX8_friend 2 = .ok (.iconst 5, 1) := edX8_friend_0.2.2.1
theorem dX8_friend_3 : decode cX8_friend 3 = .ok (.invokestatic 83, 3) := edX8_friend_0.2.2.2.1
theorem dX8_friend_6 : decode cX8_friend 6 = .ok (.ifCond .eq 22, 3) := edX8_friend_0.2.2.2.2.1
theorem dX8_friend_9 : decode cX8_friend 9 = .ok (.iload_n 2, 1) := edX8_friend_0.2.2.2.2.2.1
theorem dX8_friend_10 : decode cX8_friend 10 = .ok (.iconst 0, 1) := edX8_friend_0.2.2.2.2.2.2.1
theorem dX8_friend_11 : decode cX8_friend 11 = .ok (.iconst 1, 1) := edX8_friend_0.2.2.2.2.2.2.2.1
theorem dX8_friend_12 : decode cX8_friend 12 = .ok (.invokestatic 83, 3) := edX8_friend_0.2.2.2.2.2.2.2.2.1
theorem dX8_friend_15 : decode cX8_friend 15 = .ok (.ifCond .eq 13, 3) := edX8_friend_0.2.2.2.2.2.2.2.2.2.1
theorem dX8_friend_18 : decode cX8_friend 18 = .ok (.iload_n 3, 1) := edX8_friend_0.2.2.2.2.2.2.2.2.2.2.1
theorem dX8_friend_19 : decode cX8_friend 19 = .ok (.iconst 0, 1) := edX8_friend_0.2.2.2.2.2.2.2.2.2.2.2.1
theorem dX8_friend_20 : decode cX8_friend 20 = .ok (.bipush 99, 2) := edX8_friend_0.2.2.2.2.2.2.2.2.2.2.2.2.1
theorem dX8_friend_22 : decode cX8_friend 22 = .ok (.invokestatic 83, 3) := edX8_friend_0.2.2.2.2.2.2.2.2.2.2.2.2.2.1
theorem dX8_friend_25 : decode cX8_friend 25 = .ok (.ifCond .ne 6, 3) := edX8_friend_0.2.2.2.2.2.2.2.2.2.2.2.2.2.2.1
theorem dX8_friend_28 : decode cX8_friend 28 = .ok (.ldc 91, 2) := edX8_friend_0.2.2.2.2.2.2.2.2.2.2.2.2.2.2.2.1
theorem dX8_friend_30 : decode cX8_friend 30 = .ok (.ireturn, 1) := edX8_friend_0.2.2.2.2.2.2.2.2.2.2.2.2.2.2.2.2.1
theorem dX8_friend_31 : decode cX8_friend 31 = .ok (.aload_n 0, 1) := edX8_friend_0.2.2.2.2.2.2.2.2.2.2.2.2.2.2.2.2.2.1
theorem dX8_friend_32 : decode cX8_friend 32 = .ok (.getfield 9, 3) := edX8_friend_0.2.2.2.2.2.2.2.2.2.2.2.2.2.2.2.2.2.2.1
theorem dX8_friend_35 : decode cX8_friend 35 = .ok (.iconst 1, 1) := edX8_friend_0.2.2.2.2.2.2.2.2.2.2.2.2.2.2.2.2.2.2.2.1
theorem dX8_friend_36 : decode cX8_friend 36 = .ok (.iaload, 1) := edX8_friend_0.2.2.2.2.2.2.2.2.2.2.2.2.2.2.2.2.2.2.2.2.1
theorem dX8_friend_37 : decode cX8_friend 37 = .ok (.bipush 8, 2) := edX8_friend_0.2.2.2.2.2.2.2.2.2.2.2.2.2.2.2.2.2.2.2.2.2.1
theorem dX8_friend_39 : decode cX8_friend 39 = .ok (.if_icmp .ne 8, 3) := edX8_friend_0.2.2.2.2.2.2.2.2.2.2.2.2.2.2.2.2.2.2.2.2.2.2.1
theorem dX8_friend_42 : decode cX8_friend 42 = .ok (.ldc 92, 2) := edX8_friend_0.2.2.2.2.2.2.2.2.2.2.2.2.2.2.2.2.2.2.2.2.2.2.2
theorem edX8_friend_44 : (decode cX8_friend 44 = .ok (.goto 10, 3)) ∧ (decode cX8_friend 47 = .ok (.aload_n 0, 1)) ∧ (decode cX8_friend 48 = .ok (.iload_n 1, 1)) ∧ (decode cX8_friend 49 = .ok (.iload_n 2, 1)) ∧ (decode cX8_friend 50 = .ok (.iload_n 3, 1)) ∧ (decode cX8_friend 51 = .ok (.invokevirtual 93, 3)) ∧ (decode cX8_friend 54 = .ok (.ireturn, 1)) := by decide +kernel
theorem dX8_friend_44 : decode cX8_friend 44 = .ok (.goto 10, 3) := edX8_friend_44.1
theorem dX8_friend_47 : decode cX8_friend 47 = .ok (.aload_n 0, 1) := edX8_friend_44.2.1
theorem dX8_friend_48 : decode cX8_friend 48 = .ok (.iload_n 1, 1) := edX8_friend_44.2.2.1
theorem dX8_friend_49 : decode cX8_friend 49 = .ok (.iload_n 2, 1) := edX8_friend_44.2.2.2.1
theorem dX8_friend_50 : decode cX8_friend 50 = .ok (.iload_n 3, 1) := edX8_friend_44.2.2.2.2.1
theorem dX8_friend_51 : decode cX8_friend 51 = .ok (.invokevirtual 93, 3) := edX8_friend_44.2.2.2.2.2.1
theorem dX8_friend_54 : decode cX8_friend 54 = .ok (.ireturn, 1) := edX8_friend_44.2.2.2.2.2.2
theorem edX8_toneOf_0 : (decode cX8_toneOf 0 = .ok (.aload_n 0, 1)) ∧ (decode cX8_toneOf 1 = .ok (.iconst 0, 1)) ∧ (decode cX8_toneOf 2 = .ok (.invokevirtual 97, 3)) ∧ (decode cX8_toneOf 5 = .ok (.istore_n 2, 1)) ∧ (decode cX8_toneOf 6 = .ok (.aload_n 0, 1)) ∧ (decode cX8_toneOf 7 = .ok (.getfield 52, 3)) ∧ (decode cX8_toneOf 10 = .ok (.iconst 0, 1)) ∧ (decode cX8_toneOf 11 = .ok (.aload_n 0, 1)) ∧ (decode cX8_toneOf 12 = .ok (.iload_n 1, 1)) ∧ (decode cX8_toneOf 13 = .ok (.iconst 2, 1)) ∧ (decode cX8_toneOf 14 = .ok (.invokevirtual 101, 3)) ∧ (decode cX8_toneOf 17 = .ok (.iastore, 1)) ∧ (decode cX8_toneOf 18 = .ok (.aload_n 0, 1)) ∧ (decode cX8_toneOf 19 = .ok (.getfield 52, 3)) ∧ (decode cX8_toneOf 22 = .ok (.iconst 1, 1)) ∧ (decode cX8_toneOf 23 = .ok (.aload_n 0, 1)) ∧ (decode cX8_toneOf 24 = .ok (.getfield 9, 3)) ∧ (decode cX8_toneOf 27 = .ok (.iconst 3, 1)) ∧ (decode cX8_toneOf 28 = .ok (.iaload, 1)) ∧ (decode cX8_toneOf 29 = .ok (.iastore, 1)) ∧ (decode cX8_toneOf 30 = .ok (.aload_n 0, 1)) ∧ (decode cX8_toneOf 31 = .ok (.getfield 52, 3)) ∧ (decode cX8_toneOf 34 = .ok (.iconst 2, 1)) ∧ (decode cX8_toneOf 35 = .ok (.aload_n 0, 1)) := by decide +kernel
theorem dX8_toneOf_0 : decode cX8_toneOf 0 = .ok (.aload_n 0, 1) := edX8_toneOf_0.1
theorem dX8_toneOf_1 : decode cX8_toneOf 1 = .ok (.iconst 0, 1) := edX8_toneOf_0.2.1
theorem dX8_toneOf_2 : decode cX8_toneOf 2 = .ok (.invokevirtual 97, 3) := edX8_toneOf_0.2.2.1
theorem dX8_toneOf_5 : decode cX8_toneOf 5 = .ok (.istore_n 2, 1) := edX8_toneOf_0.2.2.2.1
theorem dX8_toneOf_6 : decode cX8_toneOf 6 = .ok (.aload_n 0, 1) := edX8_toneOf_0.2.2.2.2.1
theorem dX8_toneOf_7 : decode cX8_toneOf 7 = .ok (.getfield 52, 3) := edX8_toneOf_0.2.2.2.2.2.1
theorem dX8_toneOf_10 : decode cX8_toneOf 10 = .ok (.iconst 0, 1) := edX8_toneOf_0.2.2.2.2.2.2.1
theorem dX8_toneOf_11 : decode cX8_toneOf 11 = .ok (.aload_n 0, 1) := edX8_toneOf_0.2.2.2.2.2.2.2.1
theorem dX8_toneOf_12 : decode cX8_toneOf 12 = .ok (.iload_n 1, 1) := edX8_toneOf_0.2.2.2.2.2.2.2.2.1
theorem dX8_toneOf_13 : decode cX8_toneOf 13 = .ok (.iconst 2, 1) := edX8_toneOf_0.2.2.2.2.2.2.2.2.2.1
theorem dX8_toneOf_14 : decode cX8_toneOf 14 = .ok (.invokevirtual 101, 3) := edX8_toneOf_0.2.2.2.2.2.2.2.2.2.2.1
theorem dX8_toneOf_17 : decode cX8_toneOf 17 = .ok (.iastore, 1) := edX8_toneOf_0.2.2.2.2.2.2.2.2.2.2.2.1
theorem dX8_toneOf_18 : decode cX8_toneOf 18 = .ok (.aload_n 0, 1) := edX8_toneOf_0.2.2.2.2.2.2.2.2.2.2.2.2.1
theorem dX8_toneOf_19 : decode cX8_toneOf 19 = .ok (.getfield 52, 3) := edX8_toneOf_0.2.2.2.2.2.2.2.2.2.2.2.2.2.1
theorem dX8_toneOf_22 : decode cX8_toneOf 22 = .ok (.iconst 1, 1) := edX8_toneOf_0.2.2.2.2.2.2.2.2.2.2.2.2.2.2.1
theorem dX8_toneOf_23 : decode cX8_toneOf 23 = .ok (.aload_n 0, 1) := edX8_toneOf_0.2.2.2.2.2.2.2.2.2.2.2.2.2.2.2.1
theorem dX8_toneOf_24 : decode cX8_toneOf 24 = .ok (.getfield 9, 3) := edX8_toneOf_0.2.2.2.2.2.2.2.2.2.2.2.2.2.2.2.2.1
theorem dX8_toneOf_27 : decode cX8_toneOf 27 = .ok (.iconst 3, 1) := edX8_toneOf_0.2.2.2.2.2.2.2.2.2.2.2.2.2.2.2.2.2.1
theorem dX8_toneOf_28 : decode cX8_toneOf 28 = .ok (.iaload, 1) := edX8_toneOf_0.2.2.2.2.2.2.2.2.2.2.2.2.2.2.2.2.2.2.1
theorem dX8_toneOf_29 : decode cX8_toneOf 29 = .ok (.iastore, 1) := edX8_toneOf_0.2.2.2.2.2.2.2.2.2.2.2.2.2.2.2.2.2.2.2.1
theorem dX8_toneOf_30 : decode cX8_toneOf 30 = .ok (.aload_n 0, 1) := edX8_toneOf_0.2.2.2.2.2.2.2.2.2.2.2.2.2.2.2.2.2.2.2.2.1
theorem dX8_toneOf_31 : decode cX8_toneOf 31 = .ok (.getfield 52, 3) := edX8_toneOf_0.2.2.2.2.2.2.2.2.2.2.2.2.2.2.2.2.2.2.2.2.2.1
theorem dX8_toneOf_34 : decode cX8_toneOf 34 = .ok (.iconst 2, 1) := edX8_toneOf_0.2.2.2.2.2.2.2.2.2.2.2.2.2.2.2.2.2.2.2.2.2.2.1
theorem dX8_toneOf_35 : decode cX8_toneOf 35 = .ok (.aload_n 0, 1) := edX8_toneOf_0.2.2.2.2.2.2.2.2.2.2.2.2.2.2.2.2.2.2.2.2.2.2.2
theorem edX8_toneOf_36 : (decode cX8_toneOf 36 = .ok (.iload_n 1, 1)) ∧ (decode cX8_toneOf 37 = .ok (.iconst 3, 1)) ∧ (decode cX8_toneOf 38 = .ok (.invokevirtual 101, 3)) ∧ (decode cX8_toneOf 41 = .ok (.iastore, 1)) ∧ (decode cX8_toneOf 42 = .ok (.iload_n 2, 1)) ∧ (decode cX8_toneOf 43 = .ok (.ifCond .ge 21, 3)) ∧ (decode cX8_toneOf 46 = .ok (.aload_n 0, 1)) ∧ (decode cX8_toneOf 47 = .ok (.iload_n 1, 1)) ∧ (decode cX8_toneOf 48 = .ok (.iconst 2, 1)) ∧ (decode cX8_toneOf 49 = .ok (.invokevirtual 101, 3)) ∧ (decode cX8_toneOf 52 = .ok (.aload_n 0, 1)) ∧ (decode cX8_toneOf 53 = .ok (.getfield 9, 3)) ∧ (decode cX8_toneOf 56 = .ok (.iconst 3, 1)) ∧ (decode cX8_toneOf 57 = .ok (.iaload, 1)) ∧ (decode cX8_toneOf 58 = .ok (.iadd, 1)) ∧ (decode cX8_toneOf 59 = .ok (.iconst 2, 1)) ∧ (decode cX8_toneOf 60 = .ok (.idiv, 1)) ∧ (decode cX8_toneOf 61 = .ok (.goto 14, 3)) ∧ (decode cX8_toneOf 64 = .ok (.aload_n 0, 1)) ∧ (decode cX8_toneOf 65 = .ok (.iload_n 2, 1)) ∧ (decode cX8_toneOf 66 = .ok (.invokevirtual 105, 3)) ∧ (decode cX8_toneOf 69 = .ok (.iconst 0, 1)) ∧ (decode cX8_toneOf 70 = .ok (.bipush 99, 2)) ∧ (decode cX8_toneOf 72 = .ok (.invokestatic 108, 3)) := by decide +kernel
theorem dX8_toneOf_36 : decode cX8_toneOf 36 = .ok (.iload_n 1, 1) := edX8_toneOf_36.1
theorem dX8_toneOf_37 : decode cX8_toneOf 37 = .ok (.iconst 3, 1) := edX8_toneOf_36.2.1
theorem dX8_toneOf_38 : decode cX8_toneOf 38 = .ok (.invokevirtual 101, 3) := edX8_toneOf_36.2.2.1
theorem dX8_toneOf_41 : decode cX8_toneOf 41 = .ok (.iastore, 1) := edX8_toneOf_36.2.2.2.1
theorem dX8_toneOf_42 : decode cX8_toneOf 42 = .ok (.iload_n 2, 1) := edX8_toneOf_36.2.2.2.2.1
theorem dX8_toneOf_43 : decode cX8_toneOf 43 = .ok (.ifCond .ge 21, 3) := edX8_toneOf_36.2.2.2.2.2.1
theorem dX8_toneOf_46 : decode cX8_toneOf 46 = .ok (.aload_n 0, 1) := edX8_toneOf_36.2.2.2.2.2.2.1
theorem dX8_toneOf_47 : decode cX8_toneOf 47 = .ok (.iload_n 1, 1) := edX8_toneOf_36.2.2.2.2.2.2.2.1
theorem dX8_toneOf_48 : decode cX8_toneOf 48 = .ok (.iconst 2, 1) := edX8_toneOf_36.2.2.2.2.2.2.2.2.1
theorem dX8_toneOf_49 : decode cX8_toneOf 49 = .ok (.invokevirtual 101, 3) := edX8_toneOf_36.2.2.2.2.2.2.2.2.2.1
theorem dX8_toneOf_52 : decode cX8_toneOf 52 = .ok (.aload_n 0, 1) := edX8_toneOf_36.2.2.2.2.2.2.2.2.2.2.1
theorem dX8_toneOf_53 : decode cX8_toneOf 53 = .ok (.getfield 9, 3) := edX8_toneOf_36.2.2.2.2.2.2.2.2.2.2.2.1
theorem dX8_toneOf_56 : decode cX8_toneOf 56 = .ok (.iconst 3, 1) := edX8_toneOf_36.2.2.2.2.2.2.2.2.2.2.2.2.1
theorem dX8_toneOf_57 : decode cX8_toneOf 57 = .ok (.iaload, 1) := edX8_toneOf_36.2.2.2.2.2.2.2.2.2.2.2.2.2.1
theorem dX8_toneOf_58 : decode cX8_toneOf 58 = .ok (.iadd, 1) := edX8_toneOf_36.2.2.2.2.2.2.2.2.2.2.2.2.2.2.1
theorem dX8_toneOf_59 : decode cX8_toneOf 59 = .ok (.iconst 2, 1) := edX8_toneOf_36.2.2.2.2.2.2.2.2.2.2.2.2.2.2.2.1
theorem dX8_toneOf_60 : decode cX8_toneOf 60 = .ok (.idiv, 1) := edX8_toneOf_36.2.2.2.2.2.2.2.2.2.2.2.2.2.2.2.2.1
theorem dX8_toneOf_61 : decode cX8_toneOf 61 = .ok (.goto 14, 3) := edX8_toneOf_36.2.2.2.2.2.2.2.2.2.2.2.2.2.2.2.2.2.1
theorem dX8_toneOf_64 : decode cX8_toneOf 64 = .ok (.aload_n 0, 1) := edX8_toneOf_36.2.2.2.2.2.2.2.2.2.2.2.2.2.2.2.2.2.2.1
theorem dX8_toneOf_65 : decode cX8_toneOf 65 = .ok (.iload_n 2, 1) := edX8_toneOf_36.2.2.2.2.2.2.2.2.2.2.2.2.2.2.2.2.2.2.2.1
theorem dX8_toneOf_66 : decode cX8_toneOf 66 = .ok (.invokevirtual 105, 3) := edX8_toneOf_36.2.2.2.2.2.2.2.2.2.2.2.2.2.2.2.2.2.2.2.2.1
theorem dX8_toneOf_69 : decode cX8_toneOf 69 = .ok (.iconst 0, 1) := edX8_toneOf_36.2.2.2.2.2.2.2.2.2.2.2.2.2.2.2.2.2.2.2.2.2.1
theorem dX8_toneOf_70 : decode cX8_toneOf 70 = .ok (.bipush 99, 2) := edX8_toneOf_36.2.2.2.2.2.2.2.2.2.2.2.2.2.2.2.2.2.2.2.2.2.2.1
theorem dX8_toneOf_72 : decode cX8_toneOf 72 = .ok (.invokestatic 108, 3) := edX8_toneOf_36.2.2.2.2.2.2.2.2.2.2.2.2.2.2.2.2.2.2.2.2.2.2.2
theorem edX8_toneOf_75 : (decode cX8_toneOf 75 = .ok (.istore_n 3, 1)) ∧ (decode cX8_toneOf 76 = .ok (.aload_n 0, 1)) ∧ (decode cX8_toneOf 77 = .ok (.iload_n 1, 1)) ∧ (decode cX8_toneOf 78 = .ok (.iconst 0, 1)) ∧ (decode cX8_toneOf 79 = .ok (.invokevirtual 101, 3)) ∧ (decode cX8_toneOf 82 = .ok (.tableswitch 90 1 5 #[34, 45, 49, 75, 88], 34)) ∧ (decode cX8_toneOf 116 = .ok (.iload_n 3, 1)) ∧ (decode cX8_toneOf 117 = .ok (.bipush 20, 2)) ∧ (decode cX8_toneOf 119 = .ok (.iadd, 1)) ∧ (decode cX8_toneOf 120 = .ok (.iconst 0, 1)) ∧ (decode cX8_toneOf 121 = .ok (.bipush 99, 2)) ∧ (decode cX8_toneOf 123 = .ok (.invokestatic 108, 3)) ∧ (decode cX8_toneOf 126 = .ok (.ireturn, 1)) ∧ (decode cX8_toneOf 127 = .ok (.iload_n 3, 1)) ∧ (decode cX8_toneOf 128 = .ok (.iconst 2, 1)) ∧ (decode cX8_toneOf 129 = .ok (.idiv, 1)) ∧ (decode cX8_toneOf 130 = .ok (.ireturn, 1)) ∧ (decode cX8_toneOf 131 = .ok (.aload_n 0, 1)) ∧ (decode cX8_toneOf 132 = .ok (.getfield 9, 3)) ∧ (decode cX8_toneOf 135 = .ok (.iconst 3, 1)) ∧ (decode cX8_toneOf 136 = .ok (.iaload, 1)) ∧ (decode cX8_toneOf 137 = .ok (.bipush 40, 2)) ∧ (decode cX8_toneOf 139 = .ok (.if_icmp .lt 7, 3)) ∧ (decode cX8_toneOf 142 = .ok (.iconst 0, 1)) := by decide +kernel
theorem dX8_toneOf_75 : decode cX8_toneOf 75 = .ok (.istore_n 3, 1) := edX8_toneOf_75.1
theorem dX8_toneOf_76 : decode cX8_toneOf 76 = .ok (.aload_n 0, 1) := edX8_toneOf_75.2.1
theorem dX8_toneOf_77 : decode cX8_toneOf 77 = .ok (.iload_n 1, 1) := edX8_toneOf_75.2.2.1
theorem dX8_toneOf_78 : decode cX8_toneOf 78 = .ok (.iconst 0, 1) := edX8_toneOf_75.2.2.2.1
theorem dX8_toneOf_79 : decode cX8_toneOf 79 = .ok (.invokevirtual 101, 3) := edX8_toneOf_75.2.2.2.2.1
theorem dX8_toneOf_82 : decode cX8_toneOf 82 = .ok (.tableswitch 90 1 5 #[34, 45, 49, 75, 88], 34) := edX8_toneOf_75.2.2.2.2.2.1
theorem dX8_toneOf_116 : decode cX8_toneOf 116 = .ok (.iload_n 3, 1) := edX8_toneOf_75.2.2.2.2.2.2.1
theorem dX8_toneOf_117 : decode cX8_toneOf 117 = .ok (.bipush 20, 2) := edX8_toneOf_75.2.2.2.2.2.2.2.1
theorem dX8_toneOf_119 : decode cX8_toneOf 119 = .ok (.iadd, 1) := edX8_toneOf_75.2.2.2.2.2.2.2.2.1
theorem dX8_toneOf_120 : decode cX8_toneOf 120 = .ok (.iconst 0, 1) := edX8_toneOf_75.2.2.2.2.2.2.2.2.2.1
theorem dX8_toneOf_121 : decode cX8_toneOf 121 = .ok (.bipush 99, 2) := edX8_toneOf_75.2.2.2.2.2.2.2.2.2.2.1
theorem dX8_toneOf_123 : decode cX8_toneOf 123 = .ok (.invokestatic 108, 3) := edX8_toneOf_75.2.2.2.2.2.2.2.2.2.2.2.1
theorem dX8_toneOf_126 : decode cX8_toneOf 126 = .ok (.ireturn, 1) := edX8_toneOf_75.2.2.2.2.2.2.2.2.2.2.2.2.1
theorem dX8_toneOf_127 : decode cX8_toneOf 127 = .ok (.iload_n 3, 1) := edX8_toneOf_75.2.2.2.2.2.2.2.2.2.2.2.2.2.1
theorem dX8_toneOf_128 : decode cX8_toneOf 128 = .ok (.iconst 2, 1) := edX8_toneOf_75.2.2.2.2.2.2.2.2.2.2.2.2.2.2.1
theorem dX8_toneOf_129 : decode cX8_toneOf 129 = .ok (.idiv, 1) := edX8_toneOf_75.2.2.2.2.2.2.2.2.2.2.2.2.2.2.2.1
theorem dX8_toneOf_130 : decode cX8_toneOf 130 = .ok (.ireturn, 1) := edX8_toneOf_75.2.2.2.2.2.2.2.2.2.2.2.2.2.2.2.2.1
theorem dX8_toneOf_131 : decode cX8_toneOf 131 = .ok (.aload_n 0, 1) := edX8_toneOf_75.2.2.2.2.2.2.2.2.2.2.2.2.2.2.2.2.2.1
theorem dX8_toneOf_132 : decode cX8_toneOf 132 = .ok (.getfield 9, 3) := edX8_toneOf_75.2.2.2.2.2.2.2.2.2.2.2.2.2.2.2.2.2.2.1
theorem dX8_toneOf_135 : decode cX8_toneOf 135 = .ok (.iconst 3, 1) := edX8_toneOf_75.2.2.2.2.2.2.2.2.2.2.2.2.2.2.2.2.2.2.2.1
theorem dX8_toneOf_136 : decode cX8_toneOf 136 = .ok (.iaload, 1) := edX8_toneOf_75.2.2.2.2.2.2.2.2.2.2.2.2.2.2.2.2.2.2.2.2.1
theorem dX8_toneOf_137 : decode cX8_toneOf 137 = .ok (.bipush 40, 2) := edX8_toneOf_75.2.2.2.2.2.2.2.2.2.2.2.2.2.2.2.2.2.2.2.2.2.1
theorem dX8_toneOf_139 : decode cX8_toneOf 139 = .ok (.if_icmp .lt 7, 3) := edX8_toneOf_75.2.2.2.2.2.2.2.2.2.2.2.2.2.2.2.2.2.2.2.2.2.2.1
theorem dX8_toneOf_142 : decode cX8_toneOf 142 = .ok (.iconst 0, 1) := edX8_toneOf_75.2.2.2.2.2.2.2.2.2.2.2.2.2.2.2.2.2.2.2.2.2.2.2
theorem edX8_toneOf_143 : (decode cX8_toneOf 143 = .ok (.goto 13, 3)) ∧ (decode cX8_toneOf 146 = .ok (.iload_n 3, 1)) ∧ (decode cX8_toneOf 147 = .ok (.bipush 20, 2)) ∧ (decode cX8_toneOf 149 = .ok (.iadd, 1)) ∧ (decode cX8_toneOf 150 = .ok (.iconst 0, 1)) ∧ (decode cX8_toneOf 151 = .ok (.bipush 99, 2)) ∧ (decode cX8_toneOf 153 = .ok (.invokestatic 108, 3)) ∧ (decode cX8_toneOf 156 = .ok (.ireturn, 1)) ∧ (decode cX8_toneOf 157 = .ok (.iload_n 3, 1)) ∧ (decode cX8_toneOf 158 = .ok (.iconst 2, 1)) ∧ (decode cX8_toneOf 159 = .ok (.idiv, 1)) ∧ (decode cX8_toneOf 160 = .ok (.bipush 10, 2)) ∧ (decode cX8_toneOf 162 = .ok (.isub, 1)) ∧ (decode cX8_toneOf 163 = .ok (.iconst 0, 1)) ∧ (decode cX8_toneOf 164 = .ok (.bipush 99, 2)) ∧ (decode cX8_toneOf 166 = .ok (.invokestatic 108, 3)) ∧ (decode cX8_toneOf 169 = .ok (.ireturn, 1)) ∧ (decode cX8_toneOf 170 = .ok (.iconst 0, 1)) ∧ (decode cX8_toneOf 171 = .ok (.ireturn, 1)) ∧ (decode cX8_toneOf 172 = .ok (.iload_n 3, 1)) ∧ (decode cX8_toneOf 173 = .ok (.ireturn, 1)) := by decide +kernel
theorem dX8_toneOf_143 : decode cX8_toneOf 143 = .ok (.goto 13, 3) := edX8_toneOf_143.1
theorem dX8_toneOf_146 : decode cX8_toneOf 146 = .ok (.iload_n 3, 1) := edX8_toneOf_143.2.1
theorem dX8_toneOf_147 : decode cX8_toneOf 147 = .ok (.bipush 20, 2) := edX8_toneOf_143.2.2.1
theorem dX8_toneOf_149 : decode cX8_toneOf 149 = .ok (.iadd, 1) := edX8_toneOf_143.2.2.2.1
theorem dX8_toneOf_150 : decode cX8_toneOf 150 = .ok (.iconst 0, 1) := edX8_toneOf_143.2.2.2.2.1
theorem dX8_toneOf_151 : decode cX8_toneOf 151 = .ok (.bipush 99, 2) := edX8_toneOf_143.2.2.2.2.2.1
theorem dX8_toneOf_153 : decode cX8_toneOf 153 = .ok (.invokestatic 108, 3) := edX8_toneOf_143.2.2.2.2.2.2.1
theorem dX8_toneOf_156 : decode cX8_toneOf 156 = .ok (.ireturn, 1) := edX8_toneOf_143.2.2.2.2.2.2.2.1
theorem dX8_toneOf_157 : decode cX8_toneOf 157 = .ok (.iload_n 3, 1) := edX8_toneOf_143.2.2.2.2.2.2.2.2.1
theorem dX8_toneOf_158 : decode cX8_toneOf 158 = .ok (.iconst 2, 1) := edX8_toneOf_143.2.2.2.2.2.2.2.2.2.1
theorem dX8_toneOf_159 : decode cX8_toneOf 159 = .ok (.idiv, 1) := edX8_toneOf_143.2.2.2.2.2.2.2.2.2.2.1
theorem dX8_toneOf_160 : decode cX8_toneOf 160 = .ok (.bipush 10, 2) := edX8_toneOf_143.2.2.2.2.2.2.2.2.2.2.2.1
theorem dX8_toneOf_162 : decode cX8_toneOf 162 = .ok (.isub, 1) := edX8_toneOf_143.2.2.2.2.2.2.2.2.2.2.2.2.1
theorem dX8_toneOf_163 : decode cX8_toneOf 163 = .ok (.iconst 0, 1) := edX8_toneOf_143.2.2.2.2.2.2.2.2.2.2.2.2.2.1
theorem dX8_toneOf_164 : decode cX8_toneOf 164 = .ok (.bipush 99, 2) := edX8_toneOf_143.2.2.2.2.2.2.2.2.2.2.2.2.2.2.1
theorem dX8_toneOf_166 : decode cX8_toneOf 166 = .ok (.invokestatic 108, 3) := edX8_toneOf_143.2.2.2.2.2.2.2.2.2.2.2.2.2.2.2.1
theorem dX8_toneOf_169 : decode cX8_toneOf 169 = .ok (.ireturn, 1) := edX8_toneOf_143.2.2.2.2.2.2.2.2.2.2.2.2.2.2.2.2.1
theorem dX8_toneOf_170 : decode cX8_toneOf 170 = .ok (.iconst 0, 1) := edX8_toneOf_143.2.2.2.2.2.2.2.2.2.2.2.2.2.2.2.2.2.1
theorem dX8_toneOf_171 : decode cX8_toneOf 171 = .ok (.ireturn, 1) := edX8_toneOf_143.2.2.2.2.2.2.2.2.2.2.2.2.2.2.2.2.2.2.1
theorem dX8_toneOf_172 : decode cX8_toneOf 172 = .ok (.iload_n 3, 1) := edX8_toneOf_143.2.2.2.2.2.2.2.2.2.2.2.2.2.2.2.2.2.2.2.1
theorem dX8_toneOf_173 : decode cX8_toneOf 173 = .ok (.ireturn, 1) := edX8_toneOf_143.2.2.2.2.2.2.2.2.2.2.2.2.2.2.2.2.2.2.2.2
theorem edX8_pickOf_0 : (decode cX8_pickOf 0 = .ok (.aload_n 0, 1)) ∧ (decode cX8_pickOf 1 = .ok (.getfield 9, 3)) ∧ (decode cX8_pickOf 4 = .ok (.bipush 12, 2)) ∧ (decode cX8_pickOf 6 = .ok (.iconst 4, 1)) ∧ (decode cX8_pickOf 7 = .ok (.aload_n 0, 1)) ∧ (decode cX8_pickOf 8 = .ok (.iload_n 1, 1)) ∧ (decode cX8_pickOf 9 = .ok (.iconst 1, 1)) ∧ (decode cX8_pickOf 10 = .ok (.invokevirtual 101, 3)) ∧ (decode cX8_pickOf 13 = .ok (.imul, 1)) ∧ (decode cX8_pickOf 14 = .ok (.iadd, 1)) ∧ (decode cX8_pickOf 15 = .ok (.iload_n 2, 1)) ∧ (decode cX8_pickOf 16 = .ok (.iadd, 1)) ∧ (decode cX8_pickOf 17 = .ok (.iaload, 1)) ∧ (decode cX8_pickOf 18 = .ok (.istore_n 3, 1)) ∧ (decode cX8_pickOf 19 = .ok (.aload_n 0, 1)) ∧ (decode cX8_pickOf 20 = .ok (.getfield 9, 3)) ∧ (decode cX8_pickOf 23 = .ok (.bipush 16, 2)) ∧ (decode cX8_pickOf 25 = .ok (.iconst 4, 1)) ∧ (decode cX8_pickOf 26 = .ok (.aload_n 0, 1)) ∧ (decode cX8_pickOf 27 = .ok (.iload_n 1, 1)) ∧ (decode cX8_pickOf 28 = .ok (.iconst 1, 1)) ∧ (decode cX8_pickOf 29 = .ok (.invokevirtual 101, 3)) ∧ (decode cX8_pickOf 32 = .ok (.imul, 1)) ∧ (decode cX8_pickOf 33 = .ok (.isub, 1)) := by decide +kernel
theorem dX8_pickOf_0 : decode cX8_pickOf 0 = .ok (.aload_n 0, 1) := edX8_pickOf_0.1
theorem dX8_pickOf_1 : decode cX8_pickOf 1 = .ok (.getfield 9, 3) := edX8_pickOf_0.2.1
theorem dX8_pickOf_4 : decode cX8_pickOf 4 = .ok (.bipush 12, 2) := edX8_pickOf_0.2.2.1
theorem dX8_pickOf_6 : decode cX8_pickOf 6 = .ok (.iconst 4, 1) := edX8_pickOf_0.2.2.2.1
theorem dX8_pickOf_7 : decode cX8_pickOf 7 = .ok (.aload_n 0, 1) := edX8_pickOf_0.2.2.2.2.1
theorem dX8_pickOf_8 : decode cX8_pickOf 8 = .ok (.iload_n 1, 1) := edX8_pickOf_0.2.2.2.2.2.1
theorem dX8_pickOf_9 : decode cX8_pickOf 9 = .ok (.iconst 1, 1) := edX8_pickOf_0.2.2.2.2.2.2.1
theorem dX8_pickOf_10 : decode cX8_pickOf 10 = .ok (.invokevirtual 101, 3) := edX8_pickOf_0.2.2.2.2.2.2.2.1
theorem dX8_pickOf_13 : decode cX8_pickOf 13 = .ok (.imul, 1) := edX8_pickOf_0.2.2.2.2.2.2.2.2.1
theorem dX8_pickOf_14 : decode cX8_pickOf 14 = .ok (.iadd, 1) := edX8_pickOf_0.2.2.2.2.2.2.2.2.2.1
theorem dX8_pickOf_15 : decode cX8_pickOf 15 = .ok (.iload_n 2, 1) := edX8_pickOf_0.2.2.2.2.2.2.2.2.2.2.1
theorem dX8_pickOf_16 : decode cX8_pickOf 16 = .ok (.iadd, 1) := edX8_pickOf_0.2.2.2.2.2.2.2.2.2.2.2.1
theorem dX8_pickOf_17 : decode cX8_pickOf 17 = .ok (.iaload, 1) := edX8_pickOf_0.2.2.2.2.2.2.2.2.2.2.2.2.1
theorem dX8_pickOf_18 : decode cX8_pickOf 18 = .ok (.istore_n 3, 1) := edX8_pickOf_0.2.2.2.2.2.2.2.2.2.2.2.2.2.1
theorem dX8_pickOf_19 : decode cX8_pickOf 19 = .ok (.aload_n 0, 1) := edX8_pickOf_0.2.2.2.2.2.2.2.2.2.2.2.2.2.2.1
theorem dX8_pickOf_20 : decode cX8_pickOf 20 = .ok (.getfield 9, 3) := edX8_pickOf_0.2.2.2.2.2.2.2.2.2.2.2.2.2.2.2.1
theorem dX8_pickOf_23 : decode cX8_pickOf 23 = .ok (.bipush 16, 2) := edX8_pickOf_0.2.2.2.2.2.2.2.2.2.2.2.2.2.2.2.2.1
theorem dX8_pickOf_25 : decode cX8_pickOf 25 = .ok (.iconst 4, 1) := edX8_pickOf_0.2.2.2.2.2.2.2.2.2.2.2.2.2.2.2.2.2.1
theorem dX8_pickOf_26 : decode cX8_pickOf 26 = .ok (.aload_n 0, 1) := edX8_pickOf_0.2.2.2.2.2.2.2.2.2.2.2.2.2.2.2.2.2.2.1
theorem dX8_pickOf_27 : decode cX8_pickOf 27 = .ok (.iload_n 1, 1) := edX8_pickOf_0.2.2.2.2.2.2.2.2.2.2.2.2.2.2.2.2.2.2.2.1
theorem dX8_pickOf_28 : decode cX8_pickOf 28 = .ok (.iconst 1, 1) := edX8_pickOf_0.2.2.2.2.2.2.2.2.2.2.2.2.2.2.2.2.2.2.2.2.1
theorem dX8_pickOf_29 : decode cX8_pickOf 29 = .ok (.invokevirtual 101, 3) := edX8_pickOf_0.2.2.2.2.2.2.2.2.2.2.2.2.2.2.2.2.2.2.2.2.2.1
theorem dX8_pickOf_32 : decode cX8_pickOf 32 = .ok (.imul, 1) := edX8_pickOf_0.2.2.2.2.2.2.2.2.2.2.2.2.2.2.2.2.2.2.2.2.2.2.1
theorem dX8_pickOf_33 : decode cX8_pickOf 33 = .ok (.isub, 1) := edX8_pickOf_0.2.2.2.2.2.2.2.2.2.2.2.2.2.2.2.2.2.2.2.2.2.2.2
theorem edX8_pickOf_34 : (decode cX8_pickOf 34 = .ok (.iload_n 2, 1)) ∧ (decode cX8_pickOf 35 = .ok (.iadd, 1)) ∧ (decode cX8_pickOf 36 = .ok (.iaload, 1)) ∧ (decode cX8_pickOf 37 = .ok (.istore 4, 2)) ∧ (decode cX8_pickOf 39 = .ok (.aload_n 0, 1)) ∧ (decode cX8_pickOf 40 = .ok (.iload_n 1, 1)) ∧ (decode cX8_pickOf 41 = .ok (.iconst 0, 1)) ∧ (decode cX8_pickOf 42 = .ok (.invokevirtual 101, 3)) ∧ (decode cX8_pickOf 45 = .ok (.tableswitch 45 1 5 #[35, 45, 35, 38, 42], 35)) ∧ (decode cX8_pickOf 80 = .ok (.iload 4, 2)) ∧ (decode cX8_pickOf 82 = .ok (.ireturn, 1)) ∧ (decode cX8_pickOf 83 = .ok (.iload 4, 2)) ∧ (decode cX8_pickOf 85 = .ok (.ineg, 1)) ∧ (decode cX8_pickOf 86 = .ok (.ireturn, 1)) ∧ (decode cX8_pickOf 87 = .ok (.iload_n 3, 1)) ∧ (decode cX8_pickOf 88 = .ok (.ineg, 1)) ∧ (decode cX8_pickOf 89 = .ok (.ireturn, 1)) ∧ (decode cX8_pickOf 90 = .ok (.iload_n 3, 1)) ∧ (decode cX8_pickOf 91 = .ok (.ireturn, 1)) := by decide +kernel
theorem dX8_pickOf_34 : decode cX8_pickOf 34 = .ok (.iload_n 2, 1) := edX8_pickOf_34.1
theorem dX8_pickOf_35 : decode cX8_pickOf 35 = .ok (.iadd, 1) := edX8_pickOf_34.2.1
theorem dX8_pickOf_36 : decode cX8_pickOf 36 = .ok (.iaload, 1) := edX8_pickOf_34.2.2.1
theorem dX8_pickOf_37 : decode cX8_pickOf 37 = .ok (.istore 4, 2) := edX8_pickOf_34.2.2.2.1
theorem dX8_pickOf_39 : decode cX8_pickOf 39 = .ok (.aload_n 0, 1) := edX8_pickOf_34.2.2.2.2.1
theorem dX8_pickOf_40 : decode cX8_pickOf 40 = .ok (.iload_n 1, 1) := edX8_pickOf_34.2.2.2.2.2.1
theorem dX8_pickOf_41 : decode cX8_pickOf 41 = .ok (.iconst 0, 1) := edX8_pickOf_34.2.2.2.2.2.2.1
theorem dX8_pickOf_42 : decode cX8_pickOf 42 = .ok (.invokevirtual 101, 3) := edX8_pickOf_34.2.2.2.2.2.2.2.1
theorem dX8_pickOf_45 : decode cX8_pickOf 45 = .ok (.tableswitch 45 1 5 #[35, 45, 35, 38, 42], 35) := edX8_pickOf_34.2.2.2.2.2.2.2.2.1
theorem dX8_pickOf_80 : decode cX8_pickOf 80 = .ok (.iload 4, 2) := edX8_pickOf_34.2.2.2.2.2.2.2.2.2.1
theorem dX8_pickOf_82 : decode cX8_pickOf 82 = .ok (.ireturn, 1) := edX8_pickOf_34.2.2.2.2.2.2.2.2.2.2.1
theorem dX8_pickOf_83 : decode cX8_pickOf 83 = .ok (.iload 4, 2) := edX8_pickOf_34.2.2.2.2.2.2.2.2.2.2.2.1
theorem dX8_pickOf_85 : decode cX8_pickOf 85 = .ok (.ineg, 1) := edX8_pickOf_34.2.2.2.2.2.2.2.2.2.2.2.2.1
theorem dX8_pickOf_86 : decode cX8_pickOf 86 = .ok (.ireturn, 1) := edX8_pickOf_34.2.2.2.2.2.2.2.2.2.2.2.2.2.1
theorem dX8_pickOf_87 : decode cX8_pickOf 87 = .ok (.iload_n 3, 1) := edX8_pickOf_34.2.2.2.2.2.2.2.2.2.2.2.2.2.2.1
theorem dX8_pickOf_88 : decode cX8_pickOf 88 = .ok (.ineg, 1) := edX8_pickOf_34.2.2.2.2.2.2.2.2.2.2.2.2.2.2.2.1
theorem dX8_pickOf_89 : decode cX8_pickOf 89 = .ok (.ireturn, 1) := edX8_pickOf_34.2.2.2.2.2.2.2.2.2.2.2.2.2.2.2.2.1
theorem dX8_pickOf_90 : decode cX8_pickOf 90 = .ok (.iload_n 3, 1) := edX8_pickOf_34.2.2.2.2.2.2.2.2.2.2.2.2.2.2.2.2.2.1
theorem dX8_pickOf_91 : decode cX8_pickOf 91 = .ok (.ireturn, 1) := edX8_pickOf_34.2.2.2.2.2.2.2.2.2.2.2.2.2.2.2.2.2.2
theorem edX8_termOf_0 : (decode cX8_termOf 0 = .ok (.aload_n 0, 1)) ∧ (decode cX8_termOf 1 = .ok (.iload_n 1, 1)) ∧ (decode cX8_termOf 2 = .ok (.iconst 1, 1)) ∧ (decode cX8_termOf 3 = .ok (.invokevirtual 101, 3)) ∧ (decode cX8_termOf 6 = .ok (.ifCond .ne 7, 3)) ∧ (decode cX8_termOf 9 = .ok (.iconst 0, 1)) ∧ (decode cX8_termOf 10 = .ok (.goto 5, 3)) ∧ (decode cX8_termOf 13 = .ok (.bipush 9, 2)) ∧ (decode cX8_termOf 15 = .ok (.istore_n 2, 1)) ∧ (decode cX8_termOf 16 = .ok (.iconst (-1), 1)) ∧ (decode cX8_termOf 17 = .ok (.istore_n 3, 1)) ∧ (decode cX8_termOf 18 = .ok (.iconst 0, 1)) ∧ (decode cX8_termOf 19 = .ok (.istore 4, 2)) ∧ (decode cX8_termOf 21 = .ok (.iload 4, 2)) ∧ (decode cX8_termOf 23 = .ok (.iconst 4, 1)) ∧ (decode cX8_termOf 24 = .ok (.if_icmp .ge 50, 3)) ∧ (decode cX8_termOf 27 = .ok (.aload_n 0, 1)) ∧ (decode cX8_termOf 28 = .ok (.getfield 9, 3)) ∧ (decode cX8_termOf 31 = .ok (.bipush 8, 2)) ∧ (decode cX8_termOf 33 = .ok (.iload 4, 2)) ∧ (decode cX8_termOf 35 = .ok (.iadd, 1)) ∧ (decode cX8_termOf 36 = .ok (.iaload, 1)) ∧ (decode cX8_termOf 37 = .ok (.iload_n 2, 1)) ∧ (decode cX8_termOf 38 = .ok (.if_icmp .eq 30, 3)) := by decide +kernel
theorem dX8_termOf_0 : decode cX8_termOf 0 = .ok (.aload_n 0, 1) := edX8_termOf_0.1
theorem dX8_termOf_1 : decode cX8_termOf 1 = .ok (.iload_n 1, 1) := edX8_termOf_0.2.1
theorem dX8_termOf_2 : decode cX8_termOf 2 = .ok (.iconst 1, 1) := edX8_termOf_0.2.2.1
theorem dX8_termOf_3 : decode cX8_termOf 3 = .ok (.invokevirtual 101, 3) := edX8_termOf_0.2.2.2.1
theorem dX8_termOf_6 : decode cX8_termOf 6 = .ok (.ifCond .ne 7, 3) := edX8_termOf_0.2.2.2.2.1
theorem dX8_termOf_9 : decode cX8_termOf 9 = .ok (.iconst 0, 1) := edX8_termOf_0.2.2.2.2.2.1
theorem dX8_termOf_10 : decode cX8_termOf 10 = .ok (.goto 5, 3) := edX8_termOf_0.2.2.2.2.2.2.1
theorem dX8_termOf_13 : decode cX8_termOf 13 = .ok (.bipush 9, 2) := edX8_termOf_0.2.2.2.2.2.2.2.1
theorem dX8_termOf_15 : decode cX8_termOf 15 = .ok (.istore_n 2, 1) := edX8_termOf_0.2.2.2.2.2.2.2.2.1
theorem dX8_termOf_16 : decode cX8_termOf 16 = .ok (.iconst (-1), 1) := edX8_termOf_0.2.2.2.2.2.2.2.2.2.1
theorem dX8_termOf_17 : decode cX8_termOf 17 = .ok (.istore_n 3, 1) := edX8_termOf_0.2.2.2.2.2.2.2.2.2.2.1
theorem dX8_termOf_18 : decode cX8_termOf 18 = .ok (.iconst 0, 1) := edX8_termOf_0.2.2.2.2.2.2.2.2.2.2.2.1
theorem dX8_termOf_19 : decode cX8_termOf 19 = .ok (.istore 4, 2) := edX8_termOf_0.2.2.2.2.2.2.2.2.2.2.2.2.1
theorem dX8_termOf_21 : decode cX8_termOf 21 = .ok (.iload 4, 2) := edX8_termOf_0.2.2.2.2.2.2.2.2.2.2.2.2.2.1
theorem dX8_termOf_23 : decode cX8_termOf 23 = .ok (.iconst 4, 1) := edX8_termOf_0.2.2.2.2.2.2.2.2.2.2.2.2.2.2.1
theorem dX8_termOf_24 : decode cX8_termOf 24 = .ok (.if_icmp .ge 50, 3) := edX8_termOf_0.2.2.2.2.2.2.2.2.2.2.2.2.2.2.2.1
theorem dX8_termOf_27 : decode cX8_termOf 27 = .ok (.aload_n 0, 1) := edX8_termOf_0.2.2.2.2.2.2.2.2.2.2.2.2.2.2.2.2.1
theorem dX8_termOf_28 : decode cX8_termOf 28 = .ok (.getfield 9, 3) := edX8_termOf_0.2.2.2.2.2.2.2.2.2.2.2.2.2.2.2.2.2.1
theorem dX8_termOf_31 : decode cX8_termOf 31 = .ok (.bipush 8, 2) := edX8_termOf_0.2.2.2.2.2.2.2.2.2.2.2.2.2.2.2.2.2.2.1
theorem dX8_termOf_33 : decode cX8_termOf 33 = .ok (.iload 4, 2) := edX8_termOf_0.2.2.2.2.2.2.2.2.2.2.2.2.2.2.2.2.2.2.2.1
theorem dX8_termOf_35 : decode cX8_termOf 35 = .ok (.iadd, 1) := edX8_termOf_0.2.2.2.2.2.2.2.2.2.2.2.2.2.2.2.2.2.2.2.2.1
theorem dX8_termOf_36 : decode cX8_termOf 36 = .ok (.iaload, 1) := edX8_termOf_0.2.2.2.2.2.2.2.2.2.2.2.2.2.2.2.2.2.2.2.2.2.1
theorem dX8_termOf_37 : decode cX8_termOf 37 = .ok (.iload_n 2, 1) := edX8_termOf_0.2.2.2.2.2.2.2.2.2.2.2.2.2.2.2.2.2.2.2.2.2.2.1
theorem dX8_termOf_38 : decode cX8_termOf 38 = .ok (.if_icmp .eq 30, 3) := edX8_termOf_0.2.2.2.2.2.2.2.2.2.2.2.2.2.2.2.2.2.2.2.2.2.2.2
theorem edX8_termOf_41 : (decode cX8_termOf 41 = .ok (.iload_n 3, 1)) ∧ (decode cX8_termOf 42 = .ok (.ifCond .lt 19, 3)) ∧ (decode cX8_termOf 45 = .ok (.aload_n 0, 1)) ∧ (decode cX8_termOf 46 = .ok (.iload_n 1, 1)) ∧ (decode cX8_termOf 47 = .ok (.iload 4, 2)) ∧ (decode cX8_termOf 49 = .ok (.invokevirtual 111, 3)) ∧ (decode cX8_termOf 52 = .ok (.aload_n 0, 1)) ∧ (decode cX8_termOf 53 = .ok (.iload_n 1, 1)) ∧ (decode cX8_termOf 54 = .ok (.iload_n 3, 1)) ∧ (decode cX8_termOf 55 = .ok (.invokevirtual 111, 3)) ∧ (decode cX8_termOf 58 = .ok (.if_icmp .ge 8, 3)) ∧ (decode cX8_termOf 61 = .ok (.iload 4, 2)) ∧ (decode cX8_termOf 63 = .ok (.goto 4, 3)) ∧ (decode cX8_termOf 66 = .ok (.iload_n 3, 1)) ∧ (decode cX8_termOf 67 = .ok (.istore_n 3, 1)) ∧ (decode cX8_termOf 68 = .ok (.iinc 4 1, 3)) ∧ (decode cX8_termOf 71 = .ok (.goto (-50), 3)) ∧ (decode cX8_termOf 74 = .ok (.iload_n 3, 1)) ∧ (decode cX8_termOf 75 = .ok (.ireturn, 1)) := by decide +kernel
theorem dX8_termOf_41 : decode cX8_termOf 41 = .ok (.iload_n 3, 1) := edX8_termOf_41.1
theorem dX8_termOf_42 : decode cX8_termOf 42 = .ok (.ifCond .lt 19, 3) := edX8_termOf_41.2.1
theorem dX8_termOf_45 : decode cX8_termOf 45 = .ok (.aload_n 0, 1) := edX8_termOf_41.2.2.1
theorem dX8_termOf_46 : decode cX8_termOf 46 = .ok (.iload_n 1, 1) := edX8_termOf_41.2.2.2.1
theorem dX8_termOf_47 : decode cX8_termOf 47 = .ok (.iload 4, 2) := edX8_termOf_41.2.2.2.2.1
theorem dX8_termOf_49 : decode cX8_termOf 49 = .ok (.invokevirtual 111, 3) := edX8_termOf_41.2.2.2.2.2.1
theorem dX8_termOf_52 : decode cX8_termOf 52 = .ok (.aload_n 0, 1) := edX8_termOf_41.2.2.2.2.2.2.1
theorem dX8_termOf_53 : decode cX8_termOf 53 = .ok (.iload_n 1, 1) := edX8_termOf_41.2.2.2.2.2.2.2.1
theorem dX8_termOf_54 : decode cX8_termOf 54 = .ok (.iload_n 3, 1) := edX8_termOf_41.2.2.2.2.2.2.2.2.1
theorem dX8_termOf_55 : decode cX8_termOf 55 = .ok (.invokevirtual 111, 3) := edX8_termOf_41.2.2.2.2.2.2.2.2.2.1
theorem dX8_termOf_58 : decode cX8_termOf 58 = .ok (.if_icmp .ge 8, 3) := edX8_termOf_41.2.2.2.2.2.2.2.2.2.2.1
theorem dX8_termOf_61 : decode cX8_termOf 61 = .ok (.iload 4, 2) := edX8_termOf_41.2.2.2.2.2.2.2.2.2.2.2.1
theorem dX8_termOf_63 : decode cX8_termOf 63 = .ok (.goto 4, 3) := edX8_termOf_41.2.2.2.2.2.2.2.2.2.2.2.2.1
theorem dX8_termOf_66 : decode cX8_termOf 66 = .ok (.iload_n 3, 1) := edX8_termOf_41.2.2.2.2.2.2.2.2.2.2.2.2.2.1
theorem dX8_termOf_67 : decode cX8_termOf 67 = .ok (.istore_n 3, 1) := edX8_termOf_41.2.2.2.2.2.2.2.2.2.2.2.2.2.2.1
theorem dX8_termOf_68 : decode cX8_termOf 68 = .ok (.iinc 4 1, 3) := edX8_termOf_41.2.2.2.2.2.2.2.2.2.2.2.2.2.2.2.1
theorem dX8_termOf_71 : decode cX8_termOf 71 = .ok (.goto (-50), 3) := edX8_termOf_41.2.2.2.2.2.2.2.2.2.2.2.2.2.2.2.2.1
theorem dX8_termOf_74 : decode cX8_termOf 74 = .ok (.iload_n 3, 1) := edX8_termOf_41.2.2.2.2.2.2.2.2.2.2.2.2.2.2.2.2.2.1
theorem dX8_termOf_75 : decode cX8_termOf 75 = .ok (.ireturn, 1) := edX8_termOf_41.2.2.2.2.2.2.2.2.2.2.2.2.2.2.2.2.2.2
theorem edX8_worthOf_0 : (decode cX8_worthOf 0 = .ok (.aload_n 0, 1)) ∧ (decode cX8_worthOf 1 = .ok (.iload_n 1, 1)) ∧ (decode cX8_worthOf 2 = .ok (.iconst 2, 1)) ∧ (decode cX8_worthOf 3 = .ok (.invokevirtual 101, 3)) ∧ (decode cX8_worthOf 6 = .ok (.istore_n 2, 1)) ∧ (decode cX8_worthOf 7 = .ok (.aload_n 0, 1)) ∧ (decode cX8_worthOf 8 = .ok (.iload_n 1, 1)) ∧ (decode cX8_worthOf 9 = .ok (.iconst 0, 1)) ∧ (decode cX8_worthOf 10 = .ok (.invokevirtual 101, 3)) ∧ (decode cX8_worthOf 13 = .ok (.tableswitch 58 1 5 #[35, 39, 44, 50, 55], 35)) ∧ (decode cX8_worthOf 48 = .ok (.iload_n 2, 1)) ∧ (decode cX8_worthOf 49 = .ok (.iconst 4, 1)) ∧ (decode cX8_worthOf 50 = .ok (.iadd, 1)) ∧ (decode cX8_worthOf 51 = .ok (.ireturn, 1)) ∧ (decode cX8_worthOf 52 = .ok (.bipush 99, 2)) ∧ (decode cX8_worthOf 54 = .ok (.iload_n 2, 1)) ∧ (decode cX8_worthOf 55 = .ok (.isub, 1)) ∧ (decode cX8_worthOf 56 = .ok (.ireturn, 1)) ∧ (decode cX8_worthOf 57 = .ok (.iconst 2, 1)) ∧ (decode cX8_worthOf 58 = .ok (.iload_n 2, 1)) ∧ (decode cX8_worthOf 59 = .ok (.iconst 4, 1)) ∧ (decode cX8_worthOf 60 = .ok (.iadd, 1)) ∧ (decode cX8_worthOf 61 = .ok (.imul, 1)) ∧ (decode cX8_worthOf 62 = .ok (.ireturn, 1)) := by decide +kernel
theorem dX8_worthOf_0 : decode cX8_worthOf 0 = .ok (.aload_n 0, 1) := edX8_worthOf_0.1
theorem dX8_worthOf_1 : decode cX8_worthOf 1 = .ok (.iload_n 1, 1) := edX8_worthOf_0.2.1
theorem dX8_worthOf_2 : decode cX8_worthOf 2 = .ok (.iconst 2, 1) := edX8_worthOf_0.2.2.1
theorem dX8_worthOf_3 : decode cX8_worthOf 3 = .ok (.invokevirtual 101, 3) := edX8_worthOf_0.2.2.2.1
theorem dX8_worthOf_6 : decode cX8_worthOf 6 = .ok (.istore_n 2, 1) := edX8_worthOf_0.2.2.2.2.1
theorem dX8_worthOf_7 : decode cX8_worthOf 7 = .ok (.aload_n 0, 1) := edX8_worthOf_0.2.2.2.2.2.1
theorem dX8_worthOf_8 : decode cX8_worthOf 8 = .ok (.iload_n 1, 1) := edX8_worthOf_0.2.2.2.2.2.2.1
theorem dX8_worthOf_9 : decode cX8_worthOf 9 = .ok (.iconst 0, 1) := edX8_worthOf_0.2.2.2.2.2.2.2.1
theorem dX8_worthOf_10 : decode cX8_worthOf 10 = .ok (.invokevirtual 101, 3) := edX8_worthOf_0.2.2.2.2.2.2.2.2.1
theorem dX8_worthOf_13 : decode cX8_worthOf 13 = .ok (.tableswitch 58 1 5 #[35, 39, 44, 50, 55], 35) := edX8_worthOf_0.2.2.2.2.2.2.2.2.2.1
theorem dX8_worthOf_48 : decode cX8_worthOf 48 = .ok (.iload_n 2, 1) := edX8_worthOf_0.2.2.2.2.2.2.2.2.2.2.1
theorem dX8_worthOf_49 : decode cX8_worthOf 49 = .ok (.iconst 4, 1) := edX8_worthOf_0.2.2.2.2.2.2.2.2.2.2.2.1
theorem dX8_worthOf_50 : decode cX8_worthOf 50 = .ok (.iadd, 1) := edX8_worthOf_0.2.2.2.2.2.2.2.2.2.2.2.2.1
theorem dX8_worthOf_51 : decode cX8_worthOf 51 = .ok (.ireturn, 1) := edX8_worthOf_0.2.2.2.2.2.2.2.2.2.2.2.2.2.1
theorem dX8_worthOf_52 : decode cX8_worthOf 52 = .ok (.bipush 99, 2) := edX8_worthOf_0.2.2.2.2.2.2.2.2.2.2.2.2.2.2.1
theorem dX8_worthOf_54 : decode cX8_worthOf 54 = .ok (.iload_n 2, 1) := edX8_worthOf_0.2.2.2.2.2.2.2.2.2.2.2.2.2.2.2.1
theorem dX8_worthOf_55 : decode cX8_worthOf 55 = .ok (.isub, 1) := edX8_worthOf_0.2.2.2.2.2.2.2.2.2.2.2.2.2.2.2.2.1
theorem dX8_worthOf_56 : decode cX8_worthOf 56 = .ok (.ireturn, 1) := edX8_worthOf_0.2.2.2.2.2.2.2.2.2.2.2.2.2.2.2.2.2.1
theorem dX8_worthOf_57 : decode cX8_worthOf 57 = .ok (.iconst 2, 1) := edX8_worthOf_0.2.2.2.2.2.2.2.2.2.2.2.2.2.2.2.2.2.2.1
theorem dX8_worthOf_58 : decode cX8_worthOf 58 = .ok (.iload_n 2, 1) := edX8_worthOf_0.2.2.2.2.2.2.2.2.2.2.2.2.2.2.2.2.2.2.2.1
theorem dX8_worthOf_59 : decode cX8_worthOf 59 = .ok (.iconst 4, 1) := edX8_worthOf_0.2.2.2.2.2.2.2.2.2.2.2.2.2.2.2.2.2.2.2.2.1
theorem dX8_worthOf_60 : decode cX8_worthOf 60 = .ok (.iadd, 1) := edX8_worthOf_0.2.2.2.2.2.2.2.2.2.2.2.2.2.2.2.2.2.2.2.2.2.1
theorem dX8_worthOf_61 : decode cX8_worthOf 61 = .ok (.imul, 1) := edX8_worthOf_0.2.2.2.2.2.2.2.2.2.2.2.2.2.2.2.2.2.2.2.2.2.2.1
theorem dX8_worthOf_62 : decode cX8_worthOf 62 = .ok (.ireturn, 1) := edX8_worthOf_0.2.2.2.2.2.2.2.2.2.2.2.2.2.2.2.2.2.2.2.2.2.2.2
theorem edX8_worthOf_63 : (decode cX8_worthOf 63 = .ok (.bipush 90, 2)) ∧ (decode cX8_worthOf 65 = .ok (.iload_n 2, 1)) ∧ (decode cX8_worthOf 66 = .ok (.isub, 1)) ∧ (decode cX8_worthOf 67 = .ok (.ireturn, 1)) ∧ (decode cX8_worthOf 68 = .ok (.bipush 7, 2)) ∧ (decode cX8_worthOf 70 = .ok (.ireturn, 1)) ∧ (decode cX8_worthOf 71 = .ok (.iload_n 2, 1)) ∧ (decode cX8_worthOf 72 = .ok (.ireturn, 1)) := by decide +kernel
theorem dX8_worthOf_63 : decode cX8_worthOf 63 = .ok (.bipush 90, 2) := edX8_worthOf_63.1
theorem dX8_worthOf_65 : decode cX8_worthOf 65 = .ok (.iload_n 2, 1) := edX8_worthOf_63.2.1
theorem dX8_worthOf_66 : decode cX8_worthOf 66 = .ok (.isub, 1) := edX8_worthOf_63.2.2.1
theorem dX8_worthOf_67 : decode cX8_worthOf 67 = .ok (.ireturn, 1) := edX8_worthOf_63.2.2.2.1
theorem dX8_worthOf_68 : decode cX8_worthOf 68 = .ok (.bipush 7, 2) := edX8_worthOf_63.2.2.2.2.1
theorem dX8_worthOf_70 : decode cX8_worthOf 70 = .ok (.ireturn, 1) := edX8_worthOf_63.2.2.2.2.2.1
theorem dX8_worthOf_71 : decode cX8_worthOf 71 = .ok (.iload_n 2, 1) := edX8_worthOf_63.2.2.2.2.2.2.1
theorem dX8_worthOf_72 : decode cX8_worthOf 72 = .ok (.ireturn, 1) := edX8_worthOf_63.2.2.2.2.2.2.2
theorem edX8_told_0 : (decode cX8_told 0 = .ok (.aload_n 0, 1)) ∧ (decode cX8_told 1 = .ok (.iload_n 1, 1)) ∧ (decode cX8_told 2 = .ok (.invokevirtual 114, 3)) ∧ (decode cX8_told 5 = .ok (.ifCond .eq 13, 3)) ∧ (decode cX8_told 8 = .ok (.iload_n 2, 1)) ∧ (decode cX8_told 9 = .ok (.iconst 0, 1)) ∧ (decode cX8_told 10 = .ok (.bipush 7, 2)) ∧ (decode cX8_told 12 = .ok (.invokestatic 83, 3)) ∧ (decode cX8_told 15 = .ok (.ifCond .ne 6, 3)) ∧ (decode cX8_told 18 = .ok (.ldc 91, 2)) ∧ (decode cX8_told 20 = .ok (.ireturn, 1)) ∧ (decode cX8_told 21 = .ok (.iload_n 2, 1)) ∧ (decode cX8_told 22 = .ok (.iconst 5, 1)) ∧ (decode cX8_told 23 = .ok (.if_icmp .ge 12, 3)) ∧ (decode cX8_told 26 = .ok (.aload_n 0, 1)) ∧ (decode cX8_told 27 = .ok (.iload_n 1, 1)) ∧ (decode cX8_told 28 = .ok (.iload_n 2, 1)) ∧ (decode cX8_told 29 = .ok (.invokevirtual 101, 3)) ∧ (decode cX8_told 32 = .ok (.goto 38, 3)) ∧ (decode cX8_told 35 = .ok (.iload_n 2, 1)) ∧ (decode cX8_told 36 = .ok (.iconst 5, 1)) ∧ (decode cX8_told 37 = .ok (.if_icmp .ne 11, 3)) ∧ (decode cX8_told 40 = .ok (.aload_n 0, 1)) ∧ (decode cX8_told 41 = .ok (.iload_n 1, 1)) := by decide +kernel
theorem dX8_told_0 : decode cX8_told 0 = .ok (.aload_n 0, 1) := edX8_told_0.1
theorem dX8_told_1 : decode cX8_told 1 = .ok (.iload_n 1, 1) := edX8_told_0.2.1
theorem dX8_told_2 : decode cX8_told 2 = .ok (.invokevirtual 114, 3) := edX8_told_0.2.2.1
theorem dX8_told_5 : decode cX8_told 5 = .ok (.ifCond .eq 13, 3) := edX8_told_0.2.2.2.1
theorem dX8_told_8 : decode cX8_told 8 = .ok (.iload_n 2, 1) := edX8_told_0.2.2.2.2.1
theorem dX8_told_9 : decode cX8_told 9 = .ok (.iconst 0, 1) := edX8_told_0.2.2.2.2.2.1
theorem dX8_told_10 : decode cX8_told 10 = .ok (.bipush 7, 2) := edX8_told_0.2.2.2.2.2.2.1
theorem dX8_told_12 : decode cX8_told 12 = .ok (.invokestatic 83, 3) := edX8_told_0.2.2.2.2.2.2.2.1
theorem dX8_told_15 : decode cX8_told 15 = .ok (.ifCond .ne 6, 3) := edX8_told_0.2.2.2.2.2.2.2.2.1
theorem dX8_told_18 : decode cX8_told 18 = .ok (.ldc 91, 2) := edX8_told_0.2.2.2.2.2.2.2.2.2.1
theorem dX8_told_20 : decode cX8_told 20 = .ok (.ireturn, 1) := edX8_told_0.2.2.2.2.2.2.2.2.2.2.1
theorem dX8_told_21 : decode cX8_told 21 = .ok (.iload_n 2, 1) := edX8_told_0.2.2.2.2.2.2.2.2.2.2.2.1
theorem dX8_told_22 : decode cX8_told 22 = .ok (.iconst 5, 1) := edX8_told_0.2.2.2.2.2.2.2.2.2.2.2.2.1
theorem dX8_told_23 : decode cX8_told 23 = .ok (.if_icmp .ge 12, 3) := edX8_told_0.2.2.2.2.2.2.2.2.2.2.2.2.2.1
theorem dX8_told_26 : decode cX8_told 26 = .ok (.aload_n 0, 1) := edX8_told_0.2.2.2.2.2.2.2.2.2.2.2.2.2.2.1
theorem dX8_told_27 : decode cX8_told 27 = .ok (.iload_n 1, 1) := edX8_told_0.2.2.2.2.2.2.2.2.2.2.2.2.2.2.2.1
theorem dX8_told_28 : decode cX8_told 28 = .ok (.iload_n 2, 1) := edX8_told_0.2.2.2.2.2.2.2.2.2.2.2.2.2.2.2.2.1
theorem dX8_told_29 : decode cX8_told 29 = .ok (.invokevirtual 101, 3) := edX8_told_0.2.2.2.2.2.2.2.2.2.2.2.2.2.2.2.2.2.1
theorem dX8_told_32 : decode cX8_told 32 = .ok (.goto 38, 3) := edX8_told_0.2.2.2.2.2.2.2.2.2.2.2.2.2.2.2.2.2.2.1
theorem dX8_told_35 : decode cX8_told 35 = .ok (.iload_n 2, 1) := edX8_told_0.2.2.2.2.2.2.2.2.2.2.2.2.2.2.2.2.2.2.2.1
theorem dX8_told_36 : decode cX8_told 36 = .ok (.iconst 5, 1) := edX8_told_0.2.2.2.2.2.2.2.2.2.2.2.2.2.2.2.2.2.2.2.2.1
theorem dX8_told_37 : decode cX8_told 37 = .ok (.if_icmp .ne 11, 3) := edX8_told_0.2.2.2.2.2.2.2.2.2.2.2.2.2.2.2.2.2.2.2.2.2.1
theorem dX8_told_40 : decode cX8_told 40 = .ok (.aload_n 0, 1) := edX8_told_0.2.2.2.2.2.2.2.2.2.2.2.2.2.2.2.2.2.2.2.2.2.2.1
theorem dX8_told_41 : decode cX8_told 41 = .ok (.iload_n 1, 1) := edX8_told_0.2.2.2.2.2.2.2.2.2.2.2.2.2.2.2.2.2.2.2.2.2.2.2
theorem edX8_told_42 : (decode cX8_told 42 = .ok (.invokevirtual 118, 3)) ∧ (decode cX8_told 45 = .ok (.goto 25, 3)) ∧ (decode cX8_told 48 = .ok (.iload_n 2, 1)) ∧ (decode cX8_told 49 = .ok (.bipush 6, 2)) ∧ (decode cX8_told 51 = .ok (.if_icmp .ne 14, 3)) ∧ (decode cX8_told 54 = .ok (.aload_n 0, 1)) ∧ (decode cX8_told 55 = .ok (.iload_n 1, 1)) ∧ (decode cX8_told 56 = .ok (.invokevirtual 121, 3)) ∧ (decode cX8_told 59 = .ok (.invokestatic 124, 3)) ∧ (decode cX8_told 62 = .ok (.goto 8, 3)) ∧ (decode cX8_told 65 = .ok (.aload_n 0, 1)) ∧ (decode cX8_told 66 = .ok (.iload_n 1, 1)) ∧ (decode cX8_told 67 = .ok (.invokevirtual 127, 3)) ∧ (decode cX8_told 70 = .ok (.ireturn, 1)) := by decide +kernel
theorem dX8_told_42 : decode cX8_told 42 = .ok (.invokevirtual 118, 3) := edX8_told_42.1
theorem dX8_told_45 : decode cX8_told 45 = .ok (.goto 25, 3) := edX8_told_42.2.1
theorem dX8_told_48 : decode cX8_told 48 = .ok (.iload_n 2, 1) := edX8_told_42.2.2.1
theorem dX8_told_49 : decode cX8_told 49 = .ok (.bipush 6, 2) := edX8_told_42.2.2.2.1
theorem dX8_told_51 : decode cX8_told 51 = .ok (.if_icmp .ne 14, 3) := edX8_told_42.2.2.2.2.1
theorem dX8_told_54 : decode cX8_told 54 = .ok (.aload_n 0, 1) := edX8_told_42.2.2.2.2.2.1
theorem dX8_told_55 : decode cX8_told 55 = .ok (.iload_n 1, 1) := edX8_told_42.2.2.2.2.2.2.1
theorem dX8_told_56 : decode cX8_told 56 = .ok (.invokevirtual 121, 3) := edX8_told_42.2.2.2.2.2.2.2.1
theorem dX8_told_59 : decode cX8_told 59 = .ok (.invokestatic 124, 3) := edX8_told_42.2.2.2.2.2.2.2.2.1
theorem dX8_told_62 : decode cX8_told 62 = .ok (.goto 8, 3) := edX8_told_42.2.2.2.2.2.2.2.2.2.1
theorem dX8_told_65 : decode cX8_told 65 = .ok (.aload_n 0, 1) := edX8_told_42.2.2.2.2.2.2.2.2.2.2.1
theorem dX8_told_66 : decode cX8_told 66 = .ok (.iload_n 1, 1) := edX8_told_42.2.2.2.2.2.2.2.2.2.2.2.1
theorem dX8_told_67 : decode cX8_told 67 = .ok (.invokevirtual 127, 3) := edX8_told_42.2.2.2.2.2.2.2.2.2.2.2.2.1
theorem dX8_told_70 : decode cX8_told 70 = .ok (.ireturn, 1) := edX8_told_42.2.2.2.2.2.2.2.2.2.2.2.2.2
theorem edX8_isUnder_0 : (decode cX8_isUnder 0 = .ok (.iload_n 1, 1)) ∧ (decode cX8_isUnder 1 = .ok (.ifCond .eq 28, 3)) ∧ (decode cX8_isUnder 4 = .ok (.iload_n 0, 1)) ∧ (decode cX8_isUnder 5 = .ok (.iload_n 1, 1)) ∧ (decode cX8_isUnder 6 = .ok (.if_icmp .eq 23, 3)) ∧ (decode cX8_isUnder 9 = .ok (.iload_n 1, 1)) ∧ (decode cX8_isUnder 10 = .ok (.iconst 1, 1)) ∧ (decode cX8_isUnder 11 = .ok (.if_icmp .ne 8, 3)) ∧ (decode cX8_isUnder 14 = .ok (.iload_n 0, 1)) ∧ (decode cX8_isUnder 15 = .ok (.iconst 3, 1)) ∧ (decode cX8_isUnder 16 = .ok (.if_icmp .eq 13, 3)) ∧ (decode cX8_isUnder 19 = .ok (.iload_n 1, 1)) ∧ (decode cX8_isUnder 20 = .ok (.iconst 2, 1)) ∧ (decode cX8_isUnder 21 = .ok (.if_icmp .ne 12, 3)) ∧ (decode cX8_isUnder 24 = .ok (.iload_n 0, 1)) ∧ (decode cX8_isUnder 25 = .ok (.iconst 4, 1)) ∧ (decode cX8_isUnder 26 = .ok (.if_icmp .ne 7, 3)) ∧ (decode cX8_isUnder 29 = .ok (.iconst 1, 1)) ∧ (decode cX8_isUnder 30 = .ok (.goto 4, 3)) ∧ (decode cX8_isUnder 33 = .ok (.iconst 0, 1)) ∧ (decode cX8_isUnder 34 = .ok (.ireturn, 1)) := by decide +kernel
theorem dX8_isUnder_0 : decode cX8_isUnder 0 = .ok (.iload_n 1, 1) := edX8_isUnder_0.1
theorem dX8_isUnder_1 : decode cX8_isUnder 1 = .ok (.ifCond .eq 28, 3) := edX8_isUnder_0.2.1
theorem dX8_isUnder_4 : decode cX8_isUnder 4 = .ok (.iload_n 0, 1) := edX8_isUnder_0.2.2.1
theorem dX8_isUnder_5 : decode cX8_isUnder 5 = .ok (.iload_n 1, 1) := edX8_isUnder_0.2.2.2.1
theorem dX8_isUnder_6 : decode cX8_isUnder 6 = .ok (.if_icmp .eq 23, 3) := edX8_isUnder_0.2.2.2.2.1
theorem dX8_isUnder_9 : decode cX8_isUnder 9 = .ok (.iload_n 1, 1) := edX8_isUnder_0.2.2.2.2.2.1
theorem dX8_isUnder_10 : decode cX8_isUnder 10 = .ok (.iconst 1, 1) := edX8_isUnder_0.2.2.2.2.2.2.1
theorem dX8_isUnder_11 : decode cX8_isUnder 11 = .ok (.if_icmp .ne 8, 3) := edX8_isUnder_0.2.2.2.2.2.2.2.1
theorem dX8_isUnder_14 : decode cX8_isUnder 14 = .ok (.iload_n 0, 1) := edX8_isUnder_0.2.2.2.2.2.2.2.2.1
theorem dX8_isUnder_15 : decode cX8_isUnder 15 = .ok (.iconst 3, 1) := edX8_isUnder_0.2.2.2.2.2.2.2.2.2.1
theorem dX8_isUnder_16 : decode cX8_isUnder 16 = .ok (.if_icmp .eq 13, 3) := edX8_isUnder_0.2.2.2.2.2.2.2.2.2.2.1
theorem dX8_isUnder_19 : decode cX8_isUnder 19 = .ok (.iload_n 1, 1) := edX8_isUnder_0.2.2.2.2.2.2.2.2.2.2.2.1
theorem dX8_isUnder_20 : decode cX8_isUnder 20 = .ok (.iconst 2, 1) := edX8_isUnder_0.2.2.2.2.2.2.2.2.2.2.2.2.1
theorem dX8_isUnder_21 : decode cX8_isUnder 21 = .ok (.if_icmp .ne 12, 3) := edX8_isUnder_0.2.2.2.2.2.2.2.2.2.2.2.2.2.1
theorem dX8_isUnder_24 : decode cX8_isUnder 24 = .ok (.iload_n 0, 1) := edX8_isUnder_0.2.2.2.2.2.2.2.2.2.2.2.2.2.2.1
theorem dX8_isUnder_25 : decode cX8_isUnder 25 = .ok (.iconst 4, 1) := edX8_isUnder_0.2.2.2.2.2.2.2.2.2.2.2.2.2.2.2.1
theorem dX8_isUnder_26 : decode cX8_isUnder 26 = .ok (.if_icmp .ne 7, 3) := edX8_isUnder_0.2.2.2.2.2.2.2.2.2.2.2.2.2.2.2.2.1
theorem dX8_isUnder_29 : decode cX8_isUnder 29 = .ok (.iconst 1, 1) := edX8_isUnder_0.2.2.2.2.2.2.2.2.2.2.2.2.2.2.2.2.2.1
theorem dX8_isUnder_30 : decode cX8_isUnder 30 = .ok (.goto 4, 3) := edX8_isUnder_0.2.2.2.2.2.2.2.2.2.2.2.2.2.2.2.2.2.2.1
theorem dX8_isUnder_33 : decode cX8_isUnder 33 = .ok (.iconst 0, 1) := edX8_isUnder_0.2.2.2.2.2.2.2.2.2.2.2.2.2.2.2.2.2.2.2.1
theorem dX8_isUnder_34 : decode cX8_isUnder 34 = .ok (.ireturn, 1) := edX8_isUnder_0.2.2.2.2.2.2.2.2.2.2.2.2.2.2.2.2.2.2.2.2
theorem edX8_as_0 : (decode cX8_as 0 = .ok (.aload_n 0, 1)) ∧ (decode cX8_as 1 = .ok (.iload_n 1, 1)) ∧ (decode cX8_as 2 = .ok (.invokevirtual 114, 3)) ∧ (decode cX8_as 5 = .ok (.ifCond .eq 12, 3)) ∧ (decode cX8_as 8 = .ok (.iload_n 2, 1)) ∧ (decode cX8_as 9 = .ok (.iconst 0, 1)) ∧ (decode cX8_as 10 = .ok (.iconst 5, 1)) ∧ (decode cX8_as 11 = .ok (.invokestatic 83, 3)) ∧ (decode cX8_as 14 = .ok (.ifCond .ne 6, 3)) ∧ (decode cX8_as 17 = .ok (.ldc 91, 2)) ∧ (decode cX8_as 19 = .ok (.ireturn, 1)) ∧ (decode cX8_as 20 = .ok (.aload_n 0, 1)) ∧ (decode cX8_as 21 = .ok (.iload_n 1, 1)) ∧ (decode cX8_as 22 = .ok (.iconst 0, 1)) ∧ (decode cX8_as 23 = .ok (.invokevirtual 101, 3)) ∧ (decode cX8_as 26 = .ok (.iload_n 2, 1)) ∧ (decode cX8_as 27 = .ok (.invokestatic 130, 3)) ∧ (decode cX8_as 30 = .ok (.ifCond .eq 12, 3)) ∧ (decode cX8_as 33 = .ok (.aload_n 0, 1)) ∧ (decode cX8_as 34 = .ok (.iload_n 1, 1)) ∧ (decode cX8_as 35 = .ok (.iconst 2, 1)) ∧ (decode cX8_as 36 = .ok (.invokevirtual 101, 3)) ∧ (decode cX8_as 39 = .ok (.goto 5, 3)) ∧ (decode cX8_as 42 = .ok (.ldc 134, 2)) := by decide +kernel
theorem dX8_as_0 : decode cX8_as 0 = .ok (.aload_n 0, 1) := edX8_as_0.1
theorem dX8_as_1 : decode cX8_as 1 = .ok (.iload_n 1, 1) := edX8_as_0.2.1
theorem dX8_as_2 : decode cX8_as 2 = .ok (.invokevirtual 114, 3) := edX8_as_0.2.2.1
theorem dX8_as_5 : decode cX8_as 5 = .ok (.ifCond .eq 12, 3) := edX8_as_0.2.2.2.1
theorem dX8_as_8 : decode cX8_as 8 = .ok (.iload_n 2, 1) := edX8_as_0.2.2.2.2.1
theorem dX8_as_9 : decode cX8_as 9 = .ok (.iconst 0, 1) := edX8_as_0.2.2.2.2.2.1
theorem dX8_as_10 : decode cX8_as 10 = .ok (.iconst 5, 1) := edX8_as_0.2.2.2.2.2.2.1
theorem dX8_as_11 : decode cX8_as 11 = .ok (.invokestatic 83, 3) := edX8_as_0.2.2.2.2.2.2.2.1
theorem dX8_as_14 : decode cX8_as 14 = .ok (.ifCond .ne 6, 3) := edX8_as_0.2.2.2.2.2.2.2.2.1
theorem dX8_as_17 : decode cX8_as 17 = .ok (.ldc 91, 2) := edX8_as_0.2.2.2.2.2.2.2.2.2.1
theorem dX8_as_19 : decode cX8_as 19 = .ok (.ireturn, 1) := edX8_as_0.2.2.2.2.2.2.2.2.2.2.1
theorem dX8_as_20 : decode cX8_as 20 = .ok (.aload_n 0, 1) := edX8_as_0.2.2.2.2.2.2.2.2.2.2.2.1
theorem dX8_as_21 : decode cX8_as 21 = .ok (.iload_n 1, 1) := edX8_as_0.2.2.2.2.2.2.2.2.2.2.2.2.1
theorem dX8_as_22 : decode cX8_as 22 = .ok (.iconst 0, 1) := edX8_as_0.2.2.2.2.2.2.2.2.2.2.2.2.2.1
theorem dX8_as_23 : decode cX8_as 23 = .ok (.invokevirtual 101, 3) := edX8_as_0.2.2.2.2.2.2.2.2.2.2.2.2.2.2.1
theorem dX8_as_26 : decode cX8_as 26 = .ok (.iload_n 2, 1) := edX8_as_0.2.2.2.2.2.2.2.2.2.2.2.2.2.2.2.1
theorem dX8_as_27 : decode cX8_as 27 = .ok (.invokestatic 130, 3) := edX8_as_0.2.2.2.2.2.2.2.2.2.2.2.2.2.2.2.2.1
theorem dX8_as_30 : decode cX8_as 30 = .ok (.ifCond .eq 12, 3) := edX8_as_0.2.2.2.2.2.2.2.2.2.2.2.2.2.2.2.2.2.1
theorem dX8_as_33 : decode cX8_as 33 = .ok (.aload_n 0, 1) := edX8_as_0.2.2.2.2.2.2.2.2.2.2.2.2.2.2.2.2.2.2.1
theorem dX8_as_34 : decode cX8_as 34 = .ok (.iload_n 1, 1) := edX8_as_0.2.2.2.2.2.2.2.2.2.2.2.2.2.2.2.2.2.2.2.1
theorem dX8_as_35 : decode cX8_as 35 = .ok (.iconst 2, 1) := edX8_as_0.2.2.2.2.2.2.2.2.2.2.2.2.2.2.2.2.2.2.2.2.1
theorem dX8_as_36 : decode cX8_as 36 = .ok (.invokevirtual 101, 3) := edX8_as_0.2.2.2.2.2.2.2.2.2.2.2.2.2.2.2.2.2.2.2.2.2.1
theorem dX8_as_39 : decode cX8_as 39 = .ok (.goto 5, 3) := edX8_as_0.2.2.2.2.2.2.2.2.2.2.2.2.2.2.2.2.2.2.2.2.2.2.1
theorem dX8_as_42 : decode cX8_as 42 = .ok (.ldc 134, 2) := edX8_as_0.2.2.2.2.2.2.2.2.2.2.2.2.2.2.2.2.2.2.2.2.2.2.2
theorem edX8_as_44 : (decode cX8_as 44 = .ok (.ireturn, 1)) := by decide +kernel
theorem dX8_as_44 : decode cX8_as 44 = .ok (.ireturn, 1) := edX8_as_44
theorem edX8_turns_0 : (decode cX8_turns 0 = .ok (.aload_n 0, 1)) ∧ (decode cX8_turns 1 = .ok (.iload_n 1, 1)) ∧ (decode cX8_turns 2 = .ok (.invokevirtual 114, 3)) ∧ (decode cX8_turns 5 = .ok (.ifCond .eq 26, 3)) ∧ (decode cX8_turns 8 = .ok (.iload_n 2, 1)) ∧ (decode cX8_turns 9 = .ok (.iconst 0, 1)) ∧ (decode cX8_turns 10 = .ok (.iconst 5, 1)) ∧ (decode cX8_turns 11 = .ok (.invokestatic 83, 3)) ∧ (decode cX8_turns 14 = .ok (.ifCond .eq 17, 3)) ∧ (decode cX8_turns 17 = .ok (.aload_n 0, 1)) ∧ (decode cX8_turns 18 = .ok (.bipush 22, 2)) ∧ (decode cX8_turns 20 = .ok (.iconst 5, 1)) ∧ (decode cX8_turns 21 = .ok (.iload_n 1, 1)) ∧ (decode cX8_turns 22 = .ok (.imul, 1)) ∧ (decode cX8_turns 23 = .ok (.iadd, 1)) ∧ (decode cX8_turns 24 = .ok (.iload_n 2, 1)) ∧ (decode cX8_turns 25 = .ok (.invokevirtual 135, 3)) ∧ (decode cX8_turns 28 = .ok (.goto 5, 3)) ∧ (decode cX8_turns 31 = .ok (.ldc 91, 2)) ∧ (decode cX8_turns 33 = .ok (.ireturn, 1)) := by decide +kernel
theorem dX8_turns_0 : decode cX8_turns 0 = .ok (.aload_n 0, 1) := edX8_turns_0.1
theorem dX8_turns_1 : decode cX8_turns 1 = .ok (.iload_n 1, 1) := edX8_turns_0.2.1
theorem dX8_turns_2 : decode cX8_turns 2 = .ok (.invokevirtual 114, 3) := edX8_turns_0.2.2.1
theorem dX8_turns_5 : decode cX8_turns 5 = .ok (.ifCond .eq 26, 3) := edX8_turns_0.2.2.2.1
theorem dX8_turns_8 : decode cX8_turns 8 = .ok (.iload_n 2, 1) := edX8_turns_0.2.2.2.2.1
theorem dX8_turns_9 : decode cX8_turns 9 = .ok (.iconst 0, 1) := edX8_turns_0.2.2.2.2.2.1
theorem dX8_turns_10 : decode cX8_turns 10 = .ok (.iconst 5, 1) := edX8_turns_0.2.2.2.2.2.2.1
theorem dX8_turns_11 : decode cX8_turns 11 = .ok (.invokestatic 83, 3) := edX8_turns_0.2.2.2.2.2.2.2.1
theorem dX8_turns_14 : decode cX8_turns 14 = .ok (.ifCond .eq 17, 3) := edX8_turns_0.2.2.2.2.2.2.2.2.1
theorem dX8_turns_17 : decode cX8_turns 17 = .ok (.aload_n 0, 1) := edX8_turns_0.2.2.2.2.2.2.2.2.2.1
theorem dX8_turns_18 : decode cX8_turns 18 = .ok (.bipush 22, 2) := edX8_turns_0.2.2.2.2.2.2.2.2.2.2.1
theorem dX8_turns_20 : decode cX8_turns 20 = .ok (.iconst 5, 1) := edX8_turns_0.2.2.2.2.2.2.2.2.2.2.2.1
theorem dX8_turns_21 : decode cX8_turns 21 = .ok (.iload_n 1, 1) := edX8_turns_0.2.2.2.2.2.2.2.2.2.2.2.2.1
theorem dX8_turns_22 : decode cX8_turns 22 = .ok (.imul, 1) := edX8_turns_0.2.2.2.2.2.2.2.2.2.2.2.2.2.1
theorem dX8_turns_23 : decode cX8_turns 23 = .ok (.iadd, 1) := edX8_turns_0.2.2.2.2.2.2.2.2.2.2.2.2.2.2.1
theorem dX8_turns_24 : decode cX8_turns 24 = .ok (.iload_n 2, 1) := edX8_turns_0.2.2.2.2.2.2.2.2.2.2.2.2.2.2.2.1
theorem dX8_turns_25 : decode cX8_turns 25 = .ok (.invokevirtual 135, 3) := edX8_turns_0.2.2.2.2.2.2.2.2.2.2.2.2.2.2.2.2.1
theorem dX8_turns_28 : decode cX8_turns 28 = .ok (.goto 5, 3) := edX8_turns_0.2.2.2.2.2.2.2.2.2.2.2.2.2.2.2.2.2.1
theorem dX8_turns_31 : decode cX8_turns 31 = .ok (.ldc 91, 2) := edX8_turns_0.2.2.2.2.2.2.2.2.2.2.2.2.2.2.2.2.2.2.1
theorem dX8_turns_33 : decode cX8_turns 33 = .ok (.ireturn, 1) := edX8_turns_0.2.2.2.2.2.2.2.2.2.2.2.2.2.2.2.2.2.2.2
theorem edX8_set_0 : (decode cX8_set 0 = .ok (.aload_n 0, 1)) ∧ (decode cX8_set 1 = .ok (.iload_n 1, 1)) ∧ (decode cX8_set 2 = .ok (.invokevirtual 114, 3)) ∧ (decode cX8_set 5 = .ok (.ifCond .eq 47, 3)) ∧ (decode cX8_set 8 = .ok (.iload_n 2, 1)) ∧ (decode cX8_set 9 = .ok (.iconst 1, 1)) ∧ (decode cX8_set 10 = .ok (.iconst 2, 1)) ∧ (decode cX8_set 11 = .ok (.invokestatic 83, 3)) ∧ (decode cX8_set 14 = .ok (.ifCond .eq 38, 3)) ∧ (decode cX8_set 17 = .ok (.iload_n 3, 1)) ∧ (decode cX8_set 18 = .ok (.iconst 0, 1)) ∧ (decode cX8_set 19 = .ok (.iload_n 2, 1)) ∧ (decode cX8_set 20 = .ok (.iconst 1, 1)) ∧ (decode cX8_set 21 = .ok (.if_icmp .ne 7, 3)) ∧ (decode cX8_set 24 = .ok (.iconst 1, 1)) ∧ (decode cX8_set 25 = .ok (.goto 5, 3)) ∧ (decode cX8_set 28 = .ok (.bipush 99, 2)) ∧ (decode cX8_set 30 = .ok (.invokestatic 83, 3)) ∧ (decode cX8_set 33 = .ok (.ifCond .eq 19, 3)) ∧ (decode cX8_set 36 = .ok (.aload_n 0, 1)) ∧ (decode cX8_set 37 = .ok (.bipush 22, 2)) ∧ (decode cX8_set 39 = .ok (.iconst 5, 1)) ∧ (decode cX8_set 40 = .ok (.iload_n 1, 1)) ∧ (decode cX8_set 41 = .ok (.imul, 1)) := by decide +kernel
theorem dX8_set_0 : decode cX8_set 0 = .ok (.aload_n 0, 1) := edX8_set_0.1
theorem dX8_set_1 : decode cX8_set 1 = .ok (.iload_n 1, 1) := edX8_set_0.2.1
theorem dX8_set_2 : decode cX8_set 2 = .ok (.invokevirtual 114, 3) := edX8_set_0.2.2.1
theorem dX8_set_5 : decode cX8_set 5 = .ok (.ifCond .eq 47, 3) := edX8_set_0.2.2.2.1
theorem dX8_set_8 : decode cX8_set 8 = .ok (.iload_n 2, 1) := edX8_set_0.2.2.2.2.1
theorem dX8_set_9 : decode cX8_set 9 = .ok (.iconst 1, 1) := edX8_set_0.2.2.2.2.2.1
theorem dX8_set_10 : decode cX8_set 10 = .ok (.iconst 2, 1) := edX8_set_0.2.2.2.2.2.2.1
theorem dX8_set_11 : decode cX8_set 11 = .ok (.invokestatic 83, 3) := edX8_set_0.2.2.2.2.2.2.2.1
theorem dX8_set_14 : decode cX8_set 14 = .ok (.ifCond .eq 38, 3) := edX8_set_0.2.2.2.2.2.2.2.2.1
theorem dX8_set_17 : decode cX8_set 17 = .ok (.iload_n 3, 1) := edX8_set_0.2.2.2.2.2.2.2.2.2.1
theorem dX8_set_18 : decode cX8_set 18 = .ok (.iconst 0, 1) := edX8_set_0.2.2.2.2.2.2.2.2.2.2.1
theorem dX8_set_19 : decode cX8_set 19 = .ok (.iload_n 2, 1) := edX8_set_0.2.2.2.2.2.2.2.2.2.2.2.1
theorem dX8_set_20 : decode cX8_set 20 = .ok (.iconst 1, 1) := edX8_set_0.2.2.2.2.2.2.2.2.2.2.2.2.1
theorem dX8_set_21 : decode cX8_set 21 = .ok (.if_icmp .ne 7, 3) := edX8_set_0.2.2.2.2.2.2.2.2.2.2.2.2.2.1
theorem dX8_set_24 : decode cX8_set 24 = .ok (.iconst 1, 1) := edX8_set_0.2.2.2.2.2.2.2.2.2.2.2.2.2.2.1
theorem dX8_set_25 : decode cX8_set 25 = .ok (.goto 5, 3) := edX8_set_0.2.2.2.2.2.2.2.2.2.2.2.2.2.2.2.1
theorem dX8_set_28 : decode cX8_set 28 = .ok (.bipush 99, 2) := edX8_set_0.2.2.2.2.2.2.2.2.2.2.2.2.2.2.2.2.1
theorem dX8_set_30 : decode cX8_set 30 = .ok (.invokestatic 83, 3) := edX8_set_0.2.2.2.2.2.2.2.2.2.2.2.2.2.2.2.2.2.1
theorem dX8_set_33 : decode cX8_set 33 = .ok (.ifCond .eq 19, 3) := edX8_set_0.2.2.2.2.2.2.2.2.2.2.2.2.2.2.2.2.2.2.1
theorem dX8_set_36 : decode cX8_set 36 = .ok (.aload_n 0, 1) := edX8_set_0.2.2.2.2.2.2.2.2.2.2.2.2.2.2.2.2.2.2.2.1
theorem dX8_set_37 : decode cX8_set 37 = .ok (.bipush 22, 2) := edX8_set_0.2.2.2.2.2.2.2.2.2.2.2.2.2.2.2.2.2.2.2.2.1
theorem dX8_set_39 : decode cX8_set 39 = .ok (.iconst 5, 1) := edX8_set_0.2.2.2.2.2.2.2.2.2.2.2.2.2.2.2.2.2.2.2.2.2.1
theorem dX8_set_40 : decode cX8_set 40 = .ok (.iload_n 1, 1) := edX8_set_0.2.2.2.2.2.2.2.2.2.2.2.2.2.2.2.2.2.2.2.2.2.2.1
theorem dX8_set_41 : decode cX8_set 41 = .ok (.imul, 1) := edX8_set_0.2.2.2.2.2.2.2.2.2.2.2.2.2.2.2.2.2.2.2.2.2.2.2
theorem edX8_set_42 : (decode cX8_set 42 = .ok (.iadd, 1)) ∧ (decode cX8_set 43 = .ok (.iload_n 2, 1)) ∧ (decode cX8_set 44 = .ok (.iadd, 1)) ∧ (decode cX8_set 45 = .ok (.iload_n 3, 1)) ∧ (decode cX8_set 46 = .ok (.invokevirtual 135, 3)) ∧ (decode cX8_set 49 = .ok (.goto 5, 3)) ∧ (decode cX8_set 52 = .ok (.ldc 91, 2)) ∧ (decode cX8_set 54 = .ok (.ireturn, 1)) := by decide +kernel
theorem dX8_set_42 : decode cX8_set 42 = .ok (.iadd, 1) := edX8_set_42.1
theorem dX8_set_43 : decode cX8_set 43 = .ok (.iload_n 2, 1) := edX8_set_42.2.1
theorem dX8_set_44 : decode cX8_set 44 = .ok (.iadd, 1) := edX8_set_42.2.2.1
theorem dX8_set_45 : decode cX8_set 45 = .ok (.iload_n 3, 1) := edX8_set_42.2.2.2.1
theorem dX8_set_46 : decode cX8_set 46 = .ok (.invokevirtual 135, 3) := edX8_set_42.2.2.2.2.1
theorem dX8_set_49 : decode cX8_set 49 = .ok (.goto 5, 3) := edX8_set_42.2.2.2.2.2.1
theorem dX8_set_52 : decode cX8_set 52 = .ok (.ldc 91, 2) := edX8_set_42.2.2.2.2.2.2.1
theorem dX8_set_54 : decode cX8_set 54 = .ok (.ireturn, 1) := edX8_set_42.2.2.2.2.2.2.2
theorem edX8_stand_0 : (decode cX8_stand 0 = .ok (.iload_n 1, 1)) ∧ (decode cX8_stand 1 = .ok (.iconst 0, 1)) ∧ (decode cX8_stand 2 = .ok (.iconst 3, 1)) ∧ (decode cX8_stand 3 = .ok (.invokestatic 83, 3)) ∧ (decode cX8_stand 6 = .ok (.ifCond .eq 25, 3)) ∧ (decode cX8_stand 9 = .ok (.iload_n 2, 1)) ∧ (decode cX8_stand 10 = .ok (.iconst 0, 1)) ∧ (decode cX8_stand 11 = .ok (.bipush 9, 2)) ∧ (decode cX8_stand 13 = .ok (.invokestatic 83, 3)) ∧ (decode cX8_stand 16 = .ok (.ifCond .eq 15, 3)) ∧ (decode cX8_stand 19 = .ok (.aload_n 0, 1)) ∧ (decode cX8_stand 20 = .ok (.bipush 8, 2)) ∧ (decode cX8_stand 22 = .ok (.iload_n 1, 1)) ∧ (decode cX8_stand 23 = .ok (.iadd, 1)) ∧ (decode cX8_stand 24 = .ok (.iload_n 2, 1)) ∧ (decode cX8_stand 25 = .ok (.invokevirtual 135, 3)) ∧ (decode cX8_stand 28 = .ok (.goto 5, 3)) ∧ (decode cX8_stand 31 = .ok (.ldc 91, 2)) ∧ (decode cX8_stand 33 = .ok (.ireturn, 1)) := by decide +kernel
theorem dX8_stand_0 : decode cX8_stand 0 = .ok (.iload_n 1, 1) := edX8_stand_0.1
theorem dX8_stand_1 : decode cX8_stand 1 = .ok (.iconst 0, 1) := edX8_stand_0.2.1
theorem dX8_stand_2 : decode cX8_stand 2 = .ok (.iconst 3, 1) := edX8_stand_0.2.2.1
theorem dX8_stand_3 : decode cX8_stand 3 = .ok (.invokestatic 83, 3) := edX8_stand_0.2.2.2.1
theorem dX8_stand_6 : decode cX8_stand 6 = .ok (.ifCond .eq 25, 3) := edX8_stand_0.2.2.2.2.1
theorem dX8_stand_9 : decode cX8_stand 9 = .ok (.iload_n 2, 1) := edX8_stand_0.2.2.2.2.2.1
theorem dX8_stand_10 : decode cX8_stand 10 = .ok (.iconst 0, 1) := edX8_stand_0.2.2.2.2.2.2.1
theorem dX8_stand_11 : decode cX8_stand 11 = .ok (.bipush 9, 2) := edX8_stand_0.2.2.2.2.2.2.2.1
theorem dX8_stand_13 : decode cX8_stand 13 = .ok (.invokestatic 83, 3) := edX8_stand_0.2.2.2.2.2.2.2.2.1
theorem dX8_stand_16 : decode cX8_stand 16 = .ok (.ifCond .eq 15, 3) := edX8_stand_0.2.2.2.2.2.2.2.2.2.1
theorem dX8_stand_19 : decode cX8_stand 19 = .ok (.aload_n 0, 1) := edX8_stand_0.2.2.2.2.2.2.2.2.2.2.1
theorem dX8_stand_20 : decode cX8_stand 20 = .ok (.bipush 8, 2) := edX8_stand_0.2.2.2.2.2.2.2.2.2.2.2.1
theorem dX8_stand_22 : decode cX8_stand 22 = .ok (.iload_n 1, 1) := edX8_stand_0.2.2.2.2.2.2.2.2.2.2.2.2.1
theorem dX8_stand_23 : decode cX8_stand 23 = .ok (.iadd, 1) := edX8_stand_0.2.2.2.2.2.2.2.2.2.2.2.2.2.1
theorem dX8_stand_24 : decode cX8_stand 24 = .ok (.iload_n 2, 1) := edX8_stand_0.2.2.2.2.2.2.2.2.2.2.2.2.2.2.1
theorem dX8_stand_25 : decode cX8_stand 25 = .ok (.invokevirtual 135, 3) := edX8_stand_0.2.2.2.2.2.2.2.2.2.2.2.2.2.2.2.1
theorem dX8_stand_28 : decode cX8_stand 28 = .ok (.goto 5, 3) := edX8_stand_0.2.2.2.2.2.2.2.2.2.2.2.2.2.2.2.2.1
theorem dX8_stand_31 : decode cX8_stand 31 = .ok (.ldc 91, 2) := edX8_stand_0.2.2.2.2.2.2.2.2.2.2.2.2.2.2.2.2.2.1
theorem dX8_stand_33 : decode cX8_stand 33 = .ok (.ireturn, 1) := edX8_stand_0.2.2.2.2.2.2.2.2.2.2.2.2.2.2.2.2.2.2
theorem edX8_care_0 : (decode cX8_care 0 = .ok (.iload_n 1, 1)) ∧ (decode cX8_care 1 = .ok (.iconst 0, 1)) ∧ (decode cX8_care 2 = .ok (.iconst 1, 1)) ∧ (decode cX8_care 3 = .ok (.invokestatic 83, 3)) ∧ (decode cX8_care 6 = .ok (.ifCond .eq 38, 3)) ∧ (decode cX8_care 9 = .ok (.iload_n 2, 1)) ∧ (decode cX8_care 10 = .ok (.iconst 0, 1)) ∧ (decode cX8_care 11 = .ok (.iconst 3, 1)) ∧ (decode cX8_care 12 = .ok (.invokestatic 83, 3)) ∧ (decode cX8_care 15 = .ok (.ifCond .eq 29, 3)) ∧ (decode cX8_care 18 = .ok (.iload_n 3, 1)) ∧ (decode cX8_care 19 = .ok (.iconst 0, 1)) ∧ (decode cX8_care 20 = .ok (.bipush 9, 2)) ∧ (decode cX8_care 22 = .ok (.invokestatic 83, 3)) ∧ (decode cX8_care 25 = .ok (.ifCond .eq 19, 3)) ∧ (decode cX8_care 28 = .ok (.aload_n 0, 1)) ∧ (decode cX8_care 29 = .ok (.bipush 12, 2)) ∧ (decode cX8_care 31 = .ok (.iconst 4, 1)) ∧ (decode cX8_care 32 = .ok (.iload_n 1, 1)) ∧ (decode cX8_care 33 = .ok (.imul, 1)) ∧ (decode cX8_care 34 = .ok (.iadd, 1)) ∧ (decode cX8_care 35 = .ok (.iload_n 2, 1)) ∧ (decode cX8_care 36 = .ok (.iadd, 1)) ∧ (decode cX8_care 37 = .ok (.iload_n 3, 1)) := by decide +kernel
theorem dX8_care_0 : decode cX8_care 0 = .ok (.iload_n 1, 1) := edX8_care_0.1
theorem dX8_care_1 : decode cX8_care 1 = .ok (.iconst 0, 1) := edX8_care_0.2.1
theorem dX8_care_2 : decode cX8_care 2 = .ok (.iconst 1, 1) := edX8_care_0.2.2.1
theorem dX8_care_3 : decode cX8_care 3 = .ok (.invokestatic 83, 3) := edX8_care_0.2.2.2.1
theorem dX8_care_6 : decode cX8_care 6 = .ok (.ifCond .eq 38, 3) := edX8_care_0.2.2.2.2.1
theorem dX8_care_9 : decode cX8_care 9 = .ok (.iload_n 2, 1) := edX8_care_0.2.2.2.2.2.1
theorem dX8_care_10 : decode cX8_care 10 = .ok (.iconst 0, 1) := edX8_care_0.2.2.2.2.2.2.1
theorem dX8_care_11 : decode cX8_care 11 = .ok (.iconst 3, 1) := edX8_care_0.2.2.2.2.2.2.2.1
theorem dX8_care_12 : decode cX8_care 12 = .ok (.invokestatic 83, 3) := edX8_care_0.2.2.2.2.2.2.2.2.1
theorem dX8_care_15 : decode cX8_care 15 = .ok (.ifCond .eq 29, 3) := edX8_care_0.2.2.2.2.2.2.2.2.2.1
theorem dX8_care_18 : decode cX8_care 18 = .ok (.iload_n 3, 1) := edX8_care_0.2.2.2.2.2.2.2.2.2.2.1
theorem dX8_care_19 : decode cX8_care 19 = .ok (.iconst 0, 1) := edX8_care_0.2.2.2.2.2.2.2.2.2.2.2.1
theorem dX8_care_20 : decode cX8_care 20 = .ok (.bipush 9, 2) := edX8_care_0.2.2.2.2.2.2.2.2.2.2.2.2.1
theorem dX8_care_22 : decode cX8_care 22 = .ok (.invokestatic 83, 3) := edX8_care_0.2.2.2.2.2.2.2.2.2.2.2.2.2.1
theorem dX8_care_25 : decode cX8_care 25 = .ok (.ifCond .eq 19, 3) := edX8_care_0.2.2.2.2.2.2.2.2.2.2.2.2.2.2.1
theorem dX8_care_28 : decode cX8_care 28 = .ok (.aload_n 0, 1) := edX8_care_0.2.2.2.2.2.2.2.2.2.2.2.2.2.2.2.1
theorem dX8_care_29 : decode cX8_care 29 = .ok (.bipush 12, 2) := edX8_care_0.2.2.2.2.2.2.2.2.2.2.2.2.2.2.2.2.1
theorem dX8_care_31 : decode cX8_care 31 = .ok (.iconst 4, 1) := edX8_care_0.2.2.2.2.2.2.2.2.2.2.2.2.2.2.2.2.2.1
theorem dX8_care_32 : decode cX8_care 32 = .ok (.iload_n 1, 1) := edX8_care_0.2.2.2.2.2.2.2.2.2.2.2.2.2.2.2.2.2.2.1
theorem dX8_care_33 : decode cX8_care 33 = .ok (.imul, 1) := edX8_care_0.2.2.2.2.2.2.2.2.2.2.2.2.2.2.2.2.2.2.2.1
theorem dX8_care_34 : decode cX8_care 34 = .ok (.iadd, 1) := edX8_care_0.2.2.2.2.2.2.2.2.2.2.2.2.2.2.2.2.2.2.2.2.1
theorem dX8_care_35 : decode cX8_care 35 = .ok (.iload_n 2, 1) := edX8_care_0.2.2.2.2.2.2.2.2.2.2.2.2.2.2.2.2.2.2.2.2.2.1
theorem dX8_care_36 : decode cX8_care 36 = .ok (.iadd, 1) := edX8_care_0.2.2.2.2.2.2.2.2.2.2.2.2.2.2.2.2.2.2.2.2.2.2.1
theorem dX8_care_37 : decode cX8_care 37 = .ok (.iload_n 3, 1) := edX8_care_0.2.2.2.2.2.2.2.2.2.2.2.2.2.2.2.2.2.2.2.2.2.2.2
theorem edX8_care_38 : (decode cX8_care 38 = .ok (.invokevirtual 135, 3)) ∧ (decode cX8_care 41 = .ok (.goto 5, 3)) ∧ (decode cX8_care 44 = .ok (.ldc 91, 2)) ∧ (decode cX8_care 46 = .ok (.ireturn, 1)) := by decide +kernel
theorem dX8_care_38 : decode cX8_care 38 = .ok (.invokevirtual 135, 3) := edX8_care_38.1
theorem dX8_care_41 : decode cX8_care 41 = .ok (.goto 5, 3) := edX8_care_38.2.1
theorem dX8_care_44 : decode cX8_care 44 = .ok (.ldc 91, 2) := edX8_care_38.2.2.1
theorem dX8_care_46 : decode cX8_care 46 = .ok (.ireturn, 1) := edX8_care_38.2.2.2
theorem edX8_honour_0 : (decode cX8_honour 0 = .ok (.iload_n 1, 1)) ∧ (decode cX8_honour 1 = .ok (.iconst 0, 1)) ∧ (decode cX8_honour 2 = .ok (.iconst 1, 1)) ∧ (decode cX8_honour 3 = .ok (.invokestatic 83, 3)) ∧ (decode cX8_honour 6 = .ok (.ifCond .eq 26, 3)) ∧ (decode cX8_honour 9 = .ok (.iload_n 2, 1)) ∧ (decode cX8_honour 10 = .ok (.iconst 0, 1)) ∧ (decode cX8_honour 11 = .ok (.sipush 400, 3)) ∧ (decode cX8_honour 14 = .ok (.invokestatic 83, 3)) ∧ (decode cX8_honour 17 = .ok (.ifCond .eq 15, 3)) ∧ (decode cX8_honour 20 = .ok (.aload_n 0, 1)) ∧ (decode cX8_honour 21 = .ok (.bipush 20, 2)) ∧ (decode cX8_honour 23 = .ok (.iload_n 1, 1)) ∧ (decode cX8_honour 24 = .ok (.iadd, 1)) ∧ (decode cX8_honour 25 = .ok (.iload_n 2, 1)) ∧ (decode cX8_honour 26 = .ok (.invokevirtual 135, 3)) ∧ (decode cX8_honour 29 = .ok (.goto 5, 3)) ∧ (decode cX8_honour 32 = .ok (.ldc 91, 2)) ∧ (decode cX8_honour 34 = .ok (.ireturn, 1)) := by decide +kernel
theorem dX8_honour_0 : decode cX8_honour 0 = .ok (.iload_n 1, 1) := edX8_honour_0.1
theorem dX8_honour_1 : decode cX8_honour 1 = .ok (.iconst 0, 1) := edX8_honour_0.2.1
theorem dX8_honour_2 : decode cX8_honour 2 = .ok (.iconst 1, 1) := edX8_honour_0.2.2.1
theorem dX8_honour_3 : decode cX8_honour 3 = .ok (.invokestatic 83, 3) := edX8_honour_0.2.2.2.1
theorem dX8_honour_6 : decode cX8_honour 6 = .ok (.ifCond .eq 26, 3) := edX8_honour_0.2.2.2.2.1
theorem dX8_honour_9 : decode cX8_honour 9 = .ok (.iload_n 2, 1) := edX8_honour_0.2.2.2.2.2.1
theorem dX8_honour_10 : decode cX8_honour 10 = .ok (.iconst 0, 1) := edX8_honour_0.2.2.2.2.2.2.1
theorem dX8_honour_11 : decode cX8_honour 11 = .ok (.sipush 400, 3) := edX8_honour_0.2.2.2.2.2.2.2.1
theorem dX8_honour_14 : decode cX8_honour 14 = .ok (.invokestatic 83, 3) := edX8_honour_0.2.2.2.2.2.2.2.2.1
theorem dX8_honour_17 : decode cX8_honour 17 = .ok (.ifCond .eq 15, 3) := edX8_honour_0.2.2.2.2.2.2.2.2.2.1
theorem dX8_honour_20 : decode cX8_honour 20 = .ok (.aload_n 0, 1) := edX8_honour_0.2.2.2.2.2.2.2.2.2.2.1
theorem dX8_honour_21 : decode cX8_honour 21 = .ok (.bipush 20, 2) := edX8_honour_0.2.2.2.2.2.2.2.2.2.2.2.1
theorem dX8_honour_23 : decode cX8_honour 23 = .ok (.iload_n 1, 1) := edX8_honour_0.2.2.2.2.2.2.2.2.2.2.2.2.1
theorem dX8_honour_24 : decode cX8_honour 24 = .ok (.iadd, 1) := edX8_honour_0.2.2.2.2.2.2.2.2.2.2.2.2.2.1
theorem dX8_honour_25 : decode cX8_honour 25 = .ok (.iload_n 2, 1) := edX8_honour_0.2.2.2.2.2.2.2.2.2.2.2.2.2.2.1
theorem dX8_honour_26 : decode cX8_honour 26 = .ok (.invokevirtual 135, 3) := edX8_honour_0.2.2.2.2.2.2.2.2.2.2.2.2.2.2.2.1
theorem dX8_honour_29 : decode cX8_honour 29 = .ok (.goto 5, 3) := edX8_honour_0.2.2.2.2.2.2.2.2.2.2.2.2.2.2.2.2.1
theorem dX8_honour_32 : decode cX8_honour 32 = .ok (.ldc 91, 2) := edX8_honour_0.2.2.2.2.2.2.2.2.2.2.2.2.2.2.2.2.2.1
theorem dX8_honour_34 : decode cX8_honour 34 = .ok (.ireturn, 1) := edX8_honour_0.2.2.2.2.2.2.2.2.2.2.2.2.2.2.2.2.2.2
theorem edX8_rule_0 : (decode cX8_rule 0 = .ok (.iload_n 1, 1)) ∧ (decode cX8_rule 1 = .ok (.iconst 0, 1)) ∧ (decode cX8_rule 2 = .ok (.iconst 2, 1)) ∧ (decode cX8_rule 3 = .ok (.invokestatic 83, 3)) ∧ (decode cX8_rule 6 = .ok (.ifCond .eq 43, 3)) ∧ (decode cX8_rule 9 = .ok (.iload_n 2, 1)) ∧ (decode cX8_rule 10 = .ok (.iload_n 1, 1)) ∧ (decode cX8_rule 11 = .ok (.iconst 1, 1)) ∧ (decode cX8_rule 12 = .ok (.if_icmp .ne 7, 3)) ∧ (decode cX8_rule 15 = .ok (.iconst 1, 1)) ∧ (decode cX8_rule 16 = .ok (.goto 4, 3)) ∧ (decode cX8_rule 19 = .ok (.iconst 0, 1)) ∧ (decode cX8_rule 20 = .ok (.iload_n 1, 1)) ∧ (decode cX8_rule 21 = .ok (.iconst 2, 1)) ∧ (decode cX8_rule 22 = .ok (.if_icmp .ne 8, 3)) ∧ (decode cX8_rule 25 = .ok (.bipush 100, 2)) ∧ (decode cX8_rule 27 = .ok (.goto 5, 3)) ∧ (decode cX8_rule 30 = .ok (.bipush 99, 2)) ∧ (decode cX8_rule 32 = .ok (.invokestatic 83, 3)) ∧ (decode cX8_rule 35 = .ok (.ifCond .eq 14, 3)) ∧ (decode cX8_rule 38 = .ok (.aload_n 0, 1)) ∧ (decode cX8_rule 39 = .ok (.iconst 3, 1)) ∧ (decode cX8_rule 40 = .ok (.iload_n 1, 1)) ∧ (decode cX8_rule 41 = .ok (.iadd, 1)) := by decide +kernel
theorem dX8_rule_0 : decode cX8_rule 0 = .ok (.iload_n 1, 1) := edX8_rule_0.1
theorem dX8_rule_1 : decode cX8_rule 1 = .ok (.iconst 0, 1) := edX8_rule_0.2.1
theorem dX8_rule_2 : decode cX8_rule 2 = .ok (.iconst 2, 1) := edX8_rule_0.2.2.1
theorem dX8_rule_3 : decode cX8_rule 3 = .ok (.invokestatic 83, 3) := edX8_rule_0.2.2.2.1
theorem dX8_rule_6 : decode cX8_rule 6 = .ok (.ifCond .eq 43, 3) := edX8_rule_0.2.2.2.2.1
theorem dX8_rule_9 : decode cX8_rule 9 = .ok (.iload_n 2, 1) := edX8_rule_0.2.2.2.2.2.1
theorem dX8_rule_10 : decode cX8_rule 10 = .ok (.iload_n 1, 1) := edX8_rule_0.2.2.2.2.2.2.1
theorem dX8_rule_11 : decode cX8_rule 11 = .ok (.iconst 1, 1) := edX8_rule_0.2.2.2.2.2.2.2.1
theorem dX8_rule_12 : decode cX8_rule 12 = .ok (.if_icmp .ne 7, 3) := edX8_rule_0.2.2.2.2.2.2.2.2.1
theorem dX8_rule_15 : decode cX8_rule 15 = .ok (.iconst 1, 1) := edX8_rule_0.2.2.2.2.2.2.2.2.2.1
theorem dX8_rule_16 : decode cX8_rule 16 = .ok (.goto 4, 3) := edX8_rule_0.2.2.2.2.2.2.2.2.2.2.1
theorem dX8_rule_19 : decode cX8_rule 19 = .ok (.iconst 0, 1) := edX8_rule_0.2.2.2.2.2.2.2.2.2.2.2.1
theorem dX8_rule_20 : decode cX8_rule 20 = .ok (.iload_n 1, 1) := edX8_rule_0.2.2.2.2.2.2.2.2.2.2.2.2.1
theorem dX8_rule_21 : decode cX8_rule 21 = .ok (.iconst 2, 1) := edX8_rule_0.2.2.2.2.2.2.2.2.2.2.2.2.2.1
theorem dX8_rule_22 : decode cX8_rule 22 = .ok (.if_icmp .ne 8, 3) := edX8_rule_0.2.2.2.2.2.2.2.2.2.2.2.2.2.2.1
theorem dX8_rule_25 : decode cX8_rule 25 = .ok (.bipush 100, 2) := edX8_rule_0.2.2.2.2.2.2.2.2.2.2.2.2.2.2.2.1
theorem dX8_rule_27 : decode cX8_rule 27 = .ok (.goto 5, 3) := edX8_rule_0.2.2.2.2.2.2.2.2.2.2.2.2.2.2.2.2.1
theorem dX8_rule_30 : decode cX8_rule 30 = .ok (.bipush 99, 2) := edX8_rule_0.2.2.2.2.2.2.2.2.2.2.2.2.2.2.2.2.2.1
theorem dX8_rule_32 : decode cX8_rule 32 = .ok (.invokestatic 83, 3) := edX8_rule_0.2.2.2.2.2.2.2.2.2.2.2.2.2.2.2.2.2.2.1
theorem dX8_rule_35 : decode cX8_rule 35 = .ok (.ifCond .eq 14, 3) := edX8_rule_0.2.2.2.2.2.2.2.2.2.2.2.2.2.2.2.2.2.2.2.1
theorem dX8_rule_38 : decode cX8_rule 38 = .ok (.aload_n 0, 1) := edX8_rule_0.2.2.2.2.2.2.2.2.2.2.2.2.2.2.2.2.2.2.2.2.1
theorem dX8_rule_39 : decode cX8_rule 39 = .ok (.iconst 3, 1) := edX8_rule_0.2.2.2.2.2.2.2.2.2.2.2.2.2.2.2.2.2.2.2.2.2.1
theorem dX8_rule_40 : decode cX8_rule 40 = .ok (.iload_n 1, 1) := edX8_rule_0.2.2.2.2.2.2.2.2.2.2.2.2.2.2.2.2.2.2.2.2.2.2.1
theorem dX8_rule_41 : decode cX8_rule 41 = .ok (.iadd, 1) := edX8_rule_0.2.2.2.2.2.2.2.2.2.2.2.2.2.2.2.2.2.2.2.2.2.2.2
theorem edX8_rule_42 : (decode cX8_rule 42 = .ok (.iload_n 2, 1)) ∧ (decode cX8_rule 43 = .ok (.invokevirtual 135, 3)) ∧ (decode cX8_rule 46 = .ok (.goto 5, 3)) ∧ (decode cX8_rule 49 = .ok (.ldc 91, 2)) ∧ (decode cX8_rule 51 = .ok (.ireturn, 1)) := by decide +kernel
theorem dX8_rule_42 : decode cX8_rule 42 = .ok (.iload_n 2, 1) := edX8_rule_42.1
theorem dX8_rule_43 : decode cX8_rule 43 = .ok (.invokevirtual 135, 3) := edX8_rule_42.2.1
theorem dX8_rule_46 : decode cX8_rule 46 = .ok (.goto 5, 3) := edX8_rule_42.2.2.1
theorem dX8_rule_49 : decode cX8_rule 49 = .ok (.ldc 91, 2) := edX8_rule_42.2.2.2.1
theorem dX8_rule_51 : decode cX8_rule 51 = .ok (.ireturn, 1) := edX8_rule_42.2.2.2.2
theorem edX8_draw_0 : (decode cX8_draw 0 = .ok (.aload_n 0, 1)) ∧ (decode cX8_draw 1 = .ok (.getfield 9, 3)) ∧ (decode cX8_draw 4 = .ok (.iconst 0, 1)) ∧ (decode cX8_draw 5 = .ok (.aload_n 0, 1)) ∧ (decode cX8_draw 6 = .ok (.getfield 9, 3)) ∧ (decode cX8_draw 9 = .ok (.iconst 0, 1)) ∧ (decode cX8_draw 10 = .ok (.iaload, 1)) ∧ (decode cX8_draw 11 = .ok (.ldc 138, 2)) ∧ (decode cX8_draw 13 = .ok (.imul, 1)) ∧ (decode cX8_draw 14 = .ok (.sipush 12345, 3)) ∧ (decode cX8_draw 17 = .ok (.iadd, 1)) ∧ (decode cX8_draw 18 = .ok (.iastore, 1)) ∧ (decode cX8_draw 19 = .ok (.aload_n 0, 1)) ∧ (decode cX8_draw 20 = .ok (.getfield 9, 3)) ∧ (decode cX8_draw 23 = .ok (.iconst 0, 1)) ∧ (decode cX8_draw 24 = .ok (.iaload, 1)) ∧ (decode cX8_draw 25 = .ok (.bipush 8, 2)) ∧ (decode cX8_draw 27 = .ok (.iushr, 1)) ∧ (decode cX8_draw 28 = .ok (.ireturn, 1)) := by decide +kernel
theorem dX8_draw_0 : decode cX8_draw 0 = .ok (.aload_n 0, 1) := edX8_draw_0.1
theorem dX8_draw_1 : decode cX8_draw 1 = .ok (.getfield 9, 3) := edX8_draw_0.2.1
theorem dX8_draw_4 : decode cX8_draw 4 = .ok (.iconst 0, 1) := edX8_draw_0.2.2.1
theorem dX8_draw_5 : decode cX8_draw 5 = .ok (.aload_n 0, 1) := edX8_draw_0.2.2.2.1
theorem dX8_draw_6 : decode cX8_draw 6 = .ok (.getfield 9, 3) := edX8_draw_0.2.2.2.2.1
theorem dX8_draw_9 : decode cX8_draw 9 = .ok (.iconst 0, 1) := edX8_draw_0.2.2.2.2.2.1
theorem dX8_draw_10 : decode cX8_draw 10 = .ok (.iaload, 1) := edX8_draw_0.2.2.2.2.2.2.1
theorem dX8_draw_11 : decode cX8_draw 11 = .ok (.ldc 138, 2) := edX8_draw_0.2.2.2.2.2.2.2.1
theorem dX8_draw_13 : decode cX8_draw 13 = .ok (.imul, 1) := edX8_draw_0.2.2.2.2.2.2.2.2.1
theorem dX8_draw_14 : decode cX8_draw 14 = .ok (.sipush 12345, 3) := edX8_draw_0.2.2.2.2.2.2.2.2.2.1
theorem dX8_draw_17 : decode cX8_draw 17 = .ok (.iadd, 1) := edX8_draw_0.2.2.2.2.2.2.2.2.2.2.1
theorem dX8_draw_18 : decode cX8_draw 18 = .ok (.iastore, 1) := edX8_draw_0.2.2.2.2.2.2.2.2.2.2.2.1
theorem dX8_draw_19 : decode cX8_draw 19 = .ok (.aload_n 0, 1) := edX8_draw_0.2.2.2.2.2.2.2.2.2.2.2.2.1
theorem dX8_draw_20 : decode cX8_draw 20 = .ok (.getfield 9, 3) := edX8_draw_0.2.2.2.2.2.2.2.2.2.2.2.2.2.1
theorem dX8_draw_23 : decode cX8_draw 23 = .ok (.iconst 0, 1) := edX8_draw_0.2.2.2.2.2.2.2.2.2.2.2.2.2.2.1
theorem dX8_draw_24 : decode cX8_draw 24 = .ok (.iaload, 1) := edX8_draw_0.2.2.2.2.2.2.2.2.2.2.2.2.2.2.2.1
theorem dX8_draw_25 : decode cX8_draw 25 = .ok (.bipush 8, 2) := edX8_draw_0.2.2.2.2.2.2.2.2.2.2.2.2.2.2.2.2.1
theorem dX8_draw_27 : decode cX8_draw 27 = .ok (.iushr, 1) := edX8_draw_0.2.2.2.2.2.2.2.2.2.2.2.2.2.2.2.2.2.1
theorem dX8_draw_28 : decode cX8_draw 28 = .ok (.ireturn, 1) := edX8_draw_0.2.2.2.2.2.2.2.2.2.2.2.2.2.2.2.2.2.2
theorem edX8_deal_0 : (decode cX8_deal 0 = .ok (.iload_n 1, 1)) ∧ (decode cX8_deal 1 = .ok (.iconst 1, 1)) ∧ (decode cX8_deal 2 = .ok (.bipush 8, 2)) ∧ (decode cX8_deal 4 = .ok (.invokestatic 83, 3)) ∧ (decode cX8_deal 7 = .ok (.ifCond .ne 6, 3)) ∧ (decode cX8_deal 10 = .ok (.ldc 91, 2)) ∧ (decode cX8_deal 12 = .ok (.ireturn, 1)) ∧ (decode cX8_deal 13 = .ok (.iconst 0, 1)) ∧ (decode cX8_deal 14 = .ok (.istore_n 2, 1)) ∧ (decode cX8_deal 15 = .ok (.iload_n 2, 1)) ∧ (decode cX8_deal 16 = .ok (.iload_n 1, 1)) ∧ (decode cX8_deal 17 = .ok (.if_icmp .ge 52, 3)) ∧ (decode cX8_deal 20 = .ok (.aload_n 0, 1)) ∧ (decode cX8_deal 21 = .ok (.getfield 9, 3)) ∧ (decode cX8_deal 24 = .ok (.iconst 1, 1)) ∧ (decode cX8_deal 25 = .ok (.iaload, 1)) ∧ (decode cX8_deal 26 = .ok (.bipush 8, 2)) ∧ (decode cX8_deal 28 = .ok (.if_icmp .ge 41, 3)) ∧ (decode cX8_deal 31 = .ok (.aload_n 0, 1)) ∧ (decode cX8_deal 32 = .ok (.invokevirtual 139, 3)) ∧ (decode cX8_deal 35 = .ok (.bipush 6, 2)) ∧ (decode cX8_deal 37 = .ok (.irem, 1)) ∧ (decode cX8_deal 38 = .ok (.istore_n 3, 1)) ∧ (decode cX8_deal 39 = .ok (.aload_n 0, 1)) := by decide +kernel
theorem dX8_deal_0 : decode cX8_deal 0 = .ok (.iload_n 1, 1) := edX8_deal_0.1
theorem dX8_deal_1 : decode cX8_deal 1 = .ok (.iconst 1, 1) := edX8_deal_0.2.1
theorem dX8_deal_2 : decode cX8_deal 2 = .ok (.bipush 8, 2) := edX8_deal_0.2.2.1
theorem dX8_deal_4 : decode cX8_deal 4 = .ok (.invokestatic 83, 3) := edX8_deal_0.2.2.2.1
theorem dX8_deal_7 : decode cX8_deal 7 = .ok (.ifCond .ne 6, 3) := edX8_deal_0.2.2.2.2.1
theorem dX8_deal_10 : decode cX8_deal 10 = .ok (.ldc 91, 2) := edX8_deal_0.2.2.2.2.2.1
theorem dX8_deal_12 : decode cX8_deal 12 = .ok (.ireturn, 1) := edX8_deal_0.2.2.2.2.2.2.1
theorem dX8_deal_13 : decode cX8_deal 13 = .ok (.iconst 0, 1) := edX8_deal_0.2.2.2.2.2.2.2.1
theorem dX8_deal_14 : decode cX8_deal 14 = .ok (.istore_n 2, 1) := edX8_deal_0.2.2.2.2.2.2.2.2.1
theorem dX8_deal_15 : decode cX8_deal 15 = .ok (.iload_n 2, 1) := edX8_deal_0.2.2.2.2.2.2.2.2.2.1
theorem dX8_deal_16 : decode cX8_deal 16 = .ok (.iload_n 1, 1) := edX8_deal_0.2.2.2.2.2.2.2.2.2.2.1
theorem dX8_deal_17 : decode cX8_deal 17 = .ok (.if_icmp .ge 52, 3) := edX8_deal_0.2.2.2.2.2.2.2.2.2.2.2.1
theorem dX8_deal_20 : decode cX8_deal 20 = .ok (.aload_n 0, 1) := edX8_deal_0.2.2.2.2.2.2.2.2.2.2.2.2.1
theorem dX8_deal_21 : decode cX8_deal 21 = .ok (.getfield 9, 3) := edX8_deal_0.2.2.2.2.2.2.2.2.2.2.2.2.2.1
theorem dX8_deal_24 : decode cX8_deal 24 = .ok (.iconst 1, 1) := edX8_deal_0.2.2.2.2.2.2.2.2.2.2.2.2.2.2.1
theorem dX8_deal_25 : decode cX8_deal 25 = .ok (.iaload, 1) := edX8_deal_0.2.2.2.2.2.2.2.2.2.2.2.2.2.2.2.1
theorem dX8_deal_26 : decode cX8_deal 26 = .ok (.bipush 8, 2) := edX8_deal_0.2.2.2.2.2.2.2.2.2.2.2.2.2.2.2.2.1
theorem dX8_deal_28 : decode cX8_deal 28 = .ok (.if_icmp .ge 41, 3) := edX8_deal_0.2.2.2.2.2.2.2.2.2.2.2.2.2.2.2.2.2.1
theorem dX8_deal_31 : decode cX8_deal 31 = .ok (.aload_n 0, 1) := edX8_deal_0.2.2.2.2.2.2.2.2.2.2.2.2.2.2.2.2.2.2.1
theorem dX8_deal_32 : decode cX8_deal 32 = .ok (.invokevirtual 139, 3) := edX8_deal_0.2.2.2.2.2.2.2.2.2.2.2.2.2.2.2.2.2.2.2.1
theorem dX8_deal_35 : decode cX8_deal 35 = .ok (.bipush 6, 2) := edX8_deal_0.2.2.2.2.2.2.2.2.2.2.2.2.2.2.2.2.2.2.2.2.1
theorem dX8_deal_37 : decode cX8_deal 37 = .ok (.irem, 1) := edX8_deal_0.2.2.2.2.2.2.2.2.2.2.2.2.2.2.2.2.2.2.2.2.2.1
theorem dX8_deal_38 : decode cX8_deal 38 = .ok (.istore_n 3, 1) := edX8_deal_0.2.2.2.2.2.2.2.2.2.2.2.2.2.2.2.2.2.2.2.2.2.2.1
theorem dX8_deal_39 : decode cX8_deal 39 = .ok (.aload_n 0, 1) := edX8_deal_0.2.2.2.2.2.2.2.2.2.2.2.2.2.2.2.2.2.2.2.2.2.2.2
theorem edX8_deal_40 : (decode cX8_deal 40 = .ok (.invokevirtual 139, 3)) ∧ (decode cX8_deal 43 = .ok (.iconst 2, 1)) ∧ (decode cX8_deal 44 = .ok (.irem, 1)) ∧ (decode cX8_deal 45 = .ok (.istore 4, 2)) ∧ (decode cX8_deal 47 = .ok (.aload_n 0, 1)) ∧ (decode cX8_deal 48 = .ok (.iload_n 3, 1)) ∧ (decode cX8_deal 49 = .ok (.iload 4, 2)) ∧ (decode cX8_deal 51 = .ok (.aload_n 0, 1)) ∧ (decode cX8_deal 52 = .ok (.invokevirtual 139, 3)) ∧ (decode cX8_deal 55 = .ok (.bipush 100, 2)) ∧ (decode cX8_deal 57 = .ok (.irem, 1)) ∧ (decode cX8_deal 58 = .ok (.invokevirtual 93, 3)) ∧ (decode cX8_deal 61 = .ok (.istore 5, 2)) ∧ (decode cX8_deal 63 = .ok (.iinc 2 1, 3)) ∧ (decode cX8_deal 66 = .ok (.goto (-51), 3)) ∧ (decode cX8_deal 69 = .ok (.iload_n 2, 1)) ∧ (decode cX8_deal 70 = .ok (.ireturn, 1)) := by decide +kernel
theorem dX8_deal_40 : decode cX8_deal 40 = .ok (.invokevirtual 139, 3) := edX8_deal_40.1
theorem dX8_deal_43 : decode cX8_deal 43 = .ok (.iconst 2, 1) := edX8_deal_40.2.1
theorem dX8_deal_44 : decode cX8_deal 44 = .ok (.irem, 1) := edX8_deal_40.2.2.1
theorem dX8_deal_45 : decode cX8_deal 45 = .ok (.istore 4, 2) := edX8_deal_40.2.2.2.1
theorem dX8_deal_47 : decode cX8_deal 47 = .ok (.aload_n 0, 1) := edX8_deal_40.2.2.2.2.1
theorem dX8_deal_48 : decode cX8_deal 48 = .ok (.iload_n 3, 1) := edX8_deal_40.2.2.2.2.2.1
theorem dX8_deal_49 : decode cX8_deal 49 = .ok (.iload 4, 2) := edX8_deal_40.2.2.2.2.2.2.1
theorem dX8_deal_51 : decode cX8_deal 51 = .ok (.aload_n 0, 1) := edX8_deal_40.2.2.2.2.2.2.2.1
theorem dX8_deal_52 : decode cX8_deal 52 = .ok (.invokevirtual 139, 3) := edX8_deal_40.2.2.2.2.2.2.2.2.1
theorem dX8_deal_55 : decode cX8_deal 55 = .ok (.bipush 100, 2) := edX8_deal_40.2.2.2.2.2.2.2.2.2.1
theorem dX8_deal_57 : decode cX8_deal 57 = .ok (.irem, 1) := edX8_deal_40.2.2.2.2.2.2.2.2.2.2.1
theorem dX8_deal_58 : decode cX8_deal 58 = .ok (.invokevirtual 93, 3) := edX8_deal_40.2.2.2.2.2.2.2.2.2.2.2.1
theorem dX8_deal_61 : decode cX8_deal 61 = .ok (.istore 5, 2) := edX8_deal_40.2.2.2.2.2.2.2.2.2.2.2.2.1
theorem dX8_deal_63 : decode cX8_deal 63 = .ok (.iinc 2 1, 3) := edX8_deal_40.2.2.2.2.2.2.2.2.2.2.2.2.2.1
theorem dX8_deal_66 : decode cX8_deal 66 = .ok (.goto (-51), 3) := edX8_deal_40.2.2.2.2.2.2.2.2.2.2.2.2.2.2.1
theorem dX8_deal_69 : decode cX8_deal 69 = .ok (.iload_n 2, 1) := edX8_deal_40.2.2.2.2.2.2.2.2.2.2.2.2.2.2.2.1
theorem dX8_deal_70 : decode cX8_deal 70 = .ok (.ireturn, 1) := edX8_deal_40.2.2.2.2.2.2.2.2.2.2.2.2.2.2.2.2
theorem edX8_seed_0 : (decode cX8_seed 0 = .ok (.aload_n 0, 1)) ∧ (decode cX8_seed 1 = .ok (.iconst 0, 1)) ∧ (decode cX8_seed 2 = .ok (.iload_n 1, 1)) ∧ (decode cX8_seed 3 = .ok (.invokevirtual 135, 3)) ∧ (decode cX8_seed 6 = .ok (.ireturn, 1)) := by decide +kernel
theorem dX8_seed_0 : decode cX8_seed 0 = .ok (.aload_n 0, 1) := edX8_seed_0.1
theorem dX8_seed_1 : decode cX8_seed 1 = .ok (.iconst 0, 1) := edX8_seed_0.2.1
theorem dX8_seed_2 : decode cX8_seed 2 = .ok (.iload_n 1, 1) := edX8_seed_0.2.2.1
theorem dX8_seed_3 : decode cX8_seed 3 = .ok (.invokevirtual 135, 3) := edX8_seed_0.2.2.2.1
theorem dX8_seed_6 : decode cX8_seed 6 = .ok (.ireturn, 1) := edX8_seed_0.2.2.2.2
theorem edX8_has_0 : (decode cX8_has 0 = .ok (.iconst 0, 1)) ∧ (decode cX8_has 1 = .ok (.istore_n 2, 1)) ∧ (decode cX8_has 2 = .ok (.iconst 0, 1)) ∧ (decode cX8_has 3 = .ok (.istore_n 3, 1)) ∧ (decode cX8_has 4 = .ok (.iload_n 3, 1)) ∧ (decode cX8_has 5 = .ok (.iconst 4, 1)) ∧ (decode cX8_has 6 = .ok (.if_icmp .ge 51, 3)) ∧ (decode cX8_has 9 = .ok (.aload_n 0, 1)) ∧ (decode cX8_has 10 = .ok (.getfield 9, 3)) ∧ (decode cX8_has 13 = .ok (.bipush 8, 2)) ∧ (decode cX8_has 15 = .ok (.iload_n 3, 1)) ∧ (decode cX8_has 16 = .ok (.iadd, 1)) ∧ (decode cX8_has 17 = .ok (.iaload, 1)) ∧ (decode cX8_has 18 = .ok (.istore 4, 2)) ∧ (decode cX8_has 20 = .ok (.iload_n 2, 1)) ∧ (decode cX8_has 21 = .ok (.aload_n 0, 1)) ∧ (decode cX8_has 22 = .ok (.getfield 9, 3)) ∧ (decode cX8_has 25 = .ok (.bipush 12, 2)) ∧ (decode cX8_has 27 = .ok (.iconst 4, 1)) ∧ (decode cX8_has 28 = .ok (.iload_n 1, 1)) ∧ (decode cX8_has 29 = .ok (.imul, 1)) ∧ (decode cX8_has 30 = .ok (.iadd, 1)) ∧ (decode cX8_has 31 = .ok (.iload_n 3, 1)) ∧ (decode cX8_has 32 = .ok (.iadd, 1)) := by decide +kernel
theorem dX8_has_0 : decode cX8_has 0 = .ok (.iconst 0, 1) := edX8_has_0.1
theorem dX8_has_1 : decode cX8_has 1 = .ok (.istore_n 2, 1) := edX8_has_0.2.1
theorem dX8_has_2 : decode cX8_has 2 = .ok (.iconst 0, 1) := edX8_has_0.2.2.1
theorem dX8_has_3 : decode cX8_has 3 = .ok (.istore_n 3, 1) := edX8_has_0.2.2.2.1
theorem dX8_has_4 : decode cX8_has 4 = .ok (.iload_n 3, 1) := edX8_has_0.2.2.2.2.1
theorem dX8_has_5 : decode cX8_has 5 = .ok (.iconst 4, 1) := edX8_has_0.2.2.2.2.2.1
theorem dX8_has_6 : decode cX8_has 6 = .ok (.if_icmp .ge 51, 3) := edX8_has_0.2.2.2.2.2.2.1
theorem dX8_has_9 : decode cX8_has 9 = .ok (.aload_n 0, 1) := edX8_has_0.2.2.2.2.2.2.2.1
theorem dX8_has_10 : decode cX8_has 10 = .ok (.getfield 9, 3) := edX8_has_0.2.2.2.2.2.2.2.2.1
theorem dX8_has_13 : decode cX8_has 13 = .ok (.bipush 8, 2) := edX8_has_0.2.2.2.2.2.2.2.2.2.1
theorem dX8_has_15 : decode cX8_has 15 = .ok (.iload_n 3, 1) := edX8_has_0.2.2.2.2.2.2.2.2.2.2.1
theorem dX8_has_16 : decode cX8_has 16 = .ok (.iadd, 1) := edX8_has_0.2.2.2.2.2.2.2.2.2.2.2.1
theorem dX8_has_17 : decode cX8_has 17 = .ok (.iaload, 1) := edX8_has_0.2.2.2.2.2.2.2.2.2.2.2.2.1
theorem dX8_has_18 : decode cX8_has 18 = .ok (.istore 4, 2) := edX8_has_0.2.2.2.2.2.2.2.2.2.2.2.2.2.1
theorem dX8_has_20 : decode cX8_has 20 = .ok (.iload_n 2, 1) := edX8_has_0.2.2.2.2.2.2.2.2.2.2.2.2.2.2.1
theorem dX8_has_21 : decode cX8_has 21 = .ok (.aload_n 0, 1) := edX8_has_0.2.2.2.2.2.2.2.2.2.2.2.2.2.2.2.1
theorem dX8_has_22 : decode cX8_has 22 = .ok (.getfield 9, 3) := edX8_has_0.2.2.2.2.2.2.2.2.2.2.2.2.2.2.2.2.1
theorem dX8_has_25 : decode cX8_has 25 = .ok (.bipush 12, 2) := edX8_has_0.2.2.2.2.2.2.2.2.2.2.2.2.2.2.2.2.2.1
theorem dX8_has_27 : decode cX8_has 27 = .ok (.iconst 4, 1) := edX8_has_0.2.2.2.2.2.2.2.2.2.2.2.2.2.2.2.2.2.2.1
theorem dX8_has_28 : decode cX8_has 28 = .ok (.iload_n 1, 1) := edX8_has_0.2.2.2.2.2.2.2.2.2.2.2.2.2.2.2.2.2.2.2.1
theorem dX8_has_29 : decode cX8_has 29 = .ok (.imul, 1) := edX8_has_0.2.2.2.2.2.2.2.2.2.2.2.2.2.2.2.2.2.2.2.2.1
theorem dX8_has_30 : decode cX8_has 30 = .ok (.iadd, 1) := edX8_has_0.2.2.2.2.2.2.2.2.2.2.2.2.2.2.2.2.2.2.2.2.2.1
theorem dX8_has_31 : decode cX8_has 31 = .ok (.iload_n 3, 1) := edX8_has_0.2.2.2.2.2.2.2.2.2.2.2.2.2.2.2.2.2.2.2.2.2.2.1
theorem dX8_has_32 : decode cX8_has 32 = .ok (.iadd, 1) := edX8_has_0.2.2.2.2.2.2.2.2.2.2.2.2.2.2.2.2.2.2.2.2.2.2.2
theorem edX8_has_33 : (decode cX8_has 33 = .ok (.iaload, 1)) ∧ (decode cX8_has 34 = .ok (.iload_n 1, 1)) ∧ (decode cX8_has 35 = .ok (.ifCond .ne 8, 3)) ∧ (decode cX8_has 38 = .ok (.iload 4, 2)) ∧ (decode cX8_has 40 = .ok (.goto 8, 3)) ∧ (decode cX8_has 43 = .ok (.bipush 9, 2)) ∧ (decode cX8_has 45 = .ok (.iload 4, 2)) ∧ (decode cX8_has 47 = .ok (.isub, 1)) ∧ (decode cX8_has 48 = .ok (.imul, 1)) ∧ (decode cX8_has 49 = .ok (.iadd, 1)) ∧ (decode cX8_has 50 = .ok (.istore_n 2, 1)) ∧ (decode cX8_has 51 = .ok (.iinc 3 1, 3)) ∧ (decode cX8_has 54 = .ok (.goto (-50), 3)) ∧ (decode cX8_has 57 = .ok (.iload_n 2, 1)) ∧ (decode cX8_has 58 = .ok (.ireturn, 1)) := by decide +kernel
theorem dX8_has_33 : decode cX8_has 33 = .ok (.iaload, 1) := edX8_has_33.1
theorem dX8_has_34 : decode cX8_has 34 = .ok (.iload_n 1, 1) := edX8_has_33.2.1
theorem dX8_has_35 : decode cX8_has 35 = .ok (.ifCond .ne 8, 3) := edX8_has_33.2.2.1
theorem dX8_has_38 : decode cX8_has 38 = .ok (.iload 4, 2) := edX8_has_33.2.2.2.1
theorem dX8_has_40 : decode cX8_has 40 = .ok (.goto 8, 3) := edX8_has_33.2.2.2.2.1
theorem dX8_has_43 : decode cX8_has 43 = .ok (.bipush 9, 2) := edX8_has_33.2.2.2.2.2.1
theorem dX8_has_45 : decode cX8_has 45 = .ok (.iload 4, 2) := edX8_has_33.2.2.2.2.2.2.1
theorem dX8_has_47 : decode cX8_has 47 = .ok (.isub, 1) := edX8_has_33.2.2.2.2.2.2.2.1
theorem dX8_has_48 : decode cX8_has 48 = .ok (.imul, 1) := edX8_has_33.2.2.2.2.2.2.2.2.1
theorem dX8_has_49 : decode cX8_has 49 = .ok (.iadd, 1) := edX8_has_33.2.2.2.2.2.2.2.2.2.1
theorem dX8_has_50 : decode cX8_has 50 = .ok (.istore_n 2, 1) := edX8_has_33.2.2.2.2.2.2.2.2.2.2.1
theorem dX8_has_51 : decode cX8_has 51 = .ok (.iinc 3 1, 3) := edX8_has_33.2.2.2.2.2.2.2.2.2.2.2.1
theorem dX8_has_54 : decode cX8_has 54 = .ok (.goto (-50), 3) := edX8_has_33.2.2.2.2.2.2.2.2.2.2.2.2.1
theorem dX8_has_57 : decode cX8_has 57 = .ok (.iload_n 2, 1) := edX8_has_33.2.2.2.2.2.2.2.2.2.2.2.2.2.1
theorem dX8_has_58 : decode cX8_has 58 = .ok (.ireturn, 1) := edX8_has_33.2.2.2.2.2.2.2.2.2.2.2.2.2.2
theorem edX8_isPeace_0 : (decode cX8_isPeace 0 = .ok (.aload_n 0, 1)) ∧ (decode cX8_isPeace 1 = .ok (.iconst 0, 1)) ∧ (decode cX8_isPeace 2 = .ok (.invokevirtual 143, 3)) ∧ (decode cX8_isPeace 5 = .ok (.aload_n 0, 1)) ∧ (decode cX8_isPeace 6 = .ok (.getfield 9, 3)) ∧ (decode cX8_isPeace 9 = .ok (.bipush 20, 2)) ∧ (decode cX8_isPeace 11 = .ok (.iaload, 1)) ∧ (decode cX8_isPeace 12 = .ok (.if_icmp .lt 22, 3)) ∧ (decode cX8_isPeace 15 = .ok (.aload_n 0, 1)) ∧ (decode cX8_isPeace 16 = .ok (.iconst 1, 1)) ∧ (decode cX8_isPeace 17 = .ok (.invokevirtual 143, 3)) ∧ (decode cX8_isPeace 20 = .ok (.aload_n 0, 1)) ∧ (decode cX8_isPeace 21 = .ok (.getfield 9, 3)) ∧ (decode cX8_isPeace 24 = .ok (.bipush 21, 2)) ∧ (decode cX8_isPeace 26 = .ok (.iaload, 1)) ∧ (decode cX8_isPeace 27 = .ok (.if_icmp .lt 7, 3)) ∧ (decode cX8_isPeace 30 = .ok (.iconst 1, 1)) ∧ (decode cX8_isPeace 31 = .ok (.goto 4, 3)) ∧ (decode cX8_isPeace 34 = .ok (.iconst 0, 1)) ∧ (decode cX8_isPeace 35 = .ok (.ireturn, 1)) := by decide +kernel
theorem dX8_isPeace_0 : decode cX8_isPeace 0 = .ok (.aload_n 0, 1) := edX8_isPeace_0.1
theorem dX8_isPeace_1 : decode cX8_isPeace 1 = .ok (.iconst 0, 1) := edX8_isPeace_0.2.1
theorem dX8_isPeace_2 : decode cX8_isPeace 2 = .ok (.invokevirtual 143, 3) := edX8_isPeace_0.2.2.1
theorem dX8_isPeace_5 : decode cX8_isPeace 5 = .ok (.aload_n 0, 1) := edX8_isPeace_0.2.2.2.1
theorem dX8_isPeace_6 : decode cX8_isPeace 6 = .ok (.getfield 9, 3) := edX8_isPeace_0.2.2.2.2.1
theorem dX8_isPeace_9 : decode cX8_isPeace 9 = .ok (.bipush 20, 2) := edX8_isPeace_0.2.2.2.2.2.1
theorem dX8_isPeace_11 : decode cX8_isPeace 11 = .ok (.iaload, 1) := edX8_isPeace_0.2.2.2.2.2.2.1
theorem dX8_isPeace_12 : decode cX8_isPeace 12 = .ok (.if_icmp .lt 22, 3) := edX8_isPeace_0.2.2.2.2.2.2.2.1
theorem dX8_isPeace_15 : decode cX8_isPeace 15 = .ok (.aload_n 0, 1) := edX8_isPeace_0.2.2.2.2.2.2.2.2.1
theorem dX8_isPeace_16 : decode cX8_isPeace 16 = .ok (.iconst 1, 1) := edX8_isPeace_0.2.2.2.2.2.2.2.2.2.1
theorem dX8_isPeace_17 : decode cX8_isPeace 17 = .ok (.invokevirtual 143, 3) := edX8_isPeace_0.2.2.2.2.2.2.2.2.2.2.1
theorem dX8_isPeace_20 : decode cX8_isPeace 20 = .ok (.aload_n 0, 1) := edX8_isPeace_0.2.2.2.2.2.2.2.2.2.2.2.1
theorem dX8_isPeace_21 : decode cX8_isPeace 21 = .ok (.getfield 9, 3) := edX8_isPeace_0.2.2.2.2.2.2.2.2.2.2.2.2.1
theorem dX8_isPeace_24 : decode cX8_isPeace 24 = .ok (.bipush 21, 2) := edX8_isPeace_0.2.2.2.2.2.2.2.2.2.2.2.2.2.1
theorem dX8_isPeace_26 : decode cX8_isPeace 26 = .ok (.iaload, 1) := edX8_isPeace_0.2.2.2.2.2.2.2.2.2.2.2.2.2.2.1
theorem dX8_isPeace_27 : decode cX8_isPeace 27 = .ok (.if_icmp .lt 7, 3) := edX8_isPeace_0.2.2.2.2.2.2.2.2.2.2.2.2.2.2.2.1
theorem dX8_isPeace_30 : decode cX8_isPeace 30 = .ok (.iconst 1, 1) := edX8_isPeace_0.2.2.2.2.2.2.2.2.2.2.2.2.2.2.2.2.1
theorem dX8_isPeace_31 : decode cX8_isPeace 31 = .ok (.goto 4, 3) := edX8_isPeace_0.2.2.2.2.2.2.2.2.2.2.2.2.2.2.2.2.2.1
theorem dX8_isPeace_34 : decode cX8_isPeace 34 = .ok (.iconst 0, 1) := edX8_isPeace_0.2.2.2.2.2.2.2.2.2.2.2.2.2.2.2.2.2.2.1
theorem dX8_isPeace_35 : decode cX8_isPeace 35 = .ok (.ireturn, 1) := edX8_isPeace_0.2.2.2.2.2.2.2.2.2.2.2.2.2.2.2.2.2.2.2
theorem edX8_letter_0 : (decode cX8_letter 0 = .ok (.aload_n 0, 1)) ∧ (decode cX8_letter 1 = .ok (.iload_n 1, 1)) ∧ (decode cX8_letter 2 = .ok (.iconst 3, 1)) ∧ (decode cX8_letter 3 = .ok (.aload_n 0, 1)) ∧ (decode cX8_letter 4 = .ok (.iload_n 1, 1)) ∧ (decode cX8_letter 5 = .ok (.iconst 3, 1)) ∧ (decode cX8_letter 6 = .ok (.invokevirtual 101, 3)) ∧ (decode cX8_letter 9 = .ok (.iconst 1, 1)) ∧ (decode cX8_letter 10 = .ok (.iadd, 1)) ∧ (decode cX8_letter 11 = .ok (.invokevirtual 87, 3)) ∧ (decode cX8_letter 14 = .ok (.aload_n 0, 1)) ∧ (decode cX8_letter 15 = .ok (.invokevirtual 139, 3)) ∧ (decode cX8_letter 18 = .ok (.bipush 100, 2)) ∧ (decode cX8_letter 20 = .ok (.irem, 1)) ∧ (decode cX8_letter 21 = .ok (.aload_n 0, 1)) ∧ (decode cX8_letter 22 = .ok (.getfield 9, 3)) ∧ (decode cX8_letter 25 = .ok (.iconst 5, 1)) ∧ (decode cX8_letter 26 = .ok (.iaload, 1)) ∧ (decode cX8_letter 27 = .ok (.if_icmp .ge 15, 3)) ∧ (decode cX8_letter 30 = .ok (.aload_n 0, 1)) ∧ (decode cX8_letter 31 = .ok (.getfield 9, 3)) ∧ (decode cX8_letter 34 = .ok (.bipush 6, 2)) ∧ (decode cX8_letter 36 = .ok (.dup2, 1)) ∧ (decode cX8_letter 37 = .ok (.iaload, 1)) := by decide +kernel
theorem dX8_letter_0 : decode cX8_letter 0 = .ok (.aload_n 0, 1) := edX8_letter_0.1
theorem dX8_letter_1 : decode cX8_letter 1 = .ok (.iload_n 1, 1) := edX8_letter_0.2.1
theorem dX8_letter_2 : decode cX8_letter 2 = .ok (.iconst 3, 1) := edX8_letter_0.2.2.1
theorem dX8_letter_3 : decode cX8_letter 3 = .ok (.aload_n 0, 1) := edX8_letter_0.2.2.2.1
theorem dX8_letter_4 : decode cX8_letter 4 = .ok (.iload_n 1, 1) := edX8_letter_0.2.2.2.2.1
theorem dX8_letter_5 : decode cX8_letter 5 = .ok (.iconst 3, 1) := edX8_letter_0.2.2.2.2.2.1
theorem dX8_letter_6 : decode cX8_letter 6 = .ok (.invokevirtual 101, 3) := edX8_letter_0.2.2.2.2.2.2.1
theorem dX8_letter_9 : decode cX8_letter 9 = .ok (.iconst 1, 1) := edX8_letter_0.2.2.2.2.2.2.2.1
theorem dX8_letter_10 : decode cX8_letter 10 = .ok (.iadd, 1) := edX8_letter_0.2.2.2.2.2.2.2.2.1
theorem dX8_letter_11 : decode cX8_letter 11 = .ok (.invokevirtual 87, 3) := edX8_letter_0.2.2.2.2.2.2.2.2.2.1
theorem dX8_letter_14 : decode cX8_letter 14 = .ok (.aload_n 0, 1) := edX8_letter_0.2.2.2.2.2.2.2.2.2.2.1
theorem dX8_letter_15 : decode cX8_letter 15 = .ok (.invokevirtual 139, 3) := edX8_letter_0.2.2.2.2.2.2.2.2.2.2.2.1
theorem dX8_letter_18 : decode cX8_letter 18 = .ok (.bipush 100, 2) := edX8_letter_0.2.2.2.2.2.2.2.2.2.2.2.2.1
theorem dX8_letter_20 : decode cX8_letter 20 = .ok (.irem, 1) := edX8_letter_0.2.2.2.2.2.2.2.2.2.2.2.2.2.1
theorem dX8_letter_21 : decode cX8_letter 21 = .ok (.aload_n 0, 1) := edX8_letter_0.2.2.2.2.2.2.2.2.2.2.2.2.2.2.1
theorem dX8_letter_22 : decode cX8_letter 22 = .ok (.getfield 9, 3) := edX8_letter_0.2.2.2.2.2.2.2.2.2.2.2.2.2.2.2.1
theorem dX8_letter_25 : decode cX8_letter 25 = .ok (.iconst 5, 1) := edX8_letter_0.2.2.2.2.2.2.2.2.2.2.2.2.2.2.2.2.1
theorem dX8_letter_26 : decode cX8_letter 26 = .ok (.iaload, 1) := edX8_letter_0.2.2.2.2.2.2.2.2.2.2.2.2.2.2.2.2.2.1
theorem dX8_letter_27 : decode cX8_letter 27 = .ok (.if_icmp .ge 15, 3) := edX8_letter_0.2.2.2.2.2.2.2.2.2.2.2.2.2.2.2.2.2.2.1
theorem dX8_letter_30 : decode cX8_letter 30 = .ok (.aload_n 0, 1) := edX8_letter_0.2.2.2.2.2.2.2.2.2.2.2.2.2.2.2.2.2.2.2.1
theorem dX8_letter_31 : decode cX8_letter 31 = .ok (.getfield 9, 3) := edX8_letter_0.2.2.2.2.2.2.2.2.2.2.2.2.2.2.2.2.2.2.2.2.1
theorem dX8_letter_34 : decode cX8_letter 34 = .ok (.bipush 6, 2) := edX8_letter_0.2.2.2.2.2.2.2.2.2.2.2.2.2.2.2.2.2.2.2.2.2.1
theorem dX8_letter_36 : decode cX8_letter 36 = .ok (.dup2, 1) := edX8_letter_0.2.2.2.2.2.2.2.2.2.2.2.2.2.2.2.2.2.2.2.2.2.2.1
theorem dX8_letter_37 : decode cX8_letter 37 = .ok (.iaload, 1) := edX8_letter_0.2.2.2.2.2.2.2.2.2.2.2.2.2.2.2.2.2.2.2.2.2.2.2
theorem edX8_letter_38 : (decode cX8_letter 38 = .ok (.iconst 1, 1)) ∧ (decode cX8_letter 39 = .ok (.iadd, 1)) ∧ (decode cX8_letter 40 = .ok (.iastore, 1)) ∧ (decode cX8_letter 41 = .ok (.return_, 1)) ∧ (decode cX8_letter 42 = .ok (.aload_n 0, 1)) ∧ (decode cX8_letter 43 = .ok (.iload_n 1, 1)) ∧ (decode cX8_letter 44 = .ok (.invokevirtual 118, 3)) ∧ (decode cX8_letter 47 = .ok (.bipush 50, 2)) ∧ (decode cX8_letter 49 = .ok (.if_icmp .lt 14, 3)) ∧ (decode cX8_letter 52 = .ok (.aload_n 0, 1)) ∧ (decode cX8_letter 53 = .ok (.dup, 1)) ∧ (decode cX8_letter 54 = .ok (.getfield 146, 3)) ∧ (decode cX8_letter 57 = .ok (.iconst 5, 1)) ∧ (decode cX8_letter 58 = .ok (.iadd, 1)) ∧ (decode cX8_letter 59 = .ok (.putfield 146, 3)) ∧ (decode cX8_letter 62 = .ok (.return_, 1)) ∧ (decode cX8_letter 63 = .ok (.aload_n 0, 1)) ∧ (decode cX8_letter 64 = .ok (.iload_n 1, 1)) ∧ (decode cX8_letter 65 = .ok (.invokevirtual 121, 3)) ∧ (decode cX8_letter 68 = .ok (.istore_n 2, 1)) ∧ (decode cX8_letter 69 = .ok (.iload_n 2, 1)) ∧ (decode cX8_letter 70 = .ok (.ifCond .lt 50, 3)) ∧ (decode cX8_letter 73 = .ok (.aload_n 0, 1)) ∧ (decode cX8_letter 74 = .ok (.getfield 23, 3)) := by decide +kernel
theorem dX8_letter_38 : decode cX8_letter 38 = .ok (.iconst 1, 1) := edX8_letter_38.1
theorem dX8_letter_39 : decode cX8_letter 39 = .ok (.iadd, 1) := edX8_letter_38.2.1
theorem dX8_letter_40 : decode cX8_letter 40 = .ok (.iastore, 1) := edX8_letter_38.2.2.1
theorem dX8_letter_41 : decode cX8_letter 41 = .ok (.return_, 1) := edX8_letter_38.2.2.2.1
theorem dX8_letter_42 : decode cX8_letter 42 = .ok (.aload_n 0, 1) := edX8_letter_38.2.2.2.2.1
theorem dX8_letter_43 : decode cX8_letter 43 = .ok (.iload_n 1, 1) := edX8_letter_38.2.2.2.2.2.1
theorem dX8_letter_44 : decode cX8_letter 44 = .ok (.invokevirtual 118, 3) := edX8_letter_38.2.2.2.2.2.2.1
theorem dX8_letter_47 : decode cX8_letter 47 = .ok (.bipush 50, 2) := edX8_letter_38.2.2.2.2.2.2.2.1
theorem dX8_letter_49 : decode cX8_letter 49 = .ok (.if_icmp .lt 14, 3) := edX8_letter_38.2.2.2.2.2.2.2.2.1
theorem dX8_letter_52 : decode cX8_letter 52 = .ok (.aload_n 0, 1) := edX8_letter_38.2.2.2.2.2.2.2.2.2.1
theorem dX8_letter_53 : decode cX8_letter 53 = .ok (.dup, 1) := edX8_letter_38.2.2.2.2.2.2.2.2.2.2.1
theorem dX8_letter_54 : decode cX8_letter 54 = .ok (.getfield 146, 3) := edX8_letter_38.2.2.2.2.2.2.2.2.2.2.2.1
theorem dX8_letter_57 : decode cX8_letter 57 = .ok (.iconst 5, 1) := edX8_letter_38.2.2.2.2.2.2.2.2.2.2.2.2.1
theorem dX8_letter_58 : decode cX8_letter 58 = .ok (.iadd, 1) := edX8_letter_38.2.2.2.2.2.2.2.2.2.2.2.2.2.1
theorem dX8_letter_59 : decode cX8_letter 59 = .ok (.putfield 146, 3) := edX8_letter_38.2.2.2.2.2.2.2.2.2.2.2.2.2.2.1
theorem dX8_letter_62 : decode cX8_letter 62 = .ok (.return_, 1) := edX8_letter_38.2.2.2.2.2.2.2.2.2.2.2.2.2.2.2.1
theorem dX8_letter_63 : decode cX8_letter 63 = .ok (.aload_n 0, 1) := edX8_letter_38.2.2.2.2.2.2.2.2.2.2.2.2.2.2.2.2.1
theorem dX8_letter_64 : decode cX8_letter 64 = .ok (.iload_n 1, 1) := edX8_letter_38.2.2.2.2.2.2.2.2.2.2.2.2.2.2.2.2.2.1
theorem dX8_letter_65 : decode cX8_letter 65 = .ok (.invokevirtual 121, 3) := edX8_letter_38.2.2.2.2.2.2.2.2.2.2.2.2.2.2.2.2.2.2.1
theorem dX8_letter_68 : decode cX8_letter 68 = .ok (.istore_n 2, 1) := edX8_letter_38.2.2.2.2.2.2.2.2.2.2.2.2.2.2.2.2.2.2.2.1
theorem dX8_letter_69 : decode cX8_letter 69 = .ok (.iload_n 2, 1) := edX8_letter_38.2.2.2.2.2.2.2.2.2.2.2.2.2.2.2.2.2.2.2.2.1
theorem dX8_letter_70 : decode cX8_letter 70 = .ok (.ifCond .lt 50, 3) := edX8_letter_38.2.2.2.2.2.2.2.2.2.2.2.2.2.2.2.2.2.2.2.2.2.1
theorem dX8_letter_73 : decode cX8_letter 73 = .ok (.aload_n 0, 1) := edX8_letter_38.2.2.2.2.2.2.2.2.2.2.2.2.2.2.2.2.2.2.2.2.2.2.1
theorem dX8_letter_74 : decode cX8_letter 74 = .ok (.getfield 23, 3) := edX8_letter_38.2.2.2.2.2.2.2.2.2.2.2.2.2.2.2.2.2.2.2.2.2.2.2
theorem edX8_letter_77 : (decode cX8_letter 77 = .ok (.iload_n 2, 1)) ∧ (decode cX8_letter 78 = .ok (.dup2, 1)) ∧ (decode cX8_letter 79 = .ok (.iaload, 1)) ∧ (decode cX8_letter 80 = .ok (.aload_n 0, 1)) ∧ (decode cX8_letter 81 = .ok (.iload_n 1, 1)) ∧ (decode cX8_letter 82 = .ok (.iconst 1, 1)) ∧ (decode cX8_letter 83 = .ok (.invokevirtual 101, 3)) ∧ (decode cX8_letter 86 = .ok (.ifCond .ne 7, 3)) ∧ (decode cX8_letter 89 = .ok (.iconst (-1), 1)) ∧ (decode cX8_letter 90 = .ok (.goto 4, 3)) ∧ (decode cX8_letter 93 = .ok (.iconst 1, 1)) ∧ (decode cX8_letter 94 = .ok (.iadd, 1)) ∧ (decode cX8_letter 95 = .ok (.iastore, 1)) ∧ (decode cX8_letter 96 = .ok (.aload_n 0, 1)) ∧ (decode cX8_letter 97 = .ok (.iload_n 1, 1)) ∧ (decode cX8_letter 98 = .ok (.iconst 4, 1)) ∧ (decode cX8_letter 99 = .ok (.aload_n 0, 1)) ∧ (decode cX8_letter 100 = .ok (.iload_n 1, 1)) ∧ (decode cX8_letter 101 = .ok (.iconst 4, 1)) ∧ (decode cX8_letter 102 = .ok (.invokevirtual 101, 3)) ∧ (decode cX8_letter 105 = .ok (.iconst 1, 1)) ∧ (decode cX8_letter 106 = .ok (.iadd, 1)) ∧ (decode cX8_letter 107 = .ok (.invokevirtual 87, 3)) ∧ (decode cX8_letter 110 = .ok (.aload_n 0, 1)) := by decide +kernel
theorem dX8_letter_77 : decode cX8_letter 77 = .ok (.iload_n 2, 1) := edX8_letter_77.1
theorem dX8_letter_78 : decode cX8_letter 78 = .ok (.dup2, 1) := edX8_letter_77.2.1
theorem dX8_letter_79 : decode cX8_letter 79 = .ok (.iaload, 1) := edX8_letter_77.2.2.1
theorem dX8_letter_80 : decode cX8_letter 80 = .ok (.aload_n 0, 1) := edX8_letter_77.2.2.2.1
theorem dX8_letter_81 : decode cX8_letter 81 = .ok (.iload_n 1, 1) := edX8_letter_77.2.2.2.2.1
theorem dX8_letter_82 : decode cX8_letter 82 = .ok (.iconst 1, 1) := edX8_letter_77.2.2.2.2.2.1
theorem dX8_letter_83 : decode cX8_letter 83 = .ok (.invokevirtual 101, 3) := edX8_letter_77.2.2.2.2.2.2.1
theorem dX8_letter_86 : decode cX8_letter 86 = .ok (.ifCond .ne 7, 3) := edX8_letter_77.2.2.2.2.2.2.2.1
theorem dX8_letter_89 : decode cX8_letter 89 = .ok (.iconst (-1), 1) := edX8_letter_77.2.2.2.2.2.2.2.2.1
theorem dX8_letter_90 : decode cX8_letter 90 = .ok (.goto 4, 3) := edX8_letter_77.2.2.2.2.2.2.2.2.2.1
theorem dX8_letter_93 : decode cX8_letter 93 = .ok (.iconst 1, 1) := edX8_letter_77.2.2.2.2.2.2.2.2.2.2.1
theorem dX8_letter_94 : decode cX8_letter 94 = .ok (.iadd, 1) := edX8_letter_77.2.2.2.2.2.2.2.2.2.2.2.1
theorem dX8_letter_95 : decode cX8_letter 95 = .ok (.iastore, 1) := edX8_letter_77.2.2.2.2.2.2.2.2.2.2.2.2.1
theorem dX8_letter_96 : decode cX8_letter 96 = .ok (.aload_n 0, 1) := edX8_letter_77.2.2.2.2.2.2.2.2.2.2.2.2.2.1
theorem dX8_letter_97 : decode cX8_letter 97 = .ok (.iload_n 1, 1) := edX8_letter_77.2.2.2.2.2.2.2.2.2.2.2.2.2.2.1
theorem dX8_letter_98 : decode cX8_letter 98 = .ok (.iconst 4, 1) := edX8_letter_77.2.2.2.2.2.2.2.2.2.2.2.2.2.2.2.1
theorem dX8_letter_99 : decode cX8_letter 99 = .ok (.aload_n 0, 1) := edX8_letter_77.2.2.2.2.2.2.2.2.2.2.2.2.2.2.2.2.1
theorem dX8_letter_100 : decode cX8_letter 100 = .ok (.iload_n 1, 1) := edX8_letter_77.2.2.2.2.2.2.2.2.2.2.2.2.2.2.2.2.2.1
theorem dX8_letter_101 : decode cX8_letter 101 = .ok (.iconst 4, 1) := edX8_letter_77.2.2.2.2.2.2.2.2.2.2.2.2.2.2.2.2.2.2.1
theorem dX8_letter_102 : decode cX8_letter 102 = .ok (.invokevirtual 101, 3) := edX8_letter_77.2.2.2.2.2.2.2.2.2.2.2.2.2.2.2.2.2.2.2.1
theorem dX8_letter_105 : decode cX8_letter 105 = .ok (.iconst 1, 1) := edX8_letter_77.2.2.2.2.2.2.2.2.2.2.2.2.2.2.2.2.2.2.2.2.1
theorem dX8_letter_106 : decode cX8_letter 106 = .ok (.iadd, 1) := edX8_letter_77.2.2.2.2.2.2.2.2.2.2.2.2.2.2.2.2.2.2.2.2.2.1
theorem dX8_letter_107 : decode cX8_letter 107 = .ok (.invokevirtual 87, 3) := edX8_letter_77.2.2.2.2.2.2.2.2.2.2.2.2.2.2.2.2.2.2.2.2.2.2.1
theorem dX8_letter_110 : decode cX8_letter 110 = .ok (.aload_n 0, 1) := edX8_letter_77.2.2.2.2.2.2.2.2.2.2.2.2.2.2.2.2.2.2.2.2.2.2.2
theorem edX8_letter_111 : (decode cX8_letter 111 = .ok (.dup, 1)) ∧ (decode cX8_letter 112 = .ok (.getfield 146, 3)) ∧ (decode cX8_letter 115 = .ok (.iconst 1, 1)) ∧ (decode cX8_letter 116 = .ok (.isub, 1)) ∧ (decode cX8_letter 117 = .ok (.putfield 146, 3)) ∧ (decode cX8_letter 120 = .ok (.return_, 1)) := by decide +kernel
theorem dX8_letter_111 : decode cX8_letter 111 = .ok (.dup, 1) := edX8_letter_111.1
theorem dX8_letter_112 : decode cX8_letter 112 = .ok (.getfield 146, 3) := edX8_letter_111.2.1
theorem dX8_letter_115 : decode cX8_letter 115 = .ok (.iconst 1, 1) := edX8_letter_111.2.2.1
theorem dX8_letter_116 : decode cX8_letter 116 = .ok (.isub, 1) := edX8_letter_111.2.2.2.1
theorem dX8_letter_117 : decode cX8_letter 117 = .ok (.putfield 146, 3) := edX8_letter_111.2.2.2.2.1
theorem dX8_letter_120 : decode cX8_letter 120 = .ok (.return_, 1) := edX8_letter_111.2.2.2.2.2
theorem edX8_post_0 : (decode cX8_post 0 = .ok (.aload_n 0, 1)) ∧ (decode cX8_post 1 = .ok (.getfield 9, 3)) ∧ (decode cX8_post 4 = .ok (.iconst 2, 1)) ∧ (decode cX8_post 5 = .ok (.dup2, 1)) ∧ (decode cX8_post 6 = .ok (.iaload, 1)) ∧ (decode cX8_post 7 = .ok (.iconst 1, 1)) ∧ (decode cX8_post 8 = .ok (.iadd, 1)) ∧ (decode cX8_post 9 = .ok (.iastore, 1)) ∧ (decode cX8_post 10 = .ok (.aload_n 0, 1)) ∧ (decode cX8_post 11 = .ok (.invokevirtual 149, 3)) ∧ (decode cX8_post 14 = .ok (.ifCond .ne 18, 3)) ∧ (decode cX8_post 17 = .ok (.aload_n 0, 1)) ∧ (decode cX8_post 18 = .ok (.getfield 9, 3)) ∧ (decode cX8_post 21 = .ok (.iconst 3, 1)) ∧ (decode cX8_post 22 = .ok (.iaload, 1)) ∧ (decode cX8_post 23 = .ok (.aload_n 0, 1)) ∧ (decode cX8_post 24 = .ok (.getfield 9, 3)) ∧ (decode cX8_post 27 = .ok (.iconst 4, 1)) ∧ (decode cX8_post 28 = .ok (.iaload, 1)) ∧ (decode cX8_post 29 = .ok (.if_icmp .lt 4, 3)) ∧ (decode cX8_post 32 = .ok (.return_, 1)) ∧ (decode cX8_post 33 = .ok (.iconst 0, 1)) ∧ (decode cX8_post 34 = .ok (.istore_n 1, 1)) ∧ (decode cX8_post 35 = .ok (.iload_n 1, 1)) := by decide +kernel
theorem dX8_post_0 : decode cX8_post 0 = .ok (.aload_n 0, 1) := edX8_post_0.1
theorem dX8_post_1 : decode cX8_post 1 = .ok (.getfield 9, 3) := edX8_post_0.2.1
theorem dX8_post_4 : decode cX8_post 4 = .ok (.iconst 2, 1) := edX8_post_0.2.2.1
theorem dX8_post_5 : decode cX8_post 5 = .ok (.dup2, 1) := edX8_post_0.2.2.2.1
theorem dX8_post_6 : decode cX8_post 6 = .ok (.iaload, 1) := edX8_post_0.2.2.2.2.1
theorem dX8_post_7 : decode cX8_post 7 = .ok (.iconst 1, 1) := edX8_post_0.2.2.2.2.2.1
theorem dX8_post_8 : decode cX8_post 8 = .ok (.iadd, 1) := edX8_post_0.2.2.2.2.2.2.1
theorem dX8_post_9 : decode cX8_post 9 = .ok (.iastore, 1) := edX8_post_0.2.2.2.2.2.2.2.1
theorem dX8_post_10 : decode cX8_post 10 = .ok (.aload_n 0, 1) := edX8_post_0.2.2.2.2.2.2.2.2.1
theorem dX8_post_11 : decode cX8_post 11 = .ok (.invokevirtual 149, 3) := edX8_post_0.2.2.2.2.2.2.2.2.2.1
theorem dX8_post_14 : decode cX8_post 14 = .ok (.ifCond .ne 18, 3) := edX8_post_0.2.2.2.2.2.2.2.2.2.2.1
theorem dX8_post_17 : decode cX8_post 17 = .ok (.aload_n 0, 1) := edX8_post_0.2.2.2.2.2.2.2.2.2.2.2.1
theorem dX8_post_18 : decode cX8_post 18 = .ok (.getfield 9, 3) := edX8_post_0.2.2.2.2.2.2.2.2.2.2.2.2.1
theorem dX8_post_21 : decode cX8_post 21 = .ok (.iconst 3, 1) := edX8_post_0.2.2.2.2.2.2.2.2.2.2.2.2.2.1
theorem dX8_post_22 : decode cX8_post 22 = .ok (.iaload, 1) := edX8_post_0.2.2.2.2.2.2.2.2.2.2.2.2.2.2.1
theorem dX8_post_23 : decode cX8_post 23 = .ok (.aload_n 0, 1) := edX8_post_0.2.2.2.2.2.2.2.2.2.2.2.2.2.2.2.1
theorem dX8_post_24 : decode cX8_post 24 = .ok (.getfield 9, 3) := edX8_post_0.2.2.2.2.2.2.2.2.2.2.2.2.2.2.2.2.1
theorem dX8_post_27 : decode cX8_post 27 = .ok (.iconst 4, 1) := edX8_post_0.2.2.2.2.2.2.2.2.2.2.2.2.2.2.2.2.2.1
theorem dX8_post_28 : decode cX8_post 28 = .ok (.iaload, 1) := edX8_post_0.2.2.2.2.2.2.2.2.2.2.2.2.2.2.2.2.2.2.1
theorem dX8_post_29 : decode cX8_post 29 = .ok (.if_icmp .lt 4, 3) := edX8_post_0.2.2.2.2.2.2.2.2.2.2.2.2.2.2.2.2.2.2.2.1
theorem dX8_post_32 : decode cX8_post 32 = .ok (.return_, 1) := edX8_post_0.2.2.2.2.2.2.2.2.2.2.2.2.2.2.2.2.2.2.2.2.1
theorem dX8_post_33 : decode cX8_post 33 = .ok (.iconst 0, 1) := edX8_post_0.2.2.2.2.2.2.2.2.2.2.2.2.2.2.2.2.2.2.2.2.2.1
theorem dX8_post_34 : decode cX8_post 34 = .ok (.istore_n 1, 1) := edX8_post_0.2.2.2.2.2.2.2.2.2.2.2.2.2.2.2.2.2.2.2.2.2.2.1
theorem dX8_post_35 : decode cX8_post 35 = .ok (.iload_n 1, 1) := edX8_post_0.2.2.2.2.2.2.2.2.2.2.2.2.2.2.2.2.2.2.2.2.2.2.2
theorem edX8_post_36 : (decode cX8_post 36 = .ok (.iconst 4, 1)) ∧ (decode cX8_post 37 = .ok (.if_icmp .ge 16, 3)) ∧ (decode cX8_post 40 = .ok (.aload_n 0, 1)) ∧ (decode cX8_post 41 = .ok (.getfield 23, 3)) ∧ (decode cX8_post 44 = .ok (.iload_n 1, 1)) ∧ (decode cX8_post 45 = .ok (.iconst 0, 1)) ∧ (decode cX8_post 46 = .ok (.iastore, 1)) ∧ (decode cX8_post 47 = .ok (.iinc 1 1, 3)) ∧ (decode cX8_post 50 = .ok (.goto (-15), 3)) ∧ (decode cX8_post 53 = .ok (.aload_n 0, 1)) ∧ (decode cX8_post 54 = .ok (.iconst 0, 1)) ∧ (decode cX8_post 55 = .ok (.putfield 146, 3)) ∧ (decode cX8_post 58 = .ok (.iconst 0, 1)) ∧ (decode cX8_post 59 = .ok (.istore_n 1, 1)) ∧ (decode cX8_post 60 = .ok (.iload_n 1, 1)) ∧ (decode cX8_post 61 = .ok (.aload_n 0, 1)) ∧ (decode cX8_post 62 = .ok (.getfield 9, 3)) ∧ (decode cX8_post 65 = .ok (.iconst 1, 1)) ∧ (decode cX8_post 66 = .ok (.iaload, 1)) ∧ (decode cX8_post 67 = .ok (.if_icmp .ge 22, 3)) ∧ (decode cX8_post 70 = .ok (.iload_n 1, 1)) ∧ (decode cX8_post 71 = .ok (.aload_n 0, 1)) ∧ (decode cX8_post 72 = .ok (.getfield 19, 3)) ∧ (decode cX8_post 75 = .ok (.if_icmp .eq 8, 3)) := by decide +kernel
theorem dX8_post_36 : decode cX8_post 36 = .ok (.iconst 4, 1) := edX8_post_36.1
theorem dX8_post_37 : decode cX8_post 37 = .ok (.if_icmp .ge 16, 3) := edX8_post_36.2.1
theorem dX8_post_40 : decode cX8_post 40 = .ok (.aload_n 0, 1) := edX8_post_36.2.2.1
theorem dX8_post_41 : decode cX8_post 41 = .ok (.getfield 23, 3) := edX8_post_36.2.2.2.1
theorem dX8_post_44 : decode cX8_post 44 = .ok (.iload_n 1, 1) := edX8_post_36.2.2.2.2.1
theorem dX8_post_45 : decode cX8_post 45 = .ok (.iconst 0, 1) := edX8_post_36.2.2.2.2.2.1
theorem dX8_post_46 : decode cX8_post 46 = .ok (.iastore, 1) := edX8_post_36.2.2.2.2.2.2.1
theorem dX8_post_47 : decode cX8_post 47 = .ok (.iinc 1 1, 3) := edX8_post_36.2.2.2.2.2.2.2.1
theorem dX8_post_50 : decode cX8_post 50 = .ok (.goto (-15), 3) := edX8_post_36.2.2.2.2.2.2.2.2.1
theorem dX8_post_53 : decode cX8_post 53 = .ok (.aload_n 0, 1) := edX8_post_36.2.2.2.2.2.2.2.2.2.1
theorem dX8_post_54 : decode cX8_post 54 = .ok (.iconst 0, 1) := edX8_post_36.2.2.2.2.2.2.2.2.2.2.1
theorem dX8_post_55 : decode cX8_post 55 = .ok (.putfield 146, 3) := edX8_post_36.2.2.2.2.2.2.2.2.2.2.2.1
theorem dX8_post_58 : decode cX8_post 58 = .ok (.iconst 0, 1) := edX8_post_36.2.2.2.2.2.2.2.2.2.2.2.2.1
theorem dX8_post_59 : decode cX8_post 59 = .ok (.istore_n 1, 1) := edX8_post_36.2.2.2.2.2.2.2.2.2.2.2.2.2.1
theorem dX8_post_60 : decode cX8_post 60 = .ok (.iload_n 1, 1) := edX8_post_36.2.2.2.2.2.2.2.2.2.2.2.2.2.2.1
theorem dX8_post_61 : decode cX8_post 61 = .ok (.aload_n 0, 1) := edX8_post_36.2.2.2.2.2.2.2.2.2.2.2.2.2.2.2.1
theorem dX8_post_62 : decode cX8_post 62 = .ok (.getfield 9, 3) := edX8_post_36.2.2.2.2.2.2.2.2.2.2.2.2.2.2.2.2.1
theorem dX8_post_65 : decode cX8_post 65 = .ok (.iconst 1, 1) := edX8_post_36.2.2.2.2.2.2.2.2.2.2.2.2.2.2.2.2.2.1
theorem dX8_post_66 : decode cX8_post 66 = .ok (.iaload, 1) := edX8_post_36.2.2.2.2.2.2.2.2.2.2.2.2.2.2.2.2.2.2.1
theorem dX8_post_67 : decode cX8_post 67 = .ok (.if_icmp .ge 22, 3) := edX8_post_36.2.2.2.2.2.2.2.2.2.2.2.2.2.2.2.2.2.2.2.1
theorem dX8_post_70 : decode cX8_post 70 = .ok (.iload_n 1, 1) := edX8_post_36.2.2.2.2.2.2.2.2.2.2.2.2.2.2.2.2.2.2.2.2.1
theorem dX8_post_71 : decode cX8_post 71 = .ok (.aload_n 0, 1) := edX8_post_36.2.2.2.2.2.2.2.2.2.2.2.2.2.2.2.2.2.2.2.2.2.1
theorem dX8_post_72 : decode cX8_post 72 = .ok (.getfield 19, 3) := edX8_post_36.2.2.2.2.2.2.2.2.2.2.2.2.2.2.2.2.2.2.2.2.2.2.1
theorem dX8_post_75 : decode cX8_post 75 = .ok (.if_icmp .eq 8, 3) := edX8_post_36.2.2.2.2.2.2.2.2.2.2.2.2.2.2.2.2.2.2.2.2.2.2.2
theorem edX8_post_78 : (decode cX8_post 78 = .ok (.aload_n 0, 1)) ∧ (decode cX8_post 79 = .ok (.iload_n 1, 1)) ∧ (decode cX8_post 80 = .ok (.invokevirtual 153, 3)) ∧ (decode cX8_post 83 = .ok (.iinc 1 1, 3)) ∧ (decode cX8_post 86 = .ok (.goto (-26), 3)) ∧ (decode cX8_post 89 = .ok (.iconst 0, 1)) ∧ (decode cX8_post 90 = .ok (.istore_n 1, 1)) ∧ (decode cX8_post 91 = .ok (.iload_n 1, 1)) ∧ (decode cX8_post 92 = .ok (.iconst 4, 1)) ∧ (decode cX8_post 93 = .ok (.if_icmp .ge 40, 3)) ∧ (decode cX8_post 96 = .ok (.aload_n 0, 1)) ∧ (decode cX8_post 97 = .ok (.getfield 9, 3)) ∧ (decode cX8_post 100 = .ok (.bipush 8, 2)) ∧ (decode cX8_post 102 = .ok (.iload_n 1, 1)) ∧ (decode cX8_post 103 = .ok (.iadd, 1)) ∧ (decode cX8_post 104 = .ok (.aload_n 0, 1)) ∧ (decode cX8_post 105 = .ok (.getfield 9, 3)) ∧ (decode cX8_post 108 = .ok (.bipush 8, 2)) ∧ (decode cX8_post 110 = .ok (.iload_n 1, 1)) ∧ (decode cX8_post 111 = .ok (.iadd, 1)) ∧ (decode cX8_post 112 = .ok (.iaload, 1)) ∧ (decode cX8_post 113 = .ok (.aload_n 0, 1)) ∧ (decode cX8_post 114 = .ok (.getfield 23, 3)) ∧ (decode cX8_post 117 = .ok (.iload_n 1, 1)) := by decide +kernel
theorem dX8_post_78 : decode cX8_post 78 = .ok (.aload_n 0, 1) := edX8_post_78.1
theorem dX8_post_79 : decode cX8_post 79 = .ok (.iload_n 1, 1) := edX8_post_78.2.1
theorem dX8_post_80 : decode cX8_post 80 = .ok (.invokevirtual 153, 3) := edX8_post_78.2.2.1
theorem dX8_post_83 : decode cX8_post 83 = .ok (.iinc 1 1, 3) := edX8_post_78.2.2.2.1
theorem dX8_post_86 : decode cX8_post 86 = .ok (.goto (-26), 3) := edX8_post_78.2.2.2.2.1
theorem dX8_post_89 : decode cX8_post 89 = .ok (.iconst 0, 1) := edX8_post_78.2.2.2.2.2.1
theorem dX8_post_90 : decode cX8_post 90 = .ok (.istore_n 1, 1) := edX8_post_78.2.2.2.2.2.2.1
theorem dX8_post_91 : decode cX8_post 91 = .ok (.iload_n 1, 1) := edX8_post_78.2.2.2.2.2.2.2.1
theorem dX8_post_92 : decode cX8_post 92 = .ok (.iconst 4, 1) := edX8_post_78.2.2.2.2.2.2.2.2.1
theorem dX8_post_93 : decode cX8_post 93 = .ok (.if_icmp .ge 40, 3) := edX8_post_78.2.2.2.2.2.2.2.2.2.1
theorem dX8_post_96 : decode cX8_post 96 = .ok (.aload_n 0, 1) := edX8_post_78.2.2.2.2.2.2.2.2.2.2.1
theorem dX8_post_97 : decode cX8_post 97 = .ok (.getfield 9, 3) := edX8_post_78.2.2.2.2.2.2.2.2.2.2.2.1
theorem dX8_post_100 : decode cX8_post 100 = .ok (.bipush 8, 2) := edX8_post_78.2.2.2.2.2.2.2.2.2.2.2.2.1
theorem dX8_post_102 : decode cX8_post 102 = .ok (.iload_n 1, 1) := edX8_post_78.2.2.2.2.2.2.2.2.2.2.2.2.2.1
theorem dX8_post_103 : decode cX8_post 103 = .ok (.iadd, 1) := edX8_post_78.2.2.2.2.2.2.2.2.2.2.2.2.2.2.1
theorem dX8_post_104 : decode cX8_post 104 = .ok (.aload_n 0, 1) := edX8_post_78.2.2.2.2.2.2.2.2.2.2.2.2.2.2.2.1
theorem dX8_post_105 : decode cX8_post 105 = .ok (.getfield 9, 3) := edX8_post_78.2.2.2.2.2.2.2.2.2.2.2.2.2.2.2.2.1
theorem dX8_post_108 : decode cX8_post 108 = .ok (.bipush 8, 2) := edX8_post_78.2.2.2.2.2.2.2.2.2.2.2.2.2.2.2.2.2.1
theorem dX8_post_110 : decode cX8_post 110 = .ok (.iload_n 1, 1) := edX8_post_78.2.2.2.2.2.2.2.2.2.2.2.2.2.2.2.2.2.2.1
theorem dX8_post_111 : decode cX8_post 111 = .ok (.iadd, 1) := edX8_post_78.2.2.2.2.2.2.2.2.2.2.2.2.2.2.2.2.2.2.2.1
theorem dX8_post_112 : decode cX8_post 112 = .ok (.iaload, 1) := edX8_post_78.2.2.2.2.2.2.2.2.2.2.2.2.2.2.2.2.2.2.2.2.1
theorem dX8_post_113 : decode cX8_post 113 = .ok (.aload_n 0, 1) := edX8_post_78.2.2.2.2.2.2.2.2.2.2.2.2.2.2.2.2.2.2.2.2.2.1
theorem dX8_post_114 : decode cX8_post 114 = .ok (.getfield 23, 3) := edX8_post_78.2.2.2.2.2.2.2.2.2.2.2.2.2.2.2.2.2.2.2.2.2.2.1
theorem dX8_post_117 : decode cX8_post 117 = .ok (.iload_n 1, 1) := edX8_post_78.2.2.2.2.2.2.2.2.2.2.2.2.2.2.2.2.2.2.2.2.2.2.2
theorem edX8_post_118 : (decode cX8_post 118 = .ok (.iaload, 1)) ∧ (decode cX8_post 119 = .ok (.iadd, 1)) ∧ (decode cX8_post 120 = .ok (.iconst 0, 1)) ∧ (decode cX8_post 121 = .ok (.bipush 9, 2)) ∧ (decode cX8_post 123 = .ok (.invokestatic 108, 3)) ∧ (decode cX8_post 126 = .ok (.iastore, 1)) ∧ (decode cX8_post 127 = .ok (.iinc 1 1, 3)) ∧ (decode cX8_post 130 = .ok (.goto (-39), 3)) ∧ (decode cX8_post 133 = .ok (.aload_n 0, 1)) ∧ (decode cX8_post 134 = .ok (.getfield 9, 3)) ∧ (decode cX8_post 137 = .ok (.iconst 3, 1)) ∧ (decode cX8_post 138 = .ok (.aload_n 0, 1)) ∧ (decode cX8_post 139 = .ok (.getfield 9, 3)) ∧ (decode cX8_post 142 = .ok (.iconst 3, 1)) ∧ (decode cX8_post 143 = .ok (.iaload, 1)) ∧ (decode cX8_post 144 = .ok (.aload_n 0, 1)) ∧ (decode cX8_post 145 = .ok (.getfield 146, 3)) ∧ (decode cX8_post 148 = .ok (.iadd, 1)) ∧ (decode cX8_post 149 = .ok (.iconst 0, 1)) ∧ (decode cX8_post 150 = .ok (.bipush 99, 2)) ∧ (decode cX8_post 152 = .ok (.invokestatic 108, 3)) ∧ (decode cX8_post 155 = .ok (.iastore, 1)) ∧ (decode cX8_post 156 = .ok (.return_, 1)) := by decide +kernel
theorem dX8_post_118 : decode cX8_post 118 = .ok (.iaload, 1) := edX8_post_118.1
theorem dX8_post_119 : decode cX8_post 119 = .ok (.iadd, 1) := edX8_post_118.2.1
theorem dX8_post_120 : decode cX8_post 120 = .ok (.iconst 0, 1) := edX8_post_118.2.2.1
theorem dX8_post_121 : decode cX8_post 121 = .ok (.bipush 9, 2) := edX8_post_118.2.2.2.1
theorem dX8_post_123 : decode cX8_post 123 = .ok (.invokestatic 108, 3) := edX8_post_118.2.2.2.2.1
theorem dX8_post_126 : decode cX8_post 126 = .ok (.iastore, 1) := edX8_post_118.2.2.2.2.2.1
theorem dX8_post_127 : decode cX8_post 127 = .ok (.iinc 1 1, 3) := edX8_post_118.2.2.2.2.2.2.1
theorem dX8_post_130 : decode cX8_post 130 = .ok (.goto (-39), 3) := edX8_post_118.2.2.2.2.2.2.2.1
theorem dX8_post_133 : decode cX8_post 133 = .ok (.aload_n 0, 1) := edX8_post_118.2.2.2.2.2.2.2.2.1
theorem dX8_post_134 : decode cX8_post 134 = .ok (.getfield 9, 3) := edX8_post_118.2.2.2.2.2.2.2.2.2.1
theorem dX8_post_137 : decode cX8_post 137 = .ok (.iconst 3, 1) := edX8_post_118.2.2.2.2.2.2.2.2.2.2.1
theorem dX8_post_138 : decode cX8_post 138 = .ok (.aload_n 0, 1) := edX8_post_118.2.2.2.2.2.2.2.2.2.2.2.1
theorem dX8_post_139 : decode cX8_post 139 = .ok (.getfield 9, 3) := edX8_post_118.2.2.2.2.2.2.2.2.2.2.2.2.1
theorem dX8_post_142 : decode cX8_post 142 = .ok (.iconst 3, 1) := edX8_post_118.2.2.2.2.2.2.2.2.2.2.2.2.2.1
theorem dX8_post_143 : decode cX8_post 143 = .ok (.iaload, 1) := edX8_post_118.2.2.2.2.2.2.2.2.2.2.2.2.2.2.1
theorem dX8_post_144 : decode cX8_post 144 = .ok (.aload_n 0, 1) := edX8_post_118.2.2.2.2.2.2.2.2.2.2.2.2.2.2.2.1
theorem dX8_post_145 : decode cX8_post 145 = .ok (.getfield 146, 3) := edX8_post_118.2.2.2.2.2.2.2.2.2.2.2.2.2.2.2.2.1
theorem dX8_post_148 : decode cX8_post 148 = .ok (.iadd, 1) := edX8_post_118.2.2.2.2.2.2.2.2.2.2.2.2.2.2.2.2.2.1
theorem dX8_post_149 : decode cX8_post 149 = .ok (.iconst 0, 1) := edX8_post_118.2.2.2.2.2.2.2.2.2.2.2.2.2.2.2.2.2.2.1
theorem dX8_post_150 : decode cX8_post 150 = .ok (.bipush 99, 2) := edX8_post_118.2.2.2.2.2.2.2.2.2.2.2.2.2.2.2.2.2.2.2.1
theorem dX8_post_152 : decode cX8_post 152 = .ok (.invokestatic 108, 3) := edX8_post_118.2.2.2.2.2.2.2.2.2.2.2.2.2.2.2.2.2.2.2.2.1
theorem dX8_post_155 : decode cX8_post 155 = .ok (.iastore, 1) := edX8_post_118.2.2.2.2.2.2.2.2.2.2.2.2.2.2.2.2.2.2.2.2.2.1
theorem dX8_post_156 : decode cX8_post 156 = .ok (.return_, 1) := edX8_post_118.2.2.2.2.2.2.2.2.2.2.2.2.2.2.2.2.2.2.2.2.2.2
theorem edX8_goesOn_0 : (decode cX8_goesOn 0 = .ok (.iconst 0, 1)) ∧ (decode cX8_goesOn 1 = .ok (.istore_n 2, 1)) ∧ (decode cX8_goesOn 2 = .ok (.iload_n 2, 1)) ∧ (decode cX8_goesOn 3 = .ok (.iload_n 1, 1)) ∧ (decode cX8_goesOn 4 = .ok (.if_icmp .ge 13, 3)) ∧ (decode cX8_goesOn 7 = .ok (.aload_n 0, 1)) ∧ (decode cX8_goesOn 8 = .ok (.invokevirtual 157, 3)) ∧ (decode cX8_goesOn 11 = .ok (.iinc 2 1, 3)) ∧ (decode cX8_goesOn 14 = .ok (.goto (-12), 3)) ∧ (decode cX8_goesOn 17 = .ok (.return_, 1)) := by decide +kernel
theorem dX8_goesOn_0 : decode cX8_goesOn 0 = .ok (.iconst 0, 1) := edX8_goesOn_0.1
theorem dX8_goesOn_1 : decode cX8_goesOn 1 = .ok (.istore_n 2, 1) := edX8_goesOn_0.2.1
theorem dX8_goesOn_2 : decode cX8_goesOn 2 = .ok (.iload_n 2, 1) := edX8_goesOn_0.2.2.1
theorem dX8_goesOn_3 : decode cX8_goesOn 3 = .ok (.iload_n 1, 1) := edX8_goesOn_0.2.2.2.1
theorem dX8_goesOn_4 : decode cX8_goesOn 4 = .ok (.if_icmp .ge 13, 3) := edX8_goesOn_0.2.2.2.2.1
theorem dX8_goesOn_7 : decode cX8_goesOn 7 = .ok (.aload_n 0, 1) := edX8_goesOn_0.2.2.2.2.2.1
theorem dX8_goesOn_8 : decode cX8_goesOn 8 = .ok (.invokevirtual 157, 3) := edX8_goesOn_0.2.2.2.2.2.2.1
theorem dX8_goesOn_11 : decode cX8_goesOn 11 = .ok (.iinc 2 1, 3) := edX8_goesOn_0.2.2.2.2.2.2.2.1
theorem dX8_goesOn_14 : decode cX8_goesOn 14 = .ok (.goto (-12), 3) := edX8_goesOn_0.2.2.2.2.2.2.2.2.1
theorem dX8_goesOn_17 : decode cX8_goesOn 17 = .ok (.return_, 1) := edX8_goesOn_0.2.2.2.2.2.2.2.2.2
theorem edX8_sumOf_0 : (decode cX8_sumOf 0 = .ok (.iconst 0, 1)) ∧ (decode cX8_sumOf 1 = .ok (.istore_n 2, 1)) ∧ (decode cX8_sumOf 2 = .ok (.iconst 0, 1)) ∧ (decode cX8_sumOf 3 = .ok (.istore_n 3, 1)) ∧ (decode cX8_sumOf 4 = .ok (.iload_n 3, 1)) ∧ (decode cX8_sumOf 5 = .ok (.aload_n 0, 1)) ∧ (decode cX8_sumOf 6 = .ok (.getfield 9, 3)) ∧ (decode cX8_sumOf 9 = .ok (.iconst 1, 1)) ∧ (decode cX8_sumOf 10 = .ok (.iaload, 1)) ∧ (decode cX8_sumOf 11 = .ok (.if_icmp .ge 18, 3)) ∧ (decode cX8_sumOf 14 = .ok (.iload_n 2, 1)) ∧ (decode cX8_sumOf 15 = .ok (.aload_n 0, 1)) ∧ (decode cX8_sumOf 16 = .ok (.iload_n 3, 1)) ∧ (decode cX8_sumOf 17 = .ok (.iload_n 1, 1)) ∧ (decode cX8_sumOf 18 = .ok (.invokevirtual 101, 3)) ∧ (decode cX8_sumOf 21 = .ok (.iadd, 1)) ∧ (decode cX8_sumOf 22 = .ok (.istore_n 2, 1)) ∧ (decode cX8_sumOf 23 = .ok (.iinc 3 1, 3)) ∧ (decode cX8_sumOf 26 = .ok (.goto (-22), 3)) ∧ (decode cX8_sumOf 29 = .ok (.iload_n 2, 1)) ∧ (decode cX8_sumOf 30 = .ok (.ireturn, 1)) := by decide +kernel
theorem dX8_sumOf_0 : decode cX8_sumOf 0 = .ok (.iconst 0, 1) := edX8_sumOf_0.1
theorem dX8_sumOf_1 : decode cX8_sumOf 1 = .ok (.istore_n 2, 1) := edX8_sumOf_0.2.1
theorem dX8_sumOf_2 : decode cX8_sumOf 2 = .ok (.iconst 0, 1) := edX8_sumOf_0.2.2.1
theorem dX8_sumOf_3 : decode cX8_sumOf 3 = .ok (.istore_n 3, 1) := edX8_sumOf_0.2.2.2.1
theorem dX8_sumOf_4 : decode cX8_sumOf 4 = .ok (.iload_n 3, 1) := edX8_sumOf_0.2.2.2.2.1
theorem dX8_sumOf_5 : decode cX8_sumOf 5 = .ok (.aload_n 0, 1) := edX8_sumOf_0.2.2.2.2.2.1
theorem dX8_sumOf_6 : decode cX8_sumOf 6 = .ok (.getfield 9, 3) := edX8_sumOf_0.2.2.2.2.2.2.1
theorem dX8_sumOf_9 : decode cX8_sumOf 9 = .ok (.iconst 1, 1) := edX8_sumOf_0.2.2.2.2.2.2.2.1
theorem dX8_sumOf_10 : decode cX8_sumOf 10 = .ok (.iaload, 1) := edX8_sumOf_0.2.2.2.2.2.2.2.2.1
theorem dX8_sumOf_11 : decode cX8_sumOf 11 = .ok (.if_icmp .ge 18, 3) := edX8_sumOf_0.2.2.2.2.2.2.2.2.2.1
theorem dX8_sumOf_14 : decode cX8_sumOf 14 = .ok (.iload_n 2, 1) := edX8_sumOf_0.2.2.2.2.2.2.2.2.2.2.1
theorem dX8_sumOf_15 : decode cX8_sumOf 15 = .ok (.aload_n 0, 1) := edX8_sumOf_0.2.2.2.2.2.2.2.2.2.2.2.1
theorem dX8_sumOf_16 : decode cX8_sumOf 16 = .ok (.iload_n 3, 1) := edX8_sumOf_0.2.2.2.2.2.2.2.2.2.2.2.2.1
theorem dX8_sumOf_17 : decode cX8_sumOf 17 = .ok (.iload_n 1, 1) := edX8_sumOf_0.2.2.2.2.2.2.2.2.2.2.2.2.2.1
theorem dX8_sumOf_18 : decode cX8_sumOf 18 = .ok (.invokevirtual 101, 3) := edX8_sumOf_0.2.2.2.2.2.2.2.2.2.2.2.2.2.2.1
theorem dX8_sumOf_21 : decode cX8_sumOf 21 = .ok (.iadd, 1) := edX8_sumOf_0.2.2.2.2.2.2.2.2.2.2.2.2.2.2.2.1
theorem dX8_sumOf_22 : decode cX8_sumOf 22 = .ok (.istore_n 2, 1) := edX8_sumOf_0.2.2.2.2.2.2.2.2.2.2.2.2.2.2.2.2.1
theorem dX8_sumOf_23 : decode cX8_sumOf 23 = .ok (.iinc 3 1, 3) := edX8_sumOf_0.2.2.2.2.2.2.2.2.2.2.2.2.2.2.2.2.2.1
theorem dX8_sumOf_26 : decode cX8_sumOf 26 = .ok (.goto (-22), 3) := edX8_sumOf_0.2.2.2.2.2.2.2.2.2.2.2.2.2.2.2.2.2.2.1
theorem dX8_sumOf_29 : decode cX8_sumOf 29 = .ok (.iload_n 2, 1) := edX8_sumOf_0.2.2.2.2.2.2.2.2.2.2.2.2.2.2.2.2.2.2.2.1
theorem dX8_sumOf_30 : decode cX8_sumOf 30 = .ok (.ireturn, 1) := edX8_sumOf_0.2.2.2.2.2.2.2.2.2.2.2.2.2.2.2.2.2.2.2.2
theorem edX8_posts_0 : (decode cX8_posts 0 = .ok (.iload_n 1, 1)) ∧ (decode cX8_posts 1 = .ok (.iconst 1, 1)) ∧ (decode cX8_posts 2 = .ok (.bipush 100, 2)) ∧ (decode cX8_posts 4 = .ok (.invokestatic 83, 3)) ∧ (decode cX8_posts 7 = .ok (.ifCond .ne 6, 3)) ∧ (decode cX8_posts 10 = .ok (.ldc 91, 2)) ∧ (decode cX8_posts 12 = .ok (.ireturn, 1)) ∧ (decode cX8_posts 13 = .ok (.aload_n 0, 1)) ∧ (decode cX8_posts 14 = .ok (.iconst 4, 1)) ∧ (decode cX8_posts 15 = .ok (.invokevirtual 160, 3)) ∧ (decode cX8_posts 18 = .ok (.istore_n 2, 1)) ∧ (decode cX8_posts 19 = .ok (.aload_n 0, 1)) ∧ (decode cX8_posts 20 = .ok (.sipush 9999, 3)) ∧ (decode cX8_posts 23 = .ok (.aload_n 0, 1)) ∧ (decode cX8_posts 24 = .ok (.getfield 9, 3)) ∧ (decode cX8_posts 27 = .ok (.iconst 2, 1)) ∧ (decode cX8_posts 28 = .ok (.iaload, 1)) ∧ (decode cX8_posts 29 = .ok (.isub, 1)) ∧ (decode cX8_posts 30 = .ok (.iconst 0, 1)) ∧ (decode cX8_posts 31 = .ok (.iload_n 1, 1)) ∧ (decode cX8_posts 32 = .ok (.invokestatic 108, 3)) ∧ (decode cX8_posts 35 = .ok (.invokevirtual 163, 3)) ∧ (decode cX8_posts 38 = .ok (.aload_n 0, 1)) ∧ (decode cX8_posts 39 = .ok (.iconst 4, 1)) := by decide +kernel
theorem dX8_posts_0 : decode cX8_posts 0 = .ok (.iload_n 1, 1) := edX8_posts_0.1
theorem dX8_posts_1 : decode cX8_posts 1 = .ok (.iconst 1, 1) := edX8_posts_0.2.1
theorem dX8_posts_2 : decode cX8_posts 2 = .ok (.bipush 100, 2) := edX8_posts_0.2.2.1
theorem dX8_posts_4 : decode cX8_posts 4 = .ok (.invokestatic 83, 3) := edX8_posts_0.2.2.2.1
theorem dX8_posts_7 : decode cX8_posts 7 = .ok (.ifCond .ne 6, 3) := edX8_posts_0.2.2.2.2.1
theorem dX8_posts_10 : decode cX8_posts 10 = .ok (.ldc 91, 2) := edX8_posts_0.2.2.2.2.2.1
theorem dX8_posts_12 : decode cX8_posts 12 = .ok (.ireturn, 1) := edX8_posts_0.2.2.2.2.2.2.1
theorem dX8_posts_13 : decode cX8_posts 13 = .ok (.aload_n 0, 1) := edX8_posts_0.2.2.2.2.2.2.2.1
theorem dX8_posts_14 : decode cX8_posts 14 = .ok (.iconst 4, 1) := edX8_posts_0.2.2.2.2.2.2.2.2.1
theorem dX8_posts_15 : decode cX8_posts 15 = .ok (.invokevirtual 160, 3) := edX8_posts_0.2.2.2.2.2.2.2.2.2.1
theorem dX8_posts_18 : decode cX8_posts 18 = .ok (.istore_n 2, 1) := edX8_posts_0.2.2.2.2.2.2.2.2.2.2.1
theorem dX8_posts_19 : decode cX8_posts 19 = .ok (.aload_n 0, 1) := edX8_posts_0.2.2.2.2.2.2.2.2.2.2.2.1
theorem dX8_posts_20 : decode cX8_posts 20 = .ok (.sipush 9999, 3) := edX8_posts_0.2.2.2.2.2.2.2.2.2.2.2.2.1
theorem dX8_posts_23 : decode cX8_posts 23 = .ok (.aload_n 0, 1) := edX8_posts_0.2.2.2.2.2.2.2.2.2.2.2.2.2.1
theorem dX8_posts_24 : decode cX8_posts 24 = .ok (.getfield 9, 3) := edX8_posts_0.2.2.2.2.2.2.2.2.2.2.2.2.2.2.1
theorem dX8_posts_27 : decode cX8_posts 27 = .ok (.iconst 2, 1) := edX8_posts_0.2.2.2.2.2.2.2.2.2.2.2.2.2.2.2.1
theorem dX8_posts_28 : decode cX8_posts 28 = .ok (.iaload, 1) := edX8_posts_0.2.2.2.2.2.2.2.2.2.2.2.2.2.2.2.2.1
theorem dX8_posts_29 : decode cX8_posts 29 = .ok (.isub, 1) := edX8_posts_0.2.2.2.2.2.2.2.2.2.2.2.2.2.2.2.2.2.1
theorem dX8_posts_30 : decode cX8_posts 30 = .ok (.iconst 0, 1) := edX8_posts_0.2.2.2.2.2.2.2.2.2.2.2.2.2.2.2.2.2.2.1
theorem dX8_posts_31 : decode cX8_posts 31 = .ok (.iload_n 1, 1) := edX8_posts_0.2.2.2.2.2.2.2.2.2.2.2.2.2.2.2.2.2.2.2.1
theorem dX8_posts_32 : decode cX8_posts 32 = .ok (.invokestatic 108, 3) := edX8_posts_0.2.2.2.2.2.2.2.2.2.2.2.2.2.2.2.2.2.2.2.2.1
theorem dX8_posts_35 : decode cX8_posts 35 = .ok (.invokevirtual 163, 3) := edX8_posts_0.2.2.2.2.2.2.2.2.2.2.2.2.2.2.2.2.2.2.2.2.2.1
theorem dX8_posts_38 : decode cX8_posts 38 = .ok (.aload_n 0, 1) := edX8_posts_0.2.2.2.2.2.2.2.2.2.2.2.2.2.2.2.2.2.2.2.2.2.2.1
theorem dX8_posts_39 : decode cX8_posts 39 = .ok (.iconst 4, 1) := edX8_posts_0.2.2.2.2.2.2.2.2.2.2.2.2.2.2.2.2.2.2.2.2.2.2.2
theorem edX8_posts_40 : (decode cX8_posts 40 = .ok (.invokevirtual 160, 3)) ∧ (decode cX8_posts 43 = .ok (.iload_n 2, 1)) ∧ (decode cX8_posts 44 = .ok (.isub, 1)) ∧ (decode cX8_posts 45 = .ok (.ireturn, 1)) := by decide +kernel
theorem dX8_posts_40 : decode cX8_posts 40 = .ok (.invokevirtual 160, 3) := edX8_posts_40.1
theorem dX8_posts_43 : decode cX8_posts 43 = .ok (.iload_n 2, 1) := edX8_posts_40.2.1
theorem dX8_posts_44 : decode cX8_posts 44 = .ok (.isub, 1) := edX8_posts_40.2.2.1
theorem dX8_posts_45 : decode cX8_posts 45 = .ok (.ireturn, 1) := edX8_posts_40.2.2.2
theorem edX8_stands_0 : (decode cX8_stands 0 = .ok (.iconst 0, 1)) ∧ (decode cX8_stands 1 = .ok (.istore_n 1, 1)) ∧ (decode cX8_stands 2 = .ok (.iconst 0, 1)) ∧ (decode cX8_stands 3 = .ok (.istore_n 2, 1)) ∧ (decode cX8_stands 4 = .ok (.iload_n 2, 1)) ∧ (decode cX8_stands 5 = .ok (.iconst 4, 1)) ∧ (decode cX8_stands 6 = .ok (.if_icmp .ge 24, 3)) ∧ (decode cX8_stands 9 = .ok (.bipush 10, 2)) ∧ (decode cX8_stands 11 = .ok (.iload_n 1, 1)) ∧ (decode cX8_stands 12 = .ok (.imul, 1)) ∧ (decode cX8_stands 13 = .ok (.aload_n 0, 1)) ∧ (decode cX8_stands 14 = .ok (.getfield 9, 3)) ∧ (decode cX8_stands 17 = .ok (.bipush 8, 2)) ∧ (decode cX8_stands 19 = .ok (.iload_n 2, 1)) ∧ (decode cX8_stands 20 = .ok (.iadd, 1)) ∧ (decode cX8_stands 21 = .ok (.iaload, 1)) ∧ (decode cX8_stands 22 = .ok (.iadd, 1)) ∧ (decode cX8_stands 23 = .ok (.istore_n 1, 1)) ∧ (decode cX8_stands 24 = .ok (.iinc 2 1, 3)) ∧ (decode cX8_stands 27 = .ok (.goto (-23), 3)) ∧ (decode cX8_stands 30 = .ok (.iload_n 1, 1)) ∧ (decode cX8_stands 31 = .ok (.ireturn, 1)) := by decide +kernel
theorem dX8_stands_0 : decode cX8_stands 0 = .ok (.iconst 0, 1) := edX8_stands_0.1
theorem dX8_stands_1 : decode cX8_stands 1 = .ok (.istore_n 1, 1) := edX8_stands_0.2.1
theorem dX8_stands_2 : decode cX8_stands 2 = .ok (.iconst 0, 1) := edX8_stands_0.2.2.1
theorem dX8_stands_3 : decode cX8_stands 3 = .ok (.istore_n 2, 1) := edX8_stands_0.2.2.2.1
theorem dX8_stands_4 : decode cX8_stands 4 = .ok (.iload_n 2, 1) := edX8_stands_0.2.2.2.2.1
theorem dX8_stands_5 : decode cX8_stands 5 = .ok (.iconst 4, 1) := edX8_stands_0.2.2.2.2.2.1
theorem dX8_stands_6 : decode cX8_stands 6 = .ok (.if_icmp .ge 24, 3) := edX8_stands_0.2.2.2.2.2.2.1
theorem dX8_stands_9 : decode cX8_stands 9 = .ok (.bipush 10, 2) := edX8_stands_0.2.2.2.2.2.2.2.1
theorem dX8_stands_11 : decode cX8_stands 11 = .ok (.iload_n 1, 1) := edX8_stands_0.2.2.2.2.2.2.2.2.1
theorem dX8_stands_12 : decode cX8_stands 12 = .ok (.imul, 1) := edX8_stands_0.2.2.2.2.2.2.2.2.2.1
theorem dX8_stands_13 : decode cX8_stands 13 = .ok (.aload_n 0, 1) := edX8_stands_0.2.2.2.2.2.2.2.2.2.2.1
theorem dX8_stands_14 : decode cX8_stands 14 = .ok (.getfield 9, 3) := edX8_stands_0.2.2.2.2.2.2.2.2.2.2.2.1
theorem dX8_stands_17 : decode cX8_stands 17 = .ok (.bipush 8, 2) := edX8_stands_0.2.2.2.2.2.2.2.2.2.2.2.2.1
theorem dX8_stands_19 : decode cX8_stands 19 = .ok (.iload_n 2, 1) := edX8_stands_0.2.2.2.2.2.2.2.2.2.2.2.2.2.1
theorem dX8_stands_20 : decode cX8_stands 20 = .ok (.iadd, 1) := edX8_stands_0.2.2.2.2.2.2.2.2.2.2.2.2.2.2.1
theorem dX8_stands_21 : decode cX8_stands 21 = .ok (.iaload, 1) := edX8_stands_0.2.2.2.2.2.2.2.2.2.2.2.2.2.2.2.1
theorem dX8_stands_22 : decode cX8_stands 22 = .ok (.iadd, 1) := edX8_stands_0.2.2.2.2.2.2.2.2.2.2.2.2.2.2.2.2.1
theorem dX8_stands_23 : decode cX8_stands 23 = .ok (.istore_n 1, 1) := edX8_stands_0.2.2.2.2.2.2.2.2.2.2.2.2.2.2.2.2.2.1
theorem dX8_stands_24 : decode cX8_stands 24 = .ok (.iinc 2 1, 3) := edX8_stands_0.2.2.2.2.2.2.2.2.2.2.2.2.2.2.2.2.2.2.1
theorem dX8_stands_27 : decode cX8_stands 27 = .ok (.goto (-23), 3) := edX8_stands_0.2.2.2.2.2.2.2.2.2.2.2.2.2.2.2.2.2.2.2.1
theorem dX8_stands_30 : decode cX8_stands 30 = .ok (.iload_n 1, 1) := edX8_stands_0.2.2.2.2.2.2.2.2.2.2.2.2.2.2.2.2.2.2.2.2.1
theorem dX8_stands_31 : decode cX8_stands 31 = .ok (.ireturn, 1) := edX8_stands_0.2.2.2.2.2.2.2.2.2.2.2.2.2.2.2.2.2.2.2.2.2
theorem edX8_table_0 : (decode cX8_table 0 = .ok (.iload_n 1, 1)) ∧ (decode cX8_table 1 = .ok (.tableswitch 87 0 6 #[43, 43, 49, 62, 67, 75, 81], 43)) ∧ (decode cX8_table 44 = .ok (.aload_n 0, 1)) ∧ (decode cX8_table 45 = .ok (.iload_n 1, 1)) ∧ (decode cX8_table 46 = .ok (.invokevirtual 143, 3)) ∧ (decode cX8_table 49 = .ok (.ireturn, 1)) ∧ (decode cX8_table 50 = .ok (.aload_n 0, 1)) ∧ (decode cX8_table 51 = .ok (.invokevirtual 149, 3)) ∧ (decode cX8_table 54 = .ok (.ifCond .eq 7, 3)) ∧ (decode cX8_table 57 = .ok (.iconst 1, 1)) ∧ (decode cX8_table 58 = .ok (.goto 4, 3)) ∧ (decode cX8_table 61 = .ok (.iconst 0, 1)) ∧ (decode cX8_table 62 = .ok (.ireturn, 1)) ∧ (decode cX8_table 63 = .ok (.aload_n 0, 1)) ∧ (decode cX8_table 64 = .ok (.invokevirtual 166, 3)) ∧ (decode cX8_table 67 = .ok (.ireturn, 1)) ∧ (decode cX8_table 68 = .ok (.aload_n 0, 1)) ∧ (decode cX8_table 69 = .ok (.getfield 9, 3)) ∧ (decode cX8_table 72 = .ok (.bipush 6, 2)) ∧ (decode cX8_table 74 = .ok (.iaload, 1)) ∧ (decode cX8_table 75 = .ok (.ireturn, 1)) ∧ (decode cX8_table 76 = .ok (.aload_n 0, 1)) ∧ (decode cX8_table 77 = .ok (.iconst 3, 1)) ∧ (decode cX8_table 78 = .ok (.invokevirtual 160, 3)) := by decide +kernel
theorem dX8_table_0 : decode cX8_table 0 = .ok (.iload_n 1, 1) := edX8_table_0.1
theorem dX8_table_1 : decode cX8_table 1 = .ok (.tableswitch 87 0 6 #[43, 43, 49, 62, 67, 75, 81], 43) := edX8_table_0.2.1
theorem dX8_table_44 : decode cX8_table 44 = .ok (.aload_n 0, 1) := edX8_table_0.2.2.1
theorem dX8_table_45 : decode cX8_table 45 = .ok (.iload_n 1, 1) := edX8_table_0.2.2.2.1
theorem dX8_table_46 : decode cX8_table 46 = .ok (.invokevirtual 143, 3) := edX8_table_0.2.2.2.2.1
theorem dX8_table_49 : decode cX8_table 49 = .ok (.ireturn, 1) := edX8_table_0.2.2.2.2.2.1
theorem dX8_table_50 : decode cX8_table 50 = .ok (.aload_n 0, 1) := edX8_table_0.2.2.2.2.2.2.1
theorem dX8_table_51 : decode cX8_table 51 = .ok (.invokevirtual 149, 3) := edX8_table_0.2.2.2.2.2.2.2.1
theorem dX8_table_54 : decode cX8_table 54 = .ok (.ifCond .eq 7, 3) := edX8_table_0.2.2.2.2.2.2.2.2.1
theorem dX8_table_57 : decode cX8_table 57 = .ok (.iconst 1, 1) := edX8_table_0.2.2.2.2.2.2.2.2.2.1
theorem dX8_table_58 : decode cX8_table 58 = .ok (.goto 4, 3) := edX8_table_0.2.2.2.2.2.2.2.2.2.2.1
theorem dX8_table_61 : decode cX8_table 61 = .ok (.iconst 0, 1) := edX8_table_0.2.2.2.2.2.2.2.2.2.2.2.1
theorem dX8_table_62 : decode cX8_table 62 = .ok (.ireturn, 1) := edX8_table_0.2.2.2.2.2.2.2.2.2.2.2.2.1
theorem dX8_table_63 : decode cX8_table 63 = .ok (.aload_n 0, 1) := edX8_table_0.2.2.2.2.2.2.2.2.2.2.2.2.2.1
theorem dX8_table_64 : decode cX8_table 64 = .ok (.invokevirtual 166, 3) := edX8_table_0.2.2.2.2.2.2.2.2.2.2.2.2.2.2.1
theorem dX8_table_67 : decode cX8_table 67 = .ok (.ireturn, 1) := edX8_table_0.2.2.2.2.2.2.2.2.2.2.2.2.2.2.2.1
theorem dX8_table_68 : decode cX8_table 68 = .ok (.aload_n 0, 1) := edX8_table_0.2.2.2.2.2.2.2.2.2.2.2.2.2.2.2.2.1
theorem dX8_table_69 : decode cX8_table 69 = .ok (.getfield 9, 3) := edX8_table_0.2.2.2.2.2.2.2.2.2.2.2.2.2.2.2.2.2.1
theorem dX8_table_72 : decode cX8_table 72 = .ok (.bipush 6, 2) := edX8_table_0.2.2.2.2.2.2.2.2.2.2.2.2.2.2.2.2.2.2.1
theorem dX8_table_74 : decode cX8_table 74 = .ok (.iaload, 1) := edX8_table_0.2.2.2.2.2.2.2.2.2.2.2.2.2.2.2.2.2.2.2.1
theorem dX8_table_75 : decode cX8_table 75 = .ok (.ireturn, 1) := edX8_table_0.2.2.2.2.2.2.2.2.2.2.2.2.2.2.2.2.2.2.2.2.1
theorem dX8_table_76 : decode cX8_table 76 = .ok (.aload_n 0, 1) := edX8_table_0.2.2.2.2.2.2.2.2.2.2.2.2.2.2.2.2.2.2.2.2.2.1
theorem dX8_table_77 : decode cX8_table 77 = .ok (.iconst 3, 1) := edX8_table_0.2.2.2.2.2.2.2.2.2.2.2.2.2.2.2.2.2.2.2.2.2.2.1
theorem dX8_table_78 : decode cX8_table 78 = .ok (.invokevirtual 160, 3) := edX8_table_0.2.2.2.2.2.2.2.2.2.2.2.2.2.2.2.2.2.2.2.2.2.2.2
theorem edX8_table_81 : (decode cX8_table 81 = .ok (.ireturn, 1)) ∧ (decode cX8_table 82 = .ok (.aload_n 0, 1)) ∧ (decode cX8_table 83 = .ok (.iconst 4, 1)) ∧ (decode cX8_table 84 = .ok (.invokevirtual 160, 3)) ∧ (decode cX8_table 87 = .ok (.ireturn, 1)) ∧ (decode cX8_table 88 = .ok (.ldc 91, 2)) ∧ (decode cX8_table 90 = .ok (.ireturn, 1)) := by decide +kernel
theorem dX8_table_81 : decode cX8_table 81 = .ok (.ireturn, 1) := edX8_table_81.1
theorem dX8_table_82 : decode cX8_table 82 = .ok (.aload_n 0, 1) := edX8_table_81.2.1
theorem dX8_table_83 : decode cX8_table 83 = .ok (.iconst 4, 1) := edX8_table_81.2.2.1
theorem dX8_table_84 : decode cX8_table 84 = .ok (.invokevirtual 160, 3) := edX8_table_81.2.2.2.1
theorem dX8_table_87 : decode cX8_table 87 = .ok (.ireturn, 1) := edX8_table_81.2.2.2.2.1
theorem dX8_table_88 : decode cX8_table 88 = .ok (.ldc 91, 2) := edX8_table_81.2.2.2.2.2.1
theorem dX8_table_90 : decode cX8_table 90 = .ok (.ireturn, 1) := edX8_table_81.2.2.2.2.2.2
theorem edX8_thinks_0 : (decode cX8_thinks 0 = .ok (.iconst 0, 1)) ∧ (decode cX8_thinks 1 = .ok (.istore_n 1, 1)) ∧ (decode cX8_thinks 2 = .ok (.iload_n 1, 1)) ∧ (decode cX8_thinks 3 = .ok (.bipush 62, 2)) ∧ (decode cX8_thinks 5 = .ok (.if_icmp .ge 21, 3)) ∧ (decode cX8_thinks 8 = .ok (.aload_n 0, 1)) ∧ (decode cX8_thinks 9 = .ok (.getfield 26, 3)) ∧ (decode cX8_thinks 12 = .ok (.iload_n 1, 1)) ∧ (decode cX8_thinks 13 = .ok (.aload_n 0, 1)) ∧ (decode cX8_thinks 14 = .ok (.getfield 9, 3)) ∧ (decode cX8_thinks 17 = .ok (.iload_n 1, 1)) ∧ (decode cX8_thinks 18 = .ok (.iaload, 1)) ∧ (decode cX8_thinks 19 = .ok (.iastore, 1)) ∧ (decode cX8_thinks 20 = .ok (.iinc 1 1, 3)) ∧ (decode cX8_thinks 23 = .ok (.goto (-21), 3)) ∧ (decode cX8_thinks 26 = .ok (.return_, 1)) := by decide +kernel
theorem dX8_thinks_0 : decode cX8_thinks 0 = .ok (.iconst 0, 1) := edX8_thinks_0.1
theorem dX8_thinks_1 : decode cX8_thinks 1 = .ok (.istore_n 1, 1) := edX8_thinks_0.2.1
theorem dX8_thinks_2 : decode cX8_thinks 2 = .ok (.iload_n 1, 1) := edX8_thinks_0.2.2.1
theorem dX8_thinks_3 : decode cX8_thinks 3 = .ok (.bipush 62, 2) := edX8_thinks_0.2.2.2.1
theorem dX8_thinks_5 : decode cX8_thinks 5 = .ok (.if_icmp .ge 21, 3) := edX8_thinks_0.2.2.2.2.1
theorem dX8_thinks_8 : decode cX8_thinks 8 = .ok (.aload_n 0, 1) := edX8_thinks_0.2.2.2.2.2.1
theorem dX8_thinks_9 : decode cX8_thinks 9 = .ok (.getfield 26, 3) := edX8_thinks_0.2.2.2.2.2.2.1
theorem dX8_thinks_12 : decode cX8_thinks 12 = .ok (.iload_n 1, 1) := edX8_thinks_0.2.2.2.2.2.2.2.1
theorem dX8_thinks_13 : decode cX8_thinks 13 = .ok (.aload_n 0, 1) := edX8_thinks_0.2.2.2.2.2.2.2.2.1
theorem dX8_thinks_14 : decode cX8_thinks 14 = .ok (.getfield 9, 3) := edX8_thinks_0.2.2.2.2.2.2.2.2.2.1
theorem dX8_thinks_17 : decode cX8_thinks 17 = .ok (.iload_n 1, 1) := edX8_thinks_0.2.2.2.2.2.2.2.2.2.2.1
theorem dX8_thinks_18 : decode cX8_thinks 18 = .ok (.iaload, 1) := edX8_thinks_0.2.2.2.2.2.2.2.2.2.2.2.1
theorem dX8_thinks_19 : decode cX8_thinks 19 = .ok (.iastore, 1) := edX8_thinks_0.2.2.2.2.2.2.2.2.2.2.2.2.1
theorem dX8_thinks_20 : decode cX8_thinks 20 = .ok (.iinc 1 1, 3) := edX8_thinks_0.2.2.2.2.2.2.2.2.2.2.2.2.2.1
theorem dX8_thinks_23 : decode cX8_thinks 23 = .ok (.goto (-21), 3) := edX8_thinks_0.2.2.2.2.2.2.2.2.2.2.2.2.2.2.1
theorem dX8_thinks_26 : decode cX8_thinks 26 = .ok (.return_, 1) := edX8_thinks_0.2.2.2.2.2.2.2.2.2.2.2.2.2.2.2
theorem edX8_putsBack_0 : (decode cX8_putsBack 0 = .ok (.iconst 0, 1)) ∧ (decode cX8_putsBack 1 = .ok (.istore_n 1, 1)) ∧ (decode cX8_putsBack 2 = .ok (.iload_n 1, 1)) ∧ (decode cX8_putsBack 3 = .ok (.bipush 62, 2)) ∧ (decode cX8_putsBack 5 = .ok (.if_icmp .ge 21, 3)) ∧ (decode cX8_putsBack 8 = .ok (.aload_n 0, 1)) ∧ (decode cX8_putsBack 9 = .ok (.getfield 9, 3)) ∧ (decode cX8_putsBack 12 = .ok (.iload_n 1, 1)) ∧ (decode cX8_putsBack 13 = .ok (.aload_n 0, 1)) ∧ (decode cX8_putsBack 14 = .ok (.getfield 26, 3)) ∧ (decode cX8_putsBack 17 = .ok (.iload_n 1, 1)) ∧ (decode cX8_putsBack 18 = .ok (.iaload, 1)) ∧ (decode cX8_putsBack 19 = .ok (.iastore, 1)) ∧ (decode cX8_putsBack 20 = .ok (.iinc 1 1, 3)) ∧ (decode cX8_putsBack 23 = .ok (.goto (-21), 3)) ∧ (decode cX8_putsBack 26 = .ok (.aload_n 0, 1)) ∧ (decode cX8_putsBack 27 = .ok (.iconst (-1), 1)) ∧ (decode cX8_putsBack 28 = .ok (.putfield 19, 3)) ∧ (decode cX8_putsBack 31 = .ok (.return_, 1)) := by decide +kernel
theorem dX8_putsBack_0 : decode cX8_putsBack 0 = .ok (.iconst 0, 1) := edX8_putsBack_0.1
theorem dX8_putsBack_1 : decode cX8_putsBack 1 = .ok (.istore_n 1, 1) := edX8_putsBack_0.2.1
theorem dX8_putsBack_2 : decode cX8_putsBack 2 = .ok (.iload_n 1, 1) := edX8_putsBack_0.2.2.1
theorem dX8_putsBack_3 : decode cX8_putsBack 3 = .ok (.bipush 62, 2) := edX8_putsBack_0.2.2.2.1
theorem dX8_putsBack_5 : decode cX8_putsBack 5 = .ok (.if_icmp .ge 21, 3) := edX8_putsBack_0.2.2.2.2.1
theorem dX8_putsBack_8 : decode cX8_putsBack 8 = .ok (.aload_n 0, 1) := edX8_putsBack_0.2.2.2.2.2.1
theorem dX8_putsBack_9 : decode cX8_putsBack 9 = .ok (.getfield 9, 3) := edX8_putsBack_0.2.2.2.2.2.2.1
theorem dX8_putsBack_12 : decode cX8_putsBack 12 = .ok (.iload_n 1, 1) := edX8_putsBack_0.2.2.2.2.2.2.2.1
theorem dX8_putsBack_13 : decode cX8_putsBack 13 = .ok (.aload_n 0, 1) := edX8_putsBack_0.2.2.2.2.2.2.2.2.1
theorem dX8_putsBack_14 : decode cX8_putsBack 14 = .ok (.getfield 26, 3) := edX8_putsBack_0.2.2.2.2.2.2.2.2.2.1
theorem dX8_putsBack_17 : decode cX8_putsBack 17 = .ok (.iload_n 1, 1) := edX8_putsBack_0.2.2.2.2.2.2.2.2.2.2.1
theorem dX8_putsBack_18 : decode cX8_putsBack 18 = .ok (.iaload, 1) := edX8_putsBack_0.2.2.2.2.2.2.2.2.2.2.2.1
theorem dX8_putsBack_19 : decode cX8_putsBack 19 = .ok (.iastore, 1) := edX8_putsBack_0.2.2.2.2.2.2.2.2.2.2.2.2.1
theorem dX8_putsBack_20 : decode cX8_putsBack 20 = .ok (.iinc 1 1, 3) := edX8_putsBack_0.2.2.2.2.2.2.2.2.2.2.2.2.2.1
theorem dX8_putsBack_23 : decode cX8_putsBack 23 = .ok (.goto (-21), 3) := edX8_putsBack_0.2.2.2.2.2.2.2.2.2.2.2.2.2.2.1
theorem dX8_putsBack_26 : decode cX8_putsBack 26 = .ok (.aload_n 0, 1) := edX8_putsBack_0.2.2.2.2.2.2.2.2.2.2.2.2.2.2.2.1
theorem dX8_putsBack_27 : decode cX8_putsBack 27 = .ok (.iconst (-1), 1) := edX8_putsBack_0.2.2.2.2.2.2.2.2.2.2.2.2.2.2.2.2.1
theorem dX8_putsBack_28 : decode cX8_putsBack 28 = .ok (.putfield 19, 3) := edX8_putsBack_0.2.2.2.2.2.2.2.2.2.2.2.2.2.2.2.2.2.1
theorem dX8_putsBack_31 : decode cX8_putsBack 31 = .ok (.return_, 1) := edX8_putsBack_0.2.2.2.2.2.2.2.2.2.2.2.2.2.2.2.2.2.2
theorem edX8_standAs_0 : (decode cX8_standAs 0 = .ok (.iload_n 1, 1)) ∧ (decode cX8_standAs 1 = .ok (.istore_n 2, 1)) ∧ (decode cX8_standAs 2 = .ok (.iconst 3, 1)) ∧ (decode cX8_standAs 3 = .ok (.istore_n 3, 1)) ∧ (decode cX8_standAs 4 = .ok (.iload_n 3, 1)) ∧ (decode cX8_standAs 5 = .ok (.ifCond .lt 27, 3)) ∧ (decode cX8_standAs 8 = .ok (.aload_n 0, 1)) ∧ (decode cX8_standAs 9 = .ok (.getfield 9, 3)) ∧ (decode cX8_standAs 12 = .ok (.bipush 8, 2)) ∧ (decode cX8_standAs 14 = .ok (.iload_n 3, 1)) ∧ (decode cX8_standAs 15 = .ok (.iadd, 1)) ∧ (decode cX8_standAs 16 = .ok (.iload_n 2, 1)) ∧ (decode cX8_standAs 17 = .ok (.bipush 10, 2)) ∧ (decode cX8_standAs 19 = .ok (.irem, 1)) ∧ (decode cX8_standAs 20 = .ok (.iastore, 1)) ∧ (decode cX8_standAs 21 = .ok (.iload_n 2, 1)) ∧ (decode cX8_standAs 22 = .ok (.bipush 10, 2)) ∧ (decode cX8_standAs 24 = .ok (.idiv, 1)) ∧ (decode cX8_standAs 25 = .ok (.istore_n 2, 1)) ∧ (decode cX8_standAs 26 = .ok (.iinc 3 (-1), 3)) ∧ (decode cX8_standAs 29 = .ok (.goto (-25), 3)) ∧ (decode cX8_standAs 32 = .ok (.return_, 1)) := by decide +kernel
theorem dX8_standAs_0 : decode cX8_standAs 0 = .ok (.iload_n 1, 1) := edX8_standAs_0.1
theorem dX8_standAs_1 : decode cX8_standAs 1 = .ok (.istore_n 2, 1) := edX8_standAs_0.2.1
theorem dX8_standAs_2 : decode cX8_standAs 2 = .ok (.iconst 3, 1) := edX8_standAs_0.2.2.1
theorem dX8_standAs_3 : decode cX8_standAs 3 = .ok (.istore_n 3, 1) := edX8_standAs_0.2.2.2.1
theorem dX8_standAs_4 : decode cX8_standAs 4 = .ok (.iload_n 3, 1) := edX8_standAs_0.2.2.2.2.1
theorem dX8_standAs_5 : decode cX8_standAs 5 = .ok (.ifCond .lt 27, 3) := edX8_standAs_0.2.2.2.2.2.1
theorem dX8_standAs_8 : decode cX8_standAs 8 = .ok (.aload_n 0, 1) := edX8_standAs_0.2.2.2.2.2.2.1
theorem dX8_standAs_9 : decode cX8_standAs 9 = .ok (.getfield 9, 3) := edX8_standAs_0.2.2.2.2.2.2.2.1
theorem dX8_standAs_12 : decode cX8_standAs 12 = .ok (.bipush 8, 2) := edX8_standAs_0.2.2.2.2.2.2.2.2.1
theorem dX8_standAs_14 : decode cX8_standAs 14 = .ok (.iload_n 3, 1) := edX8_standAs_0.2.2.2.2.2.2.2.2.2.1
theorem dX8_standAs_15 : decode cX8_standAs 15 = .ok (.iadd, 1) := edX8_standAs_0.2.2.2.2.2.2.2.2.2.2.1
theorem dX8_standAs_16 : decode cX8_standAs 16 = .ok (.iload_n 2, 1) := edX8_standAs_0.2.2.2.2.2.2.2.2.2.2.2.1
theorem dX8_standAs_17 : decode cX8_standAs 17 = .ok (.bipush 10, 2) := edX8_standAs_0.2.2.2.2.2.2.2.2.2.2.2.2.1
theorem dX8_standAs_19 : decode cX8_standAs 19 = .ok (.irem, 1) := edX8_standAs_0.2.2.2.2.2.2.2.2.2.2.2.2.2.1
theorem dX8_standAs_20 : decode cX8_standAs 20 = .ok (.iastore, 1) := edX8_standAs_0.2.2.2.2.2.2.2.2.2.2.2.2.2.2.1
theorem dX8_standAs_21 : decode cX8_standAs 21 = .ok (.iload_n 2, 1) := edX8_standAs_0.2.2.2.2.2.2.2.2.2.2.2.2.2.2.2.1
theorem dX8_standAs_22 : decode cX8_standAs 22 = .ok (.bipush 10, 2) := edX8_standAs_0.2.2.2.2.2.2.2.2.2.2.2.2.2.2.2.2.1
theorem dX8_standAs_24 : decode cX8_standAs 24 = .ok (.idiv, 1) := edX8_standAs_0.2.2.2.2.2.2.2.2.2.2.2.2.2.2.2.2.2.1
theorem dX8_standAs_25 : decode cX8_standAs 25 = .ok (.istore_n 2, 1) := edX8_standAs_0.2.2.2.2.2.2.2.2.2.2.2.2.2.2.2.2.2.2.1
theorem dX8_standAs_26 : decode cX8_standAs 26 = .ok (.iinc 3 (-1), 3) := edX8_standAs_0.2.2.2.2.2.2.2.2.2.2.2.2.2.2.2.2.2.2.2.1
theorem dX8_standAs_29 : decode cX8_standAs 29 = .ok (.goto (-25), 3) := edX8_standAs_0.2.2.2.2.2.2.2.2.2.2.2.2.2.2.2.2.2.2.2.2.1
theorem dX8_standAs_32 : decode cX8_standAs 32 = .ok (.return_, 1) := edX8_standAs_0.2.2.2.2.2.2.2.2.2.2.2.2.2.2.2.2.2.2.2.2.2
theorem edX8_taken_0 : (decode cX8_taken 0 = .ok (.aload_n 0, 1)) ∧ (decode cX8_taken 1 = .ok (.invokevirtual 169, 3)) ∧ (decode cX8_taken 4 = .ok (.iconst 0, 1)) ∧ (decode cX8_taken 5 = .ok (.istore_n 1, 1)) ∧ (decode cX8_taken 6 = .ok (.iconst 0, 1)) ∧ (decode cX8_taken 7 = .ok (.istore_n 2, 1)) ∧ (decode cX8_taken 8 = .ok (.iload_n 2, 1)) ∧ (decode cX8_taken 9 = .ok (.sipush 10000, 3)) ∧ (decode cX8_taken 12 = .ok (.if_icmp .ge 29, 3)) ∧ (decode cX8_taken 15 = .ok (.aload_n 0, 1)) ∧ (decode cX8_taken 16 = .ok (.iload_n 2, 1)) ∧ (decode cX8_taken 17 = .ok (.invokevirtual 172, 3)) ∧ (decode cX8_taken 20 = .ok (.iload_n 1, 1)) ∧ (decode cX8_taken 21 = .ok (.aload_n 0, 1)) ∧ (decode cX8_taken 22 = .ok (.invokevirtual 149, 3)) ∧ (decode cX8_taken 25 = .ok (.ifCond .eq 7, 3)) ∧ (decode cX8_taken 28 = .ok (.iconst 1, 1)) ∧ (decode cX8_taken 29 = .ok (.goto 4, 3)) ∧ (decode cX8_taken 32 = .ok (.iconst 0, 1)) ∧ (decode cX8_taken 33 = .ok (.iadd, 1)) ∧ (decode cX8_taken 34 = .ok (.istore_n 1, 1)) ∧ (decode cX8_taken 35 = .ok (.iinc 2 1, 3)) ∧ (decode cX8_taken 38 = .ok (.goto (-30), 3)) ∧ (decode cX8_taken 41 = .ok (.aload_n 0, 1)) := by decide +kernel
theorem dX8_taken_0 : decode cX8_taken 0 = .ok (.aload_n 0, 1) := edX8_taken_0.1
theorem dX8_taken_1 : decode cX8_taken 1 = .ok (.invokevirtual 169, 3) := edX8_taken_0.2.1
theorem dX8_taken_4 : decode cX8_taken 4 = .ok (.iconst 0, 1) := edX8_taken_0.2.2.1
theorem dX8_taken_5 : decode cX8_taken 5 = .ok (.istore_n 1, 1) := edX8_taken_0.2.2.2.1
theorem dX8_taken_6 : decode cX8_taken 6 = .ok (.iconst 0, 1) := edX8_taken_0.2.2.2.2.1
theorem dX8_taken_7 : decode cX8_taken 7 = .ok (.istore_n 2, 1) := edX8_taken_0.2.2.2.2.2.1
theorem dX8_taken_8 : decode cX8_taken 8 = .ok (.iload_n 2, 1) := edX8_taken_0.2.2.2.2.2.2.1
theorem dX8_taken_9 : decode cX8_taken 9 = .ok (.sipush 10000, 3) := edX8_taken_0.2.2.2.2.2.2.2.1
theorem dX8_taken_12 : decode cX8_taken 12 = .ok (.if_icmp .ge 29, 3) := edX8_taken_0.2.2.2.2.2.2.2.2.1
theorem dX8_taken_15 : decode cX8_taken 15 = .ok (.aload_n 0, 1) := edX8_taken_0.2.2.2.2.2.2.2.2.2.1
theorem dX8_taken_16 : decode cX8_taken 16 = .ok (.iload_n 2, 1) := edX8_taken_0.2.2.2.2.2.2.2.2.2.2.1
theorem dX8_taken_17 : decode cX8_taken 17 = .ok (.invokevirtual 172, 3) := edX8_taken_0.2.2.2.2.2.2.2.2.2.2.2.1
theorem dX8_taken_20 : decode cX8_taken 20 = .ok (.iload_n 1, 1) := edX8_taken_0.2.2.2.2.2.2.2.2.2.2.2.2.1
theorem dX8_taken_21 : decode cX8_taken 21 = .ok (.aload_n 0, 1) := edX8_taken_0.2.2.2.2.2.2.2.2.2.2.2.2.2.1
theorem dX8_taken_22 : decode cX8_taken 22 = .ok (.invokevirtual 149, 3) := edX8_taken_0.2.2.2.2.2.2.2.2.2.2.2.2.2.2.1
theorem dX8_taken_25 : decode cX8_taken 25 = .ok (.ifCond .eq 7, 3) := edX8_taken_0.2.2.2.2.2.2.2.2.2.2.2.2.2.2.2.1
theorem dX8_taken_28 : decode cX8_taken 28 = .ok (.iconst 1, 1) := edX8_taken_0.2.2.2.2.2.2.2.2.2.2.2.2.2.2.2.2.1
theorem dX8_taken_29 : decode cX8_taken 29 = .ok (.goto 4, 3) := edX8_taken_0.2.2.2.2.2.2.2.2.2.2.2.2.2.2.2.2.2.1
theorem dX8_taken_32 : decode cX8_taken 32 = .ok (.iconst 0, 1) := edX8_taken_0.2.2.2.2.2.2.2.2.2.2.2.2.2.2.2.2.2.2.1
theorem dX8_taken_33 : decode cX8_taken 33 = .ok (.iadd, 1) := edX8_taken_0.2.2.2.2.2.2.2.2.2.2.2.2.2.2.2.2.2.2.2.1
theorem dX8_taken_34 : decode cX8_taken 34 = .ok (.istore_n 1, 1) := edX8_taken_0.2.2.2.2.2.2.2.2.2.2.2.2.2.2.2.2.2.2.2.2.1
theorem dX8_taken_35 : decode cX8_taken 35 = .ok (.iinc 2 1, 3) := edX8_taken_0.2.2.2.2.2.2.2.2.2.2.2.2.2.2.2.2.2.2.2.2.2.1
theorem dX8_taken_38 : decode cX8_taken 38 = .ok (.goto (-30), 3) := edX8_taken_0.2.2.2.2.2.2.2.2.2.2.2.2.2.2.2.2.2.2.2.2.2.2.1
theorem dX8_taken_41 : decode cX8_taken 41 = .ok (.aload_n 0, 1) := edX8_taken_0.2.2.2.2.2.2.2.2.2.2.2.2.2.2.2.2.2.2.2.2.2.2.2
theorem edX8_taken_42 : (decode cX8_taken 42 = .ok (.invokevirtual 175, 3)) ∧ (decode cX8_taken 45 = .ok (.iload_n 1, 1)) ∧ (decode cX8_taken 46 = .ok (.ireturn, 1)) := by decide +kernel
theorem dX8_taken_42 : decode cX8_taken 42 = .ok (.invokevirtual 175, 3) := edX8_taken_42.1
theorem dX8_taken_45 : decode cX8_taken 45 = .ok (.iload_n 1, 1) := edX8_taken_42.2.1
theorem dX8_taken_46 : decode cX8_taken 46 = .ok (.ireturn, 1) := edX8_taken_42.2.2
theorem edX8_wellBy_0 : (decode cX8_wellBy 0 = .ok (.iload_n 1, 1)) ∧ (decode cX8_wellBy 1 = .ok (.ifCond .ne 42, 3)) ∧ (decode cX8_wellBy 4 = .ok (.aload_n 0, 1)) ∧ (decode cX8_wellBy 5 = .ok (.iconst 0, 1)) ∧ (decode cX8_wellBy 6 = .ok (.invokevirtual 143, 3)) ∧ (decode cX8_wellBy 9 = .ok (.aload_n 0, 1)) ∧ (decode cX8_wellBy 10 = .ok (.getfield 9, 3)) ∧ (decode cX8_wellBy 13 = .ok (.bipush 20, 2)) ∧ (decode cX8_wellBy 15 = .ok (.iaload, 1)) ∧ (decode cX8_wellBy 16 = .ok (.isub, 1)) ∧ (decode cX8_wellBy 17 = .ok (.istore_n 2, 1)) ∧ (decode cX8_wellBy 18 = .ok (.aload_n 0, 1)) ∧ (decode cX8_wellBy 19 = .ok (.iconst 1, 1)) ∧ (decode cX8_wellBy 20 = .ok (.invokevirtual 143, 3)) ∧ (decode cX8_wellBy 23 = .ok (.aload_n 0, 1)) ∧ (decode cX8_wellBy 24 = .ok (.getfield 9, 3)) ∧ (decode cX8_wellBy 27 = .ok (.bipush 21, 2)) ∧ (decode cX8_wellBy 29 = .ok (.iaload, 1)) ∧ (decode cX8_wellBy 30 = .ok (.isub, 1)) ∧ (decode cX8_wellBy 31 = .ok (.istore_n 3, 1)) ∧ (decode cX8_wellBy 32 = .ok (.iload_n 2, 1)) ∧ (decode cX8_wellBy 33 = .ok (.iload_n 3, 1)) ∧ (decode cX8_wellBy 34 = .ok (.if_icmp .ge 7, 3)) ∧ (decode cX8_wellBy 37 = .ok (.iload_n 2, 1)) := by decide +kernel
theorem dX8_wellBy_0 : decode cX8_wellBy 0 = .ok (.iload_n 1, 1) := edX8_wellBy_0.1
theorem dX8_wellBy_1 : decode cX8_wellBy 1 = .ok (.ifCond .ne 42, 3) := edX8_wellBy_0.2.1
theorem dX8_wellBy_4 : decode cX8_wellBy 4 = .ok (.aload_n 0, 1) := edX8_wellBy_0.2.2.1
theorem dX8_wellBy_5 : decode cX8_wellBy 5 = .ok (.iconst 0, 1) := edX8_wellBy_0.2.2.2.1
theorem dX8_wellBy_6 : decode cX8_wellBy 6 = .ok (.invokevirtual 143, 3) := edX8_wellBy_0.2.2.2.2.1
theorem dX8_wellBy_9 : decode cX8_wellBy 9 = .ok (.aload_n 0, 1) := edX8_wellBy_0.2.2.2.2.2.1
theorem dX8_wellBy_10 : decode cX8_wellBy 10 = .ok (.getfield 9, 3) := edX8_wellBy_0.2.2.2.2.2.2.1
theorem dX8_wellBy_13 : decode cX8_wellBy 13 = .ok (.bipush 20, 2) := edX8_wellBy_0.2.2.2.2.2.2.2.1
theorem dX8_wellBy_15 : decode cX8_wellBy 15 = .ok (.iaload, 1) := edX8_wellBy_0.2.2.2.2.2.2.2.2.1
theorem dX8_wellBy_16 : decode cX8_wellBy 16 = .ok (.isub, 1) := edX8_wellBy_0.2.2.2.2.2.2.2.2.2.1
theorem dX8_wellBy_17 : decode cX8_wellBy 17 = .ok (.istore_n 2, 1) := edX8_wellBy_0.2.2.2.2.2.2.2.2.2.2.1
theorem dX8_wellBy_18 : decode cX8_wellBy 18 = .ok (.aload_n 0, 1) := edX8_wellBy_0.2.2.2.2.2.2.2.2.2.2.2.1
theorem dX8_wellBy_19 : decode cX8_wellBy 19 = .ok (.iconst 1, 1) := edX8_wellBy_0.2.2.2.2.2.2.2.2.2.2.2.2.1
theorem dX8_wellBy_20 : decode cX8_wellBy 20 = .ok (.invokevirtual 143, 3) := edX8_wellBy_0.2.2.2.2.2.2.2.2.2.2.2.2.2.1
theorem dX8_wellBy_23 : decode cX8_wellBy 23 = .ok (.aload_n 0, 1) := edX8_wellBy_0.2.2.2.2.2.2.2.2.2.2.2.2.2.2.1
theorem dX8_wellBy_24 : decode cX8_wellBy 24 = .ok (.getfield 9, 3) := edX8_wellBy_0.2.2.2.2.2.2.2.2.2.2.2.2.2.2.2.1
theorem dX8_wellBy_27 : decode cX8_wellBy 27 = .ok (.bipush 21, 2) := edX8_wellBy_0.2.2.2.2.2.2.2.2.2.2.2.2.2.2.2.2.1
theorem dX8_wellBy_29 : decode cX8_wellBy 29 = .ok (.iaload, 1) := edX8_wellBy_0.2.2.2.2.2.2.2.2.2.2.2.2.2.2.2.2.2.1
theorem dX8_wellBy_30 : decode cX8_wellBy 30 = .ok (.isub, 1) := edX8_wellBy_0.2.2.2.2.2.2.2.2.2.2.2.2.2.2.2.2.2.2.1
theorem dX8_wellBy_31 : decode cX8_wellBy 31 = .ok (.istore_n 3, 1) := edX8_wellBy_0.2.2.2.2.2.2.2.2.2.2.2.2.2.2.2.2.2.2.2.1
theorem dX8_wellBy_32 : decode cX8_wellBy 32 = .ok (.iload_n 2, 1) := edX8_wellBy_0.2.2.2.2.2.2.2.2.2.2.2.2.2.2.2.2.2.2.2.2.1
theorem dX8_wellBy_33 : decode cX8_wellBy 33 = .ok (.iload_n 3, 1) := edX8_wellBy_0.2.2.2.2.2.2.2.2.2.2.2.2.2.2.2.2.2.2.2.2.2.1
theorem dX8_wellBy_34 : decode cX8_wellBy 34 = .ok (.if_icmp .ge 7, 3) := edX8_wellBy_0.2.2.2.2.2.2.2.2.2.2.2.2.2.2.2.2.2.2.2.2.2.2.1
theorem dX8_wellBy_37 : decode cX8_wellBy 37 = .ok (.iload_n 2, 1) := edX8_wellBy_0.2.2.2.2.2.2.2.2.2.2.2.2.2.2.2.2.2.2.2.2.2.2.2
theorem edX8_wellBy_38 : (decode cX8_wellBy 38 = .ok (.goto 4, 3)) ∧ (decode cX8_wellBy 41 = .ok (.iload_n 3, 1)) ∧ (decode cX8_wellBy 42 = .ok (.ireturn, 1)) ∧ (decode cX8_wellBy 43 = .ok (.iconst 0, 1)) ∧ (decode cX8_wellBy 44 = .ok (.istore_n 2, 1)) ∧ (decode cX8_wellBy 45 = .ok (.iconst 0, 1)) ∧ (decode cX8_wellBy 46 = .ok (.istore_n 3, 1)) ∧ (decode cX8_wellBy 47 = .ok (.iload_n 3, 1)) ∧ (decode cX8_wellBy 48 = .ok (.iconst 4, 1)) ∧ (decode cX8_wellBy 49 = .ok (.if_icmp .ge 46, 3)) ∧ (decode cX8_wellBy 52 = .ok (.aload_n 0, 1)) ∧ (decode cX8_wellBy 53 = .ok (.getfield 9, 3)) ∧ (decode cX8_wellBy 56 = .ok (.bipush 8, 2)) ∧ (decode cX8_wellBy 58 = .ok (.iload_n 3, 1)) ∧ (decode cX8_wellBy 59 = .ok (.iadd, 1)) ∧ (decode cX8_wellBy 60 = .ok (.iaload, 1)) ∧ (decode cX8_wellBy 61 = .ok (.aload_n 0, 1)) ∧ (decode cX8_wellBy 62 = .ok (.getfield 26, 3)) ∧ (decode cX8_wellBy 65 = .ok (.bipush 8, 2)) ∧ (decode cX8_wellBy 67 = .ok (.iload_n 3, 1)) ∧ (decode cX8_wellBy 68 = .ok (.iadd, 1)) ∧ (decode cX8_wellBy 69 = .ok (.iaload, 1)) ∧ (decode cX8_wellBy 70 = .ok (.isub, 1)) ∧ (decode cX8_wellBy 71 = .ok (.istore 4, 2)) := by decide +kernel
theorem dX8_wellBy_38 : decode cX8_wellBy 38 = .ok (.goto 4, 3) := edX8_wellBy_38.1
theorem dX8_wellBy_41 : decode cX8_wellBy 41 = .ok (.iload_n 3, 1) := edX8_wellBy_38.2.1
theorem dX8_wellBy_42 : decode cX8_wellBy 42 = .ok (.ireturn, 1) := edX8_wellBy_38.2.2.1
theorem dX8_wellBy_43 : decode cX8_wellBy 43 = .ok (.iconst 0, 1) := edX8_wellBy_38.2.2.2.1
theorem dX8_wellBy_44 : decode cX8_wellBy 44 = .ok (.istore_n 2, 1) := edX8_wellBy_38.2.2.2.2.1
theorem dX8_wellBy_45 : decode cX8_wellBy 45 = .ok (.iconst 0, 1) := edX8_wellBy_38.2.2.2.2.2.1
theorem dX8_wellBy_46 : decode cX8_wellBy 46 = .ok (.istore_n 3, 1) := edX8_wellBy_38.2.2.2.2.2.2.1
theorem dX8_wellBy_47 : decode cX8_wellBy 47 = .ok (.iload_n 3, 1) := edX8_wellBy_38.2.2.2.2.2.2.2.1
theorem dX8_wellBy_48 : decode cX8_wellBy 48 = .ok (.iconst 4, 1) := edX8_wellBy_38.2.2.2.2.2.2.2.2.1
theorem dX8_wellBy_49 : decode cX8_wellBy 49 = .ok (.if_icmp .ge 46, 3) := edX8_wellBy_38.2.2.2.2.2.2.2.2.2.1
theorem dX8_wellBy_52 : decode cX8_wellBy 52 = .ok (.aload_n 0, 1) := edX8_wellBy_38.2.2.2.2.2.2.2.2.2.2.1
theorem dX8_wellBy_53 : decode cX8_wellBy 53 = .ok (.getfield 9, 3) := edX8_wellBy_38.2.2.2.2.2.2.2.2.2.2.2.1
theorem dX8_wellBy_56 : decode cX8_wellBy 56 = .ok (.bipush 8, 2) := edX8_wellBy_38.2.2.2.2.2.2.2.2.2.2.2.2.1
theorem dX8_wellBy_58 : decode cX8_wellBy 58 = .ok (.iload_n 3, 1) := edX8_wellBy_38.2.2.2.2.2.2.2.2.2.2.2.2.2.1
theorem dX8_wellBy_59 : decode cX8_wellBy 59 = .ok (.iadd, 1) := edX8_wellBy_38.2.2.2.2.2.2.2.2.2.2.2.2.2.2.1
theorem dX8_wellBy_60 : decode cX8_wellBy 60 = .ok (.iaload, 1) := edX8_wellBy_38.2.2.2.2.2.2.2.2.2.2.2.2.2.2.2.1
theorem dX8_wellBy_61 : decode cX8_wellBy 61 = .ok (.aload_n 0, 1) := edX8_wellBy_38.2.2.2.2.2.2.2.2.2.2.2.2.2.2.2.2.1
theorem dX8_wellBy_62 : decode cX8_wellBy 62 = .ok (.getfield 26, 3) := edX8_wellBy_38.2.2.2.2.2.2.2.2.2.2.2.2.2.2.2.2.2.1
theorem dX8_wellBy_65 : decode cX8_wellBy 65 = .ok (.bipush 8, 2) := edX8_wellBy_38.2.2.2.2.2.2.2.2.2.2.2.2.2.2.2.2.2.2.1
theorem dX8_wellBy_67 : decode cX8_wellBy 67 = .ok (.iload_n 3, 1) := edX8_wellBy_38.2.2.2.2.2.2.2.2.2.2.2.2.2.2.2.2.2.2.2.1
theorem dX8_wellBy_68 : decode cX8_wellBy 68 = .ok (.iadd, 1) := edX8_wellBy_38.2.2.2.2.2.2.2.2.2.2.2.2.2.2.2.2.2.2.2.2.1
theorem dX8_wellBy_69 : decode cX8_wellBy 69 = .ok (.iaload, 1) := edX8_wellBy_38.2.2.2.2.2.2.2.2.2.2.2.2.2.2.2.2.2.2.2.2.2.1
theorem dX8_wellBy_70 : decode cX8_wellBy 70 = .ok (.isub, 1) := edX8_wellBy_38.2.2.2.2.2.2.2.2.2.2.2.2.2.2.2.2.2.2.2.2.2.2.1
theorem dX8_wellBy_71 : decode cX8_wellBy 71 = .ok (.istore 4, 2) := edX8_wellBy_38.2.2.2.2.2.2.2.2.2.2.2.2.2.2.2.2.2.2.2.2.2.2.2
theorem edX8_wellBy_73 : (decode cX8_wellBy 73 = .ok (.iload_n 2, 1)) ∧ (decode cX8_wellBy 74 = .ok (.iload 4, 2)) ∧ (decode cX8_wellBy 76 = .ok (.ifCond .ge 9, 3)) ∧ (decode cX8_wellBy 79 = .ok (.iload 4, 2)) ∧ (decode cX8_wellBy 81 = .ok (.ineg, 1)) ∧ (decode cX8_wellBy 82 = .ok (.goto 5, 3)) ∧ (decode cX8_wellBy 85 = .ok (.iload 4, 2)) ∧ (decode cX8_wellBy 87 = .ok (.iadd, 1)) ∧ (decode cX8_wellBy 88 = .ok (.istore_n 2, 1)) ∧ (decode cX8_wellBy 89 = .ok (.iinc 3 1, 3)) ∧ (decode cX8_wellBy 92 = .ok (.goto (-45), 3)) ∧ (decode cX8_wellBy 95 = .ok (.iload_n 2, 1)) ∧ (decode cX8_wellBy 96 = .ok (.ineg, 1)) ∧ (decode cX8_wellBy 97 = .ok (.ireturn, 1)) := by decide +kernel
theorem dX8_wellBy_73 : decode cX8_wellBy 73 = .ok (.iload_n 2, 1) := edX8_wellBy_73.1
theorem dX8_wellBy_74 : decode cX8_wellBy 74 = .ok (.iload 4, 2) := edX8_wellBy_73.2.1
theorem dX8_wellBy_76 : decode cX8_wellBy 76 = .ok (.ifCond .ge 9, 3) := edX8_wellBy_73.2.2.1
theorem dX8_wellBy_79 : decode cX8_wellBy 79 = .ok (.iload 4, 2) := edX8_wellBy_73.2.2.2.1
theorem dX8_wellBy_81 : decode cX8_wellBy 81 = .ok (.ineg, 1) := edX8_wellBy_73.2.2.2.2.1
theorem dX8_wellBy_82 : decode cX8_wellBy 82 = .ok (.goto 5, 3) := edX8_wellBy_73.2.2.2.2.2.1
theorem dX8_wellBy_85 : decode cX8_wellBy 85 = .ok (.iload 4, 2) := edX8_wellBy_73.2.2.2.2.2.2.1
theorem dX8_wellBy_87 : decode cX8_wellBy 87 = .ok (.iadd, 1) := edX8_wellBy_73.2.2.2.2.2.2.2.1
theorem dX8_wellBy_88 : decode cX8_wellBy 88 = .ok (.istore_n 2, 1) := edX8_wellBy_73.2.2.2.2.2.2.2.2.1
theorem dX8_wellBy_89 : decode cX8_wellBy 89 = .ok (.iinc 3 1, 3) := edX8_wellBy_73.2.2.2.2.2.2.2.2.2.1
theorem dX8_wellBy_92 : decode cX8_wellBy 92 = .ok (.goto (-45), 3) := edX8_wellBy_73.2.2.2.2.2.2.2.2.2.2.1
theorem dX8_wellBy_95 : decode cX8_wellBy 95 = .ok (.iload_n 2, 1) := edX8_wellBy_73.2.2.2.2.2.2.2.2.2.2.2.1
theorem dX8_wellBy_96 : decode cX8_wellBy 96 = .ok (.ineg, 1) := edX8_wellBy_73.2.2.2.2.2.2.2.2.2.2.2.2.1
theorem dX8_wellBy_97 : decode cX8_wellBy 97 = .ok (.ireturn, 1) := edX8_wellBy_73.2.2.2.2.2.2.2.2.2.2.2.2.2
theorem edX8_terms_0 : (decode cX8_terms 0 = .ok (.iload_n 1, 1)) ∧ (decode cX8_terms 1 = .ok (.iconst 0, 1)) ∧ (decode cX8_terms 2 = .ok (.iconst 1, 1)) ∧ (decode cX8_terms 3 = .ok (.invokestatic 83, 3)) ∧ (decode cX8_terms 6 = .ok (.ifCond .ne 6, 3)) ∧ (decode cX8_terms 9 = .ok (.ldc 91, 2)) ∧ (decode cX8_terms 11 = .ok (.ireturn, 1)) ∧ (decode cX8_terms 12 = .ok (.aload_n 0, 1)) ∧ (decode cX8_terms 13 = .ok (.invokevirtual 169, 3)) ∧ (decode cX8_terms 16 = .ok (.iconst (-1), 1)) ∧ (decode cX8_terms 17 = .ok (.istore_n 2, 1)) ∧ (decode cX8_terms 18 = .ok (.iconst 0, 1)) ∧ (decode cX8_terms 19 = .ok (.istore_n 3, 1)) ∧ (decode cX8_terms 20 = .ok (.iconst 0, 1)) ∧ (decode cX8_terms 21 = .ok (.istore 4, 2)) ∧ (decode cX8_terms 23 = .ok (.iload 4, 2)) ∧ (decode cX8_terms 25 = .ok (.sipush 10000, 3)) ∧ (decode cX8_terms 28 = .ok (.if_icmp .ge 45, 3)) ∧ (decode cX8_terms 31 = .ok (.aload_n 0, 1)) ∧ (decode cX8_terms 32 = .ok (.iload 4, 2)) ∧ (decode cX8_terms 34 = .ok (.invokevirtual 172, 3)) ∧ (decode cX8_terms 37 = .ok (.aload_n 0, 1)) ∧ (decode cX8_terms 38 = .ok (.invokevirtual 149, 3)) ∧ (decode cX8_terms 41 = .ok (.ifCond .eq 26, 3)) := by decide +kernel
theorem dX8_terms_0 : decode cX8_terms 0 = .ok (.iload_n 1, 1) := edX8_terms_0.1
theorem dX8_terms_1 : decode cX8_terms 1 = .ok (.iconst 0, 1) := edX8_terms_0.2.1
theorem dX8_terms_2 : decode cX8_terms 2 = .ok (.iconst 1, 1) := edX8_terms_0.2.2.1
theorem dX8_terms_3 : decode cX8_terms 3 = .ok (.invokestatic 83, 3) := edX8_terms_0.2.2.2.1
theorem dX8_terms_6 : decode cX8_terms 6 = .ok (.ifCond .ne 6, 3) := edX8_terms_0.2.2.2.2.1
theorem dX8_terms_9 : decode cX8_terms 9 = .ok (.ldc 91, 2) := edX8_terms_0.2.2.2.2.2.1
theorem dX8_terms_11 : decode cX8_terms 11 = .ok (.ireturn, 1) := edX8_terms_0.2.2.2.2.2.2.1
theorem dX8_terms_12 : decode cX8_terms 12 = .ok (.aload_n 0, 1) := edX8_terms_0.2.2.2.2.2.2.2.1
theorem dX8_terms_13 : decode cX8_terms 13 = .ok (.invokevirtual 169, 3) := edX8_terms_0.2.2.2.2.2.2.2.2.1
theorem dX8_terms_16 : decode cX8_terms 16 = .ok (.iconst (-1), 1) := edX8_terms_0.2.2.2.2.2.2.2.2.2.1
theorem dX8_terms_17 : decode cX8_terms 17 = .ok (.istore_n 2, 1) := edX8_terms_0.2.2.2.2.2.2.2.2.2.2.1
theorem dX8_terms_18 : decode cX8_terms 18 = .ok (.iconst 0, 1) := edX8_terms_0.2.2.2.2.2.2.2.2.2.2.2.1
theorem dX8_terms_19 : decode cX8_terms 19 = .ok (.istore_n 3, 1) := edX8_terms_0.2.2.2.2.2.2.2.2.2.2.2.2.1
theorem dX8_terms_20 : decode cX8_terms 20 = .ok (.iconst 0, 1) := edX8_terms_0.2.2.2.2.2.2.2.2.2.2.2.2.2.1
theorem dX8_terms_21 : decode cX8_terms 21 = .ok (.istore 4, 2) := edX8_terms_0.2.2.2.2.2.2.2.2.2.2.2.2.2.2.1
theorem dX8_terms_23 : decode cX8_terms 23 = .ok (.iload 4, 2) := edX8_terms_0.2.2.2.2.2.2.2.2.2.2.2.2.2.2.2.1
theorem dX8_terms_25 : decode cX8_terms 25 = .ok (.sipush 10000, 3) := edX8_terms_0.2.2.2.2.2.2.2.2.2.2.2.2.2.2.2.2.1
theorem dX8_terms_28 : decode cX8_terms 28 = .ok (.if_icmp .ge 45, 3) := edX8_terms_0.2.2.2.2.2.2.2.2.2.2.2.2.2.2.2.2.2.1
theorem dX8_terms_31 : decode cX8_terms 31 = .ok (.aload_n 0, 1) := edX8_terms_0.2.2.2.2.2.2.2.2.2.2.2.2.2.2.2.2.2.2.1
theorem dX8_terms_32 : decode cX8_terms 32 = .ok (.iload 4, 2) := edX8_terms_0.2.2.2.2.2.2.2.2.2.2.2.2.2.2.2.2.2.2.2.1
theorem dX8_terms_34 : decode cX8_terms 34 = .ok (.invokevirtual 172, 3) := edX8_terms_0.2.2.2.2.2.2.2.2.2.2.2.2.2.2.2.2.2.2.2.2.1
theorem dX8_terms_37 : decode cX8_terms 37 = .ok (.aload_n 0, 1) := edX8_terms_0.2.2.2.2.2.2.2.2.2.2.2.2.2.2.2.2.2.2.2.2.2.1
theorem dX8_terms_38 : decode cX8_terms 38 = .ok (.invokevirtual 149, 3) := edX8_terms_0.2.2.2.2.2.2.2.2.2.2.2.2.2.2.2.2.2.2.2.2.2.2.1
theorem dX8_terms_41 : decode cX8_terms 41 = .ok (.ifCond .eq 26, 3) := edX8_terms_0.2.2.2.2.2.2.2.2.2.2.2.2.2.2.2.2.2.2.2.2.2.2.2
theorem edX8_terms_44 : (decode cX8_terms 44 = .ok (.aload_n 0, 1)) ∧ (decode cX8_terms 45 = .ok (.iload_n 1, 1)) ∧ (decode cX8_terms 46 = .ok (.invokevirtual 178, 3)) ∧ (decode cX8_terms 49 = .ok (.istore 5, 2)) ∧ (decode cX8_terms 51 = .ok (.iload_n 2, 1)) ∧ (decode cX8_terms 52 = .ok (.ifCond .lt 9, 3)) ∧ (decode cX8_terms 55 = .ok (.iload 5, 2)) ∧ (decode cX8_terms 57 = .ok (.iload_n 3, 1)) ∧ (decode cX8_terms 58 = .ok (.if_icmp .le 9, 3)) ∧ (decode cX8_terms 61 = .ok (.iload 4, 2)) ∧ (decode cX8_terms 63 = .ok (.istore_n 2, 1)) ∧ (decode cX8_terms 64 = .ok (.iload 5, 2)) ∧ (decode cX8_terms 66 = .ok (.istore_n 3, 1)) ∧ (decode cX8_terms 67 = .ok (.iinc 4 1, 3)) ∧ (decode cX8_terms 70 = .ok (.goto (-47), 3)) ∧ (decode cX8_terms 73 = .ok (.aload_n 0, 1)) ∧ (decode cX8_terms 74 = .ok (.invokevirtual 175, 3)) ∧ (decode cX8_terms 77 = .ok (.iload_n 2, 1)) ∧ (decode cX8_terms 78 = .ok (.invokestatic 124, 3)) ∧ (decode cX8_terms 81 = .ok (.ireturn, 1)) := by decide +kernel
theorem dX8_terms_44 : decode cX8_terms 44 = .ok (.aload_n 0, 1) := edX8_terms_44.1
theorem dX8_terms_45 : decode cX8_terms 45 = .ok (.iload_n 1, 1) := edX8_terms_44.2.1
theorem dX8_terms_46 : decode cX8_terms 46 = .ok (.invokevirtual 178, 3) := edX8_terms_44.2.2.1
theorem dX8_terms_49 : decode cX8_terms 49 = .ok (.istore 5, 2) := edX8_terms_44.2.2.2.1
theorem dX8_terms_51 : decode cX8_terms 51 = .ok (.iload_n 2, 1) := edX8_terms_44.2.2.2.2.1
theorem dX8_terms_52 : decode cX8_terms 52 = .ok (.ifCond .lt 9, 3) := edX8_terms_44.2.2.2.2.2.1
theorem dX8_terms_55 : decode cX8_terms 55 = .ok (.iload 5, 2) := edX8_terms_44.2.2.2.2.2.2.1
theorem dX8_terms_57 : decode cX8_terms 57 = .ok (.iload_n 3, 1) := edX8_terms_44.2.2.2.2.2.2.2.1
theorem dX8_terms_58 : decode cX8_terms 58 = .ok (.if_icmp .le 9, 3) := edX8_terms_44.2.2.2.2.2.2.2.2.1
theorem dX8_terms_61 : decode cX8_terms 61 = .ok (.iload 4, 2) := edX8_terms_44.2.2.2.2.2.2.2.2.2.1
theorem dX8_terms_63 : decode cX8_terms 63 = .ok (.istore_n 2, 1) := edX8_terms_44.2.2.2.2.2.2.2.2.2.2.1
theorem dX8_terms_64 : decode cX8_terms 64 = .ok (.iload 5, 2) := edX8_terms_44.2.2.2.2.2.2.2.2.2.2.2.1
theorem dX8_terms_66 : decode cX8_terms 66 = .ok (.istore_n 3, 1) := edX8_terms_44.2.2.2.2.2.2.2.2.2.2.2.2.1
theorem dX8_terms_67 : decode cX8_terms 67 = .ok (.iinc 4 1, 3) := edX8_terms_44.2.2.2.2.2.2.2.2.2.2.2.2.2.1
theorem dX8_terms_70 : decode cX8_terms 70 = .ok (.goto (-47), 3) := edX8_terms_44.2.2.2.2.2.2.2.2.2.2.2.2.2.2.1
theorem dX8_terms_73 : decode cX8_terms 73 = .ok (.aload_n 0, 1) := edX8_terms_44.2.2.2.2.2.2.2.2.2.2.2.2.2.2.2.1
theorem dX8_terms_74 : decode cX8_terms 74 = .ok (.invokevirtual 175, 3) := edX8_terms_44.2.2.2.2.2.2.2.2.2.2.2.2.2.2.2.2.1
theorem dX8_terms_77 : decode cX8_terms 77 = .ok (.iload_n 2, 1) := edX8_terms_44.2.2.2.2.2.2.2.2.2.2.2.2.2.2.2.2.2.1
theorem dX8_terms_78 : decode cX8_terms 78 = .ok (.invokestatic 124, 3) := edX8_terms_44.2.2.2.2.2.2.2.2.2.2.2.2.2.2.2.2.2.2.1
theorem dX8_terms_81 : decode cX8_terms 81 = .ok (.ireturn, 1) := edX8_terms_44.2.2.2.2.2.2.2.2.2.2.2.2.2.2.2.2.2.2.2
theorem edX8_behind_0 : (decode cX8_behind 0 = .ok (.iload_n 1, 1)) ∧ (decode cX8_behind 1 = .ok (.iconst 0, 1)) ∧ (decode cX8_behind 2 = .ok (.bipush 100, 2)) ∧ (decode cX8_behind 4 = .ok (.invokestatic 83, 3)) ∧ (decode cX8_behind 7 = .ok (.ifCond .eq 12, 3)) ∧ (decode cX8_behind 10 = .ok (.iload_n 2, 1)) ∧ (decode cX8_behind 11 = .ok (.iconst 0, 1)) ∧ (decode cX8_behind 12 = .ok (.iconst 3, 1)) ∧ (decode cX8_behind 13 = .ok (.invokestatic 83, 3)) ∧ (decode cX8_behind 16 = .ok (.ifCond .ne 6, 3)) ∧ (decode cX8_behind 19 = .ok (.ldc 91, 2)) ∧ (decode cX8_behind 21 = .ok (.ireturn, 1)) ∧ (decode cX8_behind 22 = .ok (.aload_n 0, 1)) ∧ (decode cX8_behind 23 = .ok (.invokevirtual 169, 3)) ∧ (decode cX8_behind 26 = .ok (.aload_n 0, 1)) ∧ (decode cX8_behind 27 = .ok (.iload_n 1, 1)) ∧ (decode cX8_behind 28 = .ok (.invokevirtual 163, 3)) ∧ (decode cX8_behind 31 = .ok (.iload_n 2, 1)) ∧ (decode cX8_behind 32 = .ok (.ifCond .ne 12, 3)) ∧ (decode cX8_behind 35 = .ok (.aload_n 0, 1)) ∧ (decode cX8_behind 36 = .ok (.getfield 9, 3)) ∧ (decode cX8_behind 39 = .ok (.iconst 3, 1)) ∧ (decode cX8_behind 40 = .ok (.iaload, 1)) ∧ (decode cX8_behind 41 = .ok (.goto 42, 3)) := by decide +kernel
theorem dX8_behind_0 : decode cX8_behind 0 = .ok (.iload_n 1, 1) := edX8_behind_0.1
theorem dX8_behind_1 : decode cX8_behind 1 = .ok (.iconst 0, 1) := edX8_behind_0.2.1
theorem dX8_behind_2 : decode cX8_behind 2 = .ok (.bipush 100, 2) := edX8_behind_0.2.2.1
theorem dX8_behind_4 : decode cX8_behind 4 = .ok (.invokestatic 83, 3) := edX8_behind_0.2.2.2.1
theorem dX8_behind_7 : decode cX8_behind 7 = .ok (.ifCond .eq 12, 3) := edX8_behind_0.2.2.2.2.1
theorem dX8_behind_10 : decode cX8_behind 10 = .ok (.iload_n 2, 1) := edX8_behind_0.2.2.2.2.2.1
theorem dX8_behind_11 : decode cX8_behind 11 = .ok (.iconst 0, 1) := edX8_behind_0.2.2.2.2.2.2.1
theorem dX8_behind_12 : decode cX8_behind 12 = .ok (.iconst 3, 1) := edX8_behind_0.2.2.2.2.2.2.2.1
theorem dX8_behind_13 : decode cX8_behind 13 = .ok (.invokestatic 83, 3) := edX8_behind_0.2.2.2.2.2.2.2.2.1
theorem dX8_behind_16 : decode cX8_behind 16 = .ok (.ifCond .ne 6, 3) := edX8_behind_0.2.2.2.2.2.2.2.2.2.1
theorem dX8_behind_19 : decode cX8_behind 19 = .ok (.ldc 91, 2) := edX8_behind_0.2.2.2.2.2.2.2.2.2.2.1
theorem dX8_behind_21 : decode cX8_behind 21 = .ok (.ireturn, 1) := edX8_behind_0.2.2.2.2.2.2.2.2.2.2.2.1
theorem dX8_behind_22 : decode cX8_behind 22 = .ok (.aload_n 0, 1) := edX8_behind_0.2.2.2.2.2.2.2.2.2.2.2.2.1
theorem dX8_behind_23 : decode cX8_behind 23 = .ok (.invokevirtual 169, 3) := edX8_behind_0.2.2.2.2.2.2.2.2.2.2.2.2.2.1
theorem dX8_behind_26 : decode cX8_behind 26 = .ok (.aload_n 0, 1) := edX8_behind_0.2.2.2.2.2.2.2.2.2.2.2.2.2.2.1
theorem dX8_behind_27 : decode cX8_behind 27 = .ok (.iload_n 1, 1) := edX8_behind_0.2.2.2.2.2.2.2.2.2.2.2.2.2.2.2.1
theorem dX8_behind_28 : decode cX8_behind 28 = .ok (.invokevirtual 163, 3) := edX8_behind_0.2.2.2.2.2.2.2.2.2.2.2.2.2.2.2.2.1
theorem dX8_behind_31 : decode cX8_behind 31 = .ok (.iload_n 2, 1) := edX8_behind_0.2.2.2.2.2.2.2.2.2.2.2.2.2.2.2.2.2.1
theorem dX8_behind_32 : decode cX8_behind 32 = .ok (.ifCond .ne 12, 3) := edX8_behind_0.2.2.2.2.2.2.2.2.2.2.2.2.2.2.2.2.2.2.1
theorem dX8_behind_35 : decode cX8_behind 35 = .ok (.aload_n 0, 1) := edX8_behind_0.2.2.2.2.2.2.2.2.2.2.2.2.2.2.2.2.2.2.2.1
theorem dX8_behind_36 : decode cX8_behind 36 = .ok (.getfield 9, 3) := edX8_behind_0.2.2.2.2.2.2.2.2.2.2.2.2.2.2.2.2.2.2.2.2.1
theorem dX8_behind_39 : decode cX8_behind 39 = .ok (.iconst 3, 1) := edX8_behind_0.2.2.2.2.2.2.2.2.2.2.2.2.2.2.2.2.2.2.2.2.2.1
theorem dX8_behind_40 : decode cX8_behind 40 = .ok (.iaload, 1) := edX8_behind_0.2.2.2.2.2.2.2.2.2.2.2.2.2.2.2.2.2.2.2.2.2.2.1
theorem dX8_behind_41 : decode cX8_behind 41 = .ok (.goto 42, 3) := edX8_behind_0.2.2.2.2.2.2.2.2.2.2.2.2.2.2.2.2.2.2.2.2.2.2.2
theorem edX8_behind_44 : (decode cX8_behind 44 = .ok (.iload_n 2, 1)) ∧ (decode cX8_behind 45 = .ok (.iconst 1, 1)) ∧ (decode cX8_behind 46 = .ok (.if_icmp .ne 10, 3)) ∧ (decode cX8_behind 49 = .ok (.aload_n 0, 1)) ∧ (decode cX8_behind 50 = .ok (.invokevirtual 166, 3)) ∧ (decode cX8_behind 53 = .ok (.goto 30, 3)) ∧ (decode cX8_behind 56 = .ok (.iload_n 2, 1)) ∧ (decode cX8_behind 57 = .ok (.iconst 2, 1)) ∧ (decode cX8_behind 58 = .ok (.if_icmp .ne 18, 3)) ∧ (decode cX8_behind 61 = .ok (.aload_n 0, 1)) ∧ (decode cX8_behind 62 = .ok (.invokevirtual 149, 3)) ∧ (decode cX8_behind 65 = .ok (.ifCond .eq 7, 3)) ∧ (decode cX8_behind 68 = .ok (.iconst 1, 1)) ∧ (decode cX8_behind 69 = .ok (.goto 14, 3)) ∧ (decode cX8_behind 72 = .ok (.iconst 0, 1)) ∧ (decode cX8_behind 73 = .ok (.goto 10, 3)) ∧ (decode cX8_behind 76 = .ok (.aload_n 0, 1)) ∧ (decode cX8_behind 77 = .ok (.getfield 9, 3)) ∧ (decode cX8_behind 80 = .ok (.bipush 6, 2)) ∧ (decode cX8_behind 82 = .ok (.iaload, 1)) ∧ (decode cX8_behind 83 = .ok (.istore_n 3, 1)) ∧ (decode cX8_behind 84 = .ok (.aload_n 0, 1)) ∧ (decode cX8_behind 85 = .ok (.invokevirtual 175, 3)) ∧ (decode cX8_behind 88 = .ok (.iload_n 3, 1)) := by decide +kernel
theorem dX8_behind_44 : decode cX8_behind 44 = .ok (.iload_n 2, 1) := edX8_behind_44.1
theorem dX8_behind_45 : decode cX8_behind 45 = .ok (.iconst 1, 1) := edX8_behind_44.2.1
theorem dX8_behind_46 : decode cX8_behind 46 = .ok (.if_icmp .ne 10, 3) := edX8_behind_44.2.2.1
theorem dX8_behind_49 : decode cX8_behind 49 = .ok (.aload_n 0, 1) := edX8_behind_44.2.2.2.1
theorem dX8_behind_50 : decode cX8_behind 50 = .ok (.invokevirtual 166, 3) := edX8_behind_44.2.2.2.2.1
theorem dX8_behind_53 : decode cX8_behind 53 = .ok (.goto 30, 3) := edX8_behind_44.2.2.2.2.2.1
theorem dX8_behind_56 : decode cX8_behind 56 = .ok (.iload_n 2, 1) := edX8_behind_44.2.2.2.2.2.2.1
theorem dX8_behind_57 : decode cX8_behind 57 = .ok (.iconst 2, 1) := edX8_behind_44.2.2.2.2.2.2.2.1
theorem dX8_behind_58 : decode cX8_behind 58 = .ok (.if_icmp .ne 18, 3) := edX8_behind_44.2.2.2.2.2.2.2.2.1
theorem dX8_behind_61 : decode cX8_behind 61 = .ok (.aload_n 0, 1) := edX8_behind_44.2.2.2.2.2.2.2.2.2.1
theorem dX8_behind_62 : decode cX8_behind 62 = .ok (.invokevirtual 149, 3) := edX8_behind_44.2.2.2.2.2.2.2.2.2.2.1
theorem dX8_behind_65 : decode cX8_behind 65 = .ok (.ifCond .eq 7, 3) := edX8_behind_44.2.2.2.2.2.2.2.2.2.2.2.1
theorem dX8_behind_68 : decode cX8_behind 68 = .ok (.iconst 1, 1) := edX8_behind_44.2.2.2.2.2.2.2.2.2.2.2.2.1
theorem dX8_behind_69 : decode cX8_behind 69 = .ok (.goto 14, 3) := edX8_behind_44.2.2.2.2.2.2.2.2.2.2.2.2.2.1
theorem dX8_behind_72 : decode cX8_behind 72 = .ok (.iconst 0, 1) := edX8_behind_44.2.2.2.2.2.2.2.2.2.2.2.2.2.2.1
theorem dX8_behind_73 : decode cX8_behind 73 = .ok (.goto 10, 3) := edX8_behind_44.2.2.2.2.2.2.2.2.2.2.2.2.2.2.2.1
theorem dX8_behind_76 : decode cX8_behind 76 = .ok (.aload_n 0, 1) := edX8_behind_44.2.2.2.2.2.2.2.2.2.2.2.2.2.2.2.2.1
theorem dX8_behind_77 : decode cX8_behind 77 = .ok (.getfield 9, 3) := edX8_behind_44.2.2.2.2.2.2.2.2.2.2.2.2.2.2.2.2.2.1
theorem dX8_behind_80 : decode cX8_behind 80 = .ok (.bipush 6, 2) := edX8_behind_44.2.2.2.2.2.2.2.2.2.2.2.2.2.2.2.2.2.2.1
theorem dX8_behind_82 : decode cX8_behind 82 = .ok (.iaload, 1) := edX8_behind_44.2.2.2.2.2.2.2.2.2.2.2.2.2.2.2.2.2.2.2.1
theorem dX8_behind_83 : decode cX8_behind 83 = .ok (.istore_n 3, 1) := edX8_behind_44.2.2.2.2.2.2.2.2.2.2.2.2.2.2.2.2.2.2.2.2.1
theorem dX8_behind_84 : decode cX8_behind 84 = .ok (.aload_n 0, 1) := edX8_behind_44.2.2.2.2.2.2.2.2.2.2.2.2.2.2.2.2.2.2.2.2.2.1
theorem dX8_behind_85 : decode cX8_behind 85 = .ok (.invokevirtual 175, 3) := edX8_behind_44.2.2.2.2.2.2.2.2.2.2.2.2.2.2.2.2.2.2.2.2.2.2.1
theorem dX8_behind_88 : decode cX8_behind 88 = .ok (.iload_n 3, 1) := edX8_behind_44.2.2.2.2.2.2.2.2.2.2.2.2.2.2.2.2.2.2.2.2.2.2.2
theorem edX8_behind_89 : (decode cX8_behind 89 = .ok (.ireturn, 1)) := by decide +kernel
theorem dX8_behind_89 : decode cX8_behind 89 = .ok (.ireturn, 1) := edX8_behind_89
theorem edX8_ends_0 : (decode cX8_ends 0 = .ok (.iload_n 1, 1)) ∧ (decode cX8_ends 1 = .ok (.iconst 0, 1)) ∧ (decode cX8_ends 2 = .ok (.iconst 1, 1)) ∧ (decode cX8_ends 3 = .ok (.invokestatic 83, 3)) ∧ (decode cX8_ends 6 = .ok (.ifCond .ne 6, 3)) ∧ (decode cX8_ends 9 = .ok (.ldc 91, 2)) ∧ (decode cX8_ends 11 = .ok (.ireturn, 1)) ∧ (decode cX8_ends 12 = .ok (.aload_n 0, 1)) ∧ (decode cX8_ends 13 = .ok (.invokevirtual 169, 3)) ∧ (decode cX8_ends 16 = .ok (.iconst 0, 1)) ∧ (decode cX8_ends 17 = .ok (.istore_n 2, 1)) ∧ (decode cX8_ends 18 = .ok (.iload_n 2, 1)) ∧ (decode cX8_ends 19 = .ok (.sipush 200, 3)) ∧ (decode cX8_ends 22 = .ok (.if_icmp .gt 35, 3)) ∧ (decode cX8_ends 25 = .ok (.aload_n 0, 1)) ∧ (decode cX8_ends 26 = .ok (.invokevirtual 149, 3)) ∧ (decode cX8_ends 29 = .ok (.ifCond .ne 28, 3)) ∧ (decode cX8_ends 32 = .ok (.aload_n 0, 1)) ∧ (decode cX8_ends 33 = .ok (.getfield 9, 3)) ∧ (decode cX8_ends 36 = .ok (.iconst 3, 1)) ∧ (decode cX8_ends 37 = .ok (.iaload, 1)) ∧ (decode cX8_ends 38 = .ok (.aload_n 0, 1)) ∧ (decode cX8_ends 39 = .ok (.getfield 9, 3)) ∧ (decode cX8_ends 42 = .ok (.iconst 4, 1)) := by decide +kernel
theorem dX8_ends_0 : decode cX8_ends 0 = .ok (.iload_n 1, 1) := edX8_ends_0.1
theorem dX8_ends_1 : decode cX8_ends 1 = .ok (.iconst 0, 1) := edX8_ends_0.2.1
theorem dX8_ends_2 : decode cX8_ends 2 = .ok (.iconst 1, 1) := edX8_ends_0.2.2.1
theorem dX8_ends_3 : decode cX8_ends 3 = .ok (.invokestatic 83, 3) := edX8_ends_0.2.2.2.1
theorem dX8_ends_6 : decode cX8_ends 6 = .ok (.ifCond .ne 6, 3) := edX8_ends_0.2.2.2.2.1
theorem dX8_ends_9 : decode cX8_ends 9 = .ok (.ldc 91, 2) := edX8_ends_0.2.2.2.2.2.1
theorem dX8_ends_11 : decode cX8_ends 11 = .ok (.ireturn, 1) := edX8_ends_0.2.2.2.2.2.2.1
theorem dX8_ends_12 : decode cX8_ends 12 = .ok (.aload_n 0, 1) := edX8_ends_0.2.2.2.2.2.2.2.1
theorem dX8_ends_13 : decode cX8_ends 13 = .ok (.invokevirtual 169, 3) := edX8_ends_0.2.2.2.2.2.2.2.2.1
theorem dX8_ends_16 : decode cX8_ends 16 = .ok (.iconst 0, 1) := edX8_ends_0.2.2.2.2.2.2.2.2.2.1
theorem dX8_ends_17 : decode cX8_ends 17 = .ok (.istore_n 2, 1) := edX8_ends_0.2.2.2.2.2.2.2.2.2.2.1
theorem dX8_ends_18 : decode cX8_ends 18 = .ok (.iload_n 2, 1) := edX8_ends_0.2.2.2.2.2.2.2.2.2.2.2.1
theorem dX8_ends_19 : decode cX8_ends 19 = .ok (.sipush 200, 3) := edX8_ends_0.2.2.2.2.2.2.2.2.2.2.2.2.1
theorem dX8_ends_22 : decode cX8_ends 22 = .ok (.if_icmp .gt 35, 3) := edX8_ends_0.2.2.2.2.2.2.2.2.2.2.2.2.2.1
theorem dX8_ends_25 : decode cX8_ends 25 = .ok (.aload_n 0, 1) := edX8_ends_0.2.2.2.2.2.2.2.2.2.2.2.2.2.2.1
theorem dX8_ends_26 : decode cX8_ends 26 = .ok (.invokevirtual 149, 3) := edX8_ends_0.2.2.2.2.2.2.2.2.2.2.2.2.2.2.2.1
theorem dX8_ends_29 : decode cX8_ends 29 = .ok (.ifCond .ne 28, 3) := edX8_ends_0.2.2.2.2.2.2.2.2.2.2.2.2.2.2.2.2.1
theorem dX8_ends_32 : decode cX8_ends 32 = .ok (.aload_n 0, 1) := edX8_ends_0.2.2.2.2.2.2.2.2.2.2.2.2.2.2.2.2.2.1
theorem dX8_ends_33 : decode cX8_ends 33 = .ok (.getfield 9, 3) := edX8_ends_0.2.2.2.2.2.2.2.2.2.2.2.2.2.2.2.2.2.2.1
theorem dX8_ends_36 : decode cX8_ends 36 = .ok (.iconst 3, 1) := edX8_ends_0.2.2.2.2.2.2.2.2.2.2.2.2.2.2.2.2.2.2.2.1
theorem dX8_ends_37 : decode cX8_ends 37 = .ok (.iaload, 1) := edX8_ends_0.2.2.2.2.2.2.2.2.2.2.2.2.2.2.2.2.2.2.2.2.1
theorem dX8_ends_38 : decode cX8_ends 38 = .ok (.aload_n 0, 1) := edX8_ends_0.2.2.2.2.2.2.2.2.2.2.2.2.2.2.2.2.2.2.2.2.2.1
theorem dX8_ends_39 : decode cX8_ends 39 = .ok (.getfield 9, 3) := edX8_ends_0.2.2.2.2.2.2.2.2.2.2.2.2.2.2.2.2.2.2.2.2.2.2.1
theorem dX8_ends_42 : decode cX8_ends 42 = .ok (.iconst 4, 1) := edX8_ends_0.2.2.2.2.2.2.2.2.2.2.2.2.2.2.2.2.2.2.2.2.2.2.2
theorem edX8_ends_43 : (decode cX8_ends 43 = .ok (.iaload, 1)) ∧ (decode cX8_ends 44 = .ok (.if_icmp .ge 13, 3)) ∧ (decode cX8_ends 47 = .ok (.aload_n 0, 1)) ∧ (decode cX8_ends 48 = .ok (.invokevirtual 157, 3)) ∧ (decode cX8_ends 51 = .ok (.iinc 2 1, 3)) ∧ (decode cX8_ends 54 = .ok (.goto (-36), 3)) ∧ (decode cX8_ends 57 = .ok (.aload_n 0, 1)) ∧ (decode cX8_ends 58 = .ok (.invokevirtual 149, 3)) ∧ (decode cX8_ends 61 = .ok (.ifCond .eq 7, 3)) ∧ (decode cX8_ends 64 = .ok (.iconst 1, 1)) ∧ (decode cX8_ends 65 = .ok (.goto 4, 3)) ∧ (decode cX8_ends 68 = .ok (.iconst 2, 1)) ∧ (decode cX8_ends 69 = .ok (.istore_n 3, 1)) ∧ (decode cX8_ends 70 = .ok (.aload_n 0, 1)) ∧ (decode cX8_ends 71 = .ok (.invokevirtual 175, 3)) ∧ (decode cX8_ends 74 = .ok (.iload_n 2, 1)) ∧ (decode cX8_ends 75 = .ok (.sipush 200, 3)) ∧ (decode cX8_ends 78 = .ok (.if_icmp .le 8, 3)) ∧ (decode cX8_ends 81 = .ok (.ldc 82, 2)) ∧ (decode cX8_ends 83 = .ok (.goto 12, 3)) ∧ (decode cX8_ends 86 = .ok (.iload_n 1, 1)) ∧ (decode cX8_ends 87 = .ok (.ifCond .ne 7, 3)) ∧ (decode cX8_ends 90 = .ok (.iload_n 2, 1)) ∧ (decode cX8_ends 91 = .ok (.goto 4, 3)) := by decide +kernel
theorem dX8_ends_43 : decode cX8_ends 43 = .ok (.iaload, 1) := edX8_ends_43.1
theorem dX8_ends_44 : decode cX8_ends 44 = .ok (.if_icmp .ge 13, 3) := edX8_ends_43.2.1
theorem dX8_ends_47 : decode cX8_ends 47 = .ok (.aload_n 0, 1) := edX8_ends_43.2.2.1
theorem dX8_ends_48 : decode cX8_ends 48 = .ok (.invokevirtual 157, 3) := edX8_ends_43.2.2.2.1
theorem dX8_ends_51 : decode cX8_ends 51 = .ok (.iinc 2 1, 3) := edX8_ends_43.2.2.2.2.1
theorem dX8_ends_54 : decode cX8_ends 54 = .ok (.goto (-36), 3) := edX8_ends_43.2.2.2.2.2.1
theorem dX8_ends_57 : decode cX8_ends 57 = .ok (.aload_n 0, 1) := edX8_ends_43.2.2.2.2.2.2.1
theorem dX8_ends_58 : decode cX8_ends 58 = .ok (.invokevirtual 149, 3) := edX8_ends_43.2.2.2.2.2.2.2.1
theorem dX8_ends_61 : decode cX8_ends 61 = .ok (.ifCond .eq 7, 3) := edX8_ends_43.2.2.2.2.2.2.2.2.1
theorem dX8_ends_64 : decode cX8_ends 64 = .ok (.iconst 1, 1) := edX8_ends_43.2.2.2.2.2.2.2.2.2.1
theorem dX8_ends_65 : decode cX8_ends 65 = .ok (.goto 4, 3) := edX8_ends_43.2.2.2.2.2.2.2.2.2.2.1
theorem dX8_ends_68 : decode cX8_ends 68 = .ok (.iconst 2, 1) := edX8_ends_43.2.2.2.2.2.2.2.2.2.2.2.1
theorem dX8_ends_69 : decode cX8_ends 69 = .ok (.istore_n 3, 1) := edX8_ends_43.2.2.2.2.2.2.2.2.2.2.2.2.1
theorem dX8_ends_70 : decode cX8_ends 70 = .ok (.aload_n 0, 1) := edX8_ends_43.2.2.2.2.2.2.2.2.2.2.2.2.2.1
theorem dX8_ends_71 : decode cX8_ends 71 = .ok (.invokevirtual 175, 3) := edX8_ends_43.2.2.2.2.2.2.2.2.2.2.2.2.2.2.1
theorem dX8_ends_74 : decode cX8_ends 74 = .ok (.iload_n 2, 1) := edX8_ends_43.2.2.2.2.2.2.2.2.2.2.2.2.2.2.2.1
theorem dX8_ends_75 : decode cX8_ends 75 = .ok (.sipush 200, 3) := edX8_ends_43.2.2.2.2.2.2.2.2.2.2.2.2.2.2.2.2.1
theorem dX8_ends_78 : decode cX8_ends 78 = .ok (.if_icmp .le 8, 3) := edX8_ends_43.2.2.2.2.2.2.2.2.2.2.2.2.2.2.2.2.2.1
theorem dX8_ends_81 : decode cX8_ends 81 = .ok (.ldc 82, 2) := edX8_ends_43.2.2.2.2.2.2.2.2.2.2.2.2.2.2.2.2.2.2.1
theorem dX8_ends_83 : decode cX8_ends 83 = .ok (.goto 12, 3) := edX8_ends_43.2.2.2.2.2.2.2.2.2.2.2.2.2.2.2.2.2.2.2.1
theorem dX8_ends_86 : decode cX8_ends 86 = .ok (.iload_n 1, 1) := edX8_ends_43.2.2.2.2.2.2.2.2.2.2.2.2.2.2.2.2.2.2.2.2.1
theorem dX8_ends_87 : decode cX8_ends 87 = .ok (.ifCond .ne 7, 3) := edX8_ends_43.2.2.2.2.2.2.2.2.2.2.2.2.2.2.2.2.2.2.2.2.2.1
theorem dX8_ends_90 : decode cX8_ends 90 = .ok (.iload_n 2, 1) := edX8_ends_43.2.2.2.2.2.2.2.2.2.2.2.2.2.2.2.2.2.2.2.2.2.2.1
theorem dX8_ends_91 : decode cX8_ends 91 = .ok (.goto 4, 3) := edX8_ends_43.2.2.2.2.2.2.2.2.2.2.2.2.2.2.2.2.2.2.2.2.2.2.2
theorem edX8_ends_94 : (decode cX8_ends 94 = .ok (.iload_n 3, 1)) ∧ (decode cX8_ends 95 = .ok (.ireturn, 1)) := by decide +kernel
theorem dX8_ends_94 : decode cX8_ends 94 = .ok (.iload_n 3, 1) := edX8_ends_94.1
theorem dX8_ends_95 : decode cX8_ends 95 = .ok (.ireturn, 1) := edX8_ends_94.2
theorem edX8_endsWell_0 : (decode cX8_endsWell 0 = .ok (.aload_n 0, 1)) ∧ (decode cX8_endsWell 1 = .ok (.iload_n 1, 1)) ∧ (decode cX8_endsWell 2 = .ok (.invokevirtual 163, 3)) ∧ (decode cX8_endsWell 5 = .ok (.aload_n 0, 1)) ∧ (decode cX8_endsWell 6 = .ok (.invokevirtual 149, 3)) ∧ (decode cX8_endsWell 9 = .ok (.istore_n 2, 1)) ∧ (decode cX8_endsWell 10 = .ok (.aload_n 0, 1)) ∧ (decode cX8_endsWell 11 = .ok (.invokevirtual 175, 3)) ∧ (decode cX8_endsWell 14 = .ok (.iload_n 2, 1)) ∧ (decode cX8_endsWell 15 = .ok (.ireturn, 1)) := by decide +kernel
theorem dX8_endsWell_0 : decode cX8_endsWell 0 = .ok (.aload_n 0, 1) := edX8_endsWell_0.1
theorem dX8_endsWell_1 : decode cX8_endsWell 1 = .ok (.iload_n 1, 1) := edX8_endsWell_0.2.1
theorem dX8_endsWell_2 : decode cX8_endsWell 2 = .ok (.invokevirtual 163, 3) := edX8_endsWell_0.2.2.1
theorem dX8_endsWell_5 : decode cX8_endsWell 5 = .ok (.aload_n 0, 1) := edX8_endsWell_0.2.2.2.1
theorem dX8_endsWell_6 : decode cX8_endsWell 6 = .ok (.invokevirtual 149, 3) := edX8_endsWell_0.2.2.2.2.1
theorem dX8_endsWell_9 : decode cX8_endsWell 9 = .ok (.istore_n 2, 1) := edX8_endsWell_0.2.2.2.2.2.1
theorem dX8_endsWell_10 : decode cX8_endsWell 10 = .ok (.aload_n 0, 1) := edX8_endsWell_0.2.2.2.2.2.2.1
theorem dX8_endsWell_11 : decode cX8_endsWell 11 = .ok (.invokevirtual 175, 3) := edX8_endsWell_0.2.2.2.2.2.2.2.1
theorem dX8_endsWell_14 : decode cX8_endsWell 14 = .ok (.iload_n 2, 1) := edX8_endsWell_0.2.2.2.2.2.2.2.2.1
theorem dX8_endsWell_15 : decode cX8_endsWell 15 = .ok (.ireturn, 1) := edX8_endsWell_0.2.2.2.2.2.2.2.2.2
theorem edX8_held_0 : (decode cX8_held 0 = .ok (.iload_n 1, 1)) ∧ (decode cX8_held 1 = .ok (.iconst 1, 1)) ∧ (decode cX8_held 2 = .ok (.bipush 60, 2)) ∧ (decode cX8_held 4 = .ok (.invokestatic 83, 3)) ∧ (decode cX8_held 7 = .ok (.ifCond .ne 6, 3)) ∧ (decode cX8_held 10 = .ok (.ldc 91, 2)) ∧ (decode cX8_held 12 = .ok (.ireturn, 1)) ∧ (decode cX8_held 13 = .ok (.aload_n 0, 1)) ∧ (decode cX8_held 14 = .ok (.invokevirtual 169, 3)) ∧ (decode cX8_held 17 = .ok (.iconst 0, 1)) ∧ (decode cX8_held 18 = .ok (.istore_n 2, 1)) ∧ (decode cX8_held 19 = .ok (.aload_n 0, 1)) ∧ (decode cX8_held 20 = .ok (.iload_n 1, 1)) ∧ (decode cX8_held 21 = .ok (.invokevirtual 181, 3)) ∧ (decode cX8_held 24 = .ok (.istore_n 3, 1)) ∧ (decode cX8_held 25 = .ok (.iconst 0, 1)) ∧ (decode cX8_held 26 = .ok (.istore 4, 2)) ∧ (decode cX8_held 28 = .ok (.iload 4, 2)) ∧ (decode cX8_held 30 = .ok (.aload_n 0, 1)) ∧ (decode cX8_held 31 = .ok (.getfield 9, 3)) ∧ (decode cX8_held 34 = .ok (.iconst 1, 1)) ∧ (decode cX8_held 35 = .ok (.iaload, 1)) ∧ (decode cX8_held 36 = .ok (.if_icmp .ge 38, 3)) ∧ (decode cX8_held 39 = .ok (.iload_n 3, 1)) := by decide +kernel
theorem dX8_held_0 : decode cX8_held 0 = .ok (.iload_n 1, 1) := edX8_held_0.1
theorem dX8_held_1 : decode cX8_held 1 = .ok (.iconst 1, 1) := edX8_held_0.2.1
theorem dX8_held_2 : decode cX8_held 2 = .ok (.bipush 60, 2) := edX8_held_0.2.2.1
theorem dX8_held_4 : decode cX8_held 4 = .ok (.invokestatic 83, 3) := edX8_held_0.2.2.2.1
theorem dX8_held_7 : decode cX8_held 7 = .ok (.ifCond .ne 6, 3) := edX8_held_0.2.2.2.2.1
theorem dX8_held_10 : decode cX8_held 10 = .ok (.ldc 91, 2) := edX8_held_0.2.2.2.2.2.1
theorem dX8_held_12 : decode cX8_held 12 = .ok (.ireturn, 1) := edX8_held_0.2.2.2.2.2.2.1
theorem dX8_held_13 : decode cX8_held 13 = .ok (.aload_n 0, 1) := edX8_held_0.2.2.2.2.2.2.2.1
theorem dX8_held_14 : decode cX8_held 14 = .ok (.invokevirtual 169, 3) := edX8_held_0.2.2.2.2.2.2.2.2.1
theorem dX8_held_17 : decode cX8_held 17 = .ok (.iconst 0, 1) := edX8_held_0.2.2.2.2.2.2.2.2.2.1
theorem dX8_held_18 : decode cX8_held 18 = .ok (.istore_n 2, 1) := edX8_held_0.2.2.2.2.2.2.2.2.2.2.1
theorem dX8_held_19 : decode cX8_held 19 = .ok (.aload_n 0, 1) := edX8_held_0.2.2.2.2.2.2.2.2.2.2.2.1
theorem dX8_held_20 : decode cX8_held 20 = .ok (.iload_n 1, 1) := edX8_held_0.2.2.2.2.2.2.2.2.2.2.2.2.1
theorem dX8_held_21 : decode cX8_held 21 = .ok (.invokevirtual 181, 3) := edX8_held_0.2.2.2.2.2.2.2.2.2.2.2.2.2.1
theorem dX8_held_24 : decode cX8_held 24 = .ok (.istore_n 3, 1) := edX8_held_0.2.2.2.2.2.2.2.2.2.2.2.2.2.2.1
theorem dX8_held_25 : decode cX8_held 25 = .ok (.iconst 0, 1) := edX8_held_0.2.2.2.2.2.2.2.2.2.2.2.2.2.2.2.1
theorem dX8_held_26 : decode cX8_held 26 = .ok (.istore 4, 2) := edX8_held_0.2.2.2.2.2.2.2.2.2.2.2.2.2.2.2.2.1
theorem dX8_held_28 : decode cX8_held 28 = .ok (.iload 4, 2) := edX8_held_0.2.2.2.2.2.2.2.2.2.2.2.2.2.2.2.2.2.1
theorem dX8_held_30 : decode cX8_held 30 = .ok (.aload_n 0, 1) := edX8_held_0.2.2.2.2.2.2.2.2.2.2.2.2.2.2.2.2.2.2.1
theorem dX8_held_31 : decode cX8_held 31 = .ok (.getfield 9, 3) := edX8_held_0.2.2.2.2.2.2.2.2.2.2.2.2.2.2.2.2.2.2.2.1
theorem dX8_held_34 : decode cX8_held 34 = .ok (.iconst 1, 1) := edX8_held_0.2.2.2.2.2.2.2.2.2.2.2.2.2.2.2.2.2.2.2.2.1
theorem dX8_held_35 : decode cX8_held 35 = .ok (.iaload, 1) := edX8_held_0.2.2.2.2.2.2.2.2.2.2.2.2.2.2.2.2.2.2.2.2.2.1
theorem dX8_held_36 : decode cX8_held 36 = .ok (.if_icmp .ge 38, 3) := edX8_held_0.2.2.2.2.2.2.2.2.2.2.2.2.2.2.2.2.2.2.2.2.2.2.1
theorem dX8_held_39 : decode cX8_held 39 = .ok (.iload_n 3, 1) := edX8_held_0.2.2.2.2.2.2.2.2.2.2.2.2.2.2.2.2.2.2.2.2.2.2.2
theorem edX8_held_40 : (decode cX8_held 40 = .ok (.ifCond .ne 34, 3)) ∧ (decode cX8_held 43 = .ok (.aload_n 0, 1)) ∧ (decode cX8_held 44 = .ok (.iload 4, 2)) ∧ (decode cX8_held 46 = .ok (.putfield 19, 3)) ∧ (decode cX8_held 49 = .ok (.iload_n 2, 1)) ∧ (decode cX8_held 50 = .ok (.aload_n 0, 1)) ∧ (decode cX8_held 51 = .ok (.iload_n 1, 1)) ∧ (decode cX8_held 52 = .ok (.invokevirtual 181, 3)) ∧ (decode cX8_held 55 = .ok (.ifCond .eq 10, 3)) ∧ (decode cX8_held 58 = .ok (.iconst 1, 1)) ∧ (decode cX8_held 59 = .ok (.iload 4, 2)) ∧ (decode cX8_held 61 = .ok (.ishl, 1)) ∧ (decode cX8_held 62 = .ok (.goto 4, 3)) ∧ (decode cX8_held 65 = .ok (.iconst 0, 1)) ∧ (decode cX8_held 66 = .ok (.ior, 1)) ∧ (decode cX8_held 67 = .ok (.istore_n 2, 1)) ∧ (decode cX8_held 68 = .ok (.iinc 4 1, 3)) ∧ (decode cX8_held 71 = .ok (.goto (-43), 3)) ∧ (decode cX8_held 74 = .ok (.iload_n 2, 1)) ∧ (decode cX8_held 75 = .ok (.ireturn, 1)) := by decide +kernel
theorem dX8_held_40 : decode cX8_held 40 = .ok (.ifCond .ne 34, 3) := edX8_held_40.1
theorem dX8_held_43 : decode cX8_held 43 = .ok (.aload_n 0, 1) := edX8_held_40.2.1
theorem dX8_held_44 : decode cX8_held 44 = .ok (.iload 4, 2) := edX8_held_40.2.2.1
theorem dX8_held_46 : decode cX8_held 46 = .ok (.putfield 19, 3) := edX8_held_40.2.2.2.1
theorem dX8_held_49 : decode cX8_held 49 = .ok (.iload_n 2, 1) := edX8_held_40.2.2.2.2.1
theorem dX8_held_50 : decode cX8_held 50 = .ok (.aload_n 0, 1) := edX8_held_40.2.2.2.2.2.1
theorem dX8_held_51 : decode cX8_held 51 = .ok (.iload_n 1, 1) := edX8_held_40.2.2.2.2.2.2.1
theorem dX8_held_52 : decode cX8_held 52 = .ok (.invokevirtual 181, 3) := edX8_held_40.2.2.2.2.2.2.2.1
theorem dX8_held_55 : decode cX8_held 55 = .ok (.ifCond .eq 10, 3) := edX8_held_40.2.2.2.2.2.2.2.2.1
theorem dX8_held_58 : decode cX8_held 58 = .ok (.iconst 1, 1) := edX8_held_40.2.2.2.2.2.2.2.2.2.1
theorem dX8_held_59 : decode cX8_held 59 = .ok (.iload 4, 2) := edX8_held_40.2.2.2.2.2.2.2.2.2.2.1
theorem dX8_held_61 : decode cX8_held 61 = .ok (.ishl, 1) := edX8_held_40.2.2.2.2.2.2.2.2.2.2.2.1
theorem dX8_held_62 : decode cX8_held 62 = .ok (.goto 4, 3) := edX8_held_40.2.2.2.2.2.2.2.2.2.2.2.2.1
theorem dX8_held_65 : decode cX8_held 65 = .ok (.iconst 0, 1) := edX8_held_40.2.2.2.2.2.2.2.2.2.2.2.2.2.1
theorem dX8_held_66 : decode cX8_held 66 = .ok (.ior, 1) := edX8_held_40.2.2.2.2.2.2.2.2.2.2.2.2.2.2.1
theorem dX8_held_67 : decode cX8_held 67 = .ok (.istore_n 2, 1) := edX8_held_40.2.2.2.2.2.2.2.2.2.2.2.2.2.2.2.1
theorem dX8_held_68 : decode cX8_held 68 = .ok (.iinc 4 1, 3) := edX8_held_40.2.2.2.2.2.2.2.2.2.2.2.2.2.2.2.2.1
theorem dX8_held_71 : decode cX8_held 71 = .ok (.goto (-43), 3) := edX8_held_40.2.2.2.2.2.2.2.2.2.2.2.2.2.2.2.2.2.1
theorem dX8_held_74 : decode cX8_held 74 = .ok (.iload_n 2, 1) := edX8_held_40.2.2.2.2.2.2.2.2.2.2.2.2.2.2.2.2.2.2.1
theorem dX8_held_75 : decode cX8_held 75 = .ok (.ireturn, 1) := edX8_held_40.2.2.2.2.2.2.2.2.2.2.2.2.2.2.2.2.2.2.2
theorem edX8_cool_0 : (decode cX8_cool 0 = .ok (.iload_n 1, 1)) ∧ (decode cX8_cool 1 = .ok (.iconst 1, 1)) ∧ (decode cX8_cool 2 = .ok (.bipush 40, 2)) ∧ (decode cX8_cool 4 = .ok (.invokestatic 83, 3)) ∧ (decode cX8_cool 7 = .ok (.ifCond .ne 6, 3)) ∧ (decode cX8_cool 10 = .ok (.ldc 91, 2)) ∧ (decode cX8_cool 12 = .ok (.ireturn, 1)) ∧ (decode cX8_cool 13 = .ok (.aload_n 0, 1)) ∧ (decode cX8_cool 14 = .ok (.invokevirtual 169, 3)) ∧ (decode cX8_cool 17 = .ok (.iconst (-1), 1)) ∧ (decode cX8_cool 18 = .ok (.istore_n 2, 1)) ∧ (decode cX8_cool 19 = .ok (.bipush 99, 2)) ∧ (decode cX8_cool 21 = .ok (.istore_n 3, 1)) ∧ (decode cX8_cool 22 = .ok (.iload_n 3, 1)) ∧ (decode cX8_cool 23 = .ok (.ifCond .lt 34, 3)) ∧ (decode cX8_cool 26 = .ok (.iload_n 2, 1)) ∧ (decode cX8_cool 27 = .ok (.ifCond .ge 30, 3)) ∧ (decode cX8_cool 30 = .ok (.aload_n 0, 1)) ∧ (decode cX8_cool 31 = .ok (.getfield 9, 3)) ∧ (decode cX8_cool 34 = .ok (.iconst 3, 1)) ∧ (decode cX8_cool 35 = .ok (.iload_n 3, 1)) ∧ (decode cX8_cool 36 = .ok (.iastore, 1)) ∧ (decode cX8_cool 37 = .ok (.aload_n 0, 1)) ∧ (decode cX8_cool 38 = .ok (.iload_n 1, 1)) := by decide +kernel
theorem dX8_cool_0 : decode cX8_cool 0 = .ok (.iload_n 1, 1) := edX8_cool_0.1
theorem dX8_cool_1 : decode cX8_cool 1 = .ok (.iconst 1, 1) := edX8_cool_0.2.1
theorem dX8_cool_2 : decode cX8_cool 2 = .ok (.bipush 40, 2) := edX8_cool_0.2.2.1
theorem dX8_cool_4 : decode cX8_cool 4 = .ok (.invokestatic 83, 3) := edX8_cool_0.2.2.2.1
theorem dX8_cool_7 : decode cX8_cool 7 = .ok (.ifCond .ne 6, 3) := edX8_cool_0.2.2.2.2.1
theorem dX8_cool_10 : decode cX8_cool 10 = .ok (.ldc 91, 2) := edX8_cool_0.2.2.2.2.2.1
theorem dX8_cool_12 : decode cX8_cool 12 = .ok (.ireturn, 1) := edX8_cool_0.2.2.2.2.2.2.1
theorem dX8_cool_13 : decode cX8_cool 13 = .ok (.aload_n 0, 1) := edX8_cool_0.2.2.2.2.2.2.2.1
theorem dX8_cool_14 : decode cX8_cool 14 = .ok (.invokevirtual 169, 3) := edX8_cool_0.2.2.2.2.2.2.2.2.1
theorem dX8_cool_17 : decode cX8_cool 17 = .ok (.iconst (-1), 1) := edX8_cool_0.2.2.2.2.2.2.2.2.2.1
theorem dX8_cool_18 : decode cX8_cool 18 = .ok (.istore_n 2, 1) := edX8_cool_0.2.2.2.2.2.2.2.2.2.2.1
theorem dX8_cool_19 : decode cX8_cool 19 = .ok (.bipush 99, 2) := edX8_cool_0.2.2.2.2.2.2.2.2.2.2.2.1
theorem dX8_cool_21 : decode cX8_cool 21 = .ok (.istore_n 3, 1) := edX8_cool_0.2.2.2.2.2.2.2.2.2.2.2.2.1
theorem dX8_cool_22 : decode cX8_cool 22 = .ok (.iload_n 3, 1) := edX8_cool_0.2.2.2.2.2.2.2.2.2.2.2.2.2.1
theorem dX8_cool_23 : decode cX8_cool 23 = .ok (.ifCond .lt 34, 3) := edX8_cool_0.2.2.2.2.2.2.2.2.2.2.2.2.2.2.1
theorem dX8_cool_26 : decode cX8_cool 26 = .ok (.iload_n 2, 1) := edX8_cool_0.2.2.2.2.2.2.2.2.2.2.2.2.2.2.2.1
theorem dX8_cool_27 : decode cX8_cool 27 = .ok (.ifCond .ge 30, 3) := edX8_cool_0.2.2.2.2.2.2.2.2.2.2.2.2.2.2.2.2.1
theorem dX8_cool_30 : decode cX8_cool 30 = .ok (.aload_n 0, 1) := edX8_cool_0.2.2.2.2.2.2.2.2.2.2.2.2.2.2.2.2.2.1
theorem dX8_cool_31 : decode cX8_cool 31 = .ok (.getfield 9, 3) := edX8_cool_0.2.2.2.2.2.2.2.2.2.2.2.2.2.2.2.2.2.2.1
theorem dX8_cool_34 : decode cX8_cool 34 = .ok (.iconst 3, 1) := edX8_cool_0.2.2.2.2.2.2.2.2.2.2.2.2.2.2.2.2.2.2.2.1
theorem dX8_cool_35 : decode cX8_cool 35 = .ok (.iload_n 3, 1) := edX8_cool_0.2.2.2.2.2.2.2.2.2.2.2.2.2.2.2.2.2.2.2.2.1
theorem dX8_cool_36 : decode cX8_cool 36 = .ok (.iastore, 1) := edX8_cool_0.2.2.2.2.2.2.2.2.2.2.2.2.2.2.2.2.2.2.2.2.2.1
theorem dX8_cool_37 : decode cX8_cool 37 = .ok (.aload_n 0, 1) := edX8_cool_0.2.2.2.2.2.2.2.2.2.2.2.2.2.2.2.2.2.2.2.2.2.2.1
theorem dX8_cool_38 : decode cX8_cool 38 = .ok (.iload_n 1, 1) := edX8_cool_0.2.2.2.2.2.2.2.2.2.2.2.2.2.2.2.2.2.2.2.2.2.2.2
