-- ===== PART A: goes FIRST, ahead of the names: the tables' words, and 'selects' of the private methods out of them =====
/-- a private method of a class that the tables say can be made, by its rows of tables_1 -/
def lw_okq (q : MethodName × Nat) : Prop := (q.1.cls ≠ "java/lang/invoke/MethodHandle" ∧ q.1.cls ≠ "java/lang/invoke/VarHandle") ∧ Cond.instantiable q.1.cls q.2 ∈ tables_1 ∧ Cond.privateMethod q.1 ∈ tables_1 ∧ Cond.instanceMethod q.1 ∈ tables_1
theorem lw_p0 : lw_okq (⟨"DuelLetters$Quarrel", "plainTone", "(I)I"⟩, 19) := ⟨⟨by decide +kernel, by decide +kernel⟩, List.mem_of_getElem? (i := 27) (by decide +kernel), List.mem_of_getElem? (i := 304) (by decide +kernel), List.mem_of_getElem? (i := 305) (by decide +kernel)⟩
theorem lw_p1 : lw_okq (⟨"DuelLetters$Quarrel", "writeLetters", "(I)I"⟩, 19) := ⟨⟨by decide +kernel, by decide +kernel⟩, List.mem_of_getElem? (i := 27) (by decide +kernel), List.mem_of_getElem? (i := 414) (by decide +kernel), List.mem_of_getElem? (i := 415) (by decide +kernel)⟩
theorem lw_p2 : lw_okq (⟨"DuelLetters$Ways", "start", "(LDuelLetters$Quarrel;)V"⟩, 3) := ⟨⟨by decide +kernel, by decide +kernel⟩, List.mem_of_getElem? (i := 115) (by decide +kernel), List.mem_of_getElem? (i := 447) (by decide +kernel), List.mem_of_getElem? (i := 448) (by decide +kernel)⟩
theorem lw_p3 : lw_okq (⟨"DuelLetters$Ways", "spare", "(LDuelLetters$Quarrel;)I"⟩, 3) := ⟨⟨by decide +kernel, by decide +kernel⟩, List.mem_of_getElem? (i := 115) (by decide +kernel), List.mem_of_getElem? (i := 452) (by decide +kernel), List.mem_of_getElem? (i := 453) (by decide +kernel)⟩
theorem lw_p4 : lw_okq (⟨"DuelLetters$Ways", "step", "(LDuelLetters$Quarrel;)V"⟩, 3) := ⟨⟨by decide +kernel, by decide +kernel⟩, List.mem_of_getElem? (i := 115) (by decide +kernel), List.mem_of_getElem? (i := 457) (by decide +kernel), List.mem_of_getElem? (i := 458) (by decide +kernel)⟩
theorem lw_p5 : lw_okq (⟨"DuelLetters$Ways", "distanceTo", "(LDuelLetters$Quarrel;)I"⟩, 3) := ⟨⟨by decide +kernel, by decide +kernel⟩, List.mem_of_getElem? (i := 115) (by decide +kernel), List.mem_of_getElem? (i := 473) (by decide +kernel), List.mem_of_getElem? (i := 474) (by decide +kernel)⟩
theorem lw_p6 : lw_okq (⟨"DuelLetters", "peaceWithout", "(II)Z"⟩, 11) := ⟨⟨by decide +kernel, by decide +kernel⟩, List.mem_of_getElem? (i := 19) (by decide +kernel), List.mem_of_getElem? (i := 500) (by decide +kernel), List.mem_of_getElem? (i := 501) (by decide +kernel)⟩
theorem lw_p7 : lw_okq (⟨"DuelLetters", "differenceFrom", "(LDuelLetters$Row;)I"⟩, 11) := ⟨⟨by decide +kernel, by decide +kernel⟩, List.mem_of_getElem? (i := 19) (by decide +kernel), List.mem_of_getElem? (i := 524) (by decide +kernel), List.mem_of_getElem? (i := 525) (by decide +kernel)⟩
theorem lw_p8 : lw_okq (⟨"DuelLetters$Reader", "advance", "()V"⟩, 11) := ⟨⟨by decide +kernel, by decide +kernel⟩, List.mem_of_getElem? (i := 131) (by decide +kernel), List.mem_of_getElem? (i := 569) (by decide +kernel), List.mem_of_getElem? (i := 570) (by decide +kernel)⟩
theorem lw_p9 : lw_okq (⟨"DuelLetters$Reader", "readKey", "()V"⟩, 11) := ⟨⟨by decide +kernel, by decide +kernel⟩, List.mem_of_getElem? (i := 131) (by decide +kernel), List.mem_of_getElem? (i := 576) (by decide +kernel), List.mem_of_getElem? (i := 577) (by decide +kernel)⟩
theorem lw_p10 : lw_okq (⟨"DuelLetters$Reader", "isWord", "(Ljava/lang/String;)Z"⟩, 11) := ⟨⟨by decide +kernel, by decide +kernel⟩, List.mem_of_getElem? (i := 131) (by decide +kernel), List.mem_of_getElem? (i := 581) (by decide +kernel), List.mem_of_getElem? (i := 582) (by decide +kernel)⟩
theorem lw_p11 : lw_okq (⟨"DuelLetters$Reader", "fail", "()V"⟩, 11) := ⟨⟨by decide +kernel, by decide +kernel⟩, List.mem_of_getElem? (i := 131) (by decide +kernel), List.mem_of_getElem? (i := 635) (by decide +kernel), List.mem_of_getElem? (i := 636) (by decide +kernel)⟩
theorem lw_p12 : lw_okq (⟨"DuelLetters$Reader", "readOr", "()V"⟩, 11) := ⟨⟨by decide +kernel, by decide +kernel⟩, List.mem_of_getElem? (i := 131) (by decide +kernel), List.mem_of_getElem? (i := 639) (by decide +kernel), List.mem_of_getElem? (i := 640) (by decide +kernel)⟩
theorem lw_p13 : lw_okq (⟨"DuelLetters$Reader", "readAnd", "()V"⟩, 11) := ⟨⟨by decide +kernel, by decide +kernel⟩, List.mem_of_getElem? (i := 131) (by decide +kernel), List.mem_of_getElem? (i := 643) (by decide +kernel), List.mem_of_getElem? (i := 644) (by decide +kernel)⟩
theorem lw_p14 : lw_okq (⟨"DuelLetters$Reader", "readTest", "()V"⟩, 11) := ⟨⟨by decide +kernel, by decide +kernel⟩, List.mem_of_getElem? (i := 131) (by decide +kernel), List.mem_of_getElem? (i := 647) (by decide +kernel), List.mem_of_getElem? (i := 648) (by decide +kernel)⟩
theorem lw_p15 : lw_okq (⟨"DuelLetters$Reader", "readSum", "()V"⟩, 11) := ⟨⟨by decide +kernel, by decide +kernel⟩, List.mem_of_getElem? (i := 131) (by decide +kernel), List.mem_of_getElem? (i := 651) (by decide +kernel), List.mem_of_getElem? (i := 652) (by decide +kernel)⟩
def lw_privs_1 : List (MethodName × Nat) := [(⟨"DuelLetters$Quarrel", "plainTone", "(I)I"⟩, 19), (⟨"DuelLetters$Quarrel", "writeLetters", "(I)I"⟩, 19), (⟨"DuelLetters$Ways", "start", "(LDuelLetters$Quarrel;)V"⟩, 3), (⟨"DuelLetters$Ways", "spare", "(LDuelLetters$Quarrel;)I"⟩, 3), (⟨"DuelLetters$Ways", "step", "(LDuelLetters$Quarrel;)V"⟩, 3), (⟨"DuelLetters$Ways", "distanceTo", "(LDuelLetters$Quarrel;)I"⟩, 3), (⟨"DuelLetters", "peaceWithout", "(II)Z"⟩, 11), (⟨"DuelLetters", "differenceFrom", "(LDuelLetters$Row;)I"⟩, 11), (⟨"DuelLetters$Reader", "advance", "()V"⟩, 11), (⟨"DuelLetters$Reader", "readKey", "()V"⟩, 11), (⟨"DuelLetters$Reader", "isWord", "(Ljava/lang/String;)Z"⟩, 11), (⟨"DuelLetters$Reader", "fail", "()V"⟩, 11), (⟨"DuelLetters$Reader", "readOr", "()V"⟩, 11), (⟨"DuelLetters$Reader", "readAnd", "()V"⟩, 11), (⟨"DuelLetters$Reader", "readTest", "()V"⟩, 11), (⟨"DuelLetters$Reader", "readSum", "()V"⟩, 11)]
theorem lw_r1 : ∀ q ∈ lw_privs_1, lw_okq q := List.forall_mem_cons.mpr ⟨lw_p0, List.forall_mem_cons.mpr ⟨lw_p1, List.forall_mem_cons.mpr ⟨lw_p2, List.forall_mem_cons.mpr ⟨lw_p3, List.forall_mem_cons.mpr ⟨lw_p4, List.forall_mem_cons.mpr ⟨lw_p5, List.forall_mem_cons.mpr ⟨lw_p6, List.forall_mem_cons.mpr ⟨lw_p7, List.forall_mem_cons.mpr ⟨lw_p8, List.forall_mem_cons.mpr ⟨lw_p9, List.forall_mem_cons.mpr ⟨lw_p10, List.forall_mem_cons.mpr ⟨lw_p11, List.forall_mem_cons.mpr ⟨lw_p12, List.forall_mem_cons.mpr ⟨lw_p13, List.forall_mem_cons.mpr ⟨lw_p14, List.forall_mem_cons.mpr ⟨lw_p15, fun _ h => absurd h List.not_mem_nil⟩⟩⟩⟩⟩⟩⟩⟩⟩⟩⟩⟩⟩⟩⟩⟩
theorem lw_p16 : lw_okq (⟨"DuelLetters$Reader", "readProduct", "()V"⟩, 11) := ⟨⟨by decide +kernel, by decide +kernel⟩, List.mem_of_getElem? (i := 131) (by decide +kernel), List.mem_of_getElem? (i := 655) (by decide +kernel), List.mem_of_getElem? (i := 656) (by decide +kernel)⟩
theorem lw_p17 : lw_okq (⟨"DuelLetters$Reader", "readPiece", "()V"⟩, 11) := ⟨⟨by decide +kernel, by decide +kernel⟩, List.mem_of_getElem? (i := 131) (by decide +kernel), List.mem_of_getElem? (i := 659) (by decide +kernel), List.mem_of_getElem? (i := 660) (by decide +kernel)⟩
theorem lw_p18 : lw_okq (⟨"DuelLetters$Reader", "numberRead", "()I"⟩, 11) := ⟨⟨by decide +kernel, by decide +kernel⟩, List.mem_of_getElem? (i := 131) (by decide +kernel), List.mem_of_getElem? (i := 663) (by decide +kernel), List.mem_of_getElem? (i := 664) (by decide +kernel)⟩
theorem lw_p19 : lw_okq (⟨"DuelLetters$Reader", "emitOperand", "(I)V"⟩, 11) := ⟨⟨by decide +kernel, by decide +kernel⟩, List.mem_of_getElem? (i := 131) (by decide +kernel), List.mem_of_getElem? (i := 667) (by decide +kernel), List.mem_of_getElem? (i := 668) (by decide +kernel)⟩
theorem lw_p20 : lw_okq (⟨"DuelLetters$Reader", "emit", "(I)V"⟩, 11) := ⟨⟨by decide +kernel, by decide +kernel⟩, List.mem_of_getElem? (i := 131) (by decide +kernel), List.mem_of_getElem? (i := 671) (by decide +kernel), List.mem_of_getElem? (i := 672) (by decide +kernel)⟩
theorem lw_p21 : lw_okq (⟨"DuelLetters$Reader", "nameRead", "()I"⟩, 11) := ⟨⟨by decide +kernel, by decide +kernel⟩, List.mem_of_getElem? (i := 131) (by decide +kernel), List.mem_of_getElem? (i := 675) (by decide +kernel), List.mem_of_getElem? (i := 676) (by decide +kernel)⟩
theorem lw_p22 : lw_okq (⟨"DuelLetters$Reader", "isSign", "(I)Z"⟩, 11) := ⟨⟨by decide +kernel, by decide +kernel⟩, List.mem_of_getElem? (i := 131) (by decide +kernel), List.mem_of_getElem? (i := 737) (by decide +kernel), List.mem_of_getElem? (i := 738) (by decide +kernel)⟩
theorem lw_p23 : lw_okq (⟨"DuelLetters$Reader", "closeBracket", "()V"⟩, 11) := ⟨⟨by decide +kernel, by decide +kernel⟩, List.mem_of_getElem? (i := 131) (by decide +kernel), List.mem_of_getElem? (i := 741) (by decide +kernel), List.mem_of_getElem? (i := 742) (by decide +kernel)⟩
theorem lw_p24 : lw_okq (⟨"DuelLettersModel", "comes", "(III)I"⟩, 36) := ⟨⟨by decide +kernel, by decide +kernel⟩, List.mem_of_getElem? (i := 878) (by decide +kernel), List.mem_of_getElem? (i := 1004) (by decide +kernel), List.mem_of_getElem? (i := 1005) (by decide +kernel)⟩
theorem lw_p25 : lw_okq (⟨"DuelLettersModel", "put", "(III)V"⟩, 36) := ⟨⟨by decide +kernel, by decide +kernel⟩, List.mem_of_getElem? (i := 878) (by decide +kernel), List.mem_of_getElem? (i := 1008) (by decide +kernel), List.mem_of_getElem? (i := 1009) (by decide +kernel)⟩
theorem lw_p26 : lw_okq (⟨"DuelLettersModel", "isFriend", "(I)Z"⟩, 36) := ⟨⟨by decide +kernel, by decide +kernel⟩, List.mem_of_getElem? (i := 878) (by decide +kernel), List.mem_of_getElem? (i := 1016) (by decide +kernel), List.mem_of_getElem? (i := 1017) (by decide +kernel)⟩
theorem lw_p27 : lw_okq (⟨"DuelLettersModel", "of", "(II)I"⟩, 36) := ⟨⟨by decide +kernel, by decide +kernel⟩, List.mem_of_getElem? (i := 878) (by decide +kernel), List.mem_of_getElem? (i := 1020) (by decide +kernel), List.mem_of_getElem? (i := 1021) (by decide +kernel)⟩
theorem lw_p28 : lw_okq (⟨"DuelLettersModel", "toneOf", "(I)I"⟩, 36) := ⟨⟨by decide +kernel, by decide +kernel⟩, List.mem_of_getElem? (i := 878) (by decide +kernel), List.mem_of_getElem? (i := 1024) (by decide +kernel), List.mem_of_getElem? (i := 1025) (by decide +kernel)⟩
theorem lw_p29 : lw_okq (⟨"DuelLettersModel", "counts", "(I)I"⟩, 36) := ⟨⟨by decide +kernel, by decide +kernel⟩, List.mem_of_getElem? (i := 878) (by decide +kernel), List.mem_of_getElem? (i := 1028) (by decide +kernel), List.mem_of_getElem? (i := 1029) (by decide +kernel)⟩
theorem lw_p30 : lw_okq (⟨"DuelLettersModel", "worksOut", "(I)I"⟩, 36) := ⟨⟨by decide +kernel, by decide +kernel⟩, List.mem_of_getElem? (i := 878) (by decide +kernel), List.mem_of_getElem? (i := 1032) (by decide +kernel), List.mem_of_getElem? (i := 1033) (by decide +kernel)⟩
theorem lw_p31 : lw_okq (⟨"DuelLettersModel", "termOf", "(I)I"⟩, 36) := ⟨⟨by decide +kernel, by decide +kernel⟩, List.mem_of_getElem? (i := 878) (by decide +kernel), List.mem_of_getElem? (i := 1042) (by decide +kernel), List.mem_of_getElem? (i := 1043) (by decide +kernel)⟩
def lw_privs_2 : List (MethodName × Nat) := [(⟨"DuelLetters$Reader", "readProduct", "()V"⟩, 11), (⟨"DuelLetters$Reader", "readPiece", "()V"⟩, 11), (⟨"DuelLetters$Reader", "numberRead", "()I"⟩, 11), (⟨"DuelLetters$Reader", "emitOperand", "(I)V"⟩, 11), (⟨"DuelLetters$Reader", "emit", "(I)V"⟩, 11), (⟨"DuelLetters$Reader", "nameRead", "()I"⟩, 11), (⟨"DuelLetters$Reader", "isSign", "(I)Z"⟩, 11), (⟨"DuelLetters$Reader", "closeBracket", "()V"⟩, 11), (⟨"DuelLettersModel", "comes", "(III)I"⟩, 36), (⟨"DuelLettersModel", "put", "(III)V"⟩, 36), (⟨"DuelLettersModel", "isFriend", "(I)Z"⟩, 36), (⟨"DuelLettersModel", "of", "(II)I"⟩, 36), (⟨"DuelLettersModel", "toneOf", "(I)I"⟩, 36), (⟨"DuelLettersModel", "counts", "(I)I"⟩, 36), (⟨"DuelLettersModel", "worksOut", "(I)I"⟩, 36), (⟨"DuelLettersModel", "termOf", "(I)I"⟩, 36)]
theorem lw_r2 : ∀ q ∈ lw_privs_2, lw_okq q := List.forall_mem_cons.mpr ⟨lw_p16, List.forall_mem_cons.mpr ⟨lw_p17, List.forall_mem_cons.mpr ⟨lw_p18, List.forall_mem_cons.mpr ⟨lw_p19, List.forall_mem_cons.mpr ⟨lw_p20, List.forall_mem_cons.mpr ⟨lw_p21, List.forall_mem_cons.mpr ⟨lw_p22, List.forall_mem_cons.mpr ⟨lw_p23, List.forall_mem_cons.mpr ⟨lw_p24, List.forall_mem_cons.mpr ⟨lw_p25, List.forall_mem_cons.mpr ⟨lw_p26, List.forall_mem_cons.mpr ⟨lw_p27, List.forall_mem_cons.mpr ⟨lw_p28, List.forall_mem_cons.mpr ⟨lw_p29, List.forall_mem_cons.mpr ⟨lw_p30, List.forall_mem_cons.mpr ⟨lw_p31, fun _ h => absurd h List.not_mem_nil⟩⟩⟩⟩⟩⟩⟩⟩⟩⟩⟩⟩⟩⟩⟩⟩
theorem lw_p32 : lw_okq (⟨"DuelLettersModel", "pickOf", "(II)I"⟩, 36) := ⟨⟨by decide +kernel, by decide +kernel⟩, List.mem_of_getElem? (i := 878) (by decide +kernel), List.mem_of_getElem? (i := 1046) (by decide +kernel), List.mem_of_getElem? (i := 1047) (by decide +kernel)⟩
theorem lw_p33 : lw_okq (⟨"DuelLettersModel", "worthOf", "(I)I"⟩, 36) := ⟨⟨by decide +kernel, by decide +kernel⟩, List.mem_of_getElem? (i := 878) (by decide +kernel), List.mem_of_getElem? (i := 1054) (by decide +kernel), List.mem_of_getElem? (i := 1055) (by decide +kernel)⟩
theorem lw_p34 : lw_okq (⟨"DuelLettersModel", "becomes", "(II)I"⟩, 36) := ⟨⟨by decide +kernel, by decide +kernel⟩, List.mem_of_getElem? (i := 878) (by decide +kernel), List.mem_of_getElem? (i := 1070) (by decide +kernel), List.mem_of_getElem? (i := 1071) (by decide +kernel)⟩
theorem lw_p35 : lw_okq (⟨"DuelLettersModel", "draw", "()I"⟩, 36) := ⟨⟨by decide +kernel, by decide +kernel⟩, List.mem_of_getElem? (i := 878) (by decide +kernel), List.mem_of_getElem? (i := 1098) (by decide +kernel), List.mem_of_getElem? (i := 1099) (by decide +kernel)⟩
theorem lw_p36 : lw_okq (⟨"DuelLettersModel", "sumOf", "(I)I"⟩, 36) := ⟨⟨by decide +kernel, by decide +kernel⟩, List.mem_of_getElem? (i := 878) (by decide +kernel), List.mem_of_getElem? (i := 1111) (by decide +kernel), List.mem_of_getElem? (i := 1112) (by decide +kernel)⟩
theorem lw_p37 : lw_okq (⟨"DuelLettersModel", "goesOn", "(I)V"⟩, 36) := ⟨⟨by decide +kernel, by decide +kernel⟩, List.mem_of_getElem? (i := 878) (by decide +kernel), List.mem_of_getElem? (i := 1115) (by decide +kernel), List.mem_of_getElem? (i := 1116) (by decide +kernel)⟩
theorem lw_p38 : lw_okq (⟨"DuelLettersModel", "post", "()V"⟩, 36) := ⟨⟨by decide +kernel, by decide +kernel⟩, List.mem_of_getElem? (i := 878) (by decide +kernel), List.mem_of_getElem? (i := 1119) (by decide +kernel), List.mem_of_getElem? (i := 1120) (by decide +kernel)⟩
theorem lw_p39 : lw_okq (⟨"DuelLettersModel", "isPeace", "()Z"⟩, 36) := ⟨⟨by decide +kernel, by decide +kernel⟩, List.mem_of_getElem? (i := 878) (by decide +kernel), List.mem_of_getElem? (i := 1123) (by decide +kernel), List.mem_of_getElem? (i := 1124) (by decide +kernel)⟩
theorem lw_p40 : lw_okq (⟨"DuelLettersModel", "has", "(I)I"⟩, 36) := ⟨⟨by decide +kernel, by decide +kernel⟩, List.mem_of_getElem? (i := 878) (by decide +kernel), List.mem_of_getElem? (i := 1127) (by decide +kernel), List.mem_of_getElem? (i := 1128) (by decide +kernel)⟩
theorem lw_p41 : lw_okq (⟨"DuelLettersModel", "letter", "(I)V"⟩, 36) := ⟨⟨by decide +kernel, by decide +kernel⟩, List.mem_of_getElem? (i := 878) (by decide +kernel), List.mem_of_getElem? (i := 1131) (by decide +kernel), List.mem_of_getElem? (i := 1132) (by decide +kernel)⟩
theorem lw_p42 : lw_okq (⟨"DuelLettersModel", "stands", "()I"⟩, 36) := ⟨⟨by decide +kernel, by decide +kernel⟩, List.mem_of_getElem? (i := 878) (by decide +kernel), List.mem_of_getElem? (i := 1139) (by decide +kernel), List.mem_of_getElem? (i := 1140) (by decide +kernel)⟩
theorem lw_p43 : lw_okq (⟨"DuelLettersModel", "thinks", "()V"⟩, 36) := ⟨⟨by decide +kernel, by decide +kernel⟩, List.mem_of_getElem? (i := 878) (by decide +kernel), List.mem_of_getElem? (i := 1147) (by decide +kernel), List.mem_of_getElem? (i := 1148) (by decide +kernel)⟩
theorem lw_p44 : lw_okq (⟨"DuelLettersModel", "standAs", "(I)V"⟩, 36) := ⟨⟨by decide +kernel, by decide +kernel⟩, List.mem_of_getElem? (i := 878) (by decide +kernel), List.mem_of_getElem? (i := 1151) (by decide +kernel), List.mem_of_getElem? (i := 1152) (by decide +kernel)⟩
theorem lw_p45 : lw_okq (⟨"DuelLettersModel", "putsBack", "()V"⟩, 36) := ⟨⟨by decide +kernel, by decide +kernel⟩, List.mem_of_getElem? (i := 878) (by decide +kernel), List.mem_of_getElem? (i := 1155) (by decide +kernel), List.mem_of_getElem? (i := 1156) (by decide +kernel)⟩
theorem lw_p46 : lw_okq (⟨"DuelLettersModel", "wellBy", "(I)I"⟩, 36) := ⟨⟨by decide +kernel, by decide +kernel⟩, List.mem_of_getElem? (i := 878) (by decide +kernel), List.mem_of_getElem? (i := 1163) (by decide +kernel), List.mem_of_getElem? (i := 1164) (by decide +kernel)⟩
theorem lw_p47 : lw_okq (⟨"DuelLettersModel", "endsWell", "(I)Z"⟩, 36) := ⟨⟨by decide +kernel, by decide +kernel⟩, List.mem_of_getElem? (i := 878) (by decide +kernel), List.mem_of_getElem? (i := 1179) (by decide +kernel), List.mem_of_getElem? (i := 1180) (by decide +kernel)⟩
def lw_privs_3 : List (MethodName × Nat) := [(⟨"DuelLettersModel", "pickOf", "(II)I"⟩, 36), (⟨"DuelLettersModel", "worthOf", "(I)I"⟩, 36), (⟨"DuelLettersModel", "becomes", "(II)I"⟩, 36), (⟨"DuelLettersModel", "draw", "()I"⟩, 36), (⟨"DuelLettersModel", "sumOf", "(I)I"⟩, 36), (⟨"DuelLettersModel", "goesOn", "(I)V"⟩, 36), (⟨"DuelLettersModel", "post", "()V"⟩, 36), (⟨"DuelLettersModel", "isPeace", "()Z"⟩, 36), (⟨"DuelLettersModel", "has", "(I)I"⟩, 36), (⟨"DuelLettersModel", "letter", "(I)V"⟩, 36), (⟨"DuelLettersModel", "stands", "()I"⟩, 36), (⟨"DuelLettersModel", "thinks", "()V"⟩, 36), (⟨"DuelLettersModel", "standAs", "(I)V"⟩, 36), (⟨"DuelLettersModel", "putsBack", "()V"⟩, 36), (⟨"DuelLettersModel", "wellBy", "(I)I"⟩, 36), (⟨"DuelLettersModel", "endsWell", "(I)Z"⟩, 36)]
theorem lw_r3 : ∀ q ∈ lw_privs_3, lw_okq q := List.forall_mem_cons.mpr ⟨lw_p32, List.forall_mem_cons.mpr ⟨lw_p33, List.forall_mem_cons.mpr ⟨lw_p34, List.forall_mem_cons.mpr ⟨lw_p35, List.forall_mem_cons.mpr ⟨lw_p36, List.forall_mem_cons.mpr ⟨lw_p37, List.forall_mem_cons.mpr ⟨lw_p38, List.forall_mem_cons.mpr ⟨lw_p39, List.forall_mem_cons.mpr ⟨lw_p40, List.forall_mem_cons.mpr ⟨lw_p41, List.forall_mem_cons.mpr ⟨lw_p42, List.forall_mem_cons.mpr ⟨lw_p43, List.forall_mem_cons.mpr ⟨lw_p44, List.forall_mem_cons.mpr ⟨lw_p45, List.forall_mem_cons.mpr ⟨lw_p46, List.forall_mem_cons.mpr ⟨lw_p47, fun _ h => absurd h List.not_mem_nil⟩⟩⟩⟩⟩⟩⟩⟩⟩⟩⟩⟩⟩⟩⟩⟩
theorem lw_p48 : lw_okq (⟨"DuelLettersModel", "offBy", "(III)J"⟩, 36) := ⟨⟨by decide +kernel, by decide +kernel⟩, List.mem_of_getElem? (i := 878) (by decide +kernel), List.mem_of_getElem? (i := 1199) (by decide +kernel), List.mem_of_getElem? (i := 1200) (by decide +kernel)⟩
theorem lw_p49 : lw_okq (⟨"DuelLettersModel", "go", "()V"⟩, 36) := ⟨⟨by decide +kernel, by decide +kernel⟩, List.mem_of_getElem? (i := 878) (by decide +kernel), List.mem_of_getElem? (i := 1223) (by decide +kernel), List.mem_of_getElem? (i := 1224) (by decide +kernel)⟩
theorem lw_p50 : lw_okq (⟨"DuelLettersModel", "isLetter", "(I)Z"⟩, 36) := ⟨⟨by decide +kernel, by decide +kernel⟩, List.mem_of_getElem? (i := 878) (by decide +kernel), List.mem_of_getElem? (i := 1227) (by decide +kernel), List.mem_of_getElem? (i := 1228) (by decide +kernel)⟩
theorem lw_p51 : lw_okq (⟨"DuelLettersModel", "isFigure", "(I)Z"⟩, 36) := ⟨⟨by decide +kernel, by decide +kernel⟩, List.mem_of_getElem? (i := 878) (by decide +kernel), List.mem_of_getElem? (i := 1231) (by decide +kernel), List.mem_of_getElem? (i := 1232) (by decide +kernel)⟩
theorem lw_p52 : lw_okq (⟨"DuelLettersModel", "takesKey", "()Z"⟩, 36) := ⟨⟨by decide +kernel, by decide +kernel⟩, List.mem_of_getElem? (i := 878) (by decide +kernel), List.mem_of_getElem? (i := 1235) (by decide +kernel), List.mem_of_getElem? (i := 1236) (by decide +kernel)⟩
theorem lw_p53 : lw_okq (⟨"DuelLettersModel", "takesE", "()Z"⟩, 36) := ⟨⟨by decide +kernel, by decide +kernel⟩, List.mem_of_getElem? (i := 878) (by decide +kernel), List.mem_of_getElem? (i := 1239) (by decide +kernel), List.mem_of_getElem? (i := 1240) (by decide +kernel)⟩
theorem lw_p54 : lw_okq (⟨"DuelLettersModel", "takesPart", "()Z"⟩, 36) := ⟨⟨by decide +kernel, by decide +kernel⟩, List.mem_of_getElem? (i := 878) (by decide +kernel), List.mem_of_getElem? (i := 1243) (by decide +kernel), List.mem_of_getElem? (i := 1244) (by decide +kernel)⟩
theorem lw_p55 : lw_okq (⟨"DuelLettersModel", "nameOf", "(I)I"⟩, 36) := ⟨⟨by decide +kernel, by decide +kernel⟩, List.mem_of_getElem? (i := 878) (by decide +kernel), List.mem_of_getElem? (i := 1247) (by decide +kernel), List.mem_of_getElem? (i := 1248) (by decide +kernel)⟩
theorem lw_p56 : lw_okq (⟨"DuelLettersModel", "settle", "(I)V"⟩, 36) := ⟨⟨by decide +kernel, by decide +kernel⟩, List.mem_of_getElem? (i := 878) (by decide +kernel), List.mem_of_getElem? (i := 1251) (by decide +kernel), List.mem_of_getElem? (i := 1252) (by decide +kernel)⟩
theorem lw_p57 : lw_okq (⟨"DuelLettersModel", "notsOpen", "()I"⟩, 36) := ⟨⟨by decide +kernel, by decide +kernel⟩, List.mem_of_getElem? (i := 878) (by decide +kernel), List.mem_of_getElem? (i := 1258) (by decide +kernel), List.mem_of_getElem? (i := 1259) (by decide +kernel)⟩
theorem lw_p58 : lw_okq (⟨"DuelLettersModel", "signHere", "()I"⟩, 36) := ⟨⟨by decide +kernel, by decide +kernel⟩, List.mem_of_getElem? (i := 878) (by decide +kernel), List.mem_of_getElem? (i := 1262) (by decide +kernel), List.mem_of_getElem? (i := 1263) (by decide +kernel)⟩
def lw_privs_4 : List (MethodName × Nat) := [(⟨"DuelLettersModel", "offBy", "(III)J"⟩, 36), (⟨"DuelLettersModel", "go", "()V"⟩, 36), (⟨"DuelLettersModel", "isLetter", "(I)Z"⟩, 36), (⟨"DuelLettersModel", "isFigure", "(I)Z"⟩, 36), (⟨"DuelLettersModel", "takesKey", "()Z"⟩, 36), (⟨"DuelLettersModel", "takesE", "()Z"⟩, 36), (⟨"DuelLettersModel", "takesPart", "()Z"⟩, 36), (⟨"DuelLettersModel", "nameOf", "(I)I"⟩, 36), (⟨"DuelLettersModel", "settle", "(I)V"⟩, 36), (⟨"DuelLettersModel", "notsOpen", "()I"⟩, 36), (⟨"DuelLettersModel", "signHere", "()I"⟩, 36)]
theorem lw_r4 : ∀ q ∈ lw_privs_4, lw_okq q := List.forall_mem_cons.mpr ⟨lw_p48, List.forall_mem_cons.mpr ⟨lw_p49, List.forall_mem_cons.mpr ⟨lw_p50, List.forall_mem_cons.mpr ⟨lw_p51, List.forall_mem_cons.mpr ⟨lw_p52, List.forall_mem_cons.mpr ⟨lw_p53, List.forall_mem_cons.mpr ⟨lw_p54, List.forall_mem_cons.mpr ⟨lw_p55, List.forall_mem_cons.mpr ⟨lw_p56, List.forall_mem_cons.mpr ⟨lw_p57, List.forall_mem_cons.mpr ⟨lw_p58, fun _ h => absurd h List.not_mem_nil⟩⟩⟩⟩⟩⟩⟩⟩⟩⟩⟩
def lw_privs : List (MethodName × Nat) := lw_privs_1 ++ (lw_privs_2 ++ (lw_privs_3 ++ (lw_privs_4)))
def lw_tbl : List Cond := k2_sels lw_privs ++ tables_1
theorem lw_privs_ok : ∀ q ∈ lw_privs, lw_okq q := by
  show ∀ q ∈ lw_privs_1 ++ (lw_privs_2 ++ (lw_privs_3 ++ (lw_privs_4))), lw_okq q
  exact List.forall_mem_append.mpr ⟨lw_r1, List.forall_mem_append.mpr ⟨lw_r2, List.forall_mem_append.mpr ⟨lw_r3, lw_r4⟩⟩⟩
def RX0 : String := "DuelLetters$Quarrel"
def TX0 : u_T := fun k => match k with
  | 0 => ("DuelLetters$Quarrel", "stands", "[I", true)
  | 1 => ("DuelLetters$Quarrel", "cares", "[I", true)
  | 2 => ("DuelLetters$Quarrel", "honours", "[I", true)
  | 3 => ("DuelLetters$Quarrel", "heat", "I", false)
  | 4 => ("DuelLetters$Quarrel", "duel", "I", false)
  | 5 => ("DuelLetters$Quarrel", "loss", "I", false)
  | 6 => ("DuelLetters$Quarrel", "lost", "I", false)
  | 7 => ("DuelLetters$Quarrel", "post", "I", false)
  | 8 => ("DuelLetters$Quarrel", "z", "I", false)
  | 9 => ("DuelLetters$Quarrel", "friends", "I", false)
  | 10 => ("DuelLetters$Quarrel", "kinds", "[I", true)
  | 11 => ("DuelLetters$Quarrel", "sides", "[I", true)
  | 12 => ("DuelLetters$Quarrel", "prides", "[I", true)
  | 13 => ("DuelLetters$Quarrel", "sent", "[I", true)
  | 14 => ("DuelLetters$Quarrel", "yielded", "[I", true)
  | 15 => ("DuelLetters$Quarrel", "texts", "[LDuelLetters$Text;", true)
  | 16 => ("DuelLetters$Quarrel", "textCount", "I", false)
  | 17 => ("DuelLetters$Quarrel", "lastOfKey", "[I", true)
  | _ => ("DuelLetters$Quarrel", "moves", "[I", true)
def tyX0 : Nat → FieldType := fun k => match k with
  | 0 => .array .int
  | 1 => .array .int
  | 2 => .array .int
  | 3 => .int
  | 4 => .int
  | 5 => .int
  | 6 => .int
  | 7 => .int
  | 8 => .int
  | 9 => .int
  | 10 => .array .int
  | 11 => .array .int
  | 12 => .array .int
  | 13 => .array .int
  | 14 => .array .int
  | 15 => .array (.object "DuelLetters$Text")
  | 16 => .int
  | 17 => .array .int
  | _ => .array .int
theorem nmX0 : ∀ a, a < 19 → ∀ b, b < 19 → a ≠ b → (TX0 a).2.1 ≠ (TX0 b).2.1 := by decide +kernel
theorem tyX0_ok : ∀ k, k < 19 → parseFieldDescriptor (TX0 k).2.2.1 = some (tyX0 k) := by decide +kernel
abbrev cX0_init : ByteArray := prog_2_method_1_code
def yX0_init : MethodName := ⟨RX0, "<init>", "()V"⟩
abbrev cX0_becomes : ByteArray := prog_2_method_2_code
def yX0_becomes : MethodName := ⟨RX0, "becomes", "(LDuelLetters$Quarrel;)V"⟩
abbrev cX0_isFriend : ByteArray := prog_2_method_3_code
def yX0_isFriend : MethodName := ⟨RX0, "isFriend", "(I)Z"⟩
abbrev cX0_addFriend : ByteArray := prog_2_method_4_code
def yX0_addFriend : MethodName := ⟨RX0, "addFriend", "(III)V"⟩
abbrev cX0_addText : ByteArray := prog_2_method_5_code
def yX0_addText : MethodName := ⟨RX0, "addText", "(LDuelLetters$Text;)V"⟩
abbrev cX0_textFor : ByteArray := prog_2_method_6_code
def yX0_textFor : MethodName := ⟨RX0, "textFor", "(I)LDuelLetters$Text;"⟩
abbrev cX0_draw : ByteArray := prog_2_method_7_code
def yX0_draw : MethodName := ⟨RX0, "draw", "()I"⟩
abbrev cX0_hasOf : ByteArray := prog_2_method_8_code
def yX0_hasOf : MethodName := ⟨RX0, "hasOf", "(I)I"⟩
abbrev cX0_isPeace : ByteArray := prog_2_method_9_code
def yX0_isPeace : MethodName := ⟨RX0, "isPeace", "()Z"⟩
abbrev cX0_isDuel : ByteArray := prog_2_method_10_code
def yX0_isDuel : MethodName := ⟨RX0, "isDuel", "()Z"⟩
abbrev cX0_standsAsNumber : ByteArray := prog_2_method_11_code
def yX0_standsAsNumber : MethodName := ⟨RX0, "standsAsNumber", "()I"⟩
abbrev cX0_sumOverFriends : ByteArray := prog_2_method_12_code
def yX0_sumOverFriends : MethodName := ⟨RX0, "sumOverFriends", "([I)I"⟩
abbrev cX0_toneOf : ByteArray := prog_2_method_13_code
def yX0_toneOf : MethodName := ⟨RX0, "toneOf", "(I)I"⟩
abbrev cX0_plainTone : ByteArray := prog_2_method_14_code
def yX0_plainTone : MethodName := ⟨RX0, "plainTone", "(I)I"⟩
abbrev cX0_termYielded : ByteArray := prog_2_method_15_code
def yX0_termYielded : MethodName := ⟨RX0, "termYielded", "(I)I"⟩
abbrev cX0_runPosts : ByteArray := prog_2_method_16_code
def yX0_runPosts : MethodName := ⟨RX0, "runPosts", "(II)I"⟩
abbrev cX0_writeLetters : ByteArray := prog_2_method_17_code
def yX0_writeLetters : MethodName := ⟨RX0, "writeLetters", "(I)I"⟩
def RX1 : String := "DuelLetters$Reader"
def TX1 : u_T := fun k => match k with
  | 0 => ("DuelLetters$Reader", "tape", "LDuelLetters$Tape;", true)
  | 1 => ("DuelLetters$Reader", "at", "I", false)
  | 2 => ("DuelLetters$Reader", "token", "I", false)
  | 3 => ("DuelLetters$Reader", "tokenFrom", "I", false)
  | 4 => ("DuelLetters$Reader", "fault", "I", false)
  | 5 => ("DuelLetters$Reader", "key", "I", false)
  | 6 => ("DuelLetters$Reader", "code", "[I", true)
  | 7 => ("DuelLetters$Reader", "codeLength", "I", false)
  | 8 => ("DuelLetters$Reader", "operands", "I", false)
  | 9 => ("DuelLetters$Reader", "openBrackets", "I", false)
  | _ => ("DuelLetters$Reader", "openBangs", "I", false)
def tyX1 : Nat → FieldType := fun k => match k with
  | 0 => .object "DuelLetters$Tape"
  | 1 => .int
  | 2 => .int
  | 3 => .int
  | 4 => .int
  | 5 => .int
  | 6 => .array .int
  | 7 => .int
  | 8 => .int
  | 9 => .int
  | _ => .int
theorem nmX1 : ∀ a, a < 11 → ∀ b, b < 11 → a ≠ b → (TX1 a).2.1 ≠ (TX1 b).2.1 := by decide +kernel
theorem tyX1_ok : ∀ k, k < 11 → parseFieldDescriptor (TX1 k).2.2.1 = some (tyX1 k) := by decide +kernel
abbrev cX1_init : ByteArray := prog_3_method_1_code
def yX1_init : MethodName := ⟨RX1, "<init>", "()V"⟩
abbrev cX1_findFault : ByteArray := prog_3_method_2_code
def yX1_findFault : MethodName := ⟨RX1, "findFault", "()I"⟩
abbrev cX1_makeText : ByteArray := prog_3_method_3_code
def yX1_makeText : MethodName := ⟨RX1, "makeText", "()LDuelLetters$Text;"⟩
abbrev cX1_fail : ByteArray := prog_3_method_4_code
def yX1_fail : MethodName := ⟨RX1, "fail", "()V"⟩
abbrev cX1_advance : ByteArray := prog_3_method_5_code
def yX1_advance : MethodName := ⟨RX1, "advance", "()V"⟩
abbrev cX1_sortOf : ByteArray := prog_3_method_6_code
def yX1_sortOf : MethodName := ⟨RX1, "sortOf", "(I)I"⟩
abbrev cX1_isSign : ByteArray := prog_3_method_7_code
def yX1_isSign : MethodName := ⟨RX1, "isSign", "(I)Z"⟩
abbrev cX1_isWord : ByteArray := prog_3_method_8_code
def yX1_isWord : MethodName := ⟨RX1, "isWord", "(Ljava/lang/String;)Z"⟩
abbrev cX1_readKey : ByteArray := prog_3_method_9_code
def yX1_readKey : MethodName := ⟨RX1, "readKey", "()V"⟩
abbrev cX1_readOr : ByteArray := prog_3_method_10_code
def yX1_readOr : MethodName := ⟨RX1, "readOr", "()V"⟩
abbrev cX1_readAnd : ByteArray := prog_3_method_11_code
def yX1_readAnd : MethodName := ⟨RX1, "readAnd", "()V"⟩
abbrev cX1_readTest : ByteArray := prog_3_method_12_code
def yX1_readTest : MethodName := ⟨RX1, "readTest", "()V"⟩
abbrev cX1_readSum : ByteArray := prog_3_method_13_code
def yX1_readSum : MethodName := ⟨RX1, "readSum", "()V"⟩
abbrev cX1_readProduct : ByteArray := prog_3_method_14_code
def yX1_readProduct : MethodName := ⟨RX1, "readProduct", "()V"⟩
abbrev cX1_readPiece : ByteArray := prog_3_method_15_code
def yX1_readPiece : MethodName := ⟨RX1, "readPiece", "()V"⟩
abbrev cX1_closeBracket : ByteArray := prog_3_method_16_code
def yX1_closeBracket : MethodName := ⟨RX1, "closeBracket", "()V"⟩
abbrev cX1_numberRead : ByteArray := prog_3_method_17_code
def yX1_numberRead : MethodName := ⟨RX1, "numberRead", "()I"⟩
abbrev cX1_nameRead : ByteArray := prog_3_method_18_code
def yX1_nameRead : MethodName := ⟨RX1, "nameRead", "()I"⟩
abbrev cX1_emitOperand : ByteArray := prog_3_method_19_code
def yX1_emitOperand : MethodName := ⟨RX1, "emitOperand", "(I)V"⟩
abbrev cX1_emit : ByteArray := prog_3_method_20_code
def yX1_emit : MethodName := ⟨RX1, "emit", "(I)V"⟩
def RX2 : String := "DuelLetters$Row"
def TX2 : u_T := fun k => match k with
  | 0 => ("DuelLetters$Row", "sort", "I", false)
  | 1 => ("DuelLetters$Row", "size", "I", false)
  | _ => ("DuelLetters$Row", "places", "[I", true)
def tyX2 : Nat → FieldType := fun k => match k with
  | 0 => .int
  | 1 => .int
  | _ => .array .int
theorem nmX2 : ∀ a, a < 3 → ∀ b, b < 3 → a ≠ b → (TX2 a).2.1 ≠ (TX2 b).2.1 := by decide +kernel
theorem tyX2_ok : ∀ k, k < 3 → parseFieldDescriptor (TX2 k).2.2.1 = some (tyX2 k) := by decide +kernel
abbrev cX2_init : ByteArray := prog_4_method_1_code
def yX2_init : MethodName := ⟨RX2, "<init>", "()V"⟩
abbrev cX2_renew : ByteArray := prog_4_method_2_code
def yX2_renew : MethodName := ⟨RX2, "renew", "(II)V"⟩
abbrev cX2_becomes : ByteArray := prog_4_method_3_code
def yX2_becomes : MethodName := ⟨RX2, "becomes", "(LDuelLetters$Row;)V"⟩
abbrev cX2_isMissing : ByteArray := prog_4_method_4_code
def yX2_isMissing : MethodName := ⟨RX2, "isMissing", "()Z"⟩
abbrev cX2_isPlace : ByteArray := prog_4_method_5_code
def yX2_isPlace : MethodName := ⟨RX2, "isPlace", "(I)Z"⟩
abbrev cX2_isNumber : ByteArray := prog_4_method_6_code
def yX2_isNumber : MethodName := ⟨RX2, "isNumber", "(I)Z"⟩
abbrev cX2_hasPlaces : ByteArray := prog_4_method_7_code
def yX2_hasPlaces : MethodName := ⟨RX2, "hasPlaces", "(II)Z"⟩
def RX3 : String := "DuelLetters$Slot"
def TX3 : u_T := fun k => match k with
  | 0 => ("DuelLetters$Slot", "thing", "I", false)
  | 1 => ("DuelLetters$Slot", "kind", "I", false)
  | 2 => ("DuelLetters$Slot", "pride", "I", false)
  | 3 => ("DuelLetters$Slot", "number", "I", false)
  | _ => ("DuelLetters$Slot", "row", "LDuelLetters$Row;", true)
def tyX3 : Nat → FieldType := fun k => match k with
  | 0 => .int
  | 1 => .int
  | 2 => .int
  | 3 => .int
  | _ => .object "DuelLetters$Row"
theorem nmX3 : ∀ a, a < 5 → ∀ b, b < 5 → a ≠ b → (TX3 a).2.1 ≠ (TX3 b).2.1 := by decide +kernel
theorem tyX3_ok : ∀ k, k < 5 → parseFieldDescriptor (TX3 k).2.2.1 = some (tyX3 k) := by decide +kernel
abbrev cX3_init : ByteArray := prog_5_method_1_code
def yX3_init : MethodName := ⟨RX3, "<init>", "()V"⟩
def RX4 : String := "DuelLetters$Tape"
def TX4 : u_T := fun k => match k with
  | 0 => ("DuelLetters$Tape", "bytes", "[I", true)
  | _ => ("DuelLetters$Tape", "length", "I", false)
def tyX4 : Nat → FieldType := fun k => match k with
  | 0 => .array .int
  | _ => .int
theorem nmX4 : ∀ a, a < 2 → ∀ b, b < 2 → a ≠ b → (TX4 a).2.1 ≠ (TX4 b).2.1 := by decide +kernel
theorem tyX4_ok : ∀ k, k < 2 → parseFieldDescriptor (TX4 k).2.2.1 = some (tyX4 k) := by decide +kernel
abbrev cX4_init : ByteArray := prog_6_method_1_code
def yX4_init : MethodName := ⟨RX4, "<init>", "()V"⟩
abbrev cX4_addBytesOf : ByteArray := prog_6_method_2_code
def yX4_addBytesOf : MethodName := ⟨RX4, "addBytesOf", "(I)V"⟩
def RX5 : String := "DuelLetters$Text"
def TX5 : u_T := fun k => match k with
  | 0 => ("DuelLetters$Text", "key", "I", true)
  | 1 => ("DuelLetters$Text", "operands", "I", true)
  | 2 => ("DuelLetters$Text", "code", "[I", true)
  | _ => ("DuelLetters$Text", "stack", "[I", true)
def tyX5 : Nat → FieldType := fun k => match k with
  | 0 => .int
  | 1 => .int
  | 2 => .array .int
  | _ => .array .int
theorem nmX5 : ∀ a, a < 4 → ∀ b, b < 4 → a ≠ b → (TX5 a).2.1 ≠ (TX5 b).2.1 := by decide +kernel
theorem tyX5_ok : ∀ k, k < 4 → parseFieldDescriptor (TX5 k).2.2.1 = some (tyX5 k) := by decide +kernel
abbrev cX5_init : ByteArray := prog_7_method_1_code
def yX5_init : MethodName := ⟨RX5, "<init>", "(II[I)V"⟩
abbrev cX5_workOut : ByteArray := prog_7_method_2_code
def yX5_workOut : MethodName := ⟨RX5, "workOut", "(III)I"⟩
abbrev cX5_join : ByteArray := prog_7_method_3_code
def yX5_join : MethodName := ⟨RX5, "join", "(III)I"⟩
def RX6 : String := "DuelLetters$Ways"
def TX6 : u_T := fun k => match k with
  | 0 => ("DuelLetters$Ways", "way", "[I", true)
  | 1 => ("DuelLetters$Ways", "has0", "I", false)
  | _ => ("DuelLetters$Ways", "has1", "I", false)
def tyX6 : Nat → FieldType := fun k => match k with
  | 0 => .array .int
  | 1 => .int
  | _ => .int
theorem nmX6 : ∀ a, a < 3 → ∀ b, b < 3 → a ≠ b → (TX6 a).2.1 ≠ (TX6 b).2.1 := by decide +kernel
theorem tyX6_ok : ∀ k, k < 3 → parseFieldDescriptor (TX6 k).2.2.1 = some (tyX6 k) := by decide +kernel
abbrev cX6_init : ByteArray := prog_8_method_1_code
def yX6_init : MethodName := ⟨RX6, "<init>", "()V"⟩
abbrev cX6_countTaken : ByteArray := prog_8_method_2_code
def yX6_countTaken : MethodName := ⟨RX6, "countTaken", "(LDuelLetters$Quarrel;)I"⟩
abbrev cX6_fairest : ByteArray := prog_8_method_3_code
def yX6_fairest : MethodName := ⟨RX6, "fairest", "(LDuelLetters$Quarrel;)I"⟩
abbrev cX6_nearest : ByteArray := prog_8_method_4_code
def yX6_nearest : MethodName := ⟨RX6, "nearest", "(LDuelLetters$Quarrel;)I"⟩
abbrev cX6_start : ByteArray := prog_8_method_5_code
def yX6_start : MethodName := ⟨RX6, "start", "(LDuelLetters$Quarrel;)V"⟩
abbrev cX6_step : ByteArray := prog_8_method_6_code
def yX6_step : MethodName := ⟨RX6, "step", "(LDuelLetters$Quarrel;)V"⟩
abbrev cX6_spare : ByteArray := prog_8_method_7_code
def yX6_spare : MethodName := ⟨RX6, "spare", "(LDuelLetters$Quarrel;)I"⟩
abbrev cX6_distanceTo : ByteArray := prog_8_method_8_code
def yX6_distanceTo : MethodName := ⟨RX6, "distanceTo", "(LDuelLetters$Quarrel;)I"⟩
def RX7 : String := "DuelLetters"
def TX7 : u_T := fun k => match k with
  | 0 => ("DuelLetters", "now", "LDuelLetters$Quarrel;", true)
  | 1 => ("DuelLetters", "thought", "LDuelLetters$Quarrel;", true)
  | 2 => ("DuelLetters", "image", "LDuelLetters$Quarrel;", true)
  | 3 => ("DuelLetters", "imageKept", "Z", false)
  | 4 => ("DuelLetters", "ways", "LDuelLetters$Ways;", true)
  | 5 => ("DuelLetters", "reader", "LDuelLetters$Reader;", true)
  | 6 => ("DuelLetters", "tape", "LDuelLetters$Tape;", true)
  | 7 => ("DuelLetters", "sheets", "[LDuelLetters$Row;", true)
  | 8 => ("DuelLetters", "slots", "[LDuelLetters$Slot;", true)
  | 9 => ("DuelLetters", "waiting", "[I", true)
  | _ => ("DuelLetters", "waitingCount", "I", false)
def tyX7 : Nat → FieldType := fun k => match k with
  | 0 => .object "DuelLetters$Quarrel"
  | 1 => .object "DuelLetters$Quarrel"
  | 2 => .object "DuelLetters$Quarrel"
  | 3 => .boolean
  | 4 => .object "DuelLetters$Ways"
  | 5 => .object "DuelLetters$Reader"
  | 6 => .object "DuelLetters$Tape"
  | 7 => .array (.object "DuelLetters$Row")
  | 8 => .array (.object "DuelLetters$Slot")
  | 9 => .array .int
  | _ => .int
theorem nmX7 : ∀ a, a < 11 → ∀ b, b < 11 → a ≠ b → (TX7 a).2.1 ≠ (TX7 b).2.1 := by decide +kernel
theorem tyX7_ok : ∀ k, k < 11 → parseFieldDescriptor (TX7 k).2.2.1 = some (tyX7 k) := by decide +kernel
abbrev cX7_init : ByteArray := prog_1_method_1_code
def yX7_init : MethodName := ⟨RX7, "<init>", "()V"⟩
abbrev cX7_friend : ByteArray := prog_1_method_2_code
def yX7_friend : MethodName := ⟨RX7, "friend", "(III)I"⟩
abbrev cX7_told : ByteArray := prog_1_method_3_code
def yX7_told : MethodName := ⟨RX7, "told", "(II)I"⟩
abbrev cX7_as : ByteArray := prog_1_method_4_code
def yX7_as : MethodName := ⟨RX7, "as", "(II)I"⟩
abbrev cX7_turns : ByteArray := prog_1_method_5_code
def yX7_turns : MethodName := ⟨RX7, "turns", "(II)I"⟩
abbrev cX7_set : ByteArray := prog_1_method_6_code
def yX7_set : MethodName := ⟨RX7, "set", "(III)I"⟩
abbrev cX7_stand : ByteArray := prog_1_method_7_code
def yX7_stand : MethodName := ⟨RX7, "stand", "(II)I"⟩
abbrev cX7_care : ByteArray := prog_1_method_8_code
def yX7_care : MethodName := ⟨RX7, "care", "(III)I"⟩
abbrev cX7_honour : ByteArray := prog_1_method_9_code
def yX7_honour : MethodName := ⟨RX7, "honour", "(II)I"⟩
abbrev cX7_rule : ByteArray := prog_1_method_10_code
def yX7_rule : MethodName := ⟨RX7, "rule", "(II)I"⟩
abbrev cX7_deal : ByteArray := prog_1_method_11_code
def yX7_deal : MethodName := ⟨RX7, "deal", "(I)I"⟩
abbrev cX7_seed : ByteArray := prog_1_method_12_code
def yX7_seed : MethodName := ⟨RX7, "seed", "(I)I"⟩
abbrev cX7_posts : ByteArray := prog_1_method_13_code
def yX7_posts : MethodName := ⟨RX7, "posts", "(I)I"⟩
abbrev cX7_table : ByteArray := prog_1_method_14_code
def yX7_table : MethodName := ⟨RX7, "table", "(I)I"⟩
abbrev cX7_taken : ByteArray := prog_1_method_15_code
def yX7_taken : MethodName := ⟨RX7, "taken", "()I"⟩
abbrev cX7_terms : ByteArray := prog_1_method_16_code
def yX7_terms : MethodName := ⟨RX7, "terms", "(I)I"⟩
abbrev cX7_behind : ByteArray := prog_1_method_17_code
def yX7_behind : MethodName := ⟨RX7, "behind", "(II)I"⟩
abbrev cX7_ends : ByteArray := prog_1_method_18_code
def yX7_ends : MethodName := ⟨RX7, "ends", "(I)I"⟩
abbrev cX7_held : ByteArray := prog_1_method_19_code
def yX7_held : MethodName := ⟨RX7, "held", "(I)I"⟩
abbrev cX7_peaceWithout : ByteArray := prog_1_method_20_code
def yX7_peaceWithout : MethodName := ⟨RX7, "peaceWithout", "(II)Z"⟩
abbrev cX7_cool : ByteArray := prog_1_method_21_code
def yX7_cool : MethodName := ⟨RX7, "cool", "(I)I"⟩
abbrev cX7_bought : ByteArray := prog_1_method_22_code
def yX7_bought : MethodName := ⟨RX7, "bought", "(II)I"⟩
abbrev cX7_cared : ByteArray := prog_1_method_23_code
def yX7_cared : MethodName := ⟨RX7, "cared", "(III)I"⟩
abbrev cX7_differenceFrom : ByteArray := prog_1_method_24_code
def yX7_differenceFrom : MethodName := ⟨RX7, "differenceFrom", "(LDuelLetters$Row;)I"⟩
abbrev cX7_fee : ByteArray := prog_1_method_25_code
def yX7_fee : MethodName := ⟨RX7, "fee", "()I"⟩
abbrev cX7_fine : ByteArray := prog_1_method_26_code
def yX7_fine : MethodName := ⟨RX7, "fine", "(I)I"⟩
abbrev cX7_feed : ByteArray := prog_1_method_27_code
def yX7_feed : MethodName := ⟨RX7, "feed", "(III)I"⟩
abbrev cX7_trim : ByteArray := prog_1_method_28_code
def yX7_trim : MethodName := ⟨RX7, "trim", "(I)I"⟩
abbrev cX7_text : ByteArray := prog_1_method_29_code
def yX7_text : MethodName := ⟨RX7, "text", "()I"⟩
abbrev cX7_textTold : ByteArray := prog_1_method_30_code
def yX7_textTold : MethodName := ⟨RX7, "textTold", "(II)I"⟩
abbrev cX7_why : ByteArray := prog_1_method_31_code
def yX7_why : MethodName := ⟨RX7, "why", "(I)I"⟩
abbrev cX7_sheet : ByteArray := prog_1_method_32_code
def yX7_sheet : MethodName := ⟨RX7, "sheet", "(III)I"⟩
abbrev cX7_mark : ByteArray := prog_1_method_33_code
def yX7_mark : MethodName := ⟨RX7, "mark", "(III)I"⟩
abbrev cX7_pour : ByteArray := prog_1_method_34_code
def yX7_pour : MethodName := ⟨RX7, "pour", "(I)I"⟩
abbrev cX7_reads : ByteArray := prog_1_method_35_code
def yX7_reads : MethodName := ⟨RX7, "reads", "(I)I"⟩
abbrev cX7_copy : ByteArray := prog_1_method_36_code
def yX7_copy : MethodName := ⟨RX7, "copy", "(IIIII)I"⟩
abbrev cX7_lay : ByteArray := prog_1_method_37_code
def yX7_lay : MethodName := ⟨RX7, "lay", "(III)I"⟩
abbrev cX7_ask : ByteArray := prog_1_method_38_code
def yX7_ask : MethodName := ⟨RX7, "ask", "(II)I"⟩
abbrev cX7_item : ByteArray := prog_1_method_39_code
def yX7_item : MethodName := ⟨RX7, "item", "(II)I"⟩
abbrev cX7_rest : ByteArray := prog_1_method_40_code
def yX7_rest : MethodName := ⟨RX7, "rest", "(II)I"⟩
abbrev cX7_tell : ByteArray := prog_1_method_41_code
def yX7_tell : MethodName := ⟨RX7, "tell", "(I)I"⟩
abbrev cX7_check : ByteArray := prog_1_method_42_code
def yX7_check : MethodName := ⟨RX7, "check", "(I)I"⟩
abbrev cX7_keep : ByteArray := prog_1_method_43_code
def yX7_keep : MethodName := ⟨RX7, "keep", "()I"⟩
abbrev cX7_back : ByteArray := prog_1_method_44_code
def yX7_back : MethodName := ⟨RX7, "back", "()I"⟩
abbrev cX7_count : ByteArray := prog_1_method_45_code
def yX7_count : MethodName := ⟨RX7, "count", "(I)I"⟩
abbrev cX7_within : ByteArray := prog_1_method_46_code
def yX7_within : MethodName := ⟨RX7, "within", "(III)Z"⟩
abbrev cX7_heldWithin : ByteArray := prog_1_method_47_code
def yX7_heldWithin : MethodName := ⟨RX7, "heldWithin", "(II)I"⟩
abbrev cX7_isSide : ByteArray := prog_1_method_48_code
def yX7_isSide : MethodName := ⟨RX7, "isSide", "(I)Z"⟩
abbrev cX7_isTerm : ByteArray := prog_1_method_49_code
def yX7_isTerm : MethodName := ⟨RX7, "isTerm", "(I)Z"⟩
abbrev cX7_isKind : ByteArray := prog_1_method_50_code
def yX7_isKind : MethodName := ⟨RX7, "isKind", "(I)Z"⟩
abbrev cX7_isSheet : ByteArray := prog_1_method_51_code
def yX7_isSheet : MethodName := ⟨RX7, "isSheet", "(I)Z"⟩
abbrev cX7_isSlot : ByteArray := prog_1_method_52_code
def yX7_isSlot : MethodName := ⟨RX7, "isSlot", "(I)Z"⟩
abbrev cX7_carePlace : ByteArray := prog_1_method_53_code
def yX7_carePlace : MethodName := ⟨RX7, "carePlace", "(II)I"⟩
abbrev cX7_orNone : ByteArray := prog_1_method_54_code
def yX7_orNone : MethodName := ⟨RX7, "orNone", "(I)I"⟩
abbrev cX7_isUnder : ByteArray := prog_1_method_55_code
def yX7_isUnder : MethodName := ⟨RX7, "isUnder", "(II)Z"⟩
abbrev cX7_worthOf : ByteArray := prog_1_method_56_code
def yX7_worthOf : MethodName := ⟨RX7, "worthOf", "(II)I"⟩
def RX8 : String := "DuelLettersModel"
def TX8 : u_T := fun k => match k with
  | 0 => ("DuelLettersModel", "now", "[I", true)
  | 1 => ("DuelLettersModel", "image", "[I", true)
  | 2 => ("DuelLettersModel", "aside", "[I", true)
  | 3 => ("DuelLettersModel", "hasImage", "Z", false)
  | 4 => ("DuelLettersModel", "silent", "I", false)
  | 5 => ("DuelLettersModel", "moves", "[I", true)
  | 6 => ("DuelLettersModel", "hotter", "I", false)
  | 7 => ("DuelLettersModel", "before", "[I", true)
  | 8 => ("DuelLettersModel", "tape", "[I", true)
  | 9 => ("DuelLettersModel", "taped", "I", false)
  | 10 => ("DuelLettersModel", "next", "I", false)
  | 11 => ("DuelLettersModel", "from", "I", false)
  | 12 => ("DuelLettersModel", "token", "I", false)
  | 13 => ("DuelLettersModel", "value", "I", false)
  | 14 => ("DuelLettersModel", "ended", "I", false)
  | 15 => ("DuelLettersModel", "key", "I", false)
  | 16 => ("DuelLettersModel", "keys", "[C", true)
  | 17 => ("DuelLettersModel", "keyAt", "[I", true)
  | 18 => ("DuelLettersModel", "code", "[I", true)
  | 19 => ("DuelLettersModel", "codes", "I", false)
  | 20 => ("DuelLettersModel", "atoms", "I", false)
  | 21 => ("DuelLettersModel", "waits", "[I", true)
  | 22 => ("DuelLettersModel", "held", "I", false)
  | 23 => ("DuelLettersModel", "tested", "[Z", true)
  | 24 => ("DuelLettersModel", "stack", "[I", true)
  | 25 => ("DuelLettersModel", "facts", "[I", true)
  | 26 => ("DuelLettersModel", "sorts", "[I", true)
  | 27 => ("DuelLettersModel", "sizes", "[I", true)
  | 28 => ("DuelLettersModel", "cells", "[I", true)
  | 29 => ("DuelLettersModel", "holds", "[I", true)
  | 30 => ("DuelLettersModel", "holdsA", "[I", true)
  | 31 => ("DuelLettersModel", "holdsB", "[I", true)
  | 32 => ("DuelLettersModel", "heldCells", "[I", true)
  | 33 => ("DuelLettersModel", "moved", "[I", true)
  | 34 => ("DuelLettersModel", "tells", "[I", true)
  | _ => ("DuelLettersModel", "waiting", "I", false)
def tyX8 : Nat → FieldType := fun k => match k with
  | 0 => .array .int
  | 1 => .array .int
  | 2 => .array .int
  | 3 => .boolean
  | 4 => .int
  | 5 => .array .int
  | 6 => .int
  | 7 => .array .int
  | 8 => .array .int
  | 9 => .int
  | 10 => .int
  | 11 => .int
  | 12 => .int
  | 13 => .int
  | 14 => .int
  | 15 => .int
  | 16 => .array .char
  | 17 => .array .int
  | 18 => .array .int
  | 19 => .int
  | 20 => .int
  | 21 => .array .int
  | 22 => .int
  | 23 => .array .boolean
  | 24 => .array .int
  | 25 => .array .int
  | 26 => .array .int
  | 27 => .array .int
  | 28 => .array .int
  | 29 => .array .int
  | 30 => .array .int
  | 31 => .array .int
  | 32 => .array .int
  | 33 => .array .int
  | 34 => .array .int
  | _ => .int
theorem nmX8 : ∀ a, a < 36 → ∀ b, b < 36 → a ≠ b → (TX8 a).2.1 ≠ (TX8 b).2.1 := by decide +kernel
theorem tyX8_ok : ∀ k, k < 36 → parseFieldDescriptor (TX8 k).2.2.1 = some (tyX8 k) := by decide +kernel
abbrev cX8_init : ByteArray := prog_10_method_1_code
def yX8_init : MethodName := ⟨RX8, "<init>", "()V"⟩
abbrev cX8_in : ByteArray := prog_10_method_2_code
def yX8_in : MethodName := ⟨RX8, "in", "(III)Z"⟩
abbrev cX8_within : ByteArray := prog_10_method_3_code
def yX8_within : MethodName := ⟨RX8, "within", "(III)I"⟩
abbrev cX8_copyAll : ByteArray := prog_10_method_4_code
def yX8_copyAll : MethodName := ⟨RX8, "copyAll", "([I[I)V"⟩
abbrev cX8_told0 : ByteArray := prog_10_method_5_code
def yX8_told0 : MethodName := ⟨RX8, "told0", "(I)I"⟩
abbrev cX8_isFriend : ByteArray := prog_10_method_6_code
def yX8_isFriend : MethodName := ⟨RX8, "isFriend", "(I)Z"⟩
abbrev cX8_of : ByteArray := prog_10_method_7_code
def yX8_of : MethodName := ⟨RX8, "of", "(II)I"⟩
abbrev cX8_put : ByteArray := prog_10_method_8_code
def yX8_put : MethodName := ⟨RX8, "put", "(III)V"⟩
abbrev cX8_becomes : ByteArray := prog_10_method_9_code
def yX8_becomes : MethodName := ⟨RX8, "becomes", "(II)I"⟩
abbrev cX8_comes : ByteArray := prog_10_method_10_code
def yX8_comes : MethodName := ⟨RX8, "comes", "(III)I"⟩
abbrev cX8_friend : ByteArray := prog_10_method_11_code
def yX8_friend : MethodName := ⟨RX8, "friend", "(III)I"⟩
abbrev cX8_toneOf : ByteArray := prog_10_method_12_code
def yX8_toneOf : MethodName := ⟨RX8, "toneOf", "(I)I"⟩
abbrev cX8_pickOf : ByteArray := prog_10_method_13_code
def yX8_pickOf : MethodName := ⟨RX8, "pickOf", "(II)I"⟩
abbrev cX8_termOf : ByteArray := prog_10_method_14_code
def yX8_termOf : MethodName := ⟨RX8, "termOf", "(I)I"⟩
abbrev cX8_worthOf : ByteArray := prog_10_method_15_code
def yX8_worthOf : MethodName := ⟨RX8, "worthOf", "(I)I"⟩
abbrev cX8_told : ByteArray := prog_10_method_16_code
def yX8_told : MethodName := ⟨RX8, "told", "(II)I"⟩
abbrev cX8_isUnder : ByteArray := prog_10_method_17_code
def yX8_isUnder : MethodName := ⟨RX8, "isUnder", "(II)Z"⟩
abbrev cX8_as : ByteArray := prog_10_method_18_code
def yX8_as : MethodName := ⟨RX8, "as", "(II)I"⟩
abbrev cX8_turns : ByteArray := prog_10_method_19_code
def yX8_turns : MethodName := ⟨RX8, "turns", "(II)I"⟩
abbrev cX8_set : ByteArray := prog_10_method_20_code
def yX8_set : MethodName := ⟨RX8, "set", "(III)I"⟩
abbrev cX8_stand : ByteArray := prog_10_method_21_code
def yX8_stand : MethodName := ⟨RX8, "stand", "(II)I"⟩
abbrev cX8_care : ByteArray := prog_10_method_22_code
def yX8_care : MethodName := ⟨RX8, "care", "(III)I"⟩
abbrev cX8_honour : ByteArray := prog_10_method_23_code
def yX8_honour : MethodName := ⟨RX8, "honour", "(II)I"⟩
abbrev cX8_rule : ByteArray := prog_10_method_24_code
def yX8_rule : MethodName := ⟨RX8, "rule", "(II)I"⟩
abbrev cX8_draw : ByteArray := prog_10_method_25_code
def yX8_draw : MethodName := ⟨RX8, "draw", "()I"⟩
abbrev cX8_deal : ByteArray := prog_10_method_26_code
def yX8_deal : MethodName := ⟨RX8, "deal", "(I)I"⟩
abbrev cX8_seed : ByteArray := prog_10_method_27_code
def yX8_seed : MethodName := ⟨RX8, "seed", "(I)I"⟩
abbrev cX8_has : ByteArray := prog_10_method_28_code
def yX8_has : MethodName := ⟨RX8, "has", "(I)I"⟩
abbrev cX8_isPeace : ByteArray := prog_10_method_29_code
def yX8_isPeace : MethodName := ⟨RX8, "isPeace", "()Z"⟩
abbrev cX8_letter : ByteArray := prog_10_method_30_code
def yX8_letter : MethodName := ⟨RX8, "letter", "(I)V"⟩
abbrev cX8_post : ByteArray := prog_10_method_31_code
def yX8_post : MethodName := ⟨RX8, "post", "()V"⟩
abbrev cX8_goesOn : ByteArray := prog_10_method_32_code
def yX8_goesOn : MethodName := ⟨RX8, "goesOn", "(I)V"⟩
abbrev cX8_sumOf : ByteArray := prog_10_method_33_code
def yX8_sumOf : MethodName := ⟨RX8, "sumOf", "(I)I"⟩
abbrev cX8_posts : ByteArray := prog_10_method_34_code
def yX8_posts : MethodName := ⟨RX8, "posts", "(I)I"⟩
abbrev cX8_stands : ByteArray := prog_10_method_35_code
def yX8_stands : MethodName := ⟨RX8, "stands", "()I"⟩
abbrev cX8_table : ByteArray := prog_10_method_36_code
def yX8_table : MethodName := ⟨RX8, "table", "(I)I"⟩
abbrev cX8_thinks : ByteArray := prog_10_method_37_code
def yX8_thinks : MethodName := ⟨RX8, "thinks", "()V"⟩
abbrev cX8_putsBack : ByteArray := prog_10_method_38_code
def yX8_putsBack : MethodName := ⟨RX8, "putsBack", "()V"⟩
abbrev cX8_standAs : ByteArray := prog_10_method_39_code
def yX8_standAs : MethodName := ⟨RX8, "standAs", "(I)V"⟩
abbrev cX8_taken : ByteArray := prog_10_method_40_code
def yX8_taken : MethodName := ⟨RX8, "taken", "()I"⟩
abbrev cX8_wellBy : ByteArray := prog_10_method_41_code
def yX8_wellBy : MethodName := ⟨RX8, "wellBy", "(I)I"⟩
abbrev cX8_terms : ByteArray := prog_10_method_42_code
def yX8_terms : MethodName := ⟨RX8, "terms", "(I)I"⟩
abbrev cX8_behind : ByteArray := prog_10_method_43_code
def yX8_behind : MethodName := ⟨RX8, "behind", "(II)I"⟩
abbrev cX8_ends : ByteArray := prog_10_method_44_code
def yX8_ends : MethodName := ⟨RX8, "ends", "(I)I"⟩
abbrev cX8_endsWell : ByteArray := prog_10_method_45_code
def yX8_endsWell : MethodName := ⟨RX8, "endsWell", "(I)Z"⟩
abbrev cX8_held : ByteArray := prog_10_method_46_code
def yX8_held : MethodName := ⟨RX8, "held", "(I)I"⟩
abbrev cX8_cool : ByteArray := prog_10_method_47_code
def yX8_cool : MethodName := ⟨RX8, "cool", "(I)I"⟩
abbrev cX8_bought : ByteArray := prog_10_method_48_code
def yX8_bought : MethodName := ⟨RX8, "bought", "(II)I"⟩
abbrev cX8_offBy : ByteArray := prog_10_method_49_code
def yX8_offBy : MethodName := ⟨RX8, "offBy", "(III)J"⟩
abbrev cX8_cared : ByteArray := prog_10_method_50_code
def yX8_cared : MethodName := ⟨RX8, "cared", "(III)I"⟩
abbrev cX8_fee : ByteArray := prog_10_method_51_code
def yX8_fee : MethodName := ⟨RX8, "fee", "()I"⟩
abbrev cX8_fine : ByteArray := prog_10_method_52_code
def yX8_fine : MethodName := ⟨RX8, "fine", "(I)I"⟩
abbrev cX8_feed : ByteArray := prog_10_method_53_code
def yX8_feed : MethodName := ⟨RX8, "feed", "(III)I"⟩
abbrev cX8_trim : ByteArray := prog_10_method_54_code
def yX8_trim : MethodName := ⟨RX8, "trim", "(I)I"⟩
abbrev cX8_isLetter : ByteArray := prog_10_method_55_code
def yX8_isLetter : MethodName := ⟨RX8, "isLetter", "(I)Z"⟩
abbrev cX8_isFigure : ByteArray := prog_10_method_56_code
def yX8_isFigure : MethodName := ⟨RX8, "isFigure", "(I)Z"⟩
abbrev cX8_go : ByteArray := prog_10_method_57_code
def yX8_go : MethodName := ⟨RX8, "go", "()V"⟩
abbrev cX8_takesKey : ByteArray := prog_10_method_58_code
def yX8_takesKey : MethodName := ⟨RX8, "takesKey", "()Z"⟩
abbrev cX8_nameOf : ByteArray := prog_10_method_59_code
def yX8_nameOf : MethodName := ⟨RX8, "nameOf", "(I)I"⟩
abbrev cX8_rank : ByteArray := prog_10_method_60_code
def yX8_rank : MethodName := ⟨RX8, "rank", "(I)I"⟩
abbrev cX8_settle : ByteArray := prog_10_method_61_code
def yX8_settle : MethodName := ⟨RX8, "settle", "(I)V"⟩
abbrev cX8_signHere : ByteArray := prog_10_method_62_code
def yX8_signHere : MethodName := ⟨RX8, "signHere", "()I"⟩
abbrev cX8_takesPart : ByteArray := prog_10_method_63_code
def yX8_takesPart : MethodName := ⟨RX8, "takesPart", "()Z"⟩
abbrev cX8_takesE : ByteArray := prog_10_method_64_code
def yX8_takesE : MethodName := ⟨RX8, "takesE", "()Z"⟩
abbrev cX8_notsOpen : ByteArray := prog_10_method_65_code
def yX8_notsOpen : MethodName := ⟨RX8, "notsOpen", "()I"⟩
abbrev cX8_text : ByteArray := prog_10_method_66_code
def yX8_text : MethodName := ⟨RX8, "text", "()I"⟩
abbrev cX8_textTold : ByteArray := prog_10_method_67_code
def yX8_textTold : MethodName := ⟨RX8, "textTold", "(II)I"⟩
abbrev cX8_counts : ByteArray := prog_10_method_68_code
def yX8_counts : MethodName := ⟨RX8, "counts", "(I)I"⟩
abbrev cX8_why : ByteArray := prog_10_method_69_code
def yX8_why : MethodName := ⟨RX8, "why", "(I)I"⟩
abbrev cX8_two : ByteArray := prog_10_method_70_code
def yX8_two : MethodName := ⟨RX8, "two", "(III)I"⟩
abbrev cX8_worksOut : ByteArray := prog_10_method_71_code
def yX8_worksOut : MethodName := ⟨RX8, "worksOut", "(I)I"⟩
abbrev cX8_isSheet : ByteArray := prog_10_method_72_code
def yX8_isSheet : MethodName := ⟨RX8, "isSheet", "(I)Z"⟩
abbrev cX8_isSlot : ByteArray := prog_10_method_73_code
def yX8_isSlot : MethodName := ⟨RX8, "isSlot", "(I)Z"⟩
abbrev cX8_sheet : ByteArray := prog_10_method_74_code
def yX8_sheet : MethodName := ⟨RX8, "sheet", "(III)I"⟩
abbrev cX8_mark : ByteArray := prog_10_method_75_code
def yX8_mark : MethodName := ⟨RX8, "mark", "(III)I"⟩
abbrev cX8_pour : ByteArray := prog_10_method_76_code
def yX8_pour : MethodName := ⟨RX8, "pour", "(I)I"⟩
abbrev cX8_reads : ByteArray := prog_10_method_77_code
def yX8_reads : MethodName := ⟨RX8, "reads", "(I)I"⟩
abbrev cX8_copy : ByteArray := prog_10_method_78_code
def yX8_copy : MethodName := ⟨RX8, "copy", "(IIIII)I"⟩
abbrev cX8_lay : ByteArray := prog_10_method_79_code
def yX8_lay : MethodName := ⟨RX8, "lay", "(III)I"⟩
abbrev cX8_ask : ByteArray := prog_10_method_80_code
def yX8_ask : MethodName := ⟨RX8, "ask", "(II)I"⟩
abbrev cX8_item : ByteArray := prog_10_method_81_code
def yX8_item : MethodName := ⟨RX8, "item", "(II)I"⟩
abbrev cX8_rest : ByteArray := prog_10_method_82_code
def yX8_rest : MethodName := ⟨RX8, "rest", "(II)I"⟩
abbrev cX8_tell : ByteArray := prog_10_method_83_code
def yX8_tell : MethodName := ⟨RX8, "tell", "(I)I"⟩
abbrev cX8_check : ByteArray := prog_10_method_84_code
def yX8_check : MethodName := ⟨RX8, "check", "(I)I"⟩
abbrev cX8_keep : ByteArray := prog_10_method_85_code
def yX8_keep : MethodName := ⟨RX8, "keep", "()I"⟩
abbrev cX8_back : ByteArray := prog_10_method_86_code
def yX8_back : MethodName := ⟨RX8, "back", "()I"⟩
abbrev cX8_count : ByteArray := prog_10_method_87_code
def yX8_count : MethodName := ⟨RX8, "count", "(I)I"⟩
def RJ11 : String := "java/lang/Character"
abbrev cJ11_isValidCodePoint_9a6ad : ByteArray := prog_11_method_11_code
def yJ11_isValidCodePoint_9a6ad : MethodName := ⟨RJ11, "isValidCodePoint", "(I)Z"⟩
abbrev cJ11_highSurrogate_5068e : ByteArray := prog_11_method_28_code
def yJ11_highSurrogate_5068e : MethodName := ⟨RJ11, "highSurrogate", "(I)C"⟩
abbrev cJ11_lowSurrogate_5068e : ByteArray := prog_11_method_29_code
def yJ11_lowSurrogate_5068e : MethodName := ⟨RJ11, "lowSurrogate", "(I)C"⟩
def RJ9 : String := "java/lang/Math"
abbrev cJ9_abs_0f7a4 : ByteArray := prog_13_method_59_code
def yJ9_abs_0f7a4 : MethodName := ⟨RJ9, "abs", "(I)I"⟩
abbrev cJ9_max_7cf53 : ByteArray := prog_13_method_65_code
def yJ9_max_7cf53 : MethodName := ⟨RJ9, "max", "(II)I"⟩
abbrev cJ9_min_7cf53 : ByteArray := prog_13_method_69_code
def yJ9_min_7cf53 : MethodName := ⟨RJ9, "min", "(II)I"⟩
def RJ0 : String := "java/lang/String"
abbrev cJ0_length_8abf5 : ByteArray := prog_14_method_54_code
def yJ0_length_8abf5 : MethodName := ⟨RJ0, "length", "()I"⟩
abbrev cJ0_charAt_5068e : ByteArray := prog_14_method_56_code
def yJ0_charAt_5068e : MethodName := ⟨RJ0, "charAt", "(I)C"⟩
abbrev cJ0_indexOf_0f7a4 : ByteArray := prog_14_method_79_code
def yJ0_indexOf_0f7a4 : MethodName := ⟨RJ0, "indexOf", "(I)I"⟩
abbrev cJ0_indexOf_7cf53 : ByteArray := prog_14_method_80_code
def yJ0_indexOf_7cf53 : MethodName := ⟨RJ0, "indexOf", "(II)I"⟩
abbrev cJ0_coder_7d493 : ByteArray := prog_14_method_152_code
def yJ0_coder_7d493 : MethodName := ⟨RJ0, "coder", "()B"⟩
abbrev cJ0_isLatin1_aae02 : ByteArray := prog_14_method_154_code
def yJ0_isLatin1_aae02 : MethodName := ⟨RJ0, "isLatin1", "()Z"⟩
abbrev cJ0_checkIndex_df160 : ByteArray := prog_14_method_155_code
def yJ0_checkIndex_df160 : MethodName := ⟨RJ0, "checkIndex", "(II)V"⟩
abbrev cJ0_checkBoundsBeginEnd_23922 : ByteArray := prog_14_method_158_code
def yJ0_checkBoundsBeginEnd_23922 : MethodName := ⟨RJ0, "checkBoundsBeginEnd", "(III)V"⟩
def RJ1 : String := "java/lang/StringLatin1"
abbrev cJ1_charAt_3b067 : ByteArray := prog_15_method_2_code
def yJ1_charAt_3b067 : MethodName := ⟨RJ1, "charAt", "([BI)C"⟩
abbrev cJ1_canEncode_9a6ad : ByteArray := prog_15_method_4_code
def yJ1_canEncode_9a6ad : MethodName := ⟨RJ1, "canEncode", "(I)Z"⟩
abbrev cJ1_indexOf_4cfef : ByteArray := prog_15_method_22_code
def yJ1_indexOf_4cfef : MethodName := ⟨RJ1, "indexOf", "([BIII)I"⟩
abbrev cJ1_indexOfChar_4cfef : ByteArray := prog_15_method_23_code
def yJ1_indexOfChar_4cfef : MethodName := ⟨RJ1, "indexOfChar", "([BIII)I"⟩
def RJ2 : String := "java/lang/StringUTF16"
abbrev cJ2_getChar_3b067 : ByteArray := prog_16_method_5_code
def yJ2_getChar_3b067 : MethodName := ⟨RJ2, "getChar", "([BI)C"⟩
abbrev cJ2_length_9d52b : ByteArray := prog_16_method_6_code
def yJ2_length_9d52b : MethodName := ⟨RJ2, "length", "([B)I"⟩
abbrev cJ2_indexOf_4cfef : ByteArray := prog_16_method_40_code
def yJ2_indexOf_4cfef : MethodName := ⟨RJ2, "indexOf", "([BIII)I"⟩
abbrev cJ2_indexOfChar_4cfef : ByteArray := prog_16_method_47_code
def yJ2_indexOfChar_4cfef : MethodName := ⟨RJ2, "indexOfChar", "([BIII)I"⟩
abbrev cJ2_indexOfCharUnsafe_4cfef : ByteArray := prog_16_method_48_code
def yJ2_indexOfCharUnsafe_4cfef : MethodName := ⟨RJ2, "indexOfCharUnsafe", "([BIII)I"⟩
abbrev cJ2_indexOfSupplementary_4cfef : ByteArray := prog_16_method_49_code
def yJ2_indexOfSupplementary_4cfef : MethodName := ⟨RJ2, "indexOfSupplementary", "([BIII)I"⟩
abbrev cJ2_charAt_3b067 : ByteArray := prog_16_method_83_code
def yJ2_charAt_3b067 : MethodName := ⟨RJ2, "charAt", "([BI)C"⟩
abbrev cJ2_checkIndex_2214a : ByteArray := prog_16_method_91_code
def yJ2_checkIndex_2214a : MethodName := ⟨RJ2, "checkIndex", "(I[B)V"⟩
abbrev cJ2_checkBoundsBeginEnd_d044e : ByteArray := prog_16_method_93_code
def yJ2_checkBoundsBeginEnd_d044e : MethodName := ⟨RJ2, "checkBoundsBeginEnd", "(II[B)V"⟩
def RJ10 : String := "java/lang/System"
def RJ7 : String := "java/util/Arrays"
abbrev cJ7_fill_53178 : ByteArray := prog_18_method_103_code
def yJ7_fill_53178 : MethodName := ⟨RJ7, "fill", "([II)V"⟩
abbrev cJ7_copyOf_59c91 : ByteArray := prog_18_method_123_code
def yJ7_copyOf_59c91 : MethodName := ⟨RJ7, "copyOf", "([II)[I"⟩
def RJ3 : String := "jdk/internal/util/Preconditions"
abbrev cJ3_checkIndex_8e157 : ByteArray := prog_19_method_11_code
def yJ3_checkIndex_8e157 : MethodName := ⟨RJ3, "checkIndex", "(IILjava/util/function/BiFunction;)I"⟩
abbrev cJ3_checkFromToIndex_8c36e : ByteArray := prog_19_method_12_code
def yJ3_checkFromToIndex_8c36e : MethodName := ⟨RJ3, "checkFromToIndex", "(IIILjava/util/function/BiFunction;)I"⟩
def RL : String := "DuelLettersLaw"
abbrev cL_law : ByteArray := code
def yL_law : MethodName := ⟨RL, "law", "([I)Z"⟩
abbrev vwCl : List vw_C := [(RX0, TX0, 19), (RX1, TX1, 11), (RX2, TX2, 3), (RX3, TX3, 5), (RX4, TX4, 2), (RX5, TX5, 4), (RX6, TX6, 3), (RX7, TX7, 11), (RX8, TX8, 36)]
