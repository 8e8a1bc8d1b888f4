def sgn (m c : Int32) : Prop := (m = -1 ∧ c = 124) ∨ (m = -2 ∧ c = 38) ∨ (m = -3 ∧ c = 60) ∨ (m = -4 ∧ c = 61) ∨ (m = -5 ∧ c = 62) ∨ (m = -6 ∧ c = 43) ∨ (m = -7 ∧ c = 45) ∨ (m = -8 ∧ c = 42) ∨ (m = -9 ∧ c = 47)
def twoM (m a b : Int32) : Int32 := if m = -1 then joinC 124 a b else if m = -2 then joinC 38 a b else if m = -3 then joinC 60 a b else if m = -4 then joinC 61 a b else if m = -5 then joinC 62 a b else if m = -6 then joinC 43 a b else if m = -7 then joinC 45 a b else if m = -8 then joinC 42 a b else if m = -9 then joinC 47 a b else 0
set_option maxHeartbeats 4000000 in
set_option maxRecDepth 100000 in
theorem m_two {X : List Int32} {d rc rs n : Nat} {Q : am_Q} {h : am_H} {m c a b : Int32} (hs : sgn m c) (hq : Q (some (.int (joinC c a b))) n h) : AW X mX8_two d rc rs 0 [some (.int m), some (.int a), some (.int b)] [] n h Q := by
  rcases hs with ⟨rfl, rfl⟩ | ⟨rfl, rfl⟩ | ⟨rfl, rfl⟩ | ⟨rfl, rfl⟩ | ⟨rfl, rfl⟩ | ⟨rfl, rfl⟩ | ⟨rfl, rfl⟩ | ⟨rfl, rfl⟩ | ⟨rfl, rfl⟩
  · refine aw_iload_n (npc := 1) rfl dX8_two_0 rfl ?_
    refine aw_tableIn (npc := 48) dX8_two_1 (by decide) (by decide) rfl (by decide) ?_
    refine aw_iload_n (npc := 49) rfl dX8_two_48 rfl ?_
    refine aw_if_ne (npc := 52) (tgt := 56) dX8_two_49 rfl (by decide) (fun hc1 => ?_) (fun hc1 => ?_)
    · refine aw_iconst (npc := 57) (v := 1) (by decide) dX8_two_56 rfl ?_
      refine aw_goto (npc := 61) dX8_two_57 (by decide) ?_
      refine aw_iret rfl dX8_two_61 ?_
      exact (show joinC 124 a b = 1 by simp [joinC, hc1]) ▸ hq
    · refine aw_iload_n (npc := 53) rfl dX8_two_52 rfl ?_
      refine aw_if_eq (npc := 56) (tgt := 60) dX8_two_53 rfl (by decide) (fun hc2 => ?_) (fun hc2 => ?_)
      · refine aw_iconst (npc := 61) (v := 0) (by decide) dX8_two_60 rfl ?_
        refine aw_iret rfl dX8_two_61 ?_
        exact (show joinC 124 a b = 0 by simp [joinC, hc1, hc2]) ▸ hq
      · refine aw_iconst (npc := 57) (v := 1) (by decide) dX8_two_56 rfl ?_
        refine aw_goto (npc := 61) dX8_two_57 (by decide) ?_
        refine aw_iret rfl dX8_two_61 ?_
        exact (show joinC 124 a b = 1 by simp [joinC, hc1, hc2]) ▸ hq
  · refine aw_iload_n (npc := 1) rfl dX8_two_0 rfl ?_
    refine aw_tableIn (npc := 62) dX8_two_1 (by decide) (by decide) rfl (by decide) ?_
    refine aw_iload_n (npc := 63) rfl dX8_two_62 rfl ?_
    refine aw_if_eq (npc := 66) (tgt := 74) dX8_two_63 rfl (by decide) (fun hc1 => ?_) (fun hc1 => ?_)
    · refine aw_iconst (npc := 75) (v := 0) (by decide) dX8_two_74 rfl ?_
      refine aw_iret rfl dX8_two_75 ?_
      exact (show joinC 38 a b = 0 by simp [joinC, hc1]) ▸ hq
    · refine aw_iload_n (npc := 67) rfl dX8_two_66 rfl ?_
      refine aw_if_eq (npc := 70) (tgt := 74) dX8_two_67 rfl (by decide) (fun hc2 => ?_) (fun hc2 => ?_)
      · refine aw_iconst (npc := 75) (v := 0) (by decide) dX8_two_74 rfl ?_
        refine aw_iret rfl dX8_two_75 ?_
        exact (show joinC 38 a b = 0 by simp [joinC, hc1, hc2]) ▸ hq
      · refine aw_iconst (npc := 71) (v := 1) (by decide) dX8_two_70 rfl ?_
        refine aw_goto (npc := 75) dX8_two_71 (by decide) ?_
        refine aw_iret rfl dX8_two_75 ?_
        exact (show joinC 38 a b = 1 by simp [joinC, hc1, hc2]) ▸ hq
  · refine aw_iload_n (npc := 1) rfl dX8_two_0 rfl ?_
    refine aw_tableIn (npc := 76) dX8_two_1 (by decide) (by decide) rfl (by decide) ?_
    refine aw_iload_n (npc := 77) rfl dX8_two_76 rfl ?_
    refine aw_iload_n (npc := 78) rfl dX8_two_77 rfl ?_
    refine aw_icmp_ge (npc := 81) (tgt := 85) dX8_two_78 rfl (by decide) (fun hc1 => ?_) (fun hc1 => ?_)
    · refine aw_iconst (npc := 86) (v := 0) (by decide) dX8_two_85 rfl ?_
      refine aw_iret rfl dX8_two_86 ?_
      exact (show joinC 60 a b = 0 by simp [joinC, hc1]) ▸ hq
    · refine aw_iconst (npc := 82) (v := 1) (by decide) dX8_two_81 rfl ?_
      refine aw_goto (npc := 86) dX8_two_82 (by decide) ?_
      refine aw_iret rfl dX8_two_86 ?_
      exact (show joinC 60 a b = 1 by simp [joinC, hc1]) ▸ hq
  · refine aw_iload_n (npc := 1) rfl dX8_two_0 rfl ?_
    refine aw_tableIn (npc := 87) dX8_two_1 (by decide) (by decide) rfl (by decide) ?_
    refine aw_iload_n (npc := 88) rfl dX8_two_87 rfl ?_
    refine aw_iload_n (npc := 89) rfl dX8_two_88 rfl ?_
    refine aw_icmp_ne (npc := 92) (tgt := 96) dX8_two_89 rfl (by decide) (fun hc1 => ?_) (fun hc1 => ?_)
    · refine aw_iconst (npc := 97) (v := 0) (by decide) dX8_two_96 rfl ?_
      refine aw_iret rfl dX8_two_97 ?_
      exact (show joinC 61 a b = 0 by simp [joinC, hc1]) ▸ hq
    · refine aw_iconst (npc := 93) (v := 1) (by decide) dX8_two_92 rfl ?_
      refine aw_goto (npc := 97) dX8_two_93 (by decide) ?_
      refine aw_iret rfl dX8_two_97 ?_
      exact (show joinC 61 a b = 1 by simp [joinC, hc1]) ▸ hq
  · refine aw_iload_n (npc := 1) rfl dX8_two_0 rfl ?_
    refine aw_tableIn (npc := 98) dX8_two_1 (by decide) (by decide) rfl (by decide) ?_
    refine aw_iload_n (npc := 99) rfl dX8_two_98 rfl ?_
    refine aw_iload_n (npc := 100) rfl dX8_two_99 rfl ?_
    refine aw_icmp_le (npc := 103) (tgt := 107) dX8_two_100 rfl (by decide) (fun hc1 => ?_) (fun hc1 => ?_)
    · refine aw_iconst (npc := 108) (v := 0) (by decide) dX8_two_107 rfl ?_
      refine aw_iret rfl dX8_two_108 ?_
      exact (show joinC 62 a b = 0 by simp [joinC, hc1]) ▸ hq
    · refine aw_iconst (npc := 104) (v := 1) (by decide) dX8_two_103 rfl ?_
      refine aw_goto (npc := 108) dX8_two_104 (by decide) ?_
      refine aw_iret rfl dX8_two_108 ?_
      exact (show joinC 62 a b = 1 by simp [joinC, hc1]) ▸ hq
  · refine aw_iload_n (npc := 1) rfl dX8_two_0 rfl ?_
    refine aw_tableIn (npc := 109) dX8_two_1 (by decide) (by decide) rfl (by decide) ?_
    refine aw_iload_n (npc := 110) rfl dX8_two_109 rfl ?_
    refine aw_iload_n (npc := 111) rfl dX8_two_110 rfl ?_
    refine aw_iadd (npc := 112) dX8_two_111 rfl ?_
    refine aw_iret rfl dX8_two_112 ?_
    exact (show joinC 43 a b = (a + b) by simp [joinC]) ▸ hq
  · refine aw_iload_n (npc := 1) rfl dX8_two_0 rfl ?_
    refine aw_tableIn (npc := 113) dX8_two_1 (by decide) (by decide) rfl (by decide) ?_
    refine aw_iload_n (npc := 114) rfl dX8_two_113 rfl ?_
    refine aw_iload_n (npc := 115) rfl dX8_two_114 rfl ?_
    refine aw_isub (npc := 116) dX8_two_115 rfl ?_
    refine aw_iret rfl dX8_two_116 ?_
    exact (show joinC 45 a b = (a - b) by simp [joinC]) ▸ hq
  · refine aw_iload_n (npc := 1) rfl dX8_two_0 rfl ?_
    refine aw_tableIn (npc := 117) dX8_two_1 (by decide) (by decide) rfl (by decide) ?_
    refine aw_iload_n (npc := 118) rfl dX8_two_117 rfl ?_
    refine aw_iload_n (npc := 119) rfl dX8_two_118 rfl ?_
    refine aw_imul (npc := 120) dX8_two_119 rfl ?_
    refine aw_iret rfl dX8_two_120 ?_
    exact (show joinC 42 a b = (a * b) by simp [joinC]) ▸ hq
  · refine aw_iload_n (npc := 1) rfl dX8_two_0 rfl ?_
    refine aw_tableOut (npc := 121) dX8_two_1 (by decide) (by decide) ?_
    refine aw_iload_n (npc := 122) rfl dX8_two_121 rfl ?_
    refine aw_if_ne (npc := 125) (tgt := 129) dX8_two_122 rfl (by decide) (fun hc1 => ?_) (fun hc1 => ?_)
    · refine aw_iload_n (npc := 130) rfl dX8_two_129 rfl ?_
      refine aw_iload_n (npc := 131) rfl dX8_two_130 rfl ?_
      refine aw_idiv (npc := 132) hc1 dX8_two_131 rfl ?_
      refine aw_iret rfl dX8_two_132 ?_
      exact (show joinC 47 a b = (a / b) by simp [joinC, hc1]) ▸ hq
    · refine aw_iconst (npc := 126) (v := 0) (by decide) dX8_two_125 rfl ?_
      refine aw_goto (npc := 132) dX8_two_126 (by decide) ?_
      refine aw_iret rfl dX8_two_132 ?_
      exact (show joinC 47 a b = 0 by simp [joinC, hc1]) ▸ hq
