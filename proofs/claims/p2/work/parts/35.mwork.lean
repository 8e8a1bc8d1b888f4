def sgn (m c : Int32) : Prop := (m = -1 ∧ c = 124) ∨ (m = -2 ∧ c = 38) ∨ (m = -3 ∧ c = 60) ∨ (m = -4 ∧ c = 61) ∨ (m = -5 ∧ c = 62) ∨ (m = -6 ∧ c = 43) ∨ (m = -7 ∧ c = 45) ∨ (m = -8 ∧ c = 42) ∨ (m = -9 ∧ c = 47)
def twoM (m a b : Int32) : Int32 := if m = -1 then joinC 124 a b else if m = -2 then joinC 38 a b else if m = -3 then joinC 60 a b else if m = -4 then joinC 61 a b else if m = -5 then joinC 62 a b else if m = -6 then joinC 43 a b else if m = -7 then joinC 45 a b else if m = -8 then joinC 42 a b else if m = -9 then joinC 47 a b else 0
set_option maxHeartbeats 4000000 in
set_option maxRecDepth 100000 in
theorem m_two {X : List Int32} {d rc rs n : Nat} {Q : am_Q} {h : am_H} {m c a b : Int32} (hs : sgn m c) (hq : Q (some (.int (joinC c a b))) n h) : AW X mX8_two d rc rs 0 [some (.int m), some (.int a), some (.int b)] [] n h Q := by
  rcases hs with ⟨rfl, rfl⟩ | ⟨rfl, rfl⟩ | ⟨rfl, rfl⟩ | ⟨rfl, rfl⟩ | ⟨rfl, rfl⟩ | ⟨rfl, rfl⟩ | ⟨rfl, rfl⟩ | ⟨rfl, rfl⟩ | ⟨rfl, rfl⟩
  · refine aw_iload_n (npc := 1) rfl dX8_two_0 rfl ?_
    refine aw_tableIn (npc := 48) dX8_two_1 (by decide) (by decide) rfl (by decide) ?_
    refine aw_iload_n (npc := 49) rfl dX8_two_48 rfl ?_
    refine aw_if_ne (npc := 52) (tgt := 56) dX8_two_49 rfl (by decide) (fun hc1 => ?_) (fun hc1 => ?_)
    · refine aw_iconst (npc := 57) (v := 1) (by decide) dX8_two_56 rfl ?_
      refine aw_goto (npc := 61) dX8_two_57 (by decide) ?_
      refine aw_iret rfl dX8_two_61 ?_
      exact (show joinC 124 a b = 1 by simp [joinC, hc1]) ▸ hq
    · refine aw_iload_n (npc := 53) rfl dX8_two_52 rfl ?_
      refine aw_if_eq (npc := 56) (tgt := 60) dX8_two_53 rfl (by decide) (fun hc2 => ?_) (fun hc2 => ?_)
      · refine aw_iconst (npc := 61) (v := 0) (by decide) dX8_two_60 rfl ?_
        refine aw_iret rfl dX8_two_61 ?_
        exact (show joinC 124 a b = 0 by simp [joinC, hc1, hc2]) ▸ hq
      · refine aw_iconst (npc := 57) (v := 1) (by decide) dX8_two_56 rfl ?_
        refine aw_goto (npc := 61) dX8_two_57 (by decide) ?_
        refine aw_iret rfl dX8_two_61 ?_
        exact (show joinC 124 a b = 1 by simp [joinC, hc1, hc2]) ▸ hq
  · refine aw_iload_n (npc := 1) rfl dX8_two_0 rfl ?_
    refine aw_tableIn (npc := 62) dX8_two_1 (by decide) (by decide) rfl (by decide) ?_
    refine aw_iload_n (npc := 63) rfl dX8_two_62 rfl ?_
    refine aw_if_eq (npc := 66) (tgt := 74) dX8_two_63 rfl (by decide) (fun hc1 => ?_) (fun hc1 => ?_)
    · refine aw_iconst (npc := 75) (v := 0) (by decide) dX8_two_74 rfl ?_
      refine aw_iret rfl dX8_two_75 ?_
      exact (show joinC 38 a b = 0 by simp [joinC, hc1]) ▸ hq
    · refine aw_iload_n (npc := 67) rfl dX8_two_66 rfl ?_
      refine aw_if_eq (npc := 70) (tgt := 74) dX8_two_67 rfl (by decide) (fun hc2 => ?_) (fun hc2 => ?_)
      · refine aw_iconst (npc := 75) (v := 0) (by decide) dX8_two_74 rfl ?_
        refine aw_iret rfl dX8_two_75 ?_
        exact (show joinC 38 a b = 0 by simp [joinC, hc1, hc2]) ▸ hq
      · refine aw_iconst (npc := 71) (v := 1) (by decide) dX8_two_70 rfl ?_
        refine aw_goto (npc := 75) dX8_two_71 (by decide) ?_
        refine aw_iret rfl dX8_two_75 ?_
        exact (show joinC 38 a b = 1 by simp [joinC, hc1, hc2]) ▸ hq
  · refine aw_iload_n (npc := 1) rfl dX8_two_0 rfl ?_
    refine aw_tableIn (npc := 76) dX8_two_1 (by decide) (by decide) rfl (by decide) ?_
    refine aw_iload_n (npc := 77) rfl dX8_two_76 rfl ?_
    refine aw_iload_n (npc := 78) rfl dX8_two_77 rfl ?_
    refine aw_icmp_ge (npc := 81) (tgt := 85) dX8_two_78 rfl (by decide) (fun hc1 => ?_) (fun hc1 => ?_)
    · refine aw_iconst (npc := 86) (v := 0) (by decide) dX8_two_85 rfl ?_
      refine aw_iret rfl dX8_two_86 ?_
      exact (show joinC 60 a b = 0 by simp [joinC, hc1]) ▸ hq
    · refine aw_iconst (npc := 82) (v := 1) (by decide) dX8_two_81 rfl ?_
      refine aw_goto (npc := 86) dX8_two_82 (by decide) ?_
      refine aw_iret rfl dX8_two_86 ?_
      exact (show joinC 60 a b = 1 by simp [joinC, hc1]) ▸ hq
  · refine aw_iload_n (npc := 1) rfl dX8_two_0 rfl ?_
    refine aw_tableIn (npc := 87) dX8_two_1 (by decide) (by decide) rfl (by decide) ?_
    refine aw_iload_n (npc := 88) rfl dX8_two_87 rfl ?_
    refine aw_iload_n (npc := 89) rfl dX8_two_88 rfl ?_
    refine aw_icmp_ne (npc := 92) (tgt := 96) dX8_two_89 rfl (by decide) (fun hc1 => ?_) (fun hc1 => ?_)
    · refine aw_iconst (npc := 97) (v := 0) (by decide) dX8_two_96 rfl ?_
      refine aw_iret rfl dX8_two_97 ?_
      exact (show joinC 61 a b = 0 by simp [joinC, hc1]) ▸ hq
    · refine aw_iconst (npc := 93) (v := 1) (by decide) dX8_two_92 rfl ?_
      refine aw_goto (npc := 97) dX8_two_93 (by decide) ?_
      refine aw_iret rfl dX8_two_97 ?_
      exact (show joinC 61 a b = 1 by simp [joinC, hc1]) ▸ hq
  · refine aw_iload_n (npc := 1) rfl dX8_two_0 rfl ?_
    refine aw_tableIn (npc := 98) dX8_two_1 (by decide) (by decide) rfl (by decide) ?_
    refine aw_iload_n (npc := 99) rfl dX8_two_98 rfl ?_
    refine aw_iload_n (npc := 100) rfl dX8_two_99 rfl ?_
    refine aw_icmp_le (npc := 103) (tgt := 107) dX8_two_100 rfl (by decide) (fun hc1 => ?_) (fun hc1 => ?_)
    · refine aw_iconst (npc := 108) (v := 0) (by decide) dX8_two_107 rfl ?_
      refine aw_iret rfl dX8_two_108 ?_
      exact (show joinC 62 a b = 0 by simp [joinC, hc1]) ▸ hq
    · refine aw_iconst (npc := 104) (v := 1) (by decide) dX8_two_103 rfl ?_
      refine aw_goto (npc := 108) dX8_two_104 (by decide) ?_
      refine aw_iret rfl dX8_two_108 ?_
      exact (show joinC 62 a b = 1 by simp [joinC, hc1]) ▸ hq
  · refine aw_iload_n (npc := 1) rfl dX8_two_0 rfl ?_
    refine aw_tableIn (npc := 109) dX8_two_1 (by decide) (by decide) rfl (by decide) ?_
    refine aw_iload_n (npc := 110) rfl dX8_two_109 rfl ?_
    refine aw_iload_n (npc := 111) rfl dX8_two_110 rfl ?_
    refine aw_iadd (npc := 112) dX8_two_111 rfl ?_
    refine aw_iret rfl dX8_two_112 ?_
    exact (show joinC 43 a b = (a + b) by simp [joinC]) ▸ hq
  · refine aw_iload_n (npc := 1) rfl dX8_two_0 rfl ?_
    refine aw_tableIn (npc := 113) dX8_two_1 (by decide) (by decide) rfl (by decide) ?_
    refine aw_iload_n (npc := 114) rfl dX8_two_113 rfl ?_
    refine aw_iload_n (npc := 115) rfl dX8_two_114 rfl ?_
    refine aw_isub (npc := 116) dX8_two_115 rfl ?_
    refine aw_iret rfl dX8_two_116 ?_
    exact (show joinC 45 a b = (a - b) by simp [joinC]) ▸ hq
  · refine aw_iload_n (npc := 1) rfl dX8_two_0 rfl ?_
    refine aw_tableIn (npc := 117) dX8_two_1 (by decide) (by decide) rfl (by decide) ?_
    refine aw_iload_n (npc := 118) rfl dX8_two_117 rfl ?_
    refine aw_iload_n (npc := 119) rfl dX8_two_118 rfl ?_
    refine aw_imul (npc := 120) dX8_two_119 rfl ?_
    refine aw_iret rfl dX8_two_120 ?_
    exact (show joinC 42 a b = (a * b) by simp [joinC]) ▸ hq
  · refine aw_iload_n (npc := 1) rfl dX8_two_0 rfl ?_
    refine aw_tableOut (npc := 121) dX8_two_1 (by decide) (by decide) ?_
    refine aw_iload_n (npc := 122) rfl dX8_two_121 rfl ?_
    refine aw_if_ne (npc := 125) (tgt := 129) dX8_two_122 rfl (by decide) (fun hc1 => ?_) (fun hc1 => ?_)
    · refine aw_iload_n (npc := 130) rfl dX8_two_129 rfl ?_
      refine aw_iload_n (npc := 131) rfl dX8_two_130 rfl ?_
      refine aw_idiv (npc := 132) hc1 dX8_two_131 rfl ?_
      refine aw_iret rfl dX8_two_132 ?_
      exact (show joinC 47 a b = (a / b) by simp [joinC, hc1]) ▸ hq
    · refine aw_iconst (npc := 126) (v := 0) (by decide) dX8_two_125 rfl ?_
      refine aw_goto (npc := 132) dX8_two_126 (by decide) ?_
      refine aw_iret rfl dX8_two_132 ?_
      exact (show joinC 47 a b = 0 by simp [joinC, hc1]) ▸ hq
def mwS (fa : Nat → Int32) (p : (Nat → Int32) × Nat) (c : Int32) : (Nat → Int32) × Nat :=
  if c < 0 then (if c = -10 then (upd p.1 (p.2 - 1) (if p.1 (p.2 - 1) = 0 then 1 else 0), p.2) else (upd p.1 (p.2 - 1 - 1) (twoM c (p.1 (p.2 - 1 - 1)) (p.1 (p.2 - 1))), p.2 - 1))
  else (upd p.1 p.2 (if c < 10000 then c else fa (c.toInt.toNat - 10000)), p.2 + 1)
def mwM (fa cf : Nat → Int32) : Nat → Nat → (Nat → Int32) × Nat → (Nat → Int32) × Nat
  | 0, _, p => p
  | m + 1, i, p => mwM fa cf m (i + 1) (mwS fa p (cf i))
def vld (cf : Nat → Int32) : Nat → Nat → Nat → Prop
  | 0, _, _ => True
  | m + 1, i, top => (∃ v, v < 10000 ∧ cf i = nI v ∧ top < 96 ∧ vld cf m (i + 1) (top + 1)) ∨ (∃ j, j < 4 ∧ cf i = nI (10000 + j) ∧ top < 96 ∧ vld cf m (i + 1) (top + 1)) ∨ (cf i = -10 ∧ 1 ≤ top ∧ vld cf m (i + 1) top) ∨ (∃ c, sgn (cf i) c ∧ 2 ≤ top ∧ vld cf m (i + 1) (top - 1))
theorem sgn_two {m c a b : Int32} (h : sgn m c) : twoM m a b = joinC c a b := by
  rcases h with ⟨rfl, rfl⟩ | ⟨rfl, rfl⟩ | ⟨rfl, rfl⟩ | ⟨rfl, rfl⟩ | ⟨rfl, rfl⟩ | ⟨rfl, rfl⟩ | ⟨rfl, rfl⟩ | ⟨rfl, rfl⟩ | ⟨rfl, rfl⟩ <;> simp [twoM]
theorem sgn_neg {m c : Int32} (h : sgn m c) : m < 0 ∧ m ≠ -10 := by
  rcases h with ⟨rfl, rfl⟩ | ⟨rfl, rfl⟩ | ⟨rfl, rfl⟩ | ⟨rfl, rfl⟩ | ⟨rfl, rfl⟩ | ⟨rfl, rfl⟩ | ⟨rfl, rfl⟩ | ⟨rfl, rfl⟩ | ⟨rfl, rfl⟩ <;> decide
theorem nI_toNat {v : Nat} (h : v < 100000) : (nI v).toInt.toNat = v := by
  have e : (nI v).toInt = (v : Int) := nI_toInt (by omega)
  rw [e]; rfl
set_option maxHeartbeats 4000000 in
set_option maxRecDepth 100000 in
theorem m_workL {X : List Int32} {d rc rs n : Nat} {Q : am_Q} {o N fa : Nat → Int32} {t lc : Nat} (ht : t < 14) (hlc : lc ≤ 96) : ∀ (m i : Nat), i + m = lc → ∀ (top : Nat), top ≤ 96 → vld (fun z9 => N (90 + 96 * t + z9)) m i top → ∀ (v5 : Option Value) (a : Nat → Nat → Int32) (h : am_H), MR o N a h → a 82 = fa → (∀ a9 h9, MR o N a9 h9 → (∀ c, c ≠ 81 → a9 c = a c) → a9 81 = (mwM fa (fun z9 => N (90 + 96 * t + z9)) m i (a 81, top)).1 → am_fb 69 92 h9 h → Q (some (.int (a9 81 0))) n h9) → AW X mX8_worksOut (d + 2) rc rs 21 [some (.ref 69), some (.int (nI t)), some (.int (nI top)), some (.int (nI lc)), some (.int (nI i)), v5] [] n h Q := by
  intro m
  induction m with
  | zero =>
    intro i hi top htop hvl v5 a h F hfa hq
    obtain rfl : i = lc := by omega
    refine aw_iload (npc := 23) rfl dX8_worksOut_21 rfl ?_
    refine aw_iload_n (npc := 24) rfl dX8_worksOut_23 rfl ?_
    refine aw_icmp_ge (npc := 27) (tgt := 155) dX8_worksOut_24 rfl (by decide) (fun _ => ?_) (fun hc => absurd (nI_le (a := i) (b := i) (by omega) (by omega)) hc)
    refine aw_aload_n (npc := 156) rfl dX8_worksOut_155 rfl ?_
    refine aw_get (npc := 159) dX8_worksOut_156 rfl kf_X8_49 F.1 rfl ?_
    refine aw_iconst (npc := 160) (v := 0) (by decide) dX8_worksOut_159 rfl ?_
    refine aw_iald (npc := 161) (x := (a 81) 0) (j := 0) dX8_worksOut_160 rfl F.2.2.2.2.2.2.2.2.2.2.2.2.1 ⟨by decide, by decide⟩ (tl_at (by omega)) ?_
    refine aw_iret rfl dX8_worksOut_161 ?_
    exact hq _ _ F (fun _ _ => rfl) rfl am_fb0
  | succ m ih =>
    intro i hi top htop hvl v5 a h F hfa hq
    rcases hvl with q9 | q9 | q9 | q9
    · obtain ⟨v, hv, hcf, htp, hvl⟩ := q9
      have nn1 : ¬ nI v < 0 := nI_pos (by omega)
      have nn2 : nI v < 10000 := nI_lt (a := v) (b := 10000) (by omega) (by omega)
      refine aw_iload (npc := 23) rfl dX8_worksOut_21 rfl ?_
      refine aw_iload_n (npc := 24) rfl dX8_worksOut_23 rfl ?_
      refine aw_icmp_ge (npc := 27) (tgt := 155) dX8_worksOut_24 rfl (by decide) (fun hc => absurd hc (nI_ge (a := i) (b := lc) (by omega) (by omega))) (fun _ => ?_)
      refine aw_aload_n (npc := 28) rfl dX8_worksOut_27 rfl ?_
      refine aw_get (npc := 31) dX8_worksOut_28 rfl kf_X8_9 F.1 rfl ?_
      refine aw_bipush (npc := 33) (v := 90) (by decide) dX8_worksOut_31 rfl ?_
      refine aw_bipush (npc := 35) (v := 96) (by decide) dX8_worksOut_33 rfl ?_
      refine aw_iload_n (npc := 36) rfl dX8_worksOut_35 rfl ?_
      refine aw_imulV (npc := 37) (v := nI (96 * t)) dX8_worksOut_36 rfl (pk_mul 96 _) ?_
      refine aw_iaddV (npc := 38) (v := nI (90 + (96 * t))) dX8_worksOut_37 rfl (nI_add 90 _) ?_
      refine aw_iload (npc := 40) rfl dX8_worksOut_38 rfl ?_
      refine aw_iaddV (npc := 41) (v := nI ((90 + (96 * t)) + i)) dX8_worksOut_40 rfl (nI_add _ _) ?_
      refine aw_iald (npc := 42) (x := N ((90 + (96 * t)) + i)) (j := ((90 + (96 * t)) + i)) dX8_worksOut_41 rfl F.2.1 (am_ix_nI (by omega)) (tl_at (by omega)) ?_
      refine aw_top (y := nI v) (hcf) ?_
      refine aw_istore (npc := 44) (L' := [some (.ref 69), some (.int (nI t)), some (.int (nI top)), some (.int (nI lc)), some (.int (nI i)), some (.int (nI v))]) dX8_worksOut_42 rfl (by decide) rfl rfl ?_
      refine aw_iload (npc := 46) rfl dX8_worksOut_44 rfl ?_
      refine aw_if_lt (npc := 49) (tgt := 85) dX8_worksOut_46 rfl (by decide) (fun hc => absurd hc (nn1)) (fun _ => ?_)
      refine aw_aload_n (npc := 50) rfl dX8_worksOut_49 rfl ?_
      refine aw_get (npc := 53) dX8_worksOut_50 rfl kf_X8_49 F.1 rfl ?_
      refine aw_iload_n (npc := 54) rfl dX8_worksOut_53 rfl ?_
      refine aw_iload (npc := 56) rfl dX8_worksOut_54 rfl ?_
      refine aw_sipush (npc := 59) (v := 10000) (by decide) dX8_worksOut_56 rfl ?_
      refine aw_icmp_ge (npc := 62) (tgt := 67) dX8_worksOut_59 rfl (by decide) (fun hc => absurd hc (nI_ge (a := v) (b := 10000) (by omega) (by omega))) (fun _ => ?_)
      refine aw_iload (npc := 64) rfl dX8_worksOut_62 rfl ?_
      refine aw_goto (npc := 78) dX8_worksOut_64 (by decide) ?_
      refine aw_iast (npc := 79) (j := top) dX8_worksOut_78 rfl F.2.2.2.2.2.2.2.2.2.2.2.2.1 (am_ix_nI (by omega)) (by rw [tl_len]; omega) rfl ?_
      have F4 := mr_81 (j := top) (v := nI v) F
      refine aw_iinc (npc := 82) (v := nI (top + 1)) (L' := [some (.ref 69), some (.int (nI t)), some (.int (nI (top + 1))), some (.int (nI lc)), some (.int (nI i)), some (.int (nI v))]) dX8_worksOut_79 rfl rfl (nI_1 _) (by decide) rfl rfl ?_
      refine aw_goto (npc := 149) dX8_worksOut_82 (by decide) ?_
      refine aw_iinc (npc := 152) (v := nI (i + 1)) (L' := [some (.ref 69), some (.int (nI t)), some (.int (nI (top + 1))), some (.int (nI lc)), some (.int (nI (i + 1))), some (.int (nI v))]) dX8_worksOut_149 rfl rfl (nI_1 _) (by decide) rfl rfl ?_
      refine aw_goto (npc := 21) dX8_worksOut_152 (by decide) ?_
      have s9 : mwS fa (a 81, top) (N (90 + 96 * t + i)) = (aup a 81 top (nI v) 81, (top + 1)) := by
        rw [aup_s]
        simp [mwS, hcf, nn1, nn2]
      exact ih (i + 1) (by omega) ((top + 1)) (by omega) hvl _ _ _ F4 ((aup_n (by decide)).trans hfa) (fun a9 h9 M9 k9 e9 f9 => hq a9 h9 M9 (fun c hc => (k9 c hc).trans (aup_n hc)) (e9.trans (by show _ = (mwM fa (fun z9 => N (90 + 96 * t + z9)) m (i + 1) (mwS fa (a 81, top) (N (90 + 96 * t + i)))).1; rw [s9])) (am_fbT f9 (am_fbU (by omega) am_fb0)))
    · obtain ⟨j, hj, hcf, htp, hvl⟩ := q9
      have nn1 : ¬ nI (10000 + j) < 0 := nI_pos (by omega)
      have nn2 : ¬ nI (10000 + j) < 10000 := Int32.not_lt.mpr (nI_le (a := 10000) (b := 10000 + j) (by omega) (by omega))
      have nn3 : (nI (10000 + j)).toNatClampNeg - 10000 = j := by rw [nI_clamp (by omega)]; omega
      refine aw_iload (npc := 23) rfl dX8_worksOut_21 rfl ?_
      refine aw_iload_n (npc := 24) rfl dX8_worksOut_23 rfl ?_
      refine aw_icmp_ge (npc := 27) (tgt := 155) dX8_worksOut_24 rfl (by decide) (fun hc => absurd hc (nI_ge (a := i) (b := lc) (by omega) (by omega))) (fun _ => ?_)
      refine aw_aload_n (npc := 28) rfl dX8_worksOut_27 rfl ?_
      refine aw_get (npc := 31) dX8_worksOut_28 rfl kf_X8_9 F.1 rfl ?_
      refine aw_bipush (npc := 33) (v := 90) (by decide) dX8_worksOut_31 rfl ?_
      refine aw_bipush (npc := 35) (v := 96) (by decide) dX8_worksOut_33 rfl ?_
      refine aw_iload_n (npc := 36) rfl dX8_worksOut_35 rfl ?_
      refine aw_imulV (npc := 37) (v := nI (96 * t)) dX8_worksOut_36 rfl (pk_mul 96 _) ?_
      refine aw_iaddV (npc := 38) (v := nI (90 + (96 * t))) dX8_worksOut_37 rfl (nI_add 90 _) ?_
      refine aw_iload (npc := 40) rfl dX8_worksOut_38 rfl ?_
      refine aw_iaddV (npc := 41) (v := nI ((90 + (96 * t)) + i)) dX8_worksOut_40 rfl (nI_add _ _) ?_
      refine aw_iald (npc := 42) (x := N ((90 + (96 * t)) + i)) (j := ((90 + (96 * t)) + i)) dX8_worksOut_41 rfl F.2.1 (am_ix_nI (by omega)) (tl_at (by omega)) ?_
      refine aw_top (y := nI (10000 + j)) (hcf) ?_
      refine aw_istore (npc := 44) (L' := [some (.ref 69), some (.int (nI t)), some (.int (nI top)), some (.int (nI lc)), some (.int (nI i)), some (.int (nI (10000 + j)))]) dX8_worksOut_42 rfl (by decide) rfl rfl ?_
      refine aw_iload (npc := 46) rfl dX8_worksOut_44 rfl ?_
      refine aw_if_lt (npc := 49) (tgt := 85) dX8_worksOut_46 rfl (by decide) (fun hc => absurd hc (nn1)) (fun _ => ?_)
      refine aw_aload_n (npc := 50) rfl dX8_worksOut_49 rfl ?_
      refine aw_get (npc := 53) dX8_worksOut_50 rfl kf_X8_49 F.1 rfl ?_
      refine aw_iload_n (npc := 54) rfl dX8_worksOut_53 rfl ?_
      refine aw_iload (npc := 56) rfl dX8_worksOut_54 rfl ?_
      refine aw_sipush (npc := 59) (v := 10000) (by decide) dX8_worksOut_56 rfl ?_
      refine aw_icmp_ge (npc := 62) (tgt := 67) dX8_worksOut_59 rfl (by decide) (fun _ => ?_) (fun hc => absurd (nI_le (a := 10000) (b := 10000 + j) (by omega) (by omega)) hc)
      refine aw_aload_n (npc := 68) rfl dX8_worksOut_67 rfl ?_
      refine aw_get (npc := 71) dX8_worksOut_68 rfl kf_X8_52 F.1 rfl ?_
      refine aw_iload (npc := 73) rfl dX8_worksOut_71 rfl ?_
      refine aw_sipush (npc := 76) (v := 10000) (by decide) dX8_worksOut_73 rfl ?_
      refine aw_isubV (npc := 77) (v := nI j) dX8_worksOut_76 rfl ((pk_sub (a := 10000 + j) (b := 10000) (by omega)).trans (congrArg nI (by omega))) ?_
      refine aw_iald (npc := 78) (x := (a 82) j) (j := j) dX8_worksOut_77 rfl F.2.2.2.2.2.2.2.2.2.2.2.2.2.1 (am_ix_nI (by omega)) (tl_at (by omega)) ?_
      refine aw_iast (npc := 79) (j := top) dX8_worksOut_78 rfl F.2.2.2.2.2.2.2.2.2.2.2.2.1 (am_ix_nI (by omega)) (by rw [tl_len]; omega) rfl ?_
      have F4 := mr_81 (j := top) (v := (a 82) j) F
      refine aw_iinc (npc := 82) (v := nI (top + 1)) (L' := [some (.ref 69), some (.int (nI t)), some (.int (nI (top + 1))), some (.int (nI lc)), some (.int (nI i)), some (.int (nI (10000 + j)))]) dX8_worksOut_79 rfl rfl (nI_1 _) (by decide) rfl rfl ?_
      refine aw_goto (npc := 149) dX8_worksOut_82 (by decide) ?_
      refine aw_iinc (npc := 152) (v := nI (i + 1)) (L' := [some (.ref 69), some (.int (nI t)), some (.int (nI (top + 1))), some (.int (nI lc)), some (.int (nI (i + 1))), some (.int (nI (10000 + j)))]) dX8_worksOut_149 rfl rfl (nI_1 _) (by decide) rfl rfl ?_
      refine aw_goto (npc := 21) dX8_worksOut_152 (by decide) ?_
      have s9 : mwS fa (a 81, top) (N (90 + 96 * t + i)) = (aup a 81 top ((a 82) j) 81, (top + 1)) := by
        rw [aup_s]
        simp [mwS, hcf, nn1, nn2, nn3, ← hfa]
      exact ih (i + 1) (by omega) ((top + 1)) (by omega) hvl _ _ _ F4 ((aup_n (by decide)).trans hfa) (fun a9 h9 M9 k9 e9 f9 => hq a9 h9 M9 (fun c hc => (k9 c hc).trans (aup_n hc)) (e9.trans (by show _ = (mwM fa (fun z9 => N (90 + 96 * t + z9)) m (i + 1) (mwS fa (a 81, top) (N (90 + 96 * t + i)))).1; rw [s9])) (am_fbT f9 (am_fbU (by omega) am_fb0)))
    · obtain ⟨hcf, htp, hvl⟩ := q9
      refine aw_iload (npc := 23) rfl dX8_worksOut_21 rfl ?_
      refine aw_iload_n (npc := 24) rfl dX8_worksOut_23 rfl ?_
      refine aw_icmp_ge (npc := 27) (tgt := 155) dX8_worksOut_24 rfl (by decide) (fun hc => absurd hc (nI_ge (a := i) (b := lc) (by omega) (by omega))) (fun _ => ?_)
      refine aw_aload_n (npc := 28) rfl dX8_worksOut_27 rfl ?_
      refine aw_get (npc := 31) dX8_worksOut_28 rfl kf_X8_9 F.1 rfl ?_
      refine aw_bipush (npc := 33) (v := 90) (by decide) dX8_worksOut_31 rfl ?_
      refine aw_bipush (npc := 35) (v := 96) (by decide) dX8_worksOut_33 rfl ?_
      refine aw_iload_n (npc := 36) rfl dX8_worksOut_35 rfl ?_
      refine aw_imulV (npc := 37) (v := nI (96 * t)) dX8_worksOut_36 rfl (pk_mul 96 _) ?_
      refine aw_iaddV (npc := 38) (v := nI (90 + (96 * t))) dX8_worksOut_37 rfl (nI_add 90 _) ?_
      refine aw_iload (npc := 40) rfl dX8_worksOut_38 rfl ?_
      refine aw_iaddV (npc := 41) (v := nI ((90 + (96 * t)) + i)) dX8_worksOut_40 rfl (nI_add _ _) ?_
      refine aw_iald (npc := 42) (x := N ((90 + (96 * t)) + i)) (j := ((90 + (96 * t)) + i)) dX8_worksOut_41 rfl F.2.1 (am_ix_nI (by omega)) (tl_at (by omega)) ?_
      refine aw_top (y := -10) (hcf) ?_
      refine aw_istore (npc := 44) (L' := [some (.ref 69), some (.int (nI t)), some (.int (nI top)), some (.int (nI lc)), some (.int (nI i)), some (.int (-10))]) dX8_worksOut_42 rfl (by decide) rfl rfl ?_
      refine aw_iload (npc := 46) rfl dX8_worksOut_44 rfl ?_
      refine aw_if_lt (npc := 49) (tgt := 85) dX8_worksOut_46 rfl (by decide) (fun _ => ?_) (fun hc => absurd (by decide) hc)
      refine aw_iload (npc := 87) rfl dX8_worksOut_85 rfl ?_
      refine aw_bipush (npc := 89) (v := -10) (by decide) dX8_worksOut_87 rfl ?_
      refine aw_icmp_ne (npc := 92) (tgt := 119) dX8_worksOut_89 rfl (by decide) (fun hc => absurd (by decide) hc) (fun _ => ?_)
      refine aw_aload_n (npc := 93) rfl dX8_worksOut_92 rfl ?_
      refine aw_get (npc := 96) dX8_worksOut_93 rfl kf_X8_49 F.1 rfl ?_
      refine aw_iload_n (npc := 97) rfl dX8_worksOut_96 rfl ?_
      refine aw_iconst (npc := 98) (v := 1) (by decide) dX8_worksOut_97 rfl ?_
      refine aw_isubV (npc := 99) (v := nI (top - 1)) dX8_worksOut_98 rfl (pk_sub (b := 1) (by omega)) ?_
      refine aw_aload_n (npc := 100) rfl dX8_worksOut_99 rfl ?_
      refine aw_get (npc := 103) dX8_worksOut_100 rfl kf_X8_49 F.1 rfl ?_
      refine aw_iload_n (npc := 104) rfl dX8_worksOut_103 rfl ?_
      refine aw_iconst (npc := 105) (v := 1) (by decide) dX8_worksOut_104 rfl ?_
      refine aw_isubV (npc := 106) (v := nI (top - 1)) dX8_worksOut_105 rfl (pk_sub (b := 1) (by omega)) ?_
      refine aw_iald (npc := 107) (x := (a 81) (top - 1)) (j := (top - 1)) dX8_worksOut_106 rfl F.2.2.2.2.2.2.2.2.2.2.2.2.1 (am_ix_nI (by omega)) (tl_at (by omega)) ?_
      refine aw_if_ne (npc := 110) (tgt := 114) dX8_worksOut_107 rfl (by decide) (fun hc2 => ?_) (fun hc2 => ?_)
      · refine aw_iconst (npc := 115) (v := 0) (by decide) dX8_worksOut_114 rfl ?_
        refine aw_iast (npc := 116) (j := (top - 1)) dX8_worksOut_115 rfl F.2.2.2.2.2.2.2.2.2.2.2.2.1 (am_ix_nI (by omega)) (by rw [tl_len]; omega) rfl ?_
        have F3 := mr_81 (j := (top - 1)) (v := 0) F
        refine aw_goto (npc := 149) dX8_worksOut_116 (by decide) ?_
        refine aw_iinc (npc := 152) (v := nI (i + 1)) (L' := [some (.ref 69), some (.int (nI t)), some (.int (nI top)), some (.int (nI lc)), some (.int (nI (i + 1))), some (.int (-10))]) dX8_worksOut_149 rfl rfl (nI_1 _) (by decide) rfl rfl ?_
        refine aw_goto (npc := 21) dX8_worksOut_152 (by decide) ?_
        have s9 : mwS fa (a 81, top) (N (90 + 96 * t + i)) = (aup a 81 (top - 1) 0 81, top) := by
          rw [aup_s]
          simp [mwS, hcf, hc2]
        exact ih (i + 1) (by omega) (top) (by omega) hvl _ _ _ F3 ((aup_n (by decide)).trans hfa) (fun a9 h9 M9 k9 e9 f9 => hq a9 h9 M9 (fun c hc => (k9 c hc).trans (aup_n hc)) (e9.trans (by show _ = (mwM fa (fun z9 => N (90 + 96 * t + z9)) m (i + 1) (mwS fa (a 81, top) (N (90 + 96 * t + i)))).1; rw [s9])) (am_fbT f9 (am_fbU (by omega) am_fb0)))
      · refine aw_iconst (npc := 111) (v := 1) (by decide) dX8_worksOut_110 rfl ?_
        refine aw_goto (npc := 115) dX8_worksOut_111 (by decide) ?_
        refine aw_iast (npc := 116) (j := (top - 1)) dX8_worksOut_115 rfl F.2.2.2.2.2.2.2.2.2.2.2.2.1 (am_ix_nI (by omega)) (by rw [tl_len]; omega) rfl ?_
        have F4 := mr_81 (j := (top - 1)) (v := 1) F
        refine aw_goto (npc := 149) dX8_worksOut_116 (by decide) ?_
        refine aw_iinc (npc := 152) (v := nI (i + 1)) (L' := [some (.ref 69), some (.int (nI t)), some (.int (nI top)), some (.int (nI lc)), some (.int (nI (i + 1))), some (.int (-10))]) dX8_worksOut_149 rfl rfl (nI_1 _) (by decide) rfl rfl ?_
        refine aw_goto (npc := 21) dX8_worksOut_152 (by decide) ?_
        have s9 : mwS fa (a 81, top) (N (90 + 96 * t + i)) = (aup a 81 (top - 1) 1 81, top) := by
          rw [aup_s]
          simp [mwS, hcf, hc2]
        exact ih (i + 1) (by omega) (top) (by omega) hvl _ _ _ F4 ((aup_n (by decide)).trans hfa) (fun a9 h9 M9 k9 e9 f9 => hq a9 h9 M9 (fun c hc => (k9 c hc).trans (aup_n hc)) (e9.trans (by show _ = (mwM fa (fun z9 => N (90 + 96 * t + z9)) m (i + 1) (mwS fa (a 81, top) (N (90 + 96 * t + i)))).1; rw [s9])) (am_fbT f9 (am_fbU (by omega) am_fb0)))
    · obtain ⟨c, hsg, htp, hvl⟩ := q9
      refine aw_iload (npc := 23) rfl dX8_worksOut_21 rfl ?_
      refine aw_iload_n (npc := 24) rfl dX8_worksOut_23 rfl ?_
      refine aw_icmp_ge (npc := 27) (tgt := 155) dX8_worksOut_24 rfl (by decide) (fun hc => absurd hc (nI_ge (a := i) (b := lc) (by omega) (by omega))) (fun _ => ?_)
      refine aw_aload_n (npc := 28) rfl dX8_worksOut_27 rfl ?_
      refine aw_get (npc := 31) dX8_worksOut_28 rfl kf_X8_9 F.1 rfl ?_
      refine aw_bipush (npc := 33) (v := 90) (by decide) dX8_worksOut_31 rfl ?_
      refine aw_bipush (npc := 35) (v := 96) (by decide) dX8_worksOut_33 rfl ?_
      refine aw_iload_n (npc := 36) rfl dX8_worksOut_35 rfl ?_
      refine aw_imulV (npc := 37) (v := nI (96 * t)) dX8_worksOut_36 rfl (pk_mul 96 _) ?_
      refine aw_iaddV (npc := 38) (v := nI (90 + (96 * t))) dX8_worksOut_37 rfl (nI_add 90 _) ?_
      refine aw_iload (npc := 40) rfl dX8_worksOut_38 rfl ?_
      refine aw_iaddV (npc := 41) (v := nI ((90 + (96 * t)) + i)) dX8_worksOut_40 rfl (nI_add _ _) ?_
      refine aw_iald (npc := 42) (x := N ((90 + (96 * t)) + i)) (j := ((90 + (96 * t)) + i)) dX8_worksOut_41 rfl F.2.1 (am_ix_nI (by omega)) (tl_at (by omega)) ?_
      refine aw_istore (npc := 44) (L' := [some (.ref 69), some (.int (nI t)), some (.int (nI top)), some (.int (nI lc)), some (.int (nI i)), some (.int (N ((90 + (96 * t)) + i)))]) dX8_worksOut_42 rfl (by decide) rfl rfl ?_
      refine aw_iload (npc := 46) rfl dX8_worksOut_44 rfl ?_
      refine aw_if_lt (npc := 49) (tgt := 85) dX8_worksOut_46 rfl (by decide) (fun _ => ?_) (fun hc => absurd ((sgn_neg hsg).1) hc)
      refine aw_iload (npc := 87) rfl dX8_worksOut_85 rfl ?_
      refine aw_bipush (npc := 89) (v := -10) (by decide) dX8_worksOut_87 rfl ?_
      refine aw_icmp_ne (npc := 92) (tgt := 119) dX8_worksOut_89 rfl (by decide) (fun _ => ?_) (fun hc => absurd hc ((sgn_neg hsg).2))
      refine aw_iinc (npc := 122) (v := nI (top - 1)) (L' := [some (.ref 69), some (.int (nI t)), some (.int (nI (top - 1))), some (.int (nI lc)), some (.int (nI i)), some (.int (N ((90 + (96 * t)) + i)))]) dX8_worksOut_119 rfl rfl (sb_m1 (by omega)) (by decide) rfl rfl ?_
      refine aw_aload_n (npc := 123) rfl dX8_worksOut_122 rfl ?_
      refine aw_get (npc := 126) dX8_worksOut_123 rfl kf_X8_49 F.1 rfl ?_
      refine aw_iload_n (npc := 127) rfl dX8_worksOut_126 rfl ?_
      refine aw_iconst (npc := 128) (v := 1) (by decide) dX8_worksOut_127 rfl ?_
      refine aw_isubV (npc := 129) (v := nI ((top - 1) - 1)) dX8_worksOut_128 rfl (pk_sub (b := 1) (by omega)) ?_
      refine aw_iload (npc := 131) rfl dX8_worksOut_129 rfl ?_
      refine aw_aload_n (npc := 132) rfl dX8_worksOut_131 rfl ?_
      refine aw_get (npc := 135) dX8_worksOut_132 rfl kf_X8_49 F.1 rfl ?_
      refine aw_iload_n (npc := 136) rfl dX8_worksOut_135 rfl ?_
      refine aw_iconst (npc := 137) (v := 1) (by decide) dX8_worksOut_136 rfl ?_
      refine aw_isubV (npc := 138) (v := nI ((top - 1) - 1)) dX8_worksOut_137 rfl (pk_sub (b := 1) (by omega)) ?_
      refine aw_iald (npc := 139) (x := (a 81) ((top - 1) - 1)) (j := ((top - 1) - 1)) dX8_worksOut_138 rfl F.2.2.2.2.2.2.2.2.2.2.2.2.1 (am_ix_nI (by omega)) (tl_at (by omega)) ?_
      refine aw_aload_n (npc := 140) rfl dX8_worksOut_139 rfl ?_
      refine aw_get (npc := 143) dX8_worksOut_140 rfl kf_X8_49 F.1 rfl ?_
      refine aw_iload_n (npc := 144) rfl dX8_worksOut_143 rfl ?_
      refine aw_iald (npc := 145) (x := (a 81) (top - 1)) (j := (top - 1)) dX8_worksOut_144 rfl F.2.2.2.2.2.2.2.2.2.2.2.2.1 (am_ix_nI (by omega)) (tl_at (by omega)) ?_
      refine aw_callS (npc := 148) (N := mX8_two) (mc := 0) (ms := 0) (A := [.int (N ((90 + (96 * t)) + i)), .int ((a 81) ((top - 1) - 1)), .int ((a 81) (top - 1))]) (S := [.int (nI ((top - 1) - 1)), .ref 81]) (L0 := [some (.int (N ((90 + (96 * t)) + i))), some (.int ((a 81) ((top - 1) - 1))), some (.int ((a 81) (top - 1)))]) dX8_worksOut_145 rfl km_X8_two kk_X8_255 rfl ⟨rfl, by decide⟩ rfl (Nat.le_of_ble_eq_true rfl) (Nat.zero_add _) (Nat.zero_add _) rfl ?_
      refine m_two (c := c) hsg ?_
      refine aw_re (S' := [.int (joinC c ((a 81) ((top - 1) - 1)) ((a 81) (top - 1))), .int (nI ((top - 1) - 1)), .ref 81]) rfl ?_
      refine aw_iast (npc := 149) (j := ((top - 1) - 1)) dX8_worksOut_148 rfl F.2.2.2.2.2.2.2.2.2.2.2.2.1 (am_ix_nI (by omega)) (by rw [tl_len]; omega) rfl ?_
      have F4 := mr_81 (j := ((top - 1) - 1)) (v := joinC c ((a 81) ((top - 1) - 1)) ((a 81) (top - 1))) F
      refine aw_iinc (npc := 152) (v := nI (i + 1)) (L' := [some (.ref 69), some (.int (nI t)), some (.int (nI (top - 1))), some (.int (nI lc)), some (.int (nI (i + 1))), some (.int (N ((90 + (96 * t)) + i)))]) dX8_worksOut_149 rfl rfl (nI_1 _) (by decide) rfl rfl ?_
      refine aw_goto (npc := 21) dX8_worksOut_152 (by decide) ?_
      have s9 : mwS fa (a 81, top) (N (90 + 96 * t + i)) = (aup a 81 ((top - 1) - 1) (joinC c ((a 81) ((top - 1) - 1)) ((a 81) (top - 1))) 81, (top - 1)) := by
        rw [aup_s]
        simp [mwS, (sgn_neg hsg).1, (sgn_neg hsg).2, sgn_two hsg]
      exact ih (i + 1) (by omega) ((top - 1)) (by omega) hvl _ _ _ F4 ((aup_n (by decide)).trans hfa) (fun a9 h9 M9 k9 e9 f9 => hq a9 h9 M9 (fun c hc => (k9 c hc).trans (aup_n hc)) (e9.trans (by show _ = (mwM fa (fun z9 => N (90 + 96 * t + z9)) m (i + 1) (mwS fa (a 81, top) (N (90 + 96 * t + i)))).1; rw [s9])) (am_fbT f9 (am_fbU (by omega) am_fb0)))
set_option maxHeartbeats 4000000 in
set_option maxRecDepth 100000 in
theorem m_work {X : List Int32} {d rc rs n : Nat} {Q : am_Q} {o N fa : Nat → Int32} {a : Nat → Nat → Int32} {h : am_H} {t lc ky : Nat} (F : MR o N a h) (ht : t < 14) (hky : ky ≤ 2) (hlc : lc ≤ 96) (hhd : N (62 + 2 * t) = nI (1000 * ky + lc)) (hvl : vld (fun z9 => N (90 + 96 * t + z9)) lc 0 0) (hfa : a 82 = fa) (hq : (∀ a9 h9, MR o N a9 h9 → (∀ c, c ≠ 81 → a9 c = a c) → a9 81 = (mwM fa (fun z9 => N (90 + 96 * t + z9)) lc 0 (a 81, 0)).1 → am_fb 69 92 h9 h → Q (some (.int (a9 81 0))) n h9)) : AW X mX8_worksOut (d + 2) rc rs 0 [some (.ref 69), some (.int (nI t)), none, none, none, none] [] n h Q := by
  refine aw_iconst (npc := 1) (v := 0) (by decide) dX8_worksOut_0 rfl ?_
  refine aw_istore_n (npc := 2) (L' := [some (.ref 69), some (.int (nI t)), some (.int 0), none, none, none]) dX8_worksOut_1 rfl (by decide) rfl rfl ?_
  refine aw_aload_n (npc := 3) rfl dX8_worksOut_2 rfl ?_
  refine aw_get (npc := 6) dX8_worksOut_3 rfl kf_X8_9 F.1 rfl ?_
  refine aw_bipush (npc := 8) (v := 62) (by decide) dX8_worksOut_6 rfl ?_
  refine aw_iconst (npc := 9) (v := 2) (by decide) dX8_worksOut_8 rfl ?_
  refine aw_iload_n (npc := 10) rfl dX8_worksOut_9 rfl ?_
  refine aw_imulV (npc := 11) (v := nI (2 * t)) dX8_worksOut_10 rfl (pk_mul 2 _) ?_
  refine aw_iaddV (npc := 12) (v := nI (62 + (2 * t))) dX8_worksOut_11 rfl (nI_add 62 _) ?_
  refine aw_iald (npc := 13) (x := N (62 + (2 * t))) (j := (62 + (2 * t))) dX8_worksOut_12 rfl F.2.1 (am_ix_nI (by omega)) (tl_at (by omega)) ?_
  refine aw_top (y := nI (1000 * ky + lc)) (hhd) ?_
  refine aw_sipush (npc := 16) (v := 1000) (by decide) dX8_worksOut_13 rfl ?_
  refine aw_iremV (npc := 17) (v := nI lc) (by decide) dX8_worksOut_16 rfl ((pk_rem (a := 1000 * ky + lc) (d := 1000) (by omega) (by omega) (by omega)).trans (congrArg nI (by omega))) ?_
  refine aw_istore_n (npc := 18) (L' := [some (.ref 69), some (.int (nI t)), some (.int 0), some (.int (nI lc)), none, none]) dX8_worksOut_17 rfl (by decide) rfl rfl ?_
  refine aw_iconst (npc := 19) (v := 0) (by decide) dX8_worksOut_18 rfl ?_
  refine aw_istore (npc := 21) (L' := [some (.ref 69), some (.int (nI t)), some (.int 0), some (.int (nI lc)), some (.int 0), none]) dX8_worksOut_19 rfl (by decide) rfl rfl ?_
  refine aw_locs (L' := [some (.ref 69), some (.int (nI t)), some (.int (nI 0)), some (.int (nI lc)), some (.int (nI 0)), none]) rfl ?_
  exact m_workL ht hlc lc 0 (by omega) 0 (by omega) hvl _ _ _ F hfa hq
