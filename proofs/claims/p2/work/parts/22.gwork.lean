def joinC (s a b : Int32) : Int32 := if s = 38 then (if a = 0 then 0 else if b = 0 then 0 else 1) else if s = 42 then a * b else if s = 43 then a + b else if s = 45 then a - b else if s = 47 then (if b = 0 then 0 else a / b) else if s = 60 then (if b ≤ a then 0 else 1) else if s = 61 then (if a = b then 1 else 0) else if s = 62 then (if a ≤ b then 0 else 1) else if s = 124 then (if a = 0 then (if b = 0 then 0 else 1) else 1) else 0
set_option maxHeartbeats 4000000 in
set_option maxRecDepth 100000 in
theorem g_join {X : List Int32} {d rc rs n : Nat} {Q : am_Q} {h : am_H} {s a b : Int32} (hq : Q (some (.int (joinC s a b))) n h) : AW X mX5_join d rc rs 0 [some (.int s), some (.int a), some (.int b)] [] n h Q := by
  refine aw_iload_n (npc := 1) rfl dX5_join_0 rfl ?_
  by_cases hk1 : s = 38
  · subst hk1
    refine aw_lookup (npc := 141) (off := 140) dX5_join_1 rfl (by decide) (by decide) ?_
    refine aw_iload_n (npc := 142) rfl dX5_join_141 rfl ?_
    refine aw_if_eq (npc := 145) (tgt := 153) dX5_join_142 rfl (by decide) (fun hc2 => ?_) (fun hc2 => ?_)
    · refine aw_iconst (npc := 154) (v := 0) (by decide) dX5_join_153 rfl ?_
      refine aw_iret rfl dX5_join_154 ?_
      exact (show joinC 38 a b = 0 by simp [joinC, hc2]) ▸ hq
    · refine aw_iload_n (npc := 146) rfl dX5_join_145 rfl ?_
      refine aw_if_eq (npc := 149) (tgt := 153) dX5_join_146 rfl (by decide) (fun hc3 => ?_) (fun hc3 => ?_)
      · refine aw_iconst (npc := 154) (v := 0) (by decide) dX5_join_153 rfl ?_
        refine aw_iret rfl dX5_join_154 ?_
        exact (show joinC 38 a b = 0 by simp [joinC, hc2, hc3]) ▸ hq
      · refine aw_iconst (npc := 150) (v := 1) (by decide) dX5_join_149 rfl ?_
        refine aw_goto (npc := 154) dX5_join_150 (by decide) ?_
        refine aw_iret rfl dX5_join_154 ?_
        exact (show joinC 38 a b = 1 by simp [joinC, hc2, hc3]) ▸ hq
  by_cases hk4 : s = 42
  · subst hk4
    refine aw_lookup (npc := 92) (off := 91) dX5_join_1 rfl (by decide) (by decide) ?_
    refine aw_iload_n (npc := 93) rfl dX5_join_92 rfl ?_
    refine aw_iload_n (npc := 94) rfl dX5_join_93 rfl ?_
    refine aw_imul (npc := 95) dX5_join_94 rfl ?_
    refine aw_iret rfl dX5_join_95 ?_
    exact (show joinC 42 a b = (a * b) by simp [joinC]) ▸ hq
  by_cases hk5 : s = 43
  · subst hk5
    refine aw_lookup (npc := 84) (off := 83) dX5_join_1 rfl (by decide) (by decide) ?_
    refine aw_iload_n (npc := 85) rfl dX5_join_84 rfl ?_
    refine aw_iload_n (npc := 86) rfl dX5_join_85 rfl ?_
    refine aw_iadd (npc := 87) dX5_join_86 rfl ?_
    refine aw_iret rfl dX5_join_87 ?_
    exact (show joinC 43 a b = (a + b) by simp [joinC]) ▸ hq
  by_cases hk6 : s = 45
  · subst hk6
    refine aw_lookup (npc := 88) (off := 87) dX5_join_1 rfl (by decide) (by decide) ?_
    refine aw_iload_n (npc := 89) rfl dX5_join_88 rfl ?_
    refine aw_iload_n (npc := 90) rfl dX5_join_89 rfl ?_
    refine aw_isub (npc := 91) dX5_join_90 rfl ?_
    refine aw_iret rfl dX5_join_91 ?_
    exact (show joinC 45 a b = (a - b) by simp [joinC]) ▸ hq
  by_cases hk7 : s = 47
  · subst hk7
    refine aw_lookup (npc := 96) (off := 95) dX5_join_1 rfl (by decide) (by decide) ?_
    refine aw_iload_n (npc := 97) rfl dX5_join_96 rfl ?_
    refine aw_if_ne (npc := 100) (tgt := 104) dX5_join_97 rfl (by decide) (fun hc8 => ?_) (fun hc8 => ?_)
    · refine aw_iload_n (npc := 105) rfl dX5_join_104 rfl ?_
      refine aw_iload_n (npc := 106) rfl dX5_join_105 rfl ?_
      refine aw_idiv (npc := 107) hc8 dX5_join_106 rfl ?_
      refine aw_iret rfl dX5_join_107 ?_
      exact (show joinC 47 a b = (a / b) by simp [joinC, hc8]) ▸ hq
    · refine aw_iconst (npc := 101) (v := 0) (by decide) dX5_join_100 rfl ?_
      refine aw_goto (npc := 107) dX5_join_101 (by decide) ?_
      refine aw_iret rfl dX5_join_107 ?_
      exact (show joinC 47 a b = 0 by simp [joinC, hc8]) ▸ hq
  by_cases hk9 : s = 60
  · subst hk9
    refine aw_lookup (npc := 108) (off := 107) dX5_join_1 rfl (by decide) (by decide) ?_
    refine aw_iload_n (npc := 109) rfl dX5_join_108 rfl ?_
    refine aw_iload_n (npc := 110) rfl dX5_join_109 rfl ?_
    refine aw_icmp_ge (npc := 113) (tgt := 117) dX5_join_110 rfl (by decide) (fun hc10 => ?_) (fun hc10 => ?_)
    · refine aw_iconst (npc := 118) (v := 0) (by decide) dX5_join_117 rfl ?_
      refine aw_iret rfl dX5_join_118 ?_
      exact (show joinC 60 a b = 0 by simp [joinC, hc10]) ▸ hq
    · refine aw_iconst (npc := 114) (v := 1) (by decide) dX5_join_113 rfl ?_
      refine aw_goto (npc := 118) dX5_join_114 (by decide) ?_
      refine aw_iret rfl dX5_join_118 ?_
      exact (show joinC 60 a b = 1 by simp [joinC, hc10]) ▸ hq
  by_cases hk11 : s = 61
  · subst hk11
    refine aw_lookup (npc := 119) (off := 118) dX5_join_1 rfl (by decide) (by decide) ?_
    refine aw_iload_n (npc := 120) rfl dX5_join_119 rfl ?_
    refine aw_iload_n (npc := 121) rfl dX5_join_120 rfl ?_
    refine aw_icmp_ne (npc := 124) (tgt := 128) dX5_join_121 rfl (by decide) (fun hc12 => ?_) (fun hc12 => ?_)
    · refine aw_iconst (npc := 129) (v := 0) (by decide) dX5_join_128 rfl ?_
      refine aw_iret rfl dX5_join_129 ?_
      exact (show joinC 61 a b = 0 by simp [joinC, hc12]) ▸ hq
    · refine aw_iconst (npc := 125) (v := 1) (by decide) dX5_join_124 rfl ?_
      refine aw_goto (npc := 129) dX5_join_125 (by decide) ?_
      refine aw_iret rfl dX5_join_129 ?_
      exact (show joinC 61 a b = 1 by simp [joinC, hc12]) ▸ hq
  by_cases hk13 : s = 62
  · subst hk13
    refine aw_lookup (npc := 130) (off := 129) dX5_join_1 rfl (by decide) (by decide) ?_
    refine aw_iload_n (npc := 131) rfl dX5_join_130 rfl ?_
    refine aw_iload_n (npc := 132) rfl dX5_join_131 rfl ?_
    refine aw_icmp_le (npc := 135) (tgt := 139) dX5_join_132 rfl (by decide) (fun hc14 => ?_) (fun hc14 => ?_)
    · refine aw_iconst (npc := 140) (v := 0) (by decide) dX5_join_139 rfl ?_
      refine aw_iret rfl dX5_join_140 ?_
      exact (show joinC 62 a b = 0 by simp [joinC, hc14]) ▸ hq
    · refine aw_iconst (npc := 136) (v := 1) (by decide) dX5_join_135 rfl ?_
      refine aw_goto (npc := 140) dX5_join_136 (by decide) ?_
      refine aw_iret rfl dX5_join_140 ?_
      exact (show joinC 62 a b = 1 by simp [joinC, hc14]) ▸ hq
  by_cases hk15 : s = 124
  · subst hk15
    refine aw_lookup (npc := 155) (off := 154) dX5_join_1 rfl (by decide) (by decide) ?_
    refine aw_iload_n (npc := 156) rfl dX5_join_155 rfl ?_
    refine aw_if_ne (npc := 159) (tgt := 163) dX5_join_156 rfl (by decide) (fun hc16 => ?_) (fun hc16 => ?_)
    · refine aw_iconst (npc := 164) (v := 1) (by decide) dX5_join_163 rfl ?_
      refine aw_goto (npc := 168) dX5_join_164 (by decide) ?_
      refine aw_iret rfl dX5_join_168 ?_
      exact (show joinC 124 a b = 1 by simp [joinC, hc16]) ▸ hq
    · refine aw_iload_n (npc := 160) rfl dX5_join_159 rfl ?_
      refine aw_if_eq (npc := 163) (tgt := 167) dX5_join_160 rfl (by decide) (fun hc17 => ?_) (fun hc17 => ?_)
      · refine aw_iconst (npc := 168) (v := 0) (by decide) dX5_join_167 rfl ?_
        refine aw_iret rfl dX5_join_168 ?_
        exact (show joinC 124 a b = 0 by simp [joinC, hc16, hc17]) ▸ hq
      · refine aw_iconst (npc := 164) (v := 1) (by decide) dX5_join_163 rfl ?_
        refine aw_goto (npc := 168) dX5_join_164 (by decide) ?_
        refine aw_iret rfl dX5_join_168 ?_
        exact (show joinC 124 a b = 1 by simp [joinC, hc16, hc17]) ▸ hq
  refine aw_lookup (npc := 169) (off := 168) dX5_join_1 rfl ((lv_osw (k := 38) hk1 rfl).trans ((lv_osw (k := 42) hk4 rfl).trans ((lv_osw (k := 43) hk5 rfl).trans ((lv_osw (k := 45) hk6 rfl).trans ((lv_osw (k := 47) hk7 rfl).trans ((lv_osw (k := 60) hk9 rfl).trans ((lv_osw (k := 61) hk11 rfl).trans ((lv_osw (k := 62) hk13 rfl).trans ((lv_osw (k := 124) hk15 rfl).trans (rfl)))))))))) (by decide) ?_
  refine aw_iconst (npc := 170) (v := 0) (by decide) dX5_join_169 rfl ?_
  refine aw_iret rfl dX5_join_170 ?_
  exact (show joinC s a b = 0 by simp [joinC, hk1, hk4, hk5, hk6, hk7, hk9, hk11, hk13, hk15]) ▸ hq
def wcS (f1 f2 f3 : Int32) (Ls : Nat) (p : (Nat → Int32) × Nat) (c : Int32) : (Nat → Int32) × Nat :=
  if c < -3 then (if c = -33 then (if p.2 < 1 then p else (upd p.1 (p.2 - 1) (if p.1 (p.2 - 1) = 0 then 1 else 0), p.2)) else if p.2 < 2 then p else (upd p.1 (p.2 - 1 - 1) (joinC (-c) (p.1 (p.2 - 1 - 1)) (p.1 (p.2 - 1))), p.2 - 1))
  else if Ls ≤ p.2 then p else (upd p.1 p.2 (if c < 0 then (if c = -1 then f1 else if c = -2 then f2 else f3) else c), p.2 + 1)
def wcM (f1 f2 f3 : Int32) (Ls : Nat) (cf : Nat → Int32) : Nat → Nat → (Nat → Int32) × Nat → (Nat → Int32) × Nat
  | 0, _, p => p
  | m + 1, i, p => wcM f1 f2 f3 Ls cf m (i + 1) (wcS f1 f2 f3 Ls p (cf i))
set_option maxHeartbeats 4000000 in
set_option maxRecDepth 100000 in
theorem g_workL {X : List Int32} {d rc rs n : Nat} {Q : am_Q} {h : am_H} {a0 a1 a2 lc Ls : Nat} {ky op f1 f2 f3 : Int32} {cf : Nat → Int32} (h02 : a0 ≠ a2) (h12 : a1 ≠ a2) (hl1 : lc < 1000) (hl2 : Ls < 1000) (hl3 : 0 < Ls) (t0 : h a0 = some (.inr (5, [.int ky, .int op, .ref a1, .ref a2]))) (t1 : h a1 = some (.inl (0, tl lc cf))) : ∀ (m i : Nat), i + m = lc → ∀ (sf : Nat → Int32) (top : Nat) (v6 : Option Value), top ≤ Ls → Q (some (.int ((wcM f1 f2 f3 Ls cf m i (sf, top)).1 0))) n (am_up h a2 (.inl (0, tl Ls (wcM f1 f2 f3 Ls cf m i (sf, top)).1))) → AW X mX5_workOut (d + 2) rc rs 6 [some (.ref a0), some (.int f1), some (.int f2), some (.int f3), some (.int (nI top)), some (.int (nI i)), v6] [] n (am_up h a2 (.inl (0, tl Ls sf))) Q := by
  intro m
  induction m with
  | zero =>
    intro i hi sf top v6 htop hq
    obtain rfl : i = lc := by omega
    refine aw_iload (npc := 8) rfl dX5_workOut_6 rfl ?_
    refine aw_aload_n (npc := 9) rfl dX5_workOut_8 rfl ?_
    refine aw_get (npc := 12) dX5_workOut_9 rfl kf_X5_16 (am_ne h02 t0) rfl ?_
    refine aw_alen (npc := 13) (v := nI i) dX5_workOut_12 rfl (am_ne h12 t1) (by rw [tl_len]; rfl) ?_
    refine aw_icmp_ge (npc := 16) (tgt := 175) dX5_workOut_13 rfl (by decide) (fun _ => ?_) (fun hc => absurd (nI_le (Nat.le_refl _) (by omega)) hc)
    refine aw_aload_n (npc := 176) rfl dX5_workOut_175 rfl ?_
    refine aw_get (npc := 179) dX5_workOut_176 rfl kf_X5_26 (am_ne h02 t0) rfl ?_
    refine aw_iconst (npc := 180) (v := 0) (by decide) dX5_workOut_179 rfl ?_
    refine aw_iald (npc := 181) (x := sf 0) (j := 0) dX5_workOut_180 rfl am_eq ⟨by decide, by decide⟩ (tl_at (by omega)) ?_
    refine aw_iret rfl dX5_workOut_181 ?_
    exact hq
  | succ m ih =>
    intro i hi sf top v6 htop hq
    refine aw_iload (npc := 8) rfl dX5_workOut_6 rfl ?_
    refine aw_aload_n (npc := 9) rfl dX5_workOut_8 rfl ?_
    refine aw_get (npc := 12) dX5_workOut_9 rfl kf_X5_16 (am_ne h02 t0) rfl ?_
    refine aw_alen (npc := 13) (v := nI lc) dX5_workOut_12 rfl (am_ne h12 t1) (by rw [tl_len]; rfl) ?_
    refine aw_icmp_ge (npc := 16) (tgt := 175) dX5_workOut_13 rfl (by decide) (fun hc => absurd hc (nI_ge (a := i) (b := lc) (by omega) (by omega))) (fun _ => ?_)
    refine aw_aload_n (npc := 17) rfl dX5_workOut_16 rfl ?_
    refine aw_get (npc := 20) dX5_workOut_17 rfl kf_X5_16 (am_ne h02 t0) rfl ?_
    refine aw_iload (npc := 22) rfl dX5_workOut_20 rfl ?_
    refine aw_iald (npc := 23) (x := cf i) (j := i) dX5_workOut_22 rfl (am_ne h12 t1) (am_ix_nI (by omega)) (tl_at (by omega)) ?_
    refine aw_istore (npc := 25) (L' := [some (.ref a0), some (.int f1), some (.int f2), some (.int f3), some (.int (nI top)), some (.int (nI i)), some (.int (cf i))]) dX5_workOut_23 rfl (by decide) rfl rfl ?_
    refine aw_iload (npc := 27) rfl dX5_workOut_25 rfl ?_
    refine aw_bipush (npc := 29) (v := -3) (by decide) dX5_workOut_27 rfl ?_
    refine aw_icmp_lt (npc := 32) (tgt := 87) dX5_workOut_29 rfl (by decide) (fun hc2 => ?_) (fun hc2 => ?_)
    · refine aw_iload (npc := 89) rfl dX5_workOut_87 rfl ?_
      refine aw_bipush (npc := 91) (v := -33) (by decide) dX5_workOut_89 rfl ?_
      refine aw_icmp_ne (npc := 94) (tgt := 129) dX5_workOut_91 rfl (by decide) (fun hc3 => ?_) (fun hc3 => ?_)
      · refine aw_iload (npc := 131) rfl dX5_workOut_129 rfl ?_
        refine aw_iconst (npc := 132) (v := 2) (by decide) dX5_workOut_131 rfl ?_
        refine aw_icmp_lt (npc := 135) (tgt := 169) dX5_workOut_132 rfl (by decide) (fun hc4 => ?_) (fun hc4 => ?_)
        · have hc4N := (nI_ltI (a := top) (b := 2) (by omega) (by omega)).mp hc4
          refine aw_iinc (npc := 172) (v := nI (i + 1)) (L' := [some (.ref a0), some (.int f1), some (.int f2), some (.int f3), some (.int (nI top)), some (.int (nI (i + 1))), some (.int (cf i))]) dX5_workOut_169 rfl rfl (nI_1 _) (by decide) rfl rfl ?_
          refine aw_goto (npc := 6) dX5_workOut_172 (by decide) ?_
          refine ih (i + 1) (by omega) sf top _ (by omega) ?_
          have e9 : wcS f1 f2 f3 Ls (sf, top) (cf i) = (sf, top) := by simp [wcS, hc2, hc3, hc4, hc4N]
          exact (congrArg (wcM f1 f2 f3 Ls cf m (i + 1)) e9) ▸ hq
        · have hc4N : ¬ top < 2 := fun z => hc4 ((nI_ltI (a := top) (b := 2) (by omega) (by omega)).mpr z)
          refine aw_iinc (npc := 138) (v := nI (top - 1)) (L' := [some (.ref a0), some (.int f1), some (.int f2), some (.int f3), some (.int (nI (top - 1))), some (.int (nI i)), some (.int (cf i))]) dX5_workOut_135 rfl rfl (sb_m1 (by omega)) (by decide) rfl rfl ?_
          refine aw_aload_n (npc := 139) rfl dX5_workOut_138 rfl ?_
          refine aw_get (npc := 142) dX5_workOut_139 rfl kf_X5_26 (am_ne h02 t0) rfl ?_
          refine aw_iload (npc := 144) rfl dX5_workOut_142 rfl ?_
          refine aw_iconst (npc := 145) (v := 1) (by decide) dX5_workOut_144 rfl ?_
          refine aw_isubV (npc := 146) (v := nI ((top - 1) - 1)) dX5_workOut_145 rfl (pk_sub (b := 1) (by omega)) ?_
          refine aw_iload (npc := 148) rfl dX5_workOut_146 rfl ?_
          refine aw_ineg (npc := 149) dX5_workOut_148 rfl ?_
          refine aw_aload_n (npc := 150) rfl dX5_workOut_149 rfl ?_
          refine aw_get (npc := 153) dX5_workOut_150 rfl kf_X5_26 (am_ne h02 t0) rfl ?_
          refine aw_iload (npc := 155) rfl dX5_workOut_153 rfl ?_
          refine aw_iconst (npc := 156) (v := 1) (by decide) dX5_workOut_155 rfl ?_
          refine aw_isubV (npc := 157) (v := nI ((top - 1) - 1)) dX5_workOut_156 rfl (pk_sub (b := 1) (by omega)) ?_
          refine aw_iald (npc := 158) (x := sf ((top - 1) - 1)) (j := ((top - 1) - 1)) dX5_workOut_157 rfl am_eq (am_ix_nI (by omega)) (tl_at (by omega)) ?_
          refine aw_aload_n (npc := 159) rfl dX5_workOut_158 rfl ?_
          refine aw_get (npc := 162) dX5_workOut_159 rfl kf_X5_26 (am_ne h02 t0) rfl ?_
          refine aw_iload (npc := 164) rfl dX5_workOut_162 rfl ?_
          refine aw_iald (npc := 165) (x := sf (top - 1)) (j := (top - 1)) dX5_workOut_164 rfl am_eq (am_ix_nI (by omega)) (tl_at (by omega)) ?_
          refine aw_callS (npc := 168) (N := mX5_join) (mc := 0) (ms := 0) (A := [.int (-(cf i)), .int (sf ((top - 1) - 1)), .int (sf (top - 1))]) (S := [.int (nI ((top - 1) - 1)), .ref a2]) (L0 := [some (.int (-(cf i))), some (.int (sf ((top - 1) - 1))), some (.int (sf (top - 1)))]) dX5_workOut_165 rfl km_X5_join kk_X5_29 rfl ⟨rfl, by decide⟩ rfl (Nat.le_of_ble_eq_true rfl) (Nat.zero_add _) (Nat.zero_add _) rfl ?_
          refine g_join ?_
          refine aw_re (S' := [.int (joinC (-(cf i)) (sf ((top - 1) - 1)) (sf (top - 1))), .int (nI ((top - 1) - 1)), .ref a2]) rfl ?_
          refine aw_iast (npc := 169) (j := ((top - 1) - 1)) dX5_workOut_168 rfl am_eq (am_ix_nI (by omega)) (by rw [tl_len]; omega) (show _ = am_up h a2 (.inl (0, tl Ls (upd sf ((top - 1) - 1) (joinC (-(cf i)) (sf ((top - 1) - 1)) (sf (top - 1)))))) from am_uu.trans (congrArg (fun l : List Int32 => am_up h a2 (.inl (0, l))) tl_set)) ?_
          refine aw_iinc (npc := 172) (v := nI (i + 1)) (L' := [some (.ref a0), some (.int f1), some (.int f2), some (.int f3), some (.int (nI (top - 1))), some (.int (nI (i + 1))), some (.int (cf i))]) dX5_workOut_169 rfl rfl (nI_1 _) (by decide) rfl rfl ?_
          refine aw_goto (npc := 6) dX5_workOut_172 (by decide) ?_
          refine ih (i + 1) (by omega) (upd sf ((top - 1) - 1) (joinC (-(cf i)) (sf ((top - 1) - 1)) (sf (top - 1)))) (top - 1) _ (by omega) ?_
          have e9 : wcS f1 f2 f3 Ls (sf, top) (cf i) = (upd sf ((top - 1) - 1) (joinC (-(cf i)) (sf ((top - 1) - 1)) (sf (top - 1))), (top - 1)) := by simp [wcS, hc2, hc3, hc4, hc4N]
          exact (congrArg (wcM f1 f2 f3 Ls cf m (i + 1)) e9) ▸ hq
      · refine aw_iload (npc := 96) rfl dX5_workOut_94 rfl ?_
        refine aw_iconst (npc := 97) (v := 1) (by decide) dX5_workOut_96 rfl ?_
        refine aw_icmp_lt (npc := 100) (tgt := 169) dX5_workOut_97 rfl (by decide) (fun hc5 => ?_) (fun hc5 => ?_)
        · have hc5N := (nI_ltI (a := top) (b := 1) (by omega) (by omega)).mp hc5
          refine aw_iinc (npc := 172) (v := nI (i + 1)) (L' := [some (.ref a0), some (.int f1), some (.int f2), some (.int f3), some (.int (nI top)), some (.int (nI (i + 1))), some (.int (cf i))]) dX5_workOut_169 rfl rfl (nI_1 _) (by decide) rfl rfl ?_
          refine aw_goto (npc := 6) dX5_workOut_172 (by decide) ?_
          refine ih (i + 1) (by omega) sf top _ (by omega) ?_
          have e9 : wcS f1 f2 f3 Ls (sf, top) (cf i) = (sf, top) := by simp [wcS, hc2, hc3, hc5, hc5N]
          exact (congrArg (wcM f1 f2 f3 Ls cf m (i + 1)) e9) ▸ hq
        · have hc5N : ¬ top < 1 := fun z => hc5 ((nI_ltI (a := top) (b := 1) (by omega) (by omega)).mpr z)
          refine aw_aload_n (npc := 101) rfl dX5_workOut_100 rfl ?_
          refine aw_get (npc := 104) dX5_workOut_101 rfl kf_X5_26 (am_ne h02 t0) rfl ?_
          refine aw_iload (npc := 106) rfl dX5_workOut_104 rfl ?_
          refine aw_iconst (npc := 107) (v := 1) (by decide) dX5_workOut_106 rfl ?_
          refine aw_isubV (npc := 108) (v := nI (top - 1)) dX5_workOut_107 rfl (pk_sub (b := 1) (by omega)) ?_
          refine aw_aload_n (npc := 109) rfl dX5_workOut_108 rfl ?_
          refine aw_get (npc := 112) dX5_workOut_109 rfl kf_X5_26 (am_ne h02 t0) rfl ?_
          refine aw_iload (npc := 114) rfl dX5_workOut_112 rfl ?_
          refine aw_iconst (npc := 115) (v := 1) (by decide) dX5_workOut_114 rfl ?_
          refine aw_isubV (npc := 116) (v := nI (top - 1)) dX5_workOut_115 rfl (pk_sub (b := 1) (by omega)) ?_
          refine aw_iald (npc := 117) (x := sf (top - 1)) (j := (top - 1)) dX5_workOut_116 rfl am_eq (am_ix_nI (by omega)) (tl_at (by omega)) ?_
          refine aw_if_ne (npc := 120) (tgt := 124) dX5_workOut_117 rfl (by decide) (fun hc6 => ?_) (fun hc6 => ?_)
          · refine aw_iconst (npc := 125) (v := 0) (by decide) dX5_workOut_124 rfl ?_
            refine aw_iast (npc := 126) (j := (top - 1)) dX5_workOut_125 rfl am_eq (am_ix_nI (by omega)) (by rw [tl_len]; omega) (show _ = am_up h a2 (.inl (0, tl Ls (upd sf (top - 1) 0))) from am_uu.trans (congrArg (fun l : List Int32 => am_up h a2 (.inl (0, l))) tl_set)) ?_
            refine aw_goto (npc := 169) dX5_workOut_126 (by decide) ?_
            refine aw_iinc (npc := 172) (v := nI (i + 1)) (L' := [some (.ref a0), some (.int f1), some (.int f2), some (.int f3), some (.int (nI top)), some (.int (nI (i + 1))), some (.int (cf i))]) dX5_workOut_169 rfl rfl (nI_1 _) (by decide) rfl rfl ?_
            refine aw_goto (npc := 6) dX5_workOut_172 (by decide) ?_
            refine ih (i + 1) (by omega) (upd sf (top - 1) 0) top _ (by omega) ?_
            have e9 : wcS f1 f2 f3 Ls (sf, top) (cf i) = (upd sf (top - 1) 0, top) := by simp [wcS, hc2, hc3, hc5, hc5N, hc6]
            exact (congrArg (wcM f1 f2 f3 Ls cf m (i + 1)) e9) ▸ hq
          · refine aw_iconst (npc := 121) (v := 1) (by decide) dX5_workOut_120 rfl ?_
            refine aw_goto (npc := 125) dX5_workOut_121 (by decide) ?_
            refine aw_iast (npc := 126) (j := (top - 1)) dX5_workOut_125 rfl am_eq (am_ix_nI (by omega)) (by rw [tl_len]; omega) (show _ = am_up h a2 (.inl (0, tl Ls (upd sf (top - 1) 1))) from am_uu.trans (congrArg (fun l : List Int32 => am_up h a2 (.inl (0, l))) tl_set)) ?_
            refine aw_goto (npc := 169) dX5_workOut_126 (by decide) ?_
            refine aw_iinc (npc := 172) (v := nI (i + 1)) (L' := [some (.ref a0), some (.int f1), some (.int f2), some (.int f3), some (.int (nI top)), some (.int (nI (i + 1))), some (.int (cf i))]) dX5_workOut_169 rfl rfl (nI_1 _) (by decide) rfl rfl ?_
            refine aw_goto (npc := 6) dX5_workOut_172 (by decide) ?_
            refine ih (i + 1) (by omega) (upd sf (top - 1) 1) top _ (by omega) ?_
            have e9 : wcS f1 f2 f3 Ls (sf, top) (cf i) = (upd sf (top - 1) 1, top) := by simp [wcS, hc2, hc3, hc5, hc5N, hc6]
            exact (congrArg (wcM f1 f2 f3 Ls cf m (i + 1)) e9) ▸ hq
    · refine aw_iload (npc := 34) rfl dX5_workOut_32 rfl ?_
      refine aw_aload_n (npc := 35) rfl dX5_workOut_34 rfl ?_
      refine aw_get (npc := 38) dX5_workOut_35 rfl kf_X5_26 (am_ne h02 t0) rfl ?_
      refine aw_alen (npc := 39) (v := nI Ls) dX5_workOut_38 rfl am_eq (by rw [tl_len]; rfl) ?_
      refine aw_icmp_ge (npc := 42) (tgt := 169) dX5_workOut_39 rfl (by decide) (fun hc7 => ?_) (fun hc7 => ?_)
      · have hc7N := (nI_leI (a := Ls) (b := top) (by omega) (by omega)).mp hc7
        refine aw_iinc (npc := 172) (v := nI (i + 1)) (L' := [some (.ref a0), some (.int f1), some (.int f2), some (.int f3), some (.int (nI top)), some (.int (nI (i + 1))), some (.int (cf i))]) dX5_workOut_169 rfl rfl (nI_1 _) (by decide) rfl rfl ?_
        refine aw_goto (npc := 6) dX5_workOut_172 (by decide) ?_
        refine ih (i + 1) (by omega) sf top _ (by omega) ?_
        have e9 : wcS f1 f2 f3 Ls (sf, top) (cf i) = (sf, top) := by simp [wcS, hc2, hc7, hc7N]
        exact (congrArg (wcM f1 f2 f3 Ls cf m (i + 1)) e9) ▸ hq
      · have hc7N : ¬ Ls ≤ top := fun z => hc7 ((nI_leI (a := Ls) (b := top) (by omega) (by omega)).mpr z)
        refine aw_aload_n (npc := 43) rfl dX5_workOut_42 rfl ?_
        refine aw_get (npc := 46) dX5_workOut_43 rfl kf_X5_26 (am_ne h02 t0) rfl ?_
        refine aw_iload (npc := 48) rfl dX5_workOut_46 rfl ?_
        refine aw_iload (npc := 50) rfl dX5_workOut_48 rfl ?_
        refine aw_if_lt (npc := 53) (tgt := 58) dX5_workOut_50 rfl (by decide) (fun hc8 => ?_) (fun hc8 => ?_)
        · refine aw_iload (npc := 60) rfl dX5_workOut_58 rfl ?_
          refine aw_iconst (npc := 61) (v := -1) (by decide) dX5_workOut_60 rfl ?_
          refine aw_icmp_ne (npc := 64) (tgt := 68) dX5_workOut_61 rfl (by decide) (fun hc9 => ?_) (fun hc9 => ?_)
          · refine aw_iload (npc := 70) rfl dX5_workOut_68 rfl ?_
            refine aw_bipush (npc := 72) (v := -2) (by decide) dX5_workOut_70 rfl ?_
            refine aw_icmp_ne (npc := 75) (tgt := 79) dX5_workOut_72 rfl (by decide) (fun hc10 => ?_) (fun hc10 => ?_)
            · refine aw_iload_n (npc := 80) rfl dX5_workOut_79 rfl ?_
              refine aw_iast (npc := 81) (j := top) dX5_workOut_80 rfl am_eq (am_ix_nI (by omega)) (by rw [tl_len]; omega) (show _ = am_up h a2 (.inl (0, tl Ls (upd sf top f3))) from am_uu.trans (congrArg (fun l : List Int32 => am_up h a2 (.inl (0, l))) tl_set)) ?_
              refine aw_iinc (npc := 84) (v := nI (top + 1)) (L' := [some (.ref a0), some (.int f1), some (.int f2), some (.int f3), some (.int (nI (top + 1))), some (.int (nI i)), some (.int (cf i))]) dX5_workOut_81 rfl rfl (nI_1 _) (by decide) rfl rfl ?_
              refine aw_goto (npc := 169) dX5_workOut_84 (by decide) ?_
              refine aw_iinc (npc := 172) (v := nI (i + 1)) (L' := [some (.ref a0), some (.int f1), some (.int f2), some (.int f3), some (.int (nI (top + 1))), some (.int (nI (i + 1))), some (.int (cf i))]) dX5_workOut_169 rfl rfl (nI_1 _) (by decide) rfl rfl ?_
              refine aw_goto (npc := 6) dX5_workOut_172 (by decide) ?_
              refine ih (i + 1) (by omega) (upd sf top f3) (top + 1) _ (by omega) ?_
              have e9 : wcS f1 f2 f3 Ls (sf, top) (cf i) = (upd sf top f3, (top + 1)) := by simp [wcS, hc2, hc7, hc7N, hc8, hc9, hc10]
              exact (congrArg (wcM f1 f2 f3 Ls cf m (i + 1)) e9) ▸ hq
            · refine aw_iload_n (npc := 76) rfl dX5_workOut_75 rfl ?_
              refine aw_goto (npc := 80) dX5_workOut_76 (by decide) ?_
              refine aw_iast (npc := 81) (j := top) dX5_workOut_80 rfl am_eq (am_ix_nI (by omega)) (by rw [tl_len]; omega) (show _ = am_up h a2 (.inl (0, tl Ls (upd sf top f2))) from am_uu.trans (congrArg (fun l : List Int32 => am_up h a2 (.inl (0, l))) tl_set)) ?_
              refine aw_iinc (npc := 84) (v := nI (top + 1)) (L' := [some (.ref a0), some (.int f1), some (.int f2), some (.int f3), some (.int (nI (top + 1))), some (.int (nI i)), some (.int (cf i))]) dX5_workOut_81 rfl rfl (nI_1 _) (by decide) rfl rfl ?_
              refine aw_goto (npc := 169) dX5_workOut_84 (by decide) ?_
              refine aw_iinc (npc := 172) (v := nI (i + 1)) (L' := [some (.ref a0), some (.int f1), some (.int f2), some (.int f3), some (.int (nI (top + 1))), some (.int (nI (i + 1))), some (.int (cf i))]) dX5_workOut_169 rfl rfl (nI_1 _) (by decide) rfl rfl ?_
              refine aw_goto (npc := 6) dX5_workOut_172 (by decide) ?_
              refine ih (i + 1) (by omega) (upd sf top f2) (top + 1) _ (by omega) ?_
              have e9 : wcS f1 f2 f3 Ls (sf, top) (cf i) = (upd sf top f2, (top + 1)) := by simp [wcS, hc2, hc7, hc7N, hc8, hc9, hc10]
              exact (congrArg (wcM f1 f2 f3 Ls cf m (i + 1)) e9) ▸ hq
          · refine aw_iload_n (npc := 65) rfl dX5_workOut_64 rfl ?_
            refine aw_goto (npc := 80) dX5_workOut_65 (by decide) ?_
            refine aw_iast (npc := 81) (j := top) dX5_workOut_80 rfl am_eq (am_ix_nI (by omega)) (by rw [tl_len]; omega) (show _ = am_up h a2 (.inl (0, tl Ls (upd sf top f1))) from am_uu.trans (congrArg (fun l : List Int32 => am_up h a2 (.inl (0, l))) tl_set)) ?_
            refine aw_iinc (npc := 84) (v := nI (top + 1)) (L' := [some (.ref a0), some (.int f1), some (.int f2), some (.int f3), some (.int (nI (top + 1))), some (.int (nI i)), some (.int (cf i))]) dX5_workOut_81 rfl rfl (nI_1 _) (by decide) rfl rfl ?_
            refine aw_goto (npc := 169) dX5_workOut_84 (by decide) ?_
            refine aw_iinc (npc := 172) (v := nI (i + 1)) (L' := [some (.ref a0), some (.int f1), some (.int f2), some (.int f3), some (.int (nI (top + 1))), some (.int (nI (i + 1))), some (.int (cf i))]) dX5_workOut_169 rfl rfl (nI_1 _) (by decide) rfl rfl ?_
            refine aw_goto (npc := 6) dX5_workOut_172 (by decide) ?_
            refine ih (i + 1) (by omega) (upd sf top f1) (top + 1) _ (by omega) ?_
            have e9 : wcS f1 f2 f3 Ls (sf, top) (cf i) = (upd sf top f1, (top + 1)) := by simp [wcS, hc2, hc7, hc7N, hc8, hc9]
            exact (congrArg (wcM f1 f2 f3 Ls cf m (i + 1)) e9) ▸ hq
        · refine aw_iload (npc := 55) rfl dX5_workOut_53 rfl ?_
          refine aw_goto (npc := 80) dX5_workOut_55 (by decide) ?_
          refine aw_iast (npc := 81) (j := top) dX5_workOut_80 rfl am_eq (am_ix_nI (by omega)) (by rw [tl_len]; omega) (show _ = am_up h a2 (.inl (0, tl Ls (upd sf top (cf i)))) from am_uu.trans (congrArg (fun l : List Int32 => am_up h a2 (.inl (0, l))) tl_set)) ?_
          refine aw_iinc (npc := 84) (v := nI (top + 1)) (L' := [some (.ref a0), some (.int f1), some (.int f2), some (.int f3), some (.int (nI (top + 1))), some (.int (nI i)), some (.int (cf i))]) dX5_workOut_81 rfl rfl (nI_1 _) (by decide) rfl rfl ?_
          refine aw_goto (npc := 169) dX5_workOut_84 (by decide) ?_
          refine aw_iinc (npc := 172) (v := nI (i + 1)) (L' := [some (.ref a0), some (.int f1), some (.int f2), some (.int f3), some (.int (nI (top + 1))), some (.int (nI (i + 1))), some (.int (cf i))]) dX5_workOut_169 rfl rfl (nI_1 _) (by decide) rfl rfl ?_
          refine aw_goto (npc := 6) dX5_workOut_172 (by decide) ?_
          refine ih (i + 1) (by omega) (upd sf top (cf i)) (top + 1) _ (by omega) ?_
          have e9 : wcS f1 f2 f3 Ls (sf, top) (cf i) = (upd sf top (cf i), (top + 1)) := by simp [wcS, hc2, hc7, hc7N, hc8]
          exact (congrArg (wcM f1 f2 f3 Ls cf m (i + 1)) e9) ▸ hq
set_option maxHeartbeats 4000000 in
set_option maxRecDepth 100000 in
theorem g_work {X : List Int32} {d rc rs n : Nat} {Q : am_Q} {h : am_H} {a0 a1 a2 lc Ls : Nat} {ky op f1 f2 f3 : Int32} {cf : Nat → Int32} (h02 : a0 ≠ a2) (h12 : a1 ≠ a2) (hl1 : lc < 1000) (hl2 : Ls < 1000) (hl3 : 0 < Ls) (t0 : h a0 = some (.inr (5, [.int ky, .int op, .ref a1, .ref a2]))) (t1 : h a1 = some (.inl (0, tl lc cf))) {sf : Nat → Int32} (t2 : h a2 = some (.inl (0, tl Ls sf))) (hq : ∀ sf9, sf9 = (wcM f1 f2 f3 Ls cf lc 0 (sf, 0)).1 → Q (some (.int (sf9 0))) n (am_up h a2 (.inl (0, tl Ls sf9)))) : AW X mX5_workOut (d + 2) rc rs 0 [some (.ref a0), some (.int f1), some (.int f2), some (.int f3), none, none, none] [] n h Q := by
  refine aw_hp (h' := am_up h a2 (.inl (0, tl Ls sf))) (am_us t2).symm ?_
  refine aw_iconst (npc := 1) (v := 0) (by decide) dX5_workOut_0 rfl ?_
  refine aw_istore (npc := 3) (L' := [some (.ref a0), some (.int f1), some (.int f2), some (.int f3), some (.int 0), none, none]) dX5_workOut_1 rfl (by decide) rfl rfl ?_
  refine aw_iconst (npc := 4) (v := 0) (by decide) dX5_workOut_3 rfl ?_
  refine aw_istore (npc := 6) (L' := [some (.ref a0), some (.int f1), some (.int f2), some (.int f3), some (.int 0), some (.int 0), none]) dX5_workOut_4 rfl (by decide) rfl rfl ?_
  exact g_workL h02 h12 hl1 hl2 hl3 t0 t1 lc 0 (by omega) sf 0 none (by omega) (hq _ rfl)
