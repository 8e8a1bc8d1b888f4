def wn (v lo hi : Int32) : Int32 := if v < lo then lo else if hi < v then hi else v
set_option maxHeartbeats 4000000 in
set_option maxRecDepth 100000 in
theorem m_within {X : List Int32} {d rc rs n : Nat} {Q : am_Q} {h : am_H} {v lo hi : Int32} (hq : Q (some (.int (wn v lo hi))) n h) : AW X mX8_within d rc rs 0 [some (.int v), some (.int lo), some (.int hi)] [] n h Q := by
  refine aw_iload_n (npc := 1) rfl dX8_within_0 rfl ?_
  refine aw_iload_n (npc := 2) rfl dX8_within_1 rfl ?_
  refine aw_icmp_ge (npc := 5) (tgt := 9) dX8_within_2 rfl (by decide) (fun hc1 => ?_) (fun hc1 => ?_)
  · refine aw_iload_n (npc := 10) rfl dX8_within_9 rfl ?_
    refine aw_iload_n (npc := 11) rfl dX8_within_10 rfl ?_
    refine aw_icmp_le (npc := 14) (tgt := 18) dX8_within_11 rfl (by decide) (fun hc2 => ?_) (fun hc2 => ?_)
    · refine aw_iload_n (npc := 19) rfl dX8_within_18 rfl ?_
      refine aw_iret rfl dX8_within_19 ?_
      exact (show wn v lo hi = v by simp [wn, Int32.not_lt.mpr hc1, Int32.not_lt.mpr hc2]) ▸ hq
    · refine aw_iload_n (npc := 15) rfl dX8_within_14 rfl ?_
      refine aw_goto (npc := 19) dX8_within_15 (by decide) ?_
      refine aw_iret rfl dX8_within_19 ?_
      exact (show wn v lo hi = hi by simp [wn, Int32.not_lt.mpr hc1, Int32.not_le.mp hc2]) ▸ hq
  · refine aw_iload_n (npc := 6) rfl dX8_within_5 rfl ?_
    refine aw_goto (npc := 19) dX8_within_6 (by decide) ?_
    refine aw_iret rfl dX8_within_19 ?_
    exact (show wn v lo hi = lo by simp [wn, Int32.not_le.mp hc1]) ▸ hq
def mtoneK (k hv pl : Int32) : Int32 := if k = 1 then wn (pl + 20) 0 99 else if k = 2 then pl / 2 else if k = 3 then (if hv < 40 then wn (pl + 20) 0 99 else 0) else if k = 4 then wn (pl / 2 - 10) 0 99 else if k = 5 then 0 else pl
def TXM (N : Nat → Int32) (c : Nat) : Prop := N 7 = nI c ∧ c ≤ 14 ∧ ∀ t, t < c → ∃ ky lc, ky ≤ 2 ∧ 1 ≤ lc ∧ lc ≤ 96 ∧ N (62 + 2 * t) = nI (1000 * ky + lc) ∧ vld (fun z9 => N (90 + 96 * t + z9)) lc 0 0
def f3 (fa : Nat → Int32) (x y z : Int32) : Nat → Int32 := upd (upd (upd fa 0 x) 1 y) 2 z
def MPr (N : Nat → Int32) (c f : Nat) (pl : Int32) : Prop := (cntM 0 N c = none ∧ pl = (N (24 + 5 * f) + N 3) / 2) ∨ ∃ t lc ky sf fa, cntM 0 N c = some t ∧ ky ≤ 2 ∧ lc ≤ 96 ∧ N (62 + 2 * t) = nI (1000 * ky + lc) ∧ pl = wn ((mwM (f3 fa (N (24 + 5 * f)) (N 3) (N (25 + 5 * f))) (fun z9 => N (90 + 96 * t + z9)) lc 0 (sf, 0)).1 0) 0 99
def MTr (N : Nat → Int32) (c f : Nat) (τ : Int32) : Prop := ∃ pl, MPr N c f pl ∧ τ = mtoneK (N (22 + 5 * f)) (N 3) pl
def ak (a9 a : Nat → Nat → Int32) : Prop := ∀ k, k ≠ 81 → k ≠ 82 → a9 k = a k
theorem rfl_ak {a : Nat → Nat → Int32} {x y z : Int32} {k : Nat} (h : k ≠ 82) : aup (aup (aup a 82 0 x) 82 1 y) 82 2 z k = a k := ((aup_n h).trans (aup_n h)).trans (aup_n h)
set_option maxHeartbeats 4000000 in
set_option maxRecDepth 100000 in
theorem m_tone {X : List Int32} {d rc rs n : Nat} {Q : am_Q} {o N : Nat → Int32} {a : Nat → Nat → Int32} {h : am_H} {c f : Nat} (F : MR o N a h) (hT : TXM N c) (hf : f < 8) (hk : wi (N (22 + 5 * f)) 0 5) (hq : ∀ τ a9 h9, MTr N c f τ → MR o N a9 h9 → ak a9 a → am_fb 69 92 h9 h → Q (some (.int τ)) n h9) : AW X mX8_toneOf (d + 3) rc rs 0 [some (.ref 69), some (.int (nI f)), none, none] [] n h Q := by
  refine aw_aload_n (npc := 1) rfl dX8_toneOf_0 rfl ?_
  refine aw_iconst (npc := 2) (v := 0) (by decide) dX8_toneOf_1 rfl ?_
  refine aw_callV (npc := 5) (N := mX8_counts) (b := 69) (mc := 0) (ms := 0) (A := [.int 0]) (S := []) (L0 := [some (.ref 69), some (.int 0), none]) dX8_toneOf_2 rfl km_X8_counts kk_X8_97 F.1 ⟨by decide, rfl⟩ rfl ⟨rfl, by decide⟩ rfl (Nat.le_of_ble_eq_true rfl) (Nat.zero_add _) (Nat.zero_add _) rfl ?_
  refine m_counts F hT.1 hT.2.1 ?_
  cases ec : cntM 0 N c with
  | none =>
    refine aw_re (S' := [.int (-1)]) rfl ?_
    refine aw_istore_n (npc := 6) (L' := [some (.ref 69), some (.int (nI f)), some (.int (-1)), none]) dX8_toneOf_5 rfl (by decide) rfl rfl ?_
    refine aw_aload_n (npc := 7) rfl dX8_toneOf_6 rfl ?_
    refine aw_get (npc := 10) dX8_toneOf_7 rfl kf_X8_52 F.1 rfl ?_
    refine aw_iconst (npc := 11) (v := 0) (by decide) dX8_toneOf_10 rfl ?_
    refine aw_aload_n (npc := 12) rfl dX8_toneOf_11 rfl ?_
    refine aw_iload_n (npc := 13) rfl dX8_toneOf_12 rfl ?_
    refine aw_iconst (npc := 14) (v := 2) (by decide) dX8_toneOf_13 rfl ?_
    refine aw_callV (npc := 17) (N := mX8_of) (b := 69) (mc := 0) (ms := 0) (A := [.int (nI f), .int 2]) (S := [.int 0, .ref 82]) (L0 := [some (.ref 69), some (.int (nI f)), some (.int 2)]) dX8_toneOf_14 rfl km_X8_of kk_X8_101 F.1 ⟨by decide, rfl⟩ rfl ⟨rfl, by decide⟩ rfl (Nat.le_of_ble_eq_true rfl) (Nat.zero_add _) (Nat.zero_add _) rfl ?_
    refine m_of2 (f := f) F (by omega) ?_
    refine aw_re (S' := [.int (N (24 + 5 * f)), .int 0, .ref 82]) rfl ?_
    refine aw_iast (npc := 18) (j := 0) dX8_toneOf_17 rfl F.2.2.2.2.2.2.2.2.2.2.2.2.2.1 ⟨by decide, by decide⟩ (by rw [tl_len]; omega) rfl ?_
    have F1 := mr_82 (j := 0) (v := N (24 + 5 * f)) F
    refine aw_aload_n (npc := 19) rfl dX8_toneOf_18 rfl ?_
    refine aw_get (npc := 22) dX8_toneOf_19 rfl kf_X8_52 F1.1 rfl ?_
    refine aw_iconst (npc := 23) (v := 1) (by decide) dX8_toneOf_22 rfl ?_
    refine aw_aload_n (npc := 24) rfl dX8_toneOf_23 rfl ?_
    refine aw_get (npc := 27) dX8_toneOf_24 rfl kf_X8_9 F1.1 rfl ?_
    refine aw_iconst (npc := 28) (v := 3) (by decide) dX8_toneOf_27 rfl ?_
    refine aw_iald (npc := 29) (x := N 3) (j := 3) dX8_toneOf_28 rfl F1.2.1 ⟨by decide, by decide⟩ (tl_at (by omega)) ?_
    refine aw_iast (npc := 30) (j := 1) dX8_toneOf_29 rfl F1.2.2.2.2.2.2.2.2.2.2.2.2.2.1 ⟨by decide, by decide⟩ (by rw [tl_len]; omega) rfl ?_
    have F2 := mr_82 (j := 1) (v := N 3) F1
    refine aw_aload_n (npc := 31) rfl dX8_toneOf_30 rfl ?_
    refine aw_get (npc := 34) dX8_toneOf_31 rfl kf_X8_52 F2.1 rfl ?_
    refine aw_iconst (npc := 35) (v := 2) (by decide) dX8_toneOf_34 rfl ?_
    refine aw_aload_n (npc := 36) rfl dX8_toneOf_35 rfl ?_
    refine aw_iload_n (npc := 37) rfl dX8_toneOf_36 rfl ?_
    refine aw_iconst (npc := 38) (v := 3) (by decide) dX8_toneOf_37 rfl ?_
    refine aw_callV (npc := 41) (N := mX8_of) (b := 69) (mc := 0) (ms := 0) (A := [.int (nI f), .int 3]) (S := [.int 2, .ref 82]) (L0 := [some (.ref 69), some (.int (nI f)), some (.int 3)]) dX8_toneOf_38 rfl km_X8_of kk_X8_101 F2.1 ⟨by decide, rfl⟩ rfl ⟨rfl, by decide⟩ rfl (Nat.le_of_ble_eq_true rfl) (Nat.zero_add _) (Nat.zero_add _) rfl ?_
    refine m_of3 (f := f) F2 (by omega) ?_
    refine aw_re (S' := [.int (N (25 + 5 * f)), .int 2, .ref 82]) rfl ?_
    refine aw_iast (npc := 42) (j := 2) dX8_toneOf_41 rfl F2.2.2.2.2.2.2.2.2.2.2.2.2.2.1 ⟨by decide, by decide⟩ (by rw [tl_len]; omega) rfl ?_
    have F3 := mr_82 (j := 2) (v := N (25 + 5 * f)) F2
    refine aw_iload_n (npc := 43) rfl dX8_toneOf_42 rfl ?_
    refine aw_if_ge (npc := 46) (tgt := 64) dX8_toneOf_43 rfl (by decide) (fun hc => absurd hc (by decide)) (fun _ => ?_)
    refine aw_aload_n (npc := 47) rfl dX8_toneOf_46 rfl ?_
    refine aw_iload_n (npc := 48) rfl dX8_toneOf_47 rfl ?_
    refine aw_iconst (npc := 49) (v := 2) (by decide) dX8_toneOf_48 rfl ?_
    refine aw_callV (npc := 52) (N := mX8_of) (b := 69) (mc := 0) (ms := 0) (A := [.int (nI f), .int 2]) (S := []) (L0 := [some (.ref 69), some (.int (nI f)), some (.int 2)]) dX8_toneOf_49 rfl km_X8_of kk_X8_101 F3.1 ⟨by decide, rfl⟩ rfl ⟨rfl, by decide⟩ rfl (Nat.le_of_ble_eq_true rfl) (Nat.zero_add _) (Nat.zero_add _) rfl ?_
    refine m_of2 (f := f) F3 (by omega) ?_
    refine aw_re (S' := [.int (N (24 + 5 * f))]) rfl ?_
    refine aw_aload_n (npc := 53) rfl dX8_toneOf_52 rfl ?_
    refine aw_get (npc := 56) dX8_toneOf_53 rfl kf_X8_9 F3.1 rfl ?_
    refine aw_iconst (npc := 57) (v := 3) (by decide) dX8_toneOf_56 rfl ?_
    refine aw_iald (npc := 58) (x := N 3) (j := 3) dX8_toneOf_57 rfl F3.2.1 ⟨by decide, by decide⟩ (tl_at (by omega)) ?_
    refine aw_iadd (npc := 59) dX8_toneOf_58 rfl ?_
    refine aw_iconst (npc := 60) (v := 2) (by decide) dX8_toneOf_59 rfl ?_
    refine aw_idiv (npc := 61) (by decide) dX8_toneOf_60 rfl ?_
    refine aw_goto (npc := 75) dX8_toneOf_61 (by decide) ?_
    refine aw_istore_n (npc := 76) (L' := [some (.ref 69), some (.int (nI f)), some (.int (-1)), some (.int (((N (24 + 5 * f)) + (N 3)) / 2))]) dX8_toneOf_75 rfl (by decide) rfl rfl ?_
    refine aw_aload_n (npc := 77) rfl dX8_toneOf_76 rfl ?_
    refine aw_iload_n (npc := 78) rfl dX8_toneOf_77 rfl ?_
    refine aw_iconst (npc := 79) (v := 0) (by decide) dX8_toneOf_78 rfl ?_
    refine aw_callV (npc := 82) (N := mX8_of) (b := 69) (mc := 0) (ms := 0) (A := [.int (nI f), .int 0]) (S := []) (L0 := [some (.ref 69), some (.int (nI f)), some (.int 0)]) dX8_toneOf_79 rfl km_X8_of kk_X8_101 F3.1 ⟨by decide, rfl⟩ rfl ⟨rfl, by decide⟩ rfl (Nat.le_of_ble_eq_true rfl) (Nat.zero_add _) (Nat.zero_add _) rfl ?_
    refine m_of0 (f := f) F3 (by omega) ?_
    refine aw_re (S' := [.int (N (22 + 5 * f))]) rfl ?_
    rcases wi_c0_5 hk with ek | ek | ek | ek | ek | ek
    · refine aw_top (y := 0) ek ?_
      refine aw_tableOut (npc := 172) dX8_toneOf_82 (by decide) (by decide) ?_
      refine aw_iload_n (npc := 173) rfl dX8_toneOf_172 rfl ?_
      refine aw_iret rfl dX8_toneOf_173 ?_
      exact hq _ _ _ ⟨_, Or.inl ⟨ec, rfl⟩, by simp [mtoneK, ek]⟩ F3 (fun k _ h2 => rfl_ak h2) (am_fbU (by omega) (am_fbU (by omega) (am_fbU (by omega) am_fb0)))
    · refine aw_top (y := 1) ek ?_
      refine aw_tableIn (npc := 116) dX8_toneOf_82 (by decide) (by decide) rfl (by decide) ?_
      refine aw_iload_n (npc := 117) rfl dX8_toneOf_116 rfl ?_
      refine aw_bipush (npc := 119) (v := 20) (by decide) dX8_toneOf_117 rfl ?_
      refine aw_iadd (npc := 120) dX8_toneOf_119 rfl ?_
      refine aw_iconst (npc := 121) (v := 0) (by decide) dX8_toneOf_120 rfl ?_
      refine aw_bipush (npc := 123) (v := 99) (by decide) dX8_toneOf_121 rfl ?_
      refine aw_callS (npc := 126) (N := mX8_within) (mc := 0) (ms := 0) (A := [.int ((((N (24 + 5 * f)) + (N 3)) / 2) + 20), .int 0, .int 99]) (S := []) (L0 := [some (.int ((((N (24 + 5 * f)) + (N 3)) / 2) + 20)), some (.int 0), some (.int 99)]) dX8_toneOf_123 rfl km_X8_within kk_X8_108 rfl ⟨rfl, by decide⟩ rfl (Nat.le_of_ble_eq_true rfl) (Nat.zero_add _) (Nat.zero_add _) rfl ?_
      refine m_within ?_
      refine aw_re (S' := [.int (wn ((((N (24 + 5 * f)) + (N 3)) / 2) + 20) 0 99)]) rfl ?_
      refine aw_iret rfl dX8_toneOf_126 ?_
      exact hq _ _ _ ⟨_, Or.inl ⟨ec, rfl⟩, by simp [mtoneK, ek]⟩ F3 (fun k _ h2 => rfl_ak h2) (am_fbU (by omega) (am_fbU (by omega) (am_fbU (by omega) am_fb0)))
    · refine aw_top (y := 2) ek ?_
      refine aw_tableIn (npc := 127) dX8_toneOf_82 (by decide) (by decide) rfl (by decide) ?_
      refine aw_iload_n (npc := 128) rfl dX8_toneOf_127 rfl ?_
      refine aw_iconst (npc := 129) (v := 2) (by decide) dX8_toneOf_128 rfl ?_
      refine aw_idiv (npc := 130) (by decide) dX8_toneOf_129 rfl ?_
      refine aw_iret rfl dX8_toneOf_130 ?_
      exact hq _ _ _ ⟨_, Or.inl ⟨ec, rfl⟩, by simp [mtoneK, ek]⟩ F3 (fun k _ h2 => rfl_ak h2) (am_fbU (by omega) (am_fbU (by omega) (am_fbU (by omega) am_fb0)))
    · refine aw_top (y := 3) ek ?_
      refine aw_tableIn (npc := 131) dX8_toneOf_82 (by decide) (by decide) rfl (by decide) ?_
      refine aw_aload_n (npc := 132) rfl dX8_toneOf_131 rfl ?_
      refine aw_get (npc := 135) dX8_toneOf_132 rfl kf_X8_9 F3.1 rfl ?_
      refine aw_iconst (npc := 136) (v := 3) (by decide) dX8_toneOf_135 rfl ?_
      refine aw_iald (npc := 137) (x := N 3) (j := 3) dX8_toneOf_136 rfl F3.2.1 ⟨by decide, by decide⟩ (tl_at (by omega)) ?_
      refine aw_bipush (npc := 139) (v := 40) (by decide) dX8_toneOf_137 rfl ?_
      refine aw_icmp_lt (npc := 142) (tgt := 146) dX8_toneOf_139 rfl (by decide) (fun hc4 => ?_) (fun hc4 => ?_)
      · refine aw_iload_n (npc := 147) rfl dX8_toneOf_146 rfl ?_
        refine aw_bipush (npc := 149) (v := 20) (by decide) dX8_toneOf_147 rfl ?_
        refine aw_iadd (npc := 150) dX8_toneOf_149 rfl ?_
        refine aw_iconst (npc := 151) (v := 0) (by decide) dX8_toneOf_150 rfl ?_
        refine aw_bipush (npc := 153) (v := 99) (by decide) dX8_toneOf_151 rfl ?_
        refine aw_callS (npc := 156) (N := mX8_within) (mc := 0) (ms := 0) (A := [.int ((((N (24 + 5 * f)) + (N 3)) / 2) + 20), .int 0, .int 99]) (S := []) (L0 := [some (.int ((((N (24 + 5 * f)) + (N 3)) / 2) + 20)), some (.int 0), some (.int 99)]) dX8_toneOf_153 rfl km_X8_within kk_X8_108 rfl ⟨rfl, by decide⟩ rfl (Nat.le_of_ble_eq_true rfl) (Nat.zero_add _) (Nat.zero_add _) rfl ?_
        refine m_within ?_
        refine aw_re (S' := [.int (wn ((((N (24 + 5 * f)) + (N 3)) / 2) + 20) 0 99)]) rfl ?_
        refine aw_iret rfl dX8_toneOf_156 ?_
        exact hq _ _ _ ⟨_, Or.inl ⟨ec, rfl⟩, by simp [mtoneK, ek, hc4]⟩ F3 (fun k _ h2 => rfl_ak h2) (am_fbU (by omega) (am_fbU (by omega) (am_fbU (by omega) am_fb0)))
      · refine aw_iconst (npc := 143) (v := 0) (by decide) dX8_toneOf_142 rfl ?_
        refine aw_goto (npc := 156) dX8_toneOf_143 (by decide) ?_
        refine aw_iret rfl dX8_toneOf_156 ?_
        exact hq _ _ _ ⟨_, Or.inl ⟨ec, rfl⟩, by simp [mtoneK, ek, hc4]⟩ F3 (fun k _ h2 => rfl_ak h2) (am_fbU (by omega) (am_fbU (by omega) (am_fbU (by omega) am_fb0)))
    · refine aw_top (y := 4) ek ?_
      refine aw_tableIn (npc := 157) dX8_toneOf_82 (by decide) (by decide) rfl (by decide) ?_
      refine aw_iload_n (npc := 158) rfl dX8_toneOf_157 rfl ?_
      refine aw_iconst (npc := 159) (v := 2) (by decide) dX8_toneOf_158 rfl ?_
      refine aw_idiv (npc := 160) (by decide) dX8_toneOf_159 rfl ?_
      refine aw_bipush (npc := 162) (v := 10) (by decide) dX8_toneOf_160 rfl ?_
      refine aw_isub (npc := 163) dX8_toneOf_162 rfl ?_
      refine aw_iconst (npc := 164) (v := 0) (by decide) dX8_toneOf_163 rfl ?_
      refine aw_bipush (npc := 166) (v := 99) (by decide) dX8_toneOf_164 rfl ?_
      refine aw_callS (npc := 169) (N := mX8_within) (mc := 0) (ms := 0) (A := [.int (((((N (24 + 5 * f)) + (N 3)) / 2) / 2) - 10), .int 0, .int 99]) (S := []) (L0 := [some (.int (((((N (24 + 5 * f)) + (N 3)) / 2) / 2) - 10)), some (.int 0), some (.int 99)]) dX8_toneOf_166 rfl km_X8_within kk_X8_108 rfl ⟨rfl, by decide⟩ rfl (Nat.le_of_ble_eq_true rfl) (Nat.zero_add _) (Nat.zero_add _) rfl ?_
      refine m_within ?_
      refine aw_re (S' := [.int (wn (((((N (24 + 5 * f)) + (N 3)) / 2) / 2) - 10) 0 99)]) rfl ?_
      refine aw_iret rfl dX8_toneOf_169 ?_
      exact hq _ _ _ ⟨_, Or.inl ⟨ec, rfl⟩, by simp [mtoneK, ek]⟩ F3 (fun k _ h2 => rfl_ak h2) (am_fbU (by omega) (am_fbU (by omega) (am_fbU (by omega) am_fb0)))
    · refine aw_top (y := 5) ek ?_
      refine aw_tableIn (npc := 170) dX8_toneOf_82 (by decide) (by decide) rfl (by decide) ?_
      refine aw_iconst (npc := 171) (v := 0) (by decide) dX8_toneOf_170 rfl ?_
      refine aw_iret rfl dX8_toneOf_171 ?_
      exact hq _ _ _ ⟨_, Or.inl ⟨ec, rfl⟩, by simp [mtoneK, ek]⟩ F3 (fun k _ h2 => rfl_ak h2) (am_fbU (by omega) (am_fbU (by omega) (am_fbU (by omega) am_fb0)))
  | some t =>
    obtain ⟨ky, lc, hky, hlc1, hlc, hhd, hvl⟩ := hT.2.2 t (cntM_lt ec).1
    have ht14 : t < 14 := by have z1 := (cntM_lt ec).1; have z2 := hT.2.1; omega
    refine aw_re (S' := [.int (nI t)]) rfl ?_
    refine aw_istore_n (npc := 6) (L' := [some (.ref 69), some (.int (nI f)), some (.int (nI t)), none]) dX8_toneOf_5 rfl (by decide) rfl rfl ?_
    refine aw_aload_n (npc := 7) rfl dX8_toneOf_6 rfl ?_
    refine aw_get (npc := 10) dX8_toneOf_7 rfl kf_X8_52 F.1 rfl ?_
    refine aw_iconst (npc := 11) (v := 0) (by decide) dX8_toneOf_10 rfl ?_
    refine aw_aload_n (npc := 12) rfl dX8_toneOf_11 rfl ?_
    refine aw_iload_n (npc := 13) rfl dX8_toneOf_12 rfl ?_
    refine aw_iconst (npc := 14) (v := 2) (by decide) dX8_toneOf_13 rfl ?_
    refine aw_callV (npc := 17) (N := mX8_of) (b := 69) (mc := 0) (ms := 0) (A := [.int (nI f), .int 2]) (S := [.int 0, .ref 82]) (L0 := [some (.ref 69), some (.int (nI f)), some (.int 2)]) dX8_toneOf_14 rfl km_X8_of kk_X8_101 F.1 ⟨by decide, rfl⟩ rfl ⟨rfl, by decide⟩ rfl (Nat.le_of_ble_eq_true rfl) (Nat.zero_add _) (Nat.zero_add _) rfl ?_
    refine m_of2 (f := f) F (by omega) ?_
    refine aw_re (S' := [.int (N (24 + 5 * f)), .int 0, .ref 82]) rfl ?_
    refine aw_iast (npc := 18) (j := 0) dX8_toneOf_17 rfl F.2.2.2.2.2.2.2.2.2.2.2.2.2.1 ⟨by decide, by decide⟩ (by rw [tl_len]; omega) rfl ?_
    have F5 := mr_82 (j := 0) (v := N (24 + 5 * f)) F
    refine aw_aload_n (npc := 19) rfl dX8_toneOf_18 rfl ?_
    refine aw_get (npc := 22) dX8_toneOf_19 rfl kf_X8_52 F5.1 rfl ?_
    refine aw_iconst (npc := 23) (v := 1) (by decide) dX8_toneOf_22 rfl ?_
    refine aw_aload_n (npc := 24) rfl dX8_toneOf_23 rfl ?_
    refine aw_get (npc := 27) dX8_toneOf_24 rfl kf_X8_9 F5.1 rfl ?_
    refine aw_iconst (npc := 28) (v := 3) (by decide) dX8_toneOf_27 rfl ?_
    refine aw_iald (npc := 29) (x := N 3) (j := 3) dX8_toneOf_28 rfl F5.2.1 ⟨by decide, by decide⟩ (tl_at (by omega)) ?_
    refine aw_iast (npc := 30) (j := 1) dX8_toneOf_29 rfl F5.2.2.2.2.2.2.2.2.2.2.2.2.2.1 ⟨by decide, by decide⟩ (by rw [tl_len]; omega) rfl ?_
    have F6 := mr_82 (j := 1) (v := N 3) F5
    refine aw_aload_n (npc := 31) rfl dX8_toneOf_30 rfl ?_
    refine aw_get (npc := 34) dX8_toneOf_31 rfl kf_X8_52 F6.1 rfl ?_
    refine aw_iconst (npc := 35) (v := 2) (by decide) dX8_toneOf_34 rfl ?_
    refine aw_aload_n (npc := 36) rfl dX8_toneOf_35 rfl ?_
    refine aw_iload_n (npc := 37) rfl dX8_toneOf_36 rfl ?_
    refine aw_iconst (npc := 38) (v := 3) (by decide) dX8_toneOf_37 rfl ?_
    refine aw_callV (npc := 41) (N := mX8_of) (b := 69) (mc := 0) (ms := 0) (A := [.int (nI f), .int 3]) (S := [.int 2, .ref 82]) (L0 := [some (.ref 69), some (.int (nI f)), some (.int 3)]) dX8_toneOf_38 rfl km_X8_of kk_X8_101 F6.1 ⟨by decide, rfl⟩ rfl ⟨rfl, by decide⟩ rfl (Nat.le_of_ble_eq_true rfl) (Nat.zero_add _) (Nat.zero_add _) rfl ?_
    refine m_of3 (f := f) F6 (by omega) ?_
    refine aw_re (S' := [.int (N (25 + 5 * f)), .int 2, .ref 82]) rfl ?_
    refine aw_iast (npc := 42) (j := 2) dX8_toneOf_41 rfl F6.2.2.2.2.2.2.2.2.2.2.2.2.2.1 ⟨by decide, by decide⟩ (by rw [tl_len]; omega) rfl ?_
    have F7 := mr_82 (j := 2) (v := N (25 + 5 * f)) F6
    refine aw_iload_n (npc := 43) rfl dX8_toneOf_42 rfl ?_
    refine aw_if_ge (npc := 46) (tgt := 64) dX8_toneOf_43 rfl (by decide) (fun _ => ?_) (fun hc => absurd ((nI_leI (a := 0) (b := t) (by omega) (by omega)).mpr (by omega)) hc)
    refine aw_aload_n (npc := 65) rfl dX8_toneOf_64 rfl ?_
    refine aw_iload_n (npc := 66) rfl dX8_toneOf_65 rfl ?_
    refine aw_callV (npc := 69) (N := mX8_worksOut) (b := 69) (mc := 0) (ms := 0) (A := [.int (nI t)]) (S := []) (L0 := [some (.ref 69), some (.int (nI t)), none, none, none, none]) dX8_toneOf_66 rfl km_X8_worksOut kk_X8_105 F7.1 ⟨by decide, rfl⟩ rfl ⟨rfl, by decide⟩ rfl (Nat.le_of_ble_eq_true rfl) (Nat.zero_add _) (Nat.zero_add _) rfl ?_
    refine m_work F7 ht14 hky hlc hhd hvl rfl (fun a9 h9 M9 k9 e9 f9 => ?_)
    refine aw_re (S' := [.int (a9 81 0)]) rfl ?_
    have e9q : a9 81 0 = (mwM (f3 (a 82) (N (24 + 5 * f)) (N 3) (N (25 + 5 * f))) (fun z9 => N (90 + 96 * t + z9)) lc 0 (a 81, 0)).1 0 := congrFun e9 0
    refine aw_iconst (npc := 70) (v := 0) (by decide) dX8_toneOf_69 rfl ?_
    refine aw_bipush (npc := 72) (v := 99) (by decide) dX8_toneOf_70 rfl ?_
    refine aw_callS (npc := 75) (N := mX8_within) (mc := 0) (ms := 0) (A := [.int (a9 81 0), .int 0, .int 99]) (S := []) (L0 := [some (.int (a9 81 0)), some (.int 0), some (.int 99)]) dX8_toneOf_72 rfl km_X8_within kk_X8_108 rfl ⟨rfl, by decide⟩ rfl (Nat.le_of_ble_eq_true rfl) (Nat.zero_add _) (Nat.zero_add _) rfl ?_
    refine m_within ?_
    refine aw_re (S' := [.int (wn (a9 81 0) 0 99)]) rfl ?_
    refine aw_istore_n (npc := 76) (L' := [some (.ref 69), some (.int (nI f)), some (.int (nI t)), some (.int (wn (a9 81 0) 0 99))]) dX8_toneOf_75 rfl (by decide) rfl rfl ?_
    refine aw_aload_n (npc := 77) rfl dX8_toneOf_76 rfl ?_
    refine aw_iload_n (npc := 78) rfl dX8_toneOf_77 rfl ?_
    refine aw_iconst (npc := 79) (v := 0) (by decide) dX8_toneOf_78 rfl ?_
    refine aw_callV (npc := 82) (N := mX8_of) (b := 69) (mc := 0) (ms := 0) (A := [.int (nI f), .int 0]) (S := []) (L0 := [some (.ref 69), some (.int (nI f)), some (.int 0)]) dX8_toneOf_79 rfl km_X8_of kk_X8_101 M9.1 ⟨by decide, rfl⟩ rfl ⟨rfl, by decide⟩ rfl (Nat.le_of_ble_eq_true rfl) (Nat.zero_add _) (Nat.zero_add _) rfl ?_
    refine m_of0 (f := f) M9 (by omega) ?_
    refine aw_re (S' := [.int (N (22 + 5 * f))]) rfl ?_
    rcases wi_c0_5 hk with ek | ek | ek | ek | ek | ek
    · refine aw_top (y := 0) ek ?_
      refine aw_tableOut (npc := 172) dX8_toneOf_82 (by decide) (by decide) ?_
      refine aw_iload_n (npc := 173) rfl dX8_toneOf_172 rfl ?_
      refine aw_iret rfl dX8_toneOf_173 ?_
      exact hq _ _ _ ⟨_, Or.inr ⟨t, lc, ky, _, a 82, ec, hky, hlc, hhd, rfl⟩, by rw [← e9q]; simp [mtoneK, ek]⟩ M9 (fun k h1 h2 => (k9 k h1).trans (rfl_ak h2)) (am_fbT f9 (am_fbU (by omega) (am_fbU (by omega) (am_fbU (by omega) am_fb0))))
    · refine aw_top (y := 1) ek ?_
      refine aw_tableIn (npc := 116) dX8_toneOf_82 (by decide) (by decide) rfl (by decide) ?_
      refine aw_iload_n (npc := 117) rfl dX8_toneOf_116 rfl ?_
      refine aw_bipush (npc := 119) (v := 20) (by decide) dX8_toneOf_117 rfl ?_
      refine aw_iadd (npc := 120) dX8_toneOf_119 rfl ?_
      refine aw_iconst (npc := 121) (v := 0) (by decide) dX8_toneOf_120 rfl ?_
      refine aw_bipush (npc := 123) (v := 99) (by decide) dX8_toneOf_121 rfl ?_
      refine aw_callS (npc := 126) (N := mX8_within) (mc := 0) (ms := 0) (A := [.int ((wn (a9 81 0) 0 99) + 20), .int 0, .int 99]) (S := []) (L0 := [some (.int ((wn (a9 81 0) 0 99) + 20)), some (.int 0), some (.int 99)]) dX8_toneOf_123 rfl km_X8_within kk_X8_108 rfl ⟨rfl, by decide⟩ rfl (Nat.le_of_ble_eq_true rfl) (Nat.zero_add _) (Nat.zero_add _) rfl ?_
      refine m_within ?_
      refine aw_re (S' := [.int (wn ((wn (a9 81 0) 0 99) + 20) 0 99)]) rfl ?_
      refine aw_iret rfl dX8_toneOf_126 ?_
      exact hq _ _ _ ⟨_, Or.inr ⟨t, lc, ky, _, a 82, ec, hky, hlc, hhd, rfl⟩, by rw [← e9q]; simp [mtoneK, ek]⟩ M9 (fun k h1 h2 => (k9 k h1).trans (rfl_ak h2)) (am_fbT f9 (am_fbU (by omega) (am_fbU (by omega) (am_fbU (by omega) am_fb0))))
    · refine aw_top (y := 2) ek ?_
      refine aw_tableIn (npc := 127) dX8_toneOf_82 (by decide) (by decide) rfl (by decide) ?_
      refine aw_iload_n (npc := 128) rfl dX8_toneOf_127 rfl ?_
      refine aw_iconst (npc := 129) (v := 2) (by decide) dX8_toneOf_128 rfl ?_
      refine aw_idiv (npc := 130) (by decide) dX8_toneOf_129 rfl ?_
      refine aw_iret rfl dX8_toneOf_130 ?_
      exact hq _ _ _ ⟨_, Or.inr ⟨t, lc, ky, _, a 82, ec, hky, hlc, hhd, rfl⟩, by rw [← e9q]; simp [mtoneK, ek]⟩ M9 (fun k h1 h2 => (k9 k h1).trans (rfl_ak h2)) (am_fbT f9 (am_fbU (by omega) (am_fbU (by omega) (am_fbU (by omega) am_fb0))))
    · refine aw_top (y := 3) ek ?_
      refine aw_tableIn (npc := 131) dX8_toneOf_82 (by decide) (by decide) rfl (by decide) ?_
      refine aw_aload_n (npc := 132) rfl dX8_toneOf_131 rfl ?_
      refine aw_get (npc := 135) dX8_toneOf_132 rfl kf_X8_9 M9.1 rfl ?_
      refine aw_iconst (npc := 136) (v := 3) (by decide) dX8_toneOf_135 rfl ?_
      refine aw_iald (npc := 137) (x := N 3) (j := 3) dX8_toneOf_136 rfl M9.2.1 ⟨by decide, by decide⟩ (tl_at (by omega)) ?_
      refine aw_bipush (npc := 139) (v := 40) (by decide) dX8_toneOf_137 rfl ?_
      refine aw_icmp_lt (npc := 142) (tgt := 146) dX8_toneOf_139 rfl (by decide) (fun hc9 => ?_) (fun hc9 => ?_)
      · refine aw_iload_n (npc := 147) rfl dX8_toneOf_146 rfl ?_
        refine aw_bipush (npc := 149) (v := 20) (by decide) dX8_toneOf_147 rfl ?_
        refine aw_iadd (npc := 150) dX8_toneOf_149 rfl ?_
        refine aw_iconst (npc := 151) (v := 0) (by decide) dX8_toneOf_150 rfl ?_
        refine aw_bipush (npc := 153) (v := 99) (by decide) dX8_toneOf_151 rfl ?_
        refine aw_callS (npc := 156) (N := mX8_within) (mc := 0) (ms := 0) (A := [.int ((wn (a9 81 0) 0 99) + 20), .int 0, .int 99]) (S := []) (L0 := [some (.int ((wn (a9 81 0) 0 99) + 20)), some (.int 0), some (.int 99)]) dX8_toneOf_153 rfl km_X8_within kk_X8_108 rfl ⟨rfl, by decide⟩ rfl (Nat.le_of_ble_eq_true rfl) (Nat.zero_add _) (Nat.zero_add _) rfl ?_
        refine m_within ?_
        refine aw_re (S' := [.int (wn ((wn (a9 81 0) 0 99) + 20) 0 99)]) rfl ?_
        refine aw_iret rfl dX8_toneOf_156 ?_
        exact hq _ _ _ ⟨_, Or.inr ⟨t, lc, ky, _, a 82, ec, hky, hlc, hhd, rfl⟩, by rw [← e9q]; simp [mtoneK, ek, hc9]⟩ M9 (fun k h1 h2 => (k9 k h1).trans (rfl_ak h2)) (am_fbT f9 (am_fbU (by omega) (am_fbU (by omega) (am_fbU (by omega) am_fb0))))
      · refine aw_iconst (npc := 143) (v := 0) (by decide) dX8_toneOf_142 rfl ?_
        refine aw_goto (npc := 156) dX8_toneOf_143 (by decide) ?_
        refine aw_iret rfl dX8_toneOf_156 ?_
        exact hq _ _ _ ⟨_, Or.inr ⟨t, lc, ky, _, a 82, ec, hky, hlc, hhd, rfl⟩, by rw [← e9q]; simp [mtoneK, ek, hc9]⟩ M9 (fun k h1 h2 => (k9 k h1).trans (rfl_ak h2)) (am_fbT f9 (am_fbU (by omega) (am_fbU (by omega) (am_fbU (by omega) am_fb0))))
    · refine aw_top (y := 4) ek ?_
      refine aw_tableIn (npc := 157) dX8_toneOf_82 (by decide) (by decide) rfl (by decide) ?_
      refine aw_iload_n (npc := 158) rfl dX8_toneOf_157 rfl ?_
      refine aw_iconst (npc := 159) (v := 2) (by decide) dX8_toneOf_158 rfl ?_
      refine aw_idiv (npc := 160) (by decide) dX8_toneOf_159 rfl ?_
      refine aw_bipush (npc := 162) (v := 10) (by decide) dX8_toneOf_160 rfl ?_
      refine aw_isub (npc := 163) dX8_toneOf_162 rfl ?_
      refine aw_iconst (npc := 164) (v := 0) (by decide) dX8_toneOf_163 rfl ?_
      refine aw_bipush (npc := 166) (v := 99) (by decide) dX8_toneOf_164 rfl ?_
      refine aw_callS (npc := 169) (N := mX8_within) (mc := 0) (ms := 0) (A := [.int (((wn (a9 81 0) 0 99) / 2) - 10), .int 0, .int 99]) (S := []) (L0 := [some (.int (((wn (a9 81 0) 0 99) / 2) - 10)), some (.int 0), some (.int 99)]) dX8_toneOf_166 rfl km_X8_within kk_X8_108 rfl ⟨rfl, by decide⟩ rfl (Nat.le_of_ble_eq_true rfl) (Nat.zero_add _) (Nat.zero_add _) rfl ?_
      refine m_within ?_
      refine aw_re (S' := [.int (wn (((wn (a9 81 0) 0 99) / 2) - 10) 0 99)]) rfl ?_
      refine aw_iret rfl dX8_toneOf_169 ?_
      exact hq _ _ _ ⟨_, Or.inr ⟨t, lc, ky, _, a 82, ec, hky, hlc, hhd, rfl⟩, by rw [← e9q]; simp [mtoneK, ek]⟩ M9 (fun k h1 h2 => (k9 k h1).trans (rfl_ak h2)) (am_fbT f9 (am_fbU (by omega) (am_fbU (by omega) (am_fbU (by omega) am_fb0))))
    · refine aw_top (y := 5) ek ?_
      refine aw_tableIn (npc := 170) dX8_toneOf_82 (by decide) (by decide) rfl (by decide) ?_
      refine aw_iconst (npc := 171) (v := 0) (by decide) dX8_toneOf_170 rfl ?_
      refine aw_iret rfl dX8_toneOf_171 ?_
      exact hq _ _ _ ⟨_, Or.inr ⟨t, lc, ky, _, a 82, ec, hky, hlc, hhd, rfl⟩, by rw [← e9q]; simp [mtoneK, ek]⟩ M9 (fun k h1 h2 => (k9 k h1).trans (rfl_ak h2)) (am_fbT f9 (am_fbU (by omega) (am_fbU (by omega) (am_fbU (by omega) am_fb0))))
