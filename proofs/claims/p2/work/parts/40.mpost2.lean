def endM (N mv : Nat → Int32) (hot : Int32) : Nat → Int32 := upd (upd (upd (upd (upd N 8 (wn (N 8 + mv 0) 0 9)) 9 (wn (N 9 + mv 1) 0 9)) 10 (wn (N 10 + mv 2) 0 9)) 11 (wn (N 11 + mv 3) 0 9)) 3 (wn (N 3 + hot) 0 99)
def z4 (mv : Nat → Int32) : Nat → Int32 := upd (upd (upd (upd mv 0 0) 1 0) 2 0) 3 0
def pst (N : Nat → Int32) : Nat → Int32 := upd N 2 (N 2 + 1)
def mPo (c fr : Nat) (si : Int32) (mv N N9 : Nat → Int32) : Prop := ((peace (pst N) ∨ ¬ pst N 3 < pst N 4) ∧ N9 = pst N) ∨ (¬ peace (pst N) ∧ pst N 3 < pst N 4 ∧ ∃ σ, LSm c si fr 0 (pst N, z4 mv, 0) σ ∧ N9 = endM σ.1 σ.2.1 σ.2.2)
def MI2 (N : Nat → Int32) (c fr : Nat) : Prop := MI (pst N) c fr
theorem mi_p {N : Nat → Int32} {c fr : Nat} (H : MI N c fr) : MI (pst N) c fr := by
  obtain ⟨⟨h7, hc, ht⟩, h1, h8, hf⟩ := H
  refine ⟨⟨(pk_un (by omega)).trans h7, hc, fun t htc => ?_⟩, (pk_un (by omega)).trans h1, h8, fun f hfr => ?_⟩
  · obtain ⟨ky, lc, a1, a2, a3, a4, a5⟩ := ht t htc
    refine ⟨ky, lc, a1, a2, a3, (pk_un (by omega)).trans a4, ?_⟩
    have e : (fun z9 => pst N (90 + 96 * t + z9)) = (fun z9 => N (90 + 96 * t + z9)) := funext (fun z => pk_un (by omega))
    rw [e]; exact a5
  · have e1 : pst N (22 + 5 * f) = N (22 + 5 * f) := pk_un (by omega)
    have e2 : pst N (23 + 5 * f) = N (23 + 5 * f) := pk_un (by omega)
    rw [e1, e2]; exact hf f hfr
set_option maxHeartbeats 4000000 in
set_option maxRecDepth 100000 in
theorem m_tail {X : List Int32} {d rc rs n : Nat} {Q : am_Q} {o N : Nat → Int32} {a : Nat → Nat → Int32} {h : am_H} {v1 : Option Value} (F : MR o N a h) (hq : ∀ h9, MR o (endM N (a 73) (o 6)) a h9 → am_fb 69 92 h9 h → Q none n h9) : AW X mX8_post (d + 7) rc rs 89 [some (.ref 69), v1] [] n h Q := by
  refine aw_iconst (npc := 90) (v := 0) (by decide) dX8_post_89 rfl ?_
  refine aw_istore_n (npc := 91) (L' := [some (.ref 69), some (.int 0)]) dX8_post_90 rfl (by decide) rfl rfl ?_
  refine aw_iload_n (npc := 92) rfl dX8_post_91 rfl ?_
  refine aw_iconst (npc := 93) (v := 4) (by decide) dX8_post_92 rfl ?_
  refine aw_icmp_ge (npc := 96) (tgt := 133) dX8_post_93 rfl (by decide) (fun hc => absurd hc (by decide)) (fun _ => ?_)
  refine aw_aload_n (npc := 97) rfl dX8_post_96 rfl ?_
  refine aw_get (npc := 100) dX8_post_97 rfl kf_X8_9 F.1 rfl ?_
  refine aw_bipush (npc := 102) (v := 8) (by decide) dX8_post_100 rfl ?_
  refine aw_iload_n (npc := 103) rfl dX8_post_102 rfl ?_
  refine aw_iaddV (npc := 104) (v := 8) dX8_post_103 rfl (by decide) ?_
  refine aw_aload_n (npc := 105) rfl dX8_post_104 rfl ?_
  refine aw_get (npc := 108) dX8_post_105 rfl kf_X8_9 F.1 rfl ?_
  refine aw_bipush (npc := 110) (v := 8) (by decide) dX8_post_108 rfl ?_
  refine aw_iload_n (npc := 111) rfl dX8_post_110 rfl ?_
  refine aw_iaddV (npc := 112) (v := 8) dX8_post_111 rfl (by decide) ?_
  refine aw_iald (npc := 113) (x := N 8) (j := 8) dX8_post_112 rfl F.2.1 ⟨by decide, by decide⟩ (tl_at (by omega)) ?_
  refine aw_aload_n (npc := 114) rfl dX8_post_113 rfl ?_
  refine aw_get (npc := 117) dX8_post_114 rfl kf_X8_23 F.1 rfl ?_
  refine aw_iload_n (npc := 118) rfl dX8_post_117 rfl ?_
  refine aw_iald (npc := 119) (x := (a 73) 0) (j := 0) dX8_post_118 rfl F.2.2.2.2.1 ⟨by decide, by decide⟩ (tl_at (by omega)) ?_
  refine aw_iadd (npc := 120) dX8_post_119 rfl ?_
  refine aw_iconst (npc := 121) (v := 0) (by decide) dX8_post_120 rfl ?_
  refine aw_bipush (npc := 123) (v := 9) (by decide) dX8_post_121 rfl ?_
  refine aw_callS (npc := 126) (N := mX8_within) (mc := 0) (ms := 0) (A := [.int ((N 8) + ((a 73) 0)), .int 0, .int 9]) (S := [.int 8, .ref 70]) (L0 := [some (.int ((N 8) + ((a 73) 0))), some (.int 0), some (.int 9)]) dX8_post_123 rfl km_X8_within kk_X8_108 rfl ⟨rfl, by decide⟩ rfl (Nat.le_of_ble_eq_true rfl) (Nat.zero_add _) (Nat.zero_add _) rfl ?_
  refine m_within ?_
  refine aw_re (S' := [.int (wn ((N 8) + ((a 73) 0)) 0 9), .int 8, .ref 70]) rfl ?_
  refine aw_iast (npc := 127) (j := 8) dX8_post_126 rfl F.2.1 ⟨by decide, by decide⟩ (by rw [tl_len]; omega) rfl ?_
  have F1 := mr_70 (j := 8) (v := wn ((N 8) + ((a 73) 0)) 0 9) F
  refine aw_iinc (npc := 130) (v := 1) (L' := [some (.ref 69), some (.int 1)]) dX8_post_127 rfl rfl (by decide) (by decide) rfl rfl ?_
  refine aw_goto (npc := 91) dX8_post_130 (by decide) ?_
  refine aw_iload_n (npc := 92) rfl dX8_post_91 rfl ?_
  refine aw_iconst (npc := 93) (v := 4) (by decide) dX8_post_92 rfl ?_
  refine aw_icmp_ge (npc := 96) (tgt := 133) dX8_post_93 rfl (by decide) (fun hc => absurd hc (by decide)) (fun _ => ?_)
  refine aw_aload_n (npc := 97) rfl dX8_post_96 rfl ?_
  refine aw_get (npc := 100) dX8_post_97 rfl kf_X8_9 F1.1 rfl ?_
  refine aw_bipush (npc := 102) (v := 8) (by decide) dX8_post_100 rfl ?_
  refine aw_iload_n (npc := 103) rfl dX8_post_102 rfl ?_
  refine aw_iaddV (npc := 104) (v := 9) dX8_post_103 rfl (by decide) ?_
  refine aw_aload_n (npc := 105) rfl dX8_post_104 rfl ?_
  refine aw_get (npc := 108) dX8_post_105 rfl kf_X8_9 F1.1 rfl ?_
  refine aw_bipush (npc := 110) (v := 8) (by decide) dX8_post_108 rfl ?_
  refine aw_iload_n (npc := 111) rfl dX8_post_110 rfl ?_
  refine aw_iaddV (npc := 112) (v := 9) dX8_post_111 rfl (by decide) ?_
  refine aw_iald (npc := 113) (x := (upd N 8 (wn ((N 8) + ((a 73) 0)) 0 9)) 9) (j := 9) dX8_post_112 rfl F1.2.1 ⟨by decide, by decide⟩ (tl_at (by omega)) ?_
  refine aw_top (y := N 9) ((pk_un (by omega))) ?_
  refine aw_aload_n (npc := 114) rfl dX8_post_113 rfl ?_
  refine aw_get (npc := 117) dX8_post_114 rfl kf_X8_23 F1.1 rfl ?_
  refine aw_iload_n (npc := 118) rfl dX8_post_117 rfl ?_
  refine aw_iald (npc := 119) (x := (a 73) 1) (j := 1) dX8_post_118 rfl F1.2.2.2.2.1 ⟨by decide, by decide⟩ (tl_at (by omega)) ?_
  refine aw_iadd (npc := 120) dX8_post_119 rfl ?_
  refine aw_iconst (npc := 121) (v := 0) (by decide) dX8_post_120 rfl ?_
  refine aw_bipush (npc := 123) (v := 9) (by decide) dX8_post_121 rfl ?_
  refine aw_callS (npc := 126) (N := mX8_within) (mc := 0) (ms := 0) (A := [.int ((N 9) + ((a 73) 1)), .int 0, .int 9]) (S := [.int 9, .ref 70]) (L0 := [some (.int ((N 9) + ((a 73) 1))), some (.int 0), some (.int 9)]) dX8_post_123 rfl km_X8_within kk_X8_108 rfl ⟨rfl, by decide⟩ rfl (Nat.le_of_ble_eq_true rfl) (Nat.zero_add _) (Nat.zero_add _) rfl ?_
  refine m_within ?_
  refine aw_re (S' := [.int (wn ((N 9) + ((a 73) 1)) 0 9), .int 9, .ref 70]) rfl ?_
  refine aw_iast (npc := 127) (j := 9) dX8_post_126 rfl F1.2.1 ⟨by decide, by decide⟩ (by rw [tl_len]; omega) rfl ?_
  have F2 := mr_70 (j := 9) (v := wn ((N 9) + ((a 73) 1)) 0 9) F1
  refine aw_iinc (npc := 130) (v := 2) (L' := [some (.ref 69), some (.int 2)]) dX8_post_127 rfl rfl (by decide) (by decide) rfl rfl ?_
  refine aw_goto (npc := 91) dX8_post_130 (by decide) ?_
  refine aw_iload_n (npc := 92) rfl dX8_post_91 rfl ?_
  refine aw_iconst (npc := 93) (v := 4) (by decide) dX8_post_92 rfl ?_
  refine aw_icmp_ge (npc := 96) (tgt := 133) dX8_post_93 rfl (by decide) (fun hc => absurd hc (by decide)) (fun _ => ?_)
  refine aw_aload_n (npc := 97) rfl dX8_post_96 rfl ?_
  refine aw_get (npc := 100) dX8_post_97 rfl kf_X8_9 F2.1 rfl ?_
  refine aw_bipush (npc := 102) (v := 8) (by decide) dX8_post_100 rfl ?_
  refine aw_iload_n (npc := 103) rfl dX8_post_102 rfl ?_
  refine aw_iaddV (npc := 104) (v := 10) dX8_post_103 rfl (by decide) ?_
  refine aw_aload_n (npc := 105) rfl dX8_post_104 rfl ?_
  refine aw_get (npc := 108) dX8_post_105 rfl kf_X8_9 F2.1 rfl ?_
  refine aw_bipush (npc := 110) (v := 8) (by decide) dX8_post_108 rfl ?_
  refine aw_iload_n (npc := 111) rfl dX8_post_110 rfl ?_
  refine aw_iaddV (npc := 112) (v := 10) dX8_post_111 rfl (by decide) ?_
  refine aw_iald (npc := 113) (x := (upd (upd N 8 (wn ((N 8) + ((a 73) 0)) 0 9)) 9 (wn ((N 9) + ((a 73) 1)) 0 9)) 10) (j := 10) dX8_post_112 rfl F2.2.1 ⟨by decide, by decide⟩ (tl_at (by omega)) ?_
  refine aw_top (y := N 10) (((pk_un (by omega))).trans (pk_un (by omega))) ?_
  refine aw_aload_n (npc := 114) rfl dX8_post_113 rfl ?_
  refine aw_get (npc := 117) dX8_post_114 rfl kf_X8_23 F2.1 rfl ?_
  refine aw_iload_n (npc := 118) rfl dX8_post_117 rfl ?_
  refine aw_iald (npc := 119) (x := (a 73) 2) (j := 2) dX8_post_118 rfl F2.2.2.2.2.1 ⟨by decide, by decide⟩ (tl_at (by omega)) ?_
  refine aw_iadd (npc := 120) dX8_post_119 rfl ?_
  refine aw_iconst (npc := 121) (v := 0) (by decide) dX8_post_120 rfl ?_
  refine aw_bipush (npc := 123) (v := 9) (by decide) dX8_post_121 rfl ?_
  refine aw_callS (npc := 126) (N := mX8_within) (mc := 0) (ms := 0) (A := [.int ((N 10) + ((a 73) 2)), .int 0, .int 9]) (S := [.int 10, .ref 70]) (L0 := [some (.int ((N 10) + ((a 73) 2))), some (.int 0), some (.int 9)]) dX8_post_123 rfl km_X8_within kk_X8_108 rfl ⟨rfl, by decide⟩ rfl (Nat.le_of_ble_eq_true rfl) (Nat.zero_add _) (Nat.zero_add _) rfl ?_
  refine m_within ?_
  refine aw_re (S' := [.int (wn ((N 10) + ((a 73) 2)) 0 9), .int 10, .ref 70]) rfl ?_
  refine aw_iast (npc := 127) (j := 10) dX8_post_126 rfl F2.2.1 ⟨by decide, by decide⟩ (by rw [tl_len]; omega) rfl ?_
  have F3 := mr_70 (j := 10) (v := wn ((N 10) + ((a 73) 2)) 0 9) F2
  refine aw_iinc (npc := 130) (v := 3) (L' := [some (.ref 69), some (.int 3)]) dX8_post_127 rfl rfl (by decide) (by decide) rfl rfl ?_
  refine aw_goto (npc := 91) dX8_post_130 (by decide) ?_
  refine aw_iload_n (npc := 92) rfl dX8_post_91 rfl ?_
  refine aw_iconst (npc := 93) (v := 4) (by decide) dX8_post_92 rfl ?_
  refine aw_icmp_ge (npc := 96) (tgt := 133) dX8_post_93 rfl (by decide) (fun hc => absurd hc (by decide)) (fun _ => ?_)
  refine aw_aload_n (npc := 97) rfl dX8_post_96 rfl ?_
  refine aw_get (npc := 100) dX8_post_97 rfl kf_X8_9 F3.1 rfl ?_
  refine aw_bipush (npc := 102) (v := 8) (by decide) dX8_post_100 rfl ?_
  refine aw_iload_n (npc := 103) rfl dX8_post_102 rfl ?_
  refine aw_iaddV (npc := 104) (v := 11) dX8_post_103 rfl (by decide) ?_
  refine aw_aload_n (npc := 105) rfl dX8_post_104 rfl ?_
  refine aw_get (npc := 108) dX8_post_105 rfl kf_X8_9 F3.1 rfl ?_
  refine aw_bipush (npc := 110) (v := 8) (by decide) dX8_post_108 rfl ?_
  refine aw_iload_n (npc := 111) rfl dX8_post_110 rfl ?_
  refine aw_iaddV (npc := 112) (v := 11) dX8_post_111 rfl (by decide) ?_
  refine aw_iald (npc := 113) (x := (upd (upd (upd N 8 (wn ((N 8) + ((a 73) 0)) 0 9)) 9 (wn ((N 9) + ((a 73) 1)) 0 9)) 10 (wn ((N 10) + ((a 73) 2)) 0 9)) 11) (j := 11) dX8_post_112 rfl F3.2.1 ⟨by decide, by decide⟩ (tl_at (by omega)) ?_
  refine aw_top (y := N 11) ((((pk_un (by omega))).trans (pk_un (by omega))).trans (pk_un (by omega))) ?_
  refine aw_aload_n (npc := 114) rfl dX8_post_113 rfl ?_
  refine aw_get (npc := 117) dX8_post_114 rfl kf_X8_23 F3.1 rfl ?_
  refine aw_iload_n (npc := 118) rfl dX8_post_117 rfl ?_
  refine aw_iald (npc := 119) (x := (a 73) 3) (j := 3) dX8_post_118 rfl F3.2.2.2.2.1 ⟨by decide, by decide⟩ (tl_at (by omega)) ?_
  refine aw_iadd (npc := 120) dX8_post_119 rfl ?_
  refine aw_iconst (npc := 121) (v := 0) (by decide) dX8_post_120 rfl ?_
  refine aw_bipush (npc := 123) (v := 9) (by decide) dX8_post_121 rfl ?_
  refine aw_callS (npc := 126) (N := mX8_within) (mc := 0) (ms := 0) (A := [.int ((N 11) + ((a 73) 3)), .int 0, .int 9]) (S := [.int 11, .ref 70]) (L0 := [some (.int ((N 11) + ((a 73) 3))), some (.int 0), some (.int 9)]) dX8_post_123 rfl km_X8_within kk_X8_108 rfl ⟨rfl, by decide⟩ rfl (Nat.le_of_ble_eq_true rfl) (Nat.zero_add _) (Nat.zero_add _) rfl ?_
  refine m_within ?_
  refine aw_re (S' := [.int (wn ((N 11) + ((a 73) 3)) 0 9), .int 11, .ref 70]) rfl ?_
  refine aw_iast (npc := 127) (j := 11) dX8_post_126 rfl F3.2.1 ⟨by decide, by decide⟩ (by rw [tl_len]; omega) rfl ?_
  have F4 := mr_70 (j := 11) (v := wn ((N 11) + ((a 73) 3)) 0 9) F3
  refine aw_iinc (npc := 130) (v := 4) (L' := [some (.ref 69), some (.int 4)]) dX8_post_127 rfl rfl (by decide) (by decide) rfl rfl ?_
  refine aw_goto (npc := 91) dX8_post_130 (by decide) ?_
  refine aw_iload_n (npc := 92) rfl dX8_post_91 rfl ?_
  refine aw_iconst (npc := 93) (v := 4) (by decide) dX8_post_92 rfl ?_
  refine aw_icmp_ge (npc := 96) (tgt := 133) dX8_post_93 rfl (by decide) (fun _ => ?_) (fun hc => absurd (by decide) hc)
  refine aw_aload_n (npc := 134) rfl dX8_post_133 rfl ?_
  refine aw_get (npc := 137) dX8_post_134 rfl kf_X8_9 F4.1 rfl ?_
  refine aw_iconst (npc := 138) (v := 3) (by decide) dX8_post_137 rfl ?_
  refine aw_aload_n (npc := 139) rfl dX8_post_138 rfl ?_
  refine aw_get (npc := 142) dX8_post_139 rfl kf_X8_9 F4.1 rfl ?_
  refine aw_iconst (npc := 143) (v := 3) (by decide) dX8_post_142 rfl ?_
  refine aw_iald (npc := 144) (x := (upd (upd (upd (upd N 8 (wn ((N 8) + ((a 73) 0)) 0 9)) 9 (wn ((N 9) + ((a 73) 1)) 0 9)) 10 (wn ((N 10) + ((a 73) 2)) 0 9)) 11 (wn ((N 11) + ((a 73) 3)) 0 9)) 3) (j := 3) dX8_post_143 rfl F4.2.1 ⟨by decide, by decide⟩ (tl_at (by omega)) ?_
  refine aw_top (y := N 3) (((((pk_un (by omega))).trans (pk_un (by omega))).trans (pk_un (by omega))).trans (pk_un (by omega))) ?_
  refine aw_aload_n (npc := 145) rfl dX8_post_144 rfl ?_
  refine aw_get (npc := 148) dX8_post_145 rfl kf_X8_146 F4.1 rfl ?_
  refine aw_iadd (npc := 149) dX8_post_148 rfl ?_
  refine aw_iconst (npc := 150) (v := 0) (by decide) dX8_post_149 rfl ?_
  refine aw_bipush (npc := 152) (v := 99) (by decide) dX8_post_150 rfl ?_
  refine aw_callS (npc := 155) (N := mX8_within) (mc := 0) (ms := 0) (A := [.int ((N 3) + (o 6)), .int 0, .int 99]) (S := [.int 3, .ref 70]) (L0 := [some (.int ((N 3) + (o 6))), some (.int 0), some (.int 99)]) dX8_post_152 rfl km_X8_within kk_X8_108 rfl ⟨rfl, by decide⟩ rfl (Nat.le_of_ble_eq_true rfl) (Nat.zero_add _) (Nat.zero_add _) rfl ?_
  refine m_within ?_
  refine aw_re (S' := [.int (wn ((N 3) + (o 6)) 0 99), .int 3, .ref 70]) rfl ?_
  refine aw_iast (npc := 156) (j := 3) dX8_post_155 rfl F4.2.1 ⟨by decide, by decide⟩ (by rw [tl_len]; omega) rfl ?_
  have F5 := mr_70 (j := 3) (v := wn ((N 3) + (o 6)) 0 99) F4
  refine aw_vret rfl dX8_post_156 ?_
  exact hq _ F5 (am_fbU (by omega) (am_fbU (by omega) (am_fbU (by omega) (am_fbU (by omega) (am_fbU (by omega) am_fb0)))))
set_option maxHeartbeats 4000000 in
set_option maxRecDepth 100000 in
theorem m_post {X : List Int32} {d rc rs n : Nat} {Q : am_Q} {o N : Nat → Int32} {a : Nat → Nat → Int32} {h : am_H} {c fr : Nat} (F : MR o N a h) (H : MI N c fr) (hq : ∀ o9 N9 a9 h9, mPo c fr (o 4) (a 73) N N9 → MR o9 N9 a9 h9 → ol6 o9 o → al3 a9 a → am_fb 69 92 h9 h → Q none n h9) : AW X mX8_post (d + 7) rc rs 0 [some (.ref 69), none] [] n h Q := by
  refine aw_aload_n (npc := 1) rfl dX8_post_0 rfl ?_
  refine aw_get (npc := 4) dX8_post_1 rfl kf_X8_9 F.1 rfl ?_
  refine aw_iconst (npc := 5) (v := 2) (by decide) dX8_post_4 rfl ?_
  refine aw_dup2 (npc := 6) rfl rfl dX8_post_5 rfl ?_
  refine aw_iald (npc := 7) (x := N 2) (j := 2) dX8_post_6 rfl F.2.1 ⟨by decide, by decide⟩ (tl_at (by omega)) ?_
  refine aw_iconst (npc := 8) (v := 1) (by decide) dX8_post_7 rfl ?_
  refine aw_iadd (npc := 9) dX8_post_8 rfl ?_
  refine aw_iast (npc := 10) (j := 2) dX8_post_9 rfl F.2.1 ⟨by decide, by decide⟩ (by rw [tl_len]; omega) rfl ?_
  have F1 := mr_70 (j := 2) (v := (N 2) + 1) F
  refine aw_aload_n (npc := 11) rfl dX8_post_10 rfl ?_
  refine aw_callV (npc := 14) (N := mX8_isPeace) (b := 69) (mc := 0) (ms := 0) (A := []) (S := []) (L0 := [some (.ref 69)]) dX8_post_11 rfl km_X8_isPeace kk_X8_149 F1.1 ⟨by decide, rfl⟩ rfl ⟨rfl, by decide⟩ rfl (Nat.le_of_ble_eq_true rfl) (Nat.zero_add _) (Nat.zero_add _) rfl ?_
  refine m_peace F1 (fun hp9 => ?_) (fun hp9 => ?_)
  · refine aw_re (S' := [.int 1]) rfl ?_
    refine aw_if_ne (npc := 17) (tgt := 32) dX8_post_14 rfl (by decide) (fun _ => ?_) (fun hc => absurd hc (by decide))
    refine aw_vret rfl dX8_post_32 ?_
    exact hq _ _ _ _ (Or.inl ⟨Or.inl hp9, rfl⟩) F1 (fun _ _ => rfl) (fun _ _ _ _ => rfl) (am_fbU (by omega) am_fb0)
  · refine aw_re (S' := [.int 0]) rfl ?_
    refine aw_if_ne (npc := 17) (tgt := 32) dX8_post_14 rfl (by decide) (fun hc => absurd (by decide) hc) (fun _ => ?_)
    refine aw_aload_n (npc := 18) rfl dX8_post_17 rfl ?_
    refine aw_get (npc := 21) dX8_post_18 rfl kf_X8_9 F1.1 rfl ?_
    refine aw_iconst (npc := 22) (v := 3) (by decide) dX8_post_21 rfl ?_
    refine aw_iald (npc := 23) (x := (upd N 2 ((N 2) + 1)) 3) (j := 3) dX8_post_22 rfl F1.2.1 ⟨by decide, by decide⟩ (tl_at (by omega)) ?_
    refine aw_top (y := N 3) ((pk_un (by omega))) ?_
    refine aw_aload_n (npc := 24) rfl dX8_post_23 rfl ?_
    refine aw_get (npc := 27) dX8_post_24 rfl kf_X8_9 F1.1 rfl ?_
    refine aw_iconst (npc := 28) (v := 4) (by decide) dX8_post_27 rfl ?_
    refine aw_iald (npc := 29) (x := (upd N 2 ((N 2) + 1)) 4) (j := 4) dX8_post_28 rfl F1.2.1 ⟨by decide, by decide⟩ (tl_at (by omega)) ?_
    refine aw_top (y := N 4) ((pk_un (by omega))) ?_
    refine aw_icmp_lt (npc := 32) (tgt := 33) dX8_post_29 rfl (by decide) (fun hc2 => ?_) (fun hc2 => ?_)
    · refine aw_iconst (npc := 34) (v := 0) (by decide) dX8_post_33 rfl ?_
      refine aw_istore_n (npc := 35) (L' := [some (.ref 69), some (.int 0)]) dX8_post_34 rfl (by decide) rfl rfl ?_
      refine aw_iload_n (npc := 36) rfl dX8_post_35 rfl ?_
      refine aw_iconst (npc := 37) (v := 4) (by decide) dX8_post_36 rfl ?_
      refine aw_icmp_ge (npc := 40) (tgt := 53) dX8_post_37 rfl (by decide) (fun hc => absurd hc (by decide)) (fun _ => ?_)
      refine aw_aload_n (npc := 41) rfl dX8_post_40 rfl ?_
      refine aw_get (npc := 44) dX8_post_41 rfl kf_X8_23 F1.1 rfl ?_
      refine aw_iload_n (npc := 45) rfl dX8_post_44 rfl ?_
      refine aw_iconst (npc := 46) (v := 0) (by decide) dX8_post_45 rfl ?_
      refine aw_iast (npc := 47) (j := 0) dX8_post_46 rfl F1.2.2.2.2.1 ⟨by decide, by decide⟩ (by rw [tl_len]; omega) rfl ?_
      have F3 := mr_73 (j := 0) (v := 0) F1
      refine aw_iinc (npc := 50) (v := 1) (L' := [some (.ref 69), some (.int 1)]) dX8_post_47 rfl rfl (by decide) (by decide) rfl rfl ?_
      refine aw_goto (npc := 35) dX8_post_50 (by decide) ?_
      refine aw_iload_n (npc := 36) rfl dX8_post_35 rfl ?_
      refine aw_iconst (npc := 37) (v := 4) (by decide) dX8_post_36 rfl ?_
      refine aw_icmp_ge (npc := 40) (tgt := 53) dX8_post_37 rfl (by decide) (fun hc => absurd hc (by decide)) (fun _ => ?_)
      refine aw_aload_n (npc := 41) rfl dX8_post_40 rfl ?_
      refine aw_get (npc := 44) dX8_post_41 rfl kf_X8_23 F3.1 rfl ?_
      refine aw_iload_n (npc := 45) rfl dX8_post_44 rfl ?_
      refine aw_iconst (npc := 46) (v := 0) (by decide) dX8_post_45 rfl ?_
      refine aw_iast (npc := 47) (j := 1) dX8_post_46 rfl F3.2.2.2.2.1 ⟨by decide, by decide⟩ (by rw [tl_len]; omega) rfl ?_
      have F4 := mr_73 (j := 1) (v := 0) F3
      refine aw_iinc (npc := 50) (v := 2) (L' := [some (.ref 69), some (.int 2)]) dX8_post_47 rfl rfl (by decide) (by decide) rfl rfl ?_
      refine aw_goto (npc := 35) dX8_post_50 (by decide) ?_
      refine aw_iload_n (npc := 36) rfl dX8_post_35 rfl ?_
      refine aw_iconst (npc := 37) (v := 4) (by decide) dX8_post_36 rfl ?_
      refine aw_icmp_ge (npc := 40) (tgt := 53) dX8_post_37 rfl (by decide) (fun hc => absurd hc (by decide)) (fun _ => ?_)
      refine aw_aload_n (npc := 41) rfl dX8_post_40 rfl ?_
      refine aw_get (npc := 44) dX8_post_41 rfl kf_X8_23 F4.1 rfl ?_
      refine aw_iload_n (npc := 45) rfl dX8_post_44 rfl ?_
      refine aw_iconst (npc := 46) (v := 0) (by decide) dX8_post_45 rfl ?_
      refine aw_iast (npc := 47) (j := 2) dX8_post_46 rfl F4.2.2.2.2.1 ⟨by decide, by decide⟩ (by rw [tl_len]; omega) rfl ?_
      have F5 := mr_73 (j := 2) (v := 0) F4
      refine aw_iinc (npc := 50) (v := 3) (L' := [some (.ref 69), some (.int 3)]) dX8_post_47 rfl rfl (by decide) (by decide) rfl rfl ?_
      refine aw_goto (npc := 35) dX8_post_50 (by decide) ?_
      refine aw_iload_n (npc := 36) rfl dX8_post_35 rfl ?_
      refine aw_iconst (npc := 37) (v := 4) (by decide) dX8_post_36 rfl ?_
      refine aw_icmp_ge (npc := 40) (tgt := 53) dX8_post_37 rfl (by decide) (fun hc => absurd hc (by decide)) (fun _ => ?_)
      refine aw_aload_n (npc := 41) rfl dX8_post_40 rfl ?_
      refine aw_get (npc := 44) dX8_post_41 rfl kf_X8_23 F5.1 rfl ?_
      refine aw_iload_n (npc := 45) rfl dX8_post_44 rfl ?_
      refine aw_iconst (npc := 46) (v := 0) (by decide) dX8_post_45 rfl ?_
      refine aw_iast (npc := 47) (j := 3) dX8_post_46 rfl F5.2.2.2.2.1 ⟨by decide, by decide⟩ (by rw [tl_len]; omega) rfl ?_
      have F6 := mr_73 (j := 3) (v := 0) F5
      refine aw_iinc (npc := 50) (v := 4) (L' := [some (.ref 69), some (.int 4)]) dX8_post_47 rfl rfl (by decide) (by decide) rfl rfl ?_
      refine aw_goto (npc := 35) dX8_post_50 (by decide) ?_
      refine aw_iload_n (npc := 36) rfl dX8_post_35 rfl ?_
      refine aw_iconst (npc := 37) (v := 4) (by decide) dX8_post_36 rfl ?_
      refine aw_icmp_ge (npc := 40) (tgt := 53) dX8_post_37 rfl (by decide) (fun _ => ?_) (fun hc => absurd (by decide) hc)
      refine aw_aload_n (npc := 54) rfl dX8_post_53 rfl ?_
      refine aw_iconst (npc := 55) (v := 0) (by decide) dX8_post_54 rfl ?_
      refine aw_put (npc := 58) dX8_post_55 rfl kf_X8_146 F6.1 (Nat.le_of_ble_eq_true rfl) (am_ok_int _) rfl ?_
      have F7 := mr_o6 (v := 0) F6
      refine aw_iconst (npc := 59) (v := 0) (by decide) dX8_post_58 rfl ?_
      refine aw_istore_n (npc := 60) (L' := [some (.ref 69), some (.int 0)]) dX8_post_59 rfl (by decide) rfl rfl ?_
      refine aw_locs (L' := [some (.ref 69), some (.int (nI 0))]) rfl ?_
      refine m_letL (c := c) (fr := fr) H.2.2.1 fr 0 (by omega) _ _ _ _ F7 (mi_p H) (fun o9 N9 a9 h9 r9 M9 ol9 al9 fb9 => ?_)
      refine m_tail M9 (fun h8 M8 fb8 => ?_)
      exact hq _ _ _ _ (Or.inr ⟨hp9, hc2, _, r9, rfl⟩) M8 (fun k hk => (ol9 k hk).trans (pk_un hk)) (fun k x y z => (al9 k x y z).trans ((((aup_n x).trans (aup_n x)).trans (aup_n x)).trans (aup_n x))) (am_fbT fb8 (am_fbT fb9 (am_fbU (by omega) (am_fbU (by omega) (am_fbU (by omega) (am_fbU (by omega) (am_fbU (by omega) (am_fbU (by omega) am_fb0))))))))
    · refine aw_vret rfl dX8_post_32 ?_
      exact hq _ _ _ _ (Or.inl ⟨Or.inr hc2, rfl⟩) F1 (fun _ _ => rfl) (fun _ _ _ _ => rfl) (am_fbU (by omega) am_fb0)
