def cpN (N : Nat → Int32) (c : Nat) (cs : List Int32) (i : Nat) : Nat → Int32 := fun k => if 90 + 96 * c ≤ k ∧ k < 90 + 96 * c + i then cs.getD (k - (90 + 96 * c)) 0 else N k
theorem cpN_0 {N : Nat → Int32} {c : Nat} {cs : List Int32} : cpN N c cs 0 = N := by
  funext k
  exact if_neg (by omega)
theorem cpN_s {N : Nat → Int32} {c i : Nat} {cs : List Int32} : upd (cpN N c cs i) (90 + 96 * c + i) (cs.getD i 0) = cpN N c cs (i + 1) := by
  funext k
  by_cases e : k = 90 + 96 * c + i
  · subst e
    rw [pk_us]
    unfold cpN
    rw [if_pos ⟨by omega, by omega⟩, show 90 + 96 * c + i - (90 + 96 * c) = i by omega]
  · rw [pk_un e]
    unfold cpN
    by_cases q : 90 + 96 * c ≤ k ∧ k < 90 + 96 * c + i
    · rw [if_pos q, if_pos ⟨q.1, by omega⟩]
    · rw [if_neg q, if_neg (by omega)]
def txN (N : Nat → Int32) (c j : Nat) (cs : List Int32) (at_ : Nat) : Nat → Int32 := upd (cpN (upd (upd N (62 + 2 * c) (nI (1000 * j + cs.length))) (63 + 2 * c) (nI at_)) c cs cs.length) 7 (nI (c + 1))
def oX (o9 o : Nat → Int32) : Prop := ∀ k, (k < 9 ∨ 15 < k) → k ≠ 19 → k ≠ 20 → k ≠ 22 → o9 k = o k
def FAILm (Q : am_Q) (n : Nat) (o N : Nat → Int32) (a : Nat → Nat → Int32) (h : am_H) (v : Int32) : Prop := ∀ o9 a9 h9, MR o9 N a9 h9 → o9 9 = 0 → oX o9 o → aE a9 a → am_fp (fun k => k < 69 ∨ 92 ≤ k) h9 h → Q (some (.int v)) n h9
def SUCCm (Q : am_Q) (n : Nat) (o N : Nat → Int32) (a : Nat → Nat → Int32) (h : am_H) (c j : Nat) (cs : List Int32) (at_ : Nat) : Prop := ∀ o9 a9 h9, MR o9 (txN N c j cs at_) a9 h9 → o9 9 = 0 → oX o9 o → aE a9 a → am_fp (fun k => k < 69 ∨ 92 ≤ k) h9 h → Q (some (.int (nI c))) n h9
set_option maxHeartbeats 4000000 in
set_option maxRecDepth 100000 in
theorem m_txL {X : List Int32} {d rc rs n : Nat} {Q : am_Q} {L : Nat} {N : Nat → Int32} {a : Nat → Nat → Int32} {o : Nat → Int32} {c : Nat} {cs : List Int32} {v1 : Int32} (hc : c < 14) (hl : cs.length ≤ 96) (m19 : o 19 = nI cs.length) (mc : ∀ j, j < cs.length → a 78 j = cs.getD j 0) : ∀ (m i : Nat), i + m = cs.length → ∀ (h : am_H), MR o (cpN N c cs i) a h → (∀ h9, MR o (cpN N c cs cs.length) a h9 → am_fp (fun k => k < 69 ∨ 92 ≤ k) h9 h → AW X mX8_text (d + 5) rc rs 151 [some (.ref 69), some (.int v1), some (.int (nI c)), some (.int (nI cs.length))] [] n h9 Q) → AW X mX8_text (d + 5) rc rs 117 [some (.ref 69), some (.int v1), some (.int (nI c)), some (.int (nI i))] [] n h Q := by
  intro m
  induction m with
  | zero =>
    intro i hi h F hq
    have hiw : i = cs.length := by omega
    rw [hiw] at F ⊢
    refine aw_iload_n (npc := 118) rfl dX8_text_117 rfl ?_
    refine aw_aload_n (npc := 119) rfl dX8_text_118 rfl ?_
    refine aw_get (npc := 122) dX8_text_119 rfl kf_X8_228 F.1 rfl ?_
    refine aw_top (y := nI cs.length) (m19) ?_
    refine aw_icmp_ge (npc := 125) (tgt := 151) dX8_text_122 rfl (by decide) (fun _ => ?_) (fun hc => absurd (nI_le (a := cs.length) (b := cs.length) (by omega) (by omega)) hc)
    exact hq _ F am_fp0
  | succ m ih =>
    intro i hi h F hq
    refine aw_iload_n (npc := 118) rfl dX8_text_117 rfl ?_
    refine aw_aload_n (npc := 119) rfl dX8_text_118 rfl ?_
    refine aw_get (npc := 122) dX8_text_119 rfl kf_X8_228 F.1 rfl ?_
    refine aw_top (y := nI cs.length) (m19) ?_
    refine aw_icmp_ge (npc := 125) (tgt := 151) dX8_text_122 rfl (by decide) (fun hc => absurd hc (nI_ge (a := i) (b := cs.length) (by omega) (by omega))) (fun _ => ?_)
    refine aw_aload_n (npc := 126) rfl dX8_text_125 rfl ?_
    refine aw_get (npc := 129) dX8_text_126 rfl kf_X8_9 F.1 rfl ?_
    refine aw_bipush (npc := 131) (v := 90) (by decide) dX8_text_129 rfl ?_
    refine aw_bipush (npc := 133) (v := 96) (by decide) dX8_text_131 rfl ?_
    refine aw_iload_n (npc := 134) rfl dX8_text_133 rfl ?_
    refine aw_imulV (npc := 135) (v := nI (96 * c)) dX8_text_134 rfl (pk_mul 96 _) ?_
    refine aw_iaddV (npc := 136) (v := nI (90 + (96 * c))) dX8_text_135 rfl (nI_add 90 _) ?_
    refine aw_iload_n (npc := 137) rfl dX8_text_136 rfl ?_
    refine aw_iaddV (npc := 138) (v := nI ((90 + (96 * c)) + i)) dX8_text_137 rfl (nI_add _ _) ?_
    refine aw_aload_n (npc := 139) rfl dX8_text_138 rfl ?_
    refine aw_get (npc := 142) dX8_text_139 rfl kf_X8_39 F.1 rfl ?_
    refine aw_iload_n (npc := 143) rfl dX8_text_142 rfl ?_
    refine aw_iald (npc := 144) (x := (a 78) i) (j := i) dX8_text_143 rfl F.2.2.2.2.2.2.2.2.2.1 (am_ix_nI (by omega)) (tl_at (by omega)) ?_
    refine aw_top (y := cs.getD i 0) (mc i (by omega)) ?_
    refine aw_iast (npc := 145) (j := ((90 + (96 * c)) + i)) dX8_text_144 rfl F.2.1 (am_ix_nI (by omega)) (by rw [tl_len]; omega) rfl ?_
    have F2 := mr_70 (j := ((90 + (96 * c)) + i)) (v := cs.getD i 0) F
    refine aw_iinc (npc := 148) (v := nI (i + 1)) (L' := [some (.ref 69), some (.int v1), some (.int (nI c)), some (.int (nI (i + 1)))]) dX8_text_145 rfl rfl (nI_1 _) (by decide) rfl rfl ?_
    refine aw_goto (npc := 117) dX8_text_148 (by decide) ?_
    have hN := F2
    rw [cpN_s] at hN
    exact ih (i + 1) (by omega) _ hN (fun h9 M9 f9 => hq h9 M9 (am_fpT f9 (am_fpU (show ¬ (70 < 69 ∨ 92 ≤ 70) by omega) am_fp0)))
set_option maxHeartbeats 4000000 in
set_option maxRecDepth 100000 in
theorem m_text {X : List Int32} {d rc rs n : Nat} {Q : am_Q} {L : Nat} {N : Nat → Int32} {a : Nat → Nat → Int32} {o : Nat → Int32} {h : am_H} (F : MR o N a h) (h9 : o 9 = nI L) (hL : L ≤ 96) {c : Nat} {R0 R1 R2 : RT9} (hc : N 7 = nI c) (hc14 : c ≤ 14) (kN : ((nx L (a 75) 0 false).1 = 1 → ¬ kz0 (a 75) (nx L (a 75) 0 false).2.1 (nx L (a 75) 0 false).2.2 ∧ ¬ kz1 (a 75) (nx L (a 75) 0 false).2.1 (nx L (a 75) 0 false).2.2 ∧ ¬ kz2 (a 75) (nx L (a 75) 0 false).2.1 (nx L (a 75) 0 false).2.2) → FAILm Q n o N a h (-100 - nI (nx L (a 75) 0 false).2.1)) (t0 : (nx L (a 75) 0 false).1 = 1 → kz0 (a 75) (nx L (a 75) 0 false).2.1 (nx L (a 75) 0 false).2.2 → TE L (a 75) (nI 0) true 0 (adv L (a 75) (nx L (a 75) 0 false), [], [], 0, upd (a 80) 0 0) R0) (hl0 : (nx L (a 75) 0 false).1 = 1 → kz0 (a 75) (nx L (a 75) 0 false).2.1 (nx L (a 75) 0 false).2.2 → ∀ cs at_, R0.1 = some (cs, at_) → 1 ≤ cs.length ∧ cs.length ≤ 96 ∧ at_ ≤ 96) (kf0 : (nx L (a 75) 0 false).1 = 1 → kz0 (a 75) (nx L (a 75) 0 false).2.1 (nx L (a 75) 0 false).2.2 → R0.1 = none → FAILm Q n o N a h (-100 - nI R0.2)) (kb0 : (nx L (a 75) 0 false).1 = 1 → kz0 (a 75) (nx L (a 75) 0 false).2.1 (nx L (a 75) 0 false).2.2 → ∀ cs at_, R0.1 = some (cs, at_) → c = 14 → FAILm Q n o N a h (-1000000003)) (ks0 : (nx L (a 75) 0 false).1 = 1 → kz0 (a 75) (nx L (a 75) 0 false).2.1 (nx L (a 75) 0 false).2.2 → ∀ cs at_, R0.1 = some (cs, at_) → c < 14 → SUCCm Q n o N a h c 0 cs at_) (t1 : (nx L (a 75) 0 false).1 = 1 → ¬ kz0 (a 75) (nx L (a 75) 0 false).2.1 (nx L (a 75) 0 false).2.2 → kz1 (a 75) (nx L (a 75) 0 false).2.1 (nx L (a 75) 0 false).2.2 → TE L (a 75) (nI 1) true 0 (adv L (a 75) (nx L (a 75) 0 false), [], [], 0, upd (a 80) 0 0) R1) (hl1 : (nx L (a 75) 0 false).1 = 1 → ¬ kz0 (a 75) (nx L (a 75) 0 false).2.1 (nx L (a 75) 0 false).2.2 → kz1 (a 75) (nx L (a 75) 0 false).2.1 (nx L (a 75) 0 false).2.2 → ∀ cs at_, R1.1 = some (cs, at_) → 1 ≤ cs.length ∧ cs.length ≤ 96 ∧ at_ ≤ 96) (kf1 : (nx L (a 75) 0 false).1 = 1 → ¬ kz0 (a 75) (nx L (a 75) 0 false).2.1 (nx L (a 75) 0 false).2.2 → kz1 (a 75) (nx L (a 75) 0 false).2.1 (nx L (a 75) 0 false).2.2 → R1.1 = none → FAILm Q n o N a h (-100 - nI R1.2)) (kb1 : (nx L (a 75) 0 false).1 = 1 → ¬ kz0 (a 75) (nx L (a 75) 0 false).2.1 (nx L (a 75) 0 false).2.2 → kz1 (a 75) (nx L (a 75) 0 false).2.1 (nx L (a 75) 0 false).2.2 → ∀ cs at_, R1.1 = some (cs, at_) → c = 14 → FAILm Q n o N a h (-1000000003)) (ks1 : (nx L (a 75) 0 false).1 = 1 → ¬ kz0 (a 75) (nx L (a 75) 0 false).2.1 (nx L (a 75) 0 false).2.2 → kz1 (a 75) (nx L (a 75) 0 false).2.1 (nx L (a 75) 0 false).2.2 → ∀ cs at_, R1.1 = some (cs, at_) → c < 14 → SUCCm Q n o N a h c 1 cs at_) (t2 : (nx L (a 75) 0 false).1 = 1 → ¬ kz0 (a 75) (nx L (a 75) 0 false).2.1 (nx L (a 75) 0 false).2.2 → ¬ kz1 (a 75) (nx L (a 75) 0 false).2.1 (nx L (a 75) 0 false).2.2 → kz2 (a 75) (nx L (a 75) 0 false).2.1 (nx L (a 75) 0 false).2.2 → TE L (a 75) (nI 2) true 0 (adv L (a 75) (nx L (a 75) 0 false), [], [], 0, upd (a 80) 0 0) R2) (hl2 : (nx L (a 75) 0 false).1 = 1 → ¬ kz0 (a 75) (nx L (a 75) 0 false).2.1 (nx L (a 75) 0 false).2.2 → ¬ kz1 (a 75) (nx L (a 75) 0 false).2.1 (nx L (a 75) 0 false).2.2 → kz2 (a 75) (nx L (a 75) 0 false).2.1 (nx L (a 75) 0 false).2.2 → ∀ cs at_, R2.1 = some (cs, at_) → 1 ≤ cs.length ∧ cs.length ≤ 96 ∧ at_ ≤ 96) (kf2 : (nx L (a 75) 0 false).1 = 1 → ¬ kz0 (a 75) (nx L (a 75) 0 false).2.1 (nx L (a 75) 0 false).2.2 → ¬ kz1 (a 75) (nx L (a 75) 0 false).2.1 (nx L (a 75) 0 false).2.2 → kz2 (a 75) (nx L (a 75) 0 false).2.1 (nx L (a 75) 0 false).2.2 → R2.1 = none → FAILm Q n o N a h (-100 - nI R2.2)) (kb2 : (nx L (a 75) 0 false).1 = 1 → ¬ kz0 (a 75) (nx L (a 75) 0 false).2.1 (nx L (a 75) 0 false).2.2 → ¬ kz1 (a 75) (nx L (a 75) 0 false).2.1 (nx L (a 75) 0 false).2.2 → kz2 (a 75) (nx L (a 75) 0 false).2.1 (nx L (a 75) 0 false).2.2 → ∀ cs at_, R2.1 = some (cs, at_) → c = 14 → FAILm Q n o N a h (-1000000003)) (ks2 : (nx L (a 75) 0 false).1 = 1 → ¬ kz0 (a 75) (nx L (a 75) 0 false).2.1 (nx L (a 75) 0 false).2.2 → ¬ kz1 (a 75) (nx L (a 75) 0 false).2.1 (nx L (a 75) 0 false).2.2 → kz2 (a 75) (nx L (a 75) 0 false).2.1 (nx L (a 75) 0 false).2.2 → ∀ cs at_, R2.1 = some (cs, at_) → c < 14 → SUCCm Q n o N a h c 2 cs at_) : AW X mX8_text (d + 6) rc rs 0 [some (.ref 69), none, none, none] [] n h Q := by
  refine aw_aload_n (npc := 1) rfl dX8_text_0 rfl ?_
  refine aw_iconst (npc := 2) (v := 0) (by decide) dX8_text_1 rfl ?_
  refine aw_put (npc := 5) dX8_text_2 rfl kf_X8_195 F.1 (Nat.le_of_ble_eq_true rfl) (am_ok_int _) rfl ?_
  have F1 := mr_o10 (v := 0) F
  refine aw_aload_n (npc := 6) rfl dX8_text_5 rfl ?_
  refine aw_iconst (npc := 7) (v := -1) (by decide) dX8_text_6 rfl ?_
  refine aw_put (npc := 10) dX8_text_7 rfl kf_X8_201 F1.1 (Nat.le_of_ble_eq_true rfl) (am_ok_int _) rfl ?_
  have F2 := mr_o14 (v := (-1)) F1
  refine aw_aload_n (npc := 11) rfl dX8_text_10 rfl ?_
  refine aw_callV (npc := 14) (N := mX8_go) (b := 69) (mc := 0) (ms := 0) (A := []) (S := []) (L0 := [some (.ref 69), none]) dX8_text_11 rfl km_X8_go kk_X8_219 F2.1 ⟨by decide, rfl⟩ rfl ⟨rfl, by decide⟩ rfl (Nat.le_of_ble_eq_true rfl) (Nat.zero_add _) (Nat.zero_add _) rfl ?_
  refine m_adv (L := L) (i := 0) (w := false) F2 ((pk_un (by decide)).trans ((pk_un (by decide)).trans h9)) hL ((pk_un (by decide)).trans pk_us) (Nat.zero_le _) (fun s _ hs => ⟨fun z => absurd (by have y := pk_us.symm.trans z; rw [← y]; decide) (nI_pos (n := s) (by omega)), fun z => by cases z.1⟩) (fun o1 h1 F1 vk1 gk1 f1 => ?_)
  have wk0 : WFK L (a 75) (nx L (a 75) 0 false) := (nx_wf (Nat.zero_le _)).1
  have g1 : ∀ k, (k < 10 ∨ 14 < k) → o1 k = o k := fun k hk => (gk1 k (by omega) (by omega) (by omega) (by omega) (by omega)).trans ((pk_un (by omega)).trans (pk_un (by omega)))
  have we0 := wk0.1
  have wf0 := wk0.2.1
  refine aw_aload_n (npc := 15) rfl dX8_text_14 rfl ?_
  refine aw_callV (npc := 18) (N := mX8_takesKey) (b := 69) (mc := 0) (ms := 0) (A := []) (S := []) (L0 := [some (.ref 69), none, none, none, none]) dX8_text_15 rfl km_X8_takesKey kk_X8_249 F1.1 ⟨by decide, rfl⟩ rfl ⟨rfl, by decide⟩ rfl (Nat.le_of_ble_eq_true rfl) (Nat.zero_add _) (Nat.zero_add _) rfl ?_
  refine m_key F1 ((g1 9 (by omega)).trans h9) hL vk1 wk0 (fun hK hz0 o2 h2 F2 vk2 e15 ok2 f2 => ?_) (fun hK hz0 hz1 o2 h2 F2 vk2 e15 ok2 f2 => ?_) (fun hK hz0 hz1 hz2 o2 h2 F2 vk2 e15 ok2 f2 => ?_) (fun hz => ?_)
  · refine aw_re (S' := [.int 1]) rfl ?_
    refine aw_if_eq (npc := 21) (tgt := 32) dX8_text_18 rfl (by decide) (fun hc => absurd hc (by decide)) (fun _ => ?_)
    refine aw_aload_n (npc := 22) rfl dX8_text_21 rfl ?_
    refine aw_callV (npc := 25) (N := mX8_takesE) (b := 69) (mc := 0) (ms := 0) (A := []) (S := []) (L0 := [some (.ref 69), none, none, none, none]) dX8_text_22 rfl km_X8_takesE kk_X8_252 F2.1 ⟨by decide, rfl⟩ rfl ⟨rfl, by decide⟩ rfl (Nat.le_of_ble_eq_true rfl) (Nat.zero_add _) (Nat.zero_add _) rfl ?_
    have wk2 := adv_wf wk0
    have g2 : ∀ k, (k < 10 ∨ 15 < k) → o2 k = o k := fun k hk => (ok2 k hk).trans (g1 k (by omega))
    refine m_takesE (R := R0) F2 ((g2 9 (by omega)).trans h9) hL vk2 wk2.1 (by have z := hz0.1; have y := wk2.2; omega) (e15 ▸ t0 hK hz0) (fun h3 σ3 H3 e3 r3 f3 => ?_) (fun r3 h3 σ3 H3 e3 f3 => ?_)
    · obtain ⟨o3, a3, F3, ⟨vk3, m19, m20, m22, mc, mw, mq⟩, ho3, ha3⟩ := H3
      have g3 : oX o3 o := fun k a1 a2 a3 a4 => (ho3 k (by omega) a2 a3 a4).trans (g2 k (by omega))
      have g15 : o3 15 = nI 0 := (ho3 15 (by omega) (by decide) (by decide) (by decide)).trans e15
      have hlen := hl0 hK hz0 _ _ r3
      refine aw_re (S' := [.int 1]) rfl ?_
      refine aw_if_eq (npc := 28) (tgt := 32) dX8_text_25 rfl (by decide) (fun hc => absurd hc (by decide)) (fun _ => ?_)
      refine aw_iconst (npc := 29) (v := 1) (by decide) dX8_text_28 rfl ?_
      refine aw_goto (npc := 33) dX8_text_29 (by decide) ?_
      refine aw_istore_n (npc := 34) (L' := [some (.ref 69), some (.int 1), none, none]) dX8_text_33 rfl (by decide) rfl rfl ?_
      refine aw_aload_n (npc := 35) rfl dX8_text_34 rfl ?_
      refine aw_iconst (npc := 36) (v := 0) (by decide) dX8_text_35 rfl ?_
      refine aw_put (npc := 39) dX8_text_36 rfl kf_X8_192 F3.1 (Nat.le_of_ble_eq_true rfl) (am_ok_int _) rfl ?_
      have F3 := mr_o9 (v := 0) F3
      refine aw_iload_n (npc := 40) rfl dX8_text_39 rfl ?_
      refine aw_if_ne (npc := 43) (tgt := 51) dX8_text_40 rfl (by decide) (fun _ => ?_) (fun hc => absurd hc (by decide))
      refine aw_aload_n (npc := 52) rfl dX8_text_51 rfl ?_
      refine aw_get (npc := 55) dX8_text_52 rfl kf_X8_9 F3.1 rfl ?_
      refine aw_bipush (npc := 57) (v := 7) (by decide) dX8_text_55 rfl ?_
      refine aw_iald (npc := 58) (x := N 7) (j := 7) dX8_text_57 rfl F3.2.1 ⟨by decide, by decide⟩ (tl_at (by omega)) ?_
      refine aw_top (y := nI c) (hc) ?_
      refine aw_bipush (npc := 60) (v := 14) (by decide) dX8_text_58 rfl ?_
      refine aw_icmp_ne (npc := 63) (tgt := 66) dX8_text_60 rfl (by decide) (fun hc4 => ?_) (fun hc4 => ?_)
      · have hc4N : ¬ c = 14 := fun z9q => hc4 ((nI_eq (a := c) (b := 14) (by omega) (by omega)).mpr z9q)
        refine aw_aload_n (npc := 67) rfl dX8_text_66 rfl ?_
        refine aw_get (npc := 70) dX8_text_67 rfl kf_X8_9 F3.1 rfl ?_
        refine aw_bipush (npc := 72) (v := 7) (by decide) dX8_text_70 rfl ?_
        refine aw_iald (npc := 73) (x := N 7) (j := 7) dX8_text_72 rfl F3.2.1 ⟨by decide, by decide⟩ (tl_at (by omega)) ?_
        refine aw_top (y := nI c) (hc) ?_
        refine aw_istore_n (npc := 74) (L' := [some (.ref 69), some (.int 1), some (.int (nI c)), none]) dX8_text_73 rfl (by decide) rfl rfl ?_
        refine aw_aload_n (npc := 75) rfl dX8_text_74 rfl ?_
        refine aw_get (npc := 78) dX8_text_75 rfl kf_X8_9 F3.1 rfl ?_
        refine aw_bipush (npc := 80) (v := 62) (by decide) dX8_text_78 rfl ?_
        refine aw_iconst (npc := 81) (v := 2) (by decide) dX8_text_80 rfl ?_
        refine aw_iload_n (npc := 82) rfl dX8_text_81 rfl ?_
        refine aw_imulV (npc := 83) (v := nI (2 * c)) dX8_text_82 rfl (pk_mul 2 _) ?_
        refine aw_iaddV (npc := 84) (v := nI (62 + (2 * c))) dX8_text_83 rfl (nI_add 62 _) ?_
        refine aw_sipush (npc := 87) (v := 1000) (by decide) dX8_text_84 rfl ?_
        refine aw_aload_n (npc := 88) rfl dX8_text_87 rfl ?_
        refine aw_get (npc := 91) dX8_text_88 rfl kf_X8_216 F3.1 rfl ?_
        refine aw_top (y := o3 15) ((pk_un (by omega))) ?_
        refine aw_top (y := nI 0) (g15) ?_
        refine aw_imulV (npc := 92) (v := nI (1000 * 0)) dX8_text_91 rfl (pk_mul 1000 _) ?_
        refine aw_aload_n (npc := 93) rfl dX8_text_92 rfl ?_
        refine aw_get (npc := 96) dX8_text_93 rfl kf_X8_228 F3.1 rfl ?_
        refine aw_top (y := o3 19) ((pk_un (by omega))) ?_
        refine aw_top (y := nI σ3.2.1.length) (m19) ?_
        refine aw_iaddV (npc := 97) (v := nI ((1000 * 0) + σ3.2.1.length)) dX8_text_96 rfl (nI_add _ _) ?_
        refine aw_iast (npc := 98) (j := (62 + (2 * c))) dX8_text_97 rfl F3.2.1 (am_ix_nI (by omega)) (by rw [tl_len]; omega) rfl ?_
        have F5 := mr_70 (j := (62 + (2 * c))) (v := nI ((1000 * 0) + σ3.2.1.length)) F3
        refine aw_aload_n (npc := 99) rfl dX8_text_98 rfl ?_
        refine aw_get (npc := 102) dX8_text_99 rfl kf_X8_9 F5.1 rfl ?_
        refine aw_bipush (npc := 104) (v := 62) (by decide) dX8_text_102 rfl ?_
        refine aw_iconst (npc := 105) (v := 2) (by decide) dX8_text_104 rfl ?_
        refine aw_iload_n (npc := 106) rfl dX8_text_105 rfl ?_
        refine aw_imulV (npc := 107) (v := nI (2 * c)) dX8_text_106 rfl (pk_mul 2 _) ?_
        refine aw_iaddV (npc := 108) (v := nI (62 + (2 * c))) dX8_text_107 rfl (nI_add 62 _) ?_
        refine aw_iconst (npc := 109) (v := 1) (by decide) dX8_text_108 rfl ?_
        refine aw_iaddV (npc := 110) (v := nI (63 + (2 * c))) dX8_text_109 rfl ((nI_add _ 1).trans (congrArg nI (by omega))) ?_
        refine aw_aload_n (npc := 111) rfl dX8_text_110 rfl ?_
        refine aw_get (npc := 114) dX8_text_111 rfl kf_X8_234 F5.1 rfl ?_
        refine aw_top (y := o3 20) ((pk_un (by omega))) ?_
        refine aw_top (y := nI σ3.2.2.2.1) (m20) ?_
        refine aw_iast (npc := 115) (j := (63 + (2 * c))) dX8_text_114 rfl F5.2.1 (am_ix_nI (by omega)) (by rw [tl_len]; omega) rfl ?_
        have F6 := mr_70 (j := (63 + (2 * c))) (v := nI σ3.2.2.2.1) F5
        refine aw_iconst (npc := 116) (v := 0) (by decide) dX8_text_115 rfl ?_
        refine aw_istore_n (npc := 117) (L' := [some (.ref 69), some (.int 1), some (.int (nI c)), some (.int 0)]) dX8_text_116 rfl (by decide) rfl rfl ?_
        have hc14b : c < 14 := by omega
        have F5 := F6
        rw [← cpN_0 (N := upd (upd N (62 + (2 * c)) (nI ((1000 * 0) + σ3.2.1.length))) (63 + (2 * c)) (nI σ3.2.2.2.1)) (c := c) (cs := σ3.2.1)] at F5
        refine m_txL (L := L) (c := c) (cs := σ3.2.1) hc14b hlen.2.1 ((pk_un (by decide)).trans m19) mc σ3.2.1.length 0 (by omega) _ F5 (fun h5 F6 f5 => ?_)
        have h57 : cpN (upd (upd N (62 + (2 * c)) (nI ((1000 * 0) + σ3.2.1.length))) (63 + (2 * c)) (nI σ3.2.2.2.1)) c σ3.2.1 σ3.2.1.length 7 = nI c := (if_neg (by omega)).trans ((pk_un (by omega)).trans ((pk_un (by omega)).trans hc))
        refine aw_aload_n (npc := 152) rfl dX8_text_151 rfl ?_
        refine aw_get (npc := 155) dX8_text_152 rfl kf_X8_9 F6.1 rfl ?_
        refine aw_bipush (npc := 157) (v := 7) (by decide) dX8_text_155 rfl ?_
        refine aw_dup2 (npc := 158) rfl rfl dX8_text_157 rfl ?_
        refine aw_iald (npc := 159) (x := (cpN (upd (upd N (62 + (2 * c)) (nI ((1000 * 0) + σ3.2.1.length))) (63 + (2 * c)) (nI σ3.2.2.2.1)) c σ3.2.1 σ3.2.1.length) 7) (j := 7) dX8_text_158 rfl F6.2.1 ⟨by decide, by decide⟩ (tl_at (by omega)) ?_
        refine aw_top (y := nI c) (h57) ?_
        refine aw_iconst (npc := 160) (v := 1) (by decide) dX8_text_159 rfl ?_
        refine aw_iaddV (npc := 161) (v := nI (c + 1)) dX8_text_160 rfl (nI_add _ 1) ?_
        refine aw_iast (npc := 162) (j := 7) dX8_text_161 rfl F6.2.1 ⟨by decide, by decide⟩ (by rw [tl_len]; omega) rfl ?_
        have F7 := mr_70 (j := 7) (v := nI (c + 1)) F6
        refine aw_iload_n (npc := 163) rfl dX8_text_162 rfl ?_
        refine aw_iret rfl dX8_text_163 ?_
        exact ks0 hK hz0 _ _ r3 (by omega) _ _ _ F7 pk_us (fun k k1 k2 k3 k4 => (pk_un (by omega)).trans (g3 k k1 k2 k3 k4)) ha3 (am_fpU (show ¬ (70 < 69 ∨ 92 ≤ 70) by omega) (am_fpT f5 (am_fpU (show ¬ (70 < 69 ∨ 92 ≤ 70) by omega) (am_fpU (show ¬ (70 < 69 ∨ 92 ≤ 70) by omega) (am_fpU (show ¬ (69 < 69 ∨ 92 ≤ 69) by omega) (am_fpT f3 (am_fpT f2 (am_fpT f1 (am_fpU (show ¬ (69 < 69 ∨ 92 ≤ 69) by omega) (am_fpU (show ¬ (69 < 69 ∨ 92 ≤ 69) by omega) am_fp0))))))))))
      · have hc4N := (nI_eq (a := c) (b := 14) (by omega) (by omega)).mp hc4
        refine aw_ldc (npc := 65) kc_X8_92 dX8_text_63 rfl ?_
        refine aw_iret rfl dX8_text_65 ?_
        exact kb0 hK hz0 _ _ r3 (by omega) _ _ _ F3 pk_us (fun k k1 k2 k3 k4 => (pk_un (by omega)).trans (g3 k k1 k2 k3 k4)) ha3 (am_fpU (show ¬ (69 < 69 ∨ 92 ≤ 69) by omega) (am_fpT f3 (am_fpT f2 (am_fpT f1 (am_fpU (show ¬ (69 < 69 ∨ 92 ≤ 69) by omega) (am_fpU (show ¬ (69 < 69 ∨ 92 ≤ 69) by omega) am_fp0))))))
    · obtain ⟨o3, a3, F3, ⟨vk3, m19, m20, m22, mc, mw, mq⟩, ho3, ha3⟩ := H3
      have g3 : oX o3 o := fun k a1 a2 a3 a4 => (ho3 k (by omega) a2 a3 a4).trans (g2 k (by omega))
      have g15 : o3 15 = nI 0 := (ho3 15 (by omega) (by decide) (by decide) (by decide)).trans e15
      refine aw_re (S' := [.int 0]) rfl ?_
      refine aw_if_eq (npc := 28) (tgt := 32) dX8_text_25 rfl (by decide) (fun _ => ?_) (fun hc => absurd (by decide) hc)
      refine aw_iconst (npc := 33) (v := 0) (by decide) dX8_text_32 rfl ?_
      refine aw_istore_n (npc := 34) (L' := [some (.ref 69), some (.int 0), none, none]) dX8_text_33 rfl (by decide) rfl rfl ?_
      refine aw_aload_n (npc := 35) rfl dX8_text_34 rfl ?_
      refine aw_iconst (npc := 36) (v := 0) (by decide) dX8_text_35 rfl ?_
      refine aw_put (npc := 39) dX8_text_36 rfl kf_X8_192 F3.1 (Nat.le_of_ble_eq_true rfl) (am_ok_int _) rfl ?_
      have F8 := mr_o9 (v := 0) F3
      refine aw_iload_n (npc := 40) rfl dX8_text_39 rfl ?_
      refine aw_if_ne (npc := 43) (tgt := 51) dX8_text_40 rfl (by decide) (fun hc => absurd (by decide) hc) (fun _ => ?_)
      refine aw_bipush (npc := 45) (v := -100) (by decide) dX8_text_43 rfl ?_
      refine aw_aload_n (npc := 46) rfl dX8_text_45 rfl ?_
      refine aw_get (npc := 49) dX8_text_46 rfl kf_X8_198 F8.1 rfl ?_
      refine aw_top (y := o3 11) ((pk_un (by omega))) ?_
      refine aw_top (y := nI σ3.1.2.1) (vk3.2.1) ?_
      refine aw_isub (npc := 50) dX8_text_49 rfl ?_
      refine aw_iret rfl dX8_text_50 ?_
      exact (e3 ▸ kf0 hK hz0 r3) _ _ _ F8 pk_us (fun k k1 k2 k3 k4 => (pk_un (by omega)).trans (g3 k k1 k2 k3 k4)) ha3 (am_fpU (show ¬ (69 < 69 ∨ 92 ≤ 69) by omega) (am_fpT f3 (am_fpT f2 (am_fpT f1 (am_fpU (show ¬ (69 < 69 ∨ 92 ≤ 69) by omega) (am_fpU (show ¬ (69 < 69 ∨ 92 ≤ 69) by omega) am_fp0))))))
  · refine aw_re (S' := [.int 1]) rfl ?_
    refine aw_if_eq (npc := 21) (tgt := 32) dX8_text_18 rfl (by decide) (fun hc => absurd hc (by decide)) (fun _ => ?_)
    refine aw_aload_n (npc := 22) rfl dX8_text_21 rfl ?_
    refine aw_callV (npc := 25) (N := mX8_takesE) (b := 69) (mc := 0) (ms := 0) (A := []) (S := []) (L0 := [some (.ref 69), none, none, none, none]) dX8_text_22 rfl km_X8_takesE kk_X8_252 F2.1 ⟨by decide, rfl⟩ rfl ⟨rfl, by decide⟩ rfl (Nat.le_of_ble_eq_true rfl) (Nat.zero_add _) (Nat.zero_add _) rfl ?_
    have wk2 := adv_wf wk0
    have g2 : ∀ k, (k < 10 ∨ 15 < k) → o2 k = o k := fun k hk => (ok2 k hk).trans (g1 k (by omega))
    refine m_takesE (R := R1) F2 ((g2 9 (by omega)).trans h9) hL vk2 wk2.1 (by have z := hz1.1; have y := wk2.2; omega) (e15 ▸ t1 hK hz0 hz1) (fun h3 σ3 H3 e3 r3 f3 => ?_) (fun r3 h3 σ3 H3 e3 f3 => ?_)
    · obtain ⟨o3, a3, F3, ⟨vk3, m19, m20, m22, mc, mw, mq⟩, ho3, ha3⟩ := H3
      have g3 : oX o3 o := fun k a1 a2 a3 a4 => (ho3 k (by omega) a2 a3 a4).trans (g2 k (by omega))
      have g15 : o3 15 = nI 1 := (ho3 15 (by omega) (by decide) (by decide) (by decide)).trans e15
      have hlen := hl1 hK hz0 hz1 _ _ r3
      refine aw_re (S' := [.int 1]) rfl ?_
      refine aw_if_eq (npc := 28) (tgt := 32) dX8_text_25 rfl (by decide) (fun hc => absurd hc (by decide)) (fun _ => ?_)
      refine aw_iconst (npc := 29) (v := 1) (by decide) dX8_text_28 rfl ?_
      refine aw_goto (npc := 33) dX8_text_29 (by decide) ?_
      refine aw_istore_n (npc := 34) (L' := [some (.ref 69), some (.int 1), none, none]) dX8_text_33 rfl (by decide) rfl rfl ?_
      refine aw_aload_n (npc := 35) rfl dX8_text_34 rfl ?_
      refine aw_iconst (npc := 36) (v := 0) (by decide) dX8_text_35 rfl ?_
      refine aw_put (npc := 39) dX8_text_36 rfl kf_X8_192 F3.1 (Nat.le_of_ble_eq_true rfl) (am_ok_int _) rfl ?_
      have F9 := mr_o9 (v := 0) F3
      refine aw_iload_n (npc := 40) rfl dX8_text_39 rfl ?_
      refine aw_if_ne (npc := 43) (tgt := 51) dX8_text_40 rfl (by decide) (fun _ => ?_) (fun hc => absurd hc (by decide))
      refine aw_aload_n (npc := 52) rfl dX8_text_51 rfl ?_
      refine aw_get (npc := 55) dX8_text_52 rfl kf_X8_9 F9.1 rfl ?_
      refine aw_bipush (npc := 57) (v := 7) (by decide) dX8_text_55 rfl ?_
      refine aw_iald (npc := 58) (x := N 7) (j := 7) dX8_text_57 rfl F9.2.1 ⟨by decide, by decide⟩ (tl_at (by omega)) ?_
      refine aw_top (y := nI c) (hc) ?_
      refine aw_bipush (npc := 60) (v := 14) (by decide) dX8_text_58 rfl ?_
      refine aw_icmp_ne (npc := 63) (tgt := 66) dX8_text_60 rfl (by decide) (fun hc10 => ?_) (fun hc10 => ?_)
      · have hc10N : ¬ c = 14 := fun z9q => hc10 ((nI_eq (a := c) (b := 14) (by omega) (by omega)).mpr z9q)
        refine aw_aload_n (npc := 67) rfl dX8_text_66 rfl ?_
        refine aw_get (npc := 70) dX8_text_67 rfl kf_X8_9 F9.1 rfl ?_
        refine aw_bipush (npc := 72) (v := 7) (by decide) dX8_text_70 rfl ?_
        refine aw_iald (npc := 73) (x := N 7) (j := 7) dX8_text_72 rfl F9.2.1 ⟨by decide, by decide⟩ (tl_at (by omega)) ?_
        refine aw_top (y := nI c) (hc) ?_
        refine aw_istore_n (npc := 74) (L' := [some (.ref 69), some (.int 1), some (.int (nI c)), none]) dX8_text_73 rfl (by decide) rfl rfl ?_
        refine aw_aload_n (npc := 75) rfl dX8_text_74 rfl ?_
        refine aw_get (npc := 78) dX8_text_75 rfl kf_X8_9 F9.1 rfl ?_
        refine aw_bipush (npc := 80) (v := 62) (by decide) dX8_text_78 rfl ?_
        refine aw_iconst (npc := 81) (v := 2) (by decide) dX8_text_80 rfl ?_
        refine aw_iload_n (npc := 82) rfl dX8_text_81 rfl ?_
        refine aw_imulV (npc := 83) (v := nI (2 * c)) dX8_text_82 rfl (pk_mul 2 _) ?_
        refine aw_iaddV (npc := 84) (v := nI (62 + (2 * c))) dX8_text_83 rfl (nI_add 62 _) ?_
        refine aw_sipush (npc := 87) (v := 1000) (by decide) dX8_text_84 rfl ?_
        refine aw_aload_n (npc := 88) rfl dX8_text_87 rfl ?_
        refine aw_get (npc := 91) dX8_text_88 rfl kf_X8_216 F9.1 rfl ?_
        refine aw_top (y := o3 15) ((pk_un (by omega))) ?_
        refine aw_top (y := nI 1) (g15) ?_
        refine aw_imulV (npc := 92) (v := nI (1000 * 1)) dX8_text_91 rfl (pk_mul 1000 _) ?_
        refine aw_aload_n (npc := 93) rfl dX8_text_92 rfl ?_
        refine aw_get (npc := 96) dX8_text_93 rfl kf_X8_228 F9.1 rfl ?_
        refine aw_top (y := o3 19) ((pk_un (by omega))) ?_
        refine aw_top (y := nI σ3.2.1.length) (m19) ?_
        refine aw_iaddV (npc := 97) (v := nI ((1000 * 1) + σ3.2.1.length)) dX8_text_96 rfl (nI_add _ _) ?_
        refine aw_iast (npc := 98) (j := (62 + (2 * c))) dX8_text_97 rfl F9.2.1 (am_ix_nI (by omega)) (by rw [tl_len]; omega) rfl ?_
        have F11 := mr_70 (j := (62 + (2 * c))) (v := nI ((1000 * 1) + σ3.2.1.length)) F9
        refine aw_aload_n (npc := 99) rfl dX8_text_98 rfl ?_
        refine aw_get (npc := 102) dX8_text_99 rfl kf_X8_9 F11.1 rfl ?_
        refine aw_bipush (npc := 104) (v := 62) (by decide) dX8_text_102 rfl ?_
        refine aw_iconst (npc := 105) (v := 2) (by decide) dX8_text_104 rfl ?_
        refine aw_iload_n (npc := 106) rfl dX8_text_105 rfl ?_
        refine aw_imulV (npc := 107) (v := nI (2 * c)) dX8_text_106 rfl (pk_mul 2 _) ?_
        refine aw_iaddV (npc := 108) (v := nI (62 + (2 * c))) dX8_text_107 rfl (nI_add 62 _) ?_
        refine aw_iconst (npc := 109) (v := 1) (by decide) dX8_text_108 rfl ?_
        refine aw_iaddV (npc := 110) (v := nI (63 + (2 * c))) dX8_text_109 rfl ((nI_add _ 1).trans (congrArg nI (by omega))) ?_
        refine aw_aload_n (npc := 111) rfl dX8_text_110 rfl ?_
        refine aw_get (npc := 114) dX8_text_111 rfl kf_X8_234 F11.1 rfl ?_
        refine aw_top (y := o3 20) ((pk_un (by omega))) ?_
        refine aw_top (y := nI σ3.2.2.2.1) (m20) ?_
        refine aw_iast (npc := 115) (j := (63 + (2 * c))) dX8_text_114 rfl F11.2.1 (am_ix_nI (by omega)) (by rw [tl_len]; omega) rfl ?_
        have F12 := mr_70 (j := (63 + (2 * c))) (v := nI σ3.2.2.2.1) F11
        refine aw_iconst (npc := 116) (v := 0) (by decide) dX8_text_115 rfl ?_
        refine aw_istore_n (npc := 117) (L' := [some (.ref 69), some (.int 1), some (.int (nI c)), some (.int 0)]) dX8_text_116 rfl (by decide) rfl rfl ?_
        have hc14b : c < 14 := by omega
        have F5 := F12
        rw [← cpN_0 (N := upd (upd N (62 + (2 * c)) (nI ((1000 * 1) + σ3.2.1.length))) (63 + (2 * c)) (nI σ3.2.2.2.1)) (c := c) (cs := σ3.2.1)] at F5
        refine m_txL (L := L) (c := c) (cs := σ3.2.1) hc14b hlen.2.1 ((pk_un (by decide)).trans m19) mc σ3.2.1.length 0 (by omega) _ F5 (fun h5 F6 f5 => ?_)
        have h57 : cpN (upd (upd N (62 + (2 * c)) (nI ((1000 * 1) + σ3.2.1.length))) (63 + (2 * c)) (nI σ3.2.2.2.1)) c σ3.2.1 σ3.2.1.length 7 = nI c := (if_neg (by omega)).trans ((pk_un (by omega)).trans ((pk_un (by omega)).trans hc))
        refine aw_aload_n (npc := 152) rfl dX8_text_151 rfl ?_
        refine aw_get (npc := 155) dX8_text_152 rfl kf_X8_9 F6.1 rfl ?_
        refine aw_bipush (npc := 157) (v := 7) (by decide) dX8_text_155 rfl ?_
        refine aw_dup2 (npc := 158) rfl rfl dX8_text_157 rfl ?_
        refine aw_iald (npc := 159) (x := (cpN (upd (upd N (62 + (2 * c)) (nI ((1000 * 1) + σ3.2.1.length))) (63 + (2 * c)) (nI σ3.2.2.2.1)) c σ3.2.1 σ3.2.1.length) 7) (j := 7) dX8_text_158 rfl F6.2.1 ⟨by decide, by decide⟩ (tl_at (by omega)) ?_
        refine aw_top (y := nI c) (h57) ?_
        refine aw_iconst (npc := 160) (v := 1) (by decide) dX8_text_159 rfl ?_
        refine aw_iaddV (npc := 161) (v := nI (c + 1)) dX8_text_160 rfl (nI_add _ 1) ?_
        refine aw_iast (npc := 162) (j := 7) dX8_text_161 rfl F6.2.1 ⟨by decide, by decide⟩ (by rw [tl_len]; omega) rfl ?_
        have F13 := mr_70 (j := 7) (v := nI (c + 1)) F6
        refine aw_iload_n (npc := 163) rfl dX8_text_162 rfl ?_
        refine aw_iret rfl dX8_text_163 ?_
        exact ks1 hK hz0 hz1 _ _ r3 (by omega) _ _ _ F13 pk_us (fun k k1 k2 k3 k4 => (pk_un (by omega)).trans (g3 k k1 k2 k3 k4)) ha3 (am_fpU (show ¬ (70 < 69 ∨ 92 ≤ 70) by omega) (am_fpT f5 (am_fpU (show ¬ (70 < 69 ∨ 92 ≤ 70) by omega) (am_fpU (show ¬ (70 < 69 ∨ 92 ≤ 70) by omega) (am_fpU (show ¬ (69 < 69 ∨ 92 ≤ 69) by omega) (am_fpT f3 (am_fpT f2 (am_fpT f1 (am_fpU (show ¬ (69 < 69 ∨ 92 ≤ 69) by omega) (am_fpU (show ¬ (69 < 69 ∨ 92 ≤ 69) by omega) am_fp0))))))))))
      · have hc10N := (nI_eq (a := c) (b := 14) (by omega) (by omega)).mp hc10
        refine aw_ldc (npc := 65) kc_X8_92 dX8_text_63 rfl ?_
        refine aw_iret rfl dX8_text_65 ?_
        exact kb1 hK hz0 hz1 _ _ r3 (by omega) _ _ _ F9 pk_us (fun k k1 k2 k3 k4 => (pk_un (by omega)).trans (g3 k k1 k2 k3 k4)) ha3 (am_fpU (show ¬ (69 < 69 ∨ 92 ≤ 69) by omega) (am_fpT f3 (am_fpT f2 (am_fpT f1 (am_fpU (show ¬ (69 < 69 ∨ 92 ≤ 69) by omega) (am_fpU (show ¬ (69 < 69 ∨ 92 ≤ 69) by omega) am_fp0))))))
    · obtain ⟨o3, a3, F3, ⟨vk3, m19, m20, m22, mc, mw, mq⟩, ho3, ha3⟩ := H3
      have g3 : oX o3 o := fun k a1 a2 a3 a4 => (ho3 k (by omega) a2 a3 a4).trans (g2 k (by omega))
      have g15 : o3 15 = nI 1 := (ho3 15 (by omega) (by decide) (by decide) (by decide)).trans e15
      refine aw_re (S' := [.int 0]) rfl ?_
      refine aw_if_eq (npc := 28) (tgt := 32) dX8_text_25 rfl (by decide) (fun _ => ?_) (fun hc => absurd (by decide) hc)
      refine aw_iconst (npc := 33) (v := 0) (by decide) dX8_text_32 rfl ?_
      refine aw_istore_n (npc := 34) (L' := [some (.ref 69), some (.int 0), none, none]) dX8_text_33 rfl (by decide) rfl rfl ?_
      refine aw_aload_n (npc := 35) rfl dX8_text_34 rfl ?_
      refine aw_iconst (npc := 36) (v := 0) (by decide) dX8_text_35 rfl ?_
      refine aw_put (npc := 39) dX8_text_36 rfl kf_X8_192 F3.1 (Nat.le_of_ble_eq_true rfl) (am_ok_int _) rfl ?_
      have F14 := mr_o9 (v := 0) F3
      refine aw_iload_n (npc := 40) rfl dX8_text_39 rfl ?_
      refine aw_if_ne (npc := 43) (tgt := 51) dX8_text_40 rfl (by decide) (fun hc => absurd (by decide) hc) (fun _ => ?_)
      refine aw_bipush (npc := 45) (v := -100) (by decide) dX8_text_43 rfl ?_
      refine aw_aload_n (npc := 46) rfl dX8_text_45 rfl ?_
      refine aw_get (npc := 49) dX8_text_46 rfl kf_X8_198 F14.1 rfl ?_
      refine aw_top (y := o3 11) ((pk_un (by omega))) ?_
      refine aw_top (y := nI σ3.1.2.1) (vk3.2.1) ?_
      refine aw_isub (npc := 50) dX8_text_49 rfl ?_
      refine aw_iret rfl dX8_text_50 ?_
      exact (e3 ▸ kf1 hK hz0 hz1 r3) _ _ _ F14 pk_us (fun k k1 k2 k3 k4 => (pk_un (by omega)).trans (g3 k k1 k2 k3 k4)) ha3 (am_fpU (show ¬ (69 < 69 ∨ 92 ≤ 69) by omega) (am_fpT f3 (am_fpT f2 (am_fpT f1 (am_fpU (show ¬ (69 < 69 ∨ 92 ≤ 69) by omega) (am_fpU (show ¬ (69 < 69 ∨ 92 ≤ 69) by omega) am_fp0))))))
  · refine aw_re (S' := [.int 1]) rfl ?_
    refine aw_if_eq (npc := 21) (tgt := 32) dX8_text_18 rfl (by decide) (fun hc => absurd hc (by decide)) (fun _ => ?_)
    refine aw_aload_n (npc := 22) rfl dX8_text_21 rfl ?_
    refine aw_callV (npc := 25) (N := mX8_takesE) (b := 69) (mc := 0) (ms := 0) (A := []) (S := []) (L0 := [some (.ref 69), none, none, none, none]) dX8_text_22 rfl km_X8_takesE kk_X8_252 F2.1 ⟨by decide, rfl⟩ rfl ⟨rfl, by decide⟩ rfl (Nat.le_of_ble_eq_true rfl) (Nat.zero_add _) (Nat.zero_add _) rfl ?_
    have wk2 := adv_wf wk0
    have g2 : ∀ k, (k < 10 ∨ 15 < k) → o2 k = o k := fun k hk => (ok2 k hk).trans (g1 k (by omega))
    refine m_takesE (R := R2) F2 ((g2 9 (by omega)).trans h9) hL vk2 wk2.1 (by have z := hz2.1; have y := wk2.2; omega) (e15 ▸ t2 hK hz0 hz1 hz2) (fun h3 σ3 H3 e3 r3 f3 => ?_) (fun r3 h3 σ3 H3 e3 f3 => ?_)
    · obtain ⟨o3, a3, F3, ⟨vk3, m19, m20, m22, mc, mw, mq⟩, ho3, ha3⟩ := H3
      have g3 : oX o3 o := fun k a1 a2 a3 a4 => (ho3 k (by omega) a2 a3 a4).trans (g2 k (by omega))
      have g15 : o3 15 = nI 2 := (ho3 15 (by omega) (by decide) (by decide) (by decide)).trans e15
      have hlen := hl2 hK hz0 hz1 hz2 _ _ r3
      refine aw_re (S' := [.int 1]) rfl ?_
      refine aw_if_eq (npc := 28) (tgt := 32) dX8_text_25 rfl (by decide) (fun hc => absurd hc (by decide)) (fun _ => ?_)
      refine aw_iconst (npc := 29) (v := 1) (by decide) dX8_text_28 rfl ?_
      refine aw_goto (npc := 33) dX8_text_29 (by decide) ?_
      refine aw_istore_n (npc := 34) (L' := [some (.ref 69), some (.int 1), none, none]) dX8_text_33 rfl (by decide) rfl rfl ?_
      refine aw_aload_n (npc := 35) rfl dX8_text_34 rfl ?_
      refine aw_iconst (npc := 36) (v := 0) (by decide) dX8_text_35 rfl ?_
      refine aw_put (npc := 39) dX8_text_36 rfl kf_X8_192 F3.1 (Nat.le_of_ble_eq_true rfl) (am_ok_int _) rfl ?_
      have F15 := mr_o9 (v := 0) F3
      refine aw_iload_n (npc := 40) rfl dX8_text_39 rfl ?_
      refine aw_if_ne (npc := 43) (tgt := 51) dX8_text_40 rfl (by decide) (fun _ => ?_) (fun hc => absurd hc (by decide))
      refine aw_aload_n (npc := 52) rfl dX8_text_51 rfl ?_
      refine aw_get (npc := 55) dX8_text_52 rfl kf_X8_9 F15.1 rfl ?_
      refine aw_bipush (npc := 57) (v := 7) (by decide) dX8_text_55 rfl ?_
      refine aw_iald (npc := 58) (x := N 7) (j := 7) dX8_text_57 rfl F15.2.1 ⟨by decide, by decide⟩ (tl_at (by omega)) ?_
      refine aw_top (y := nI c) (hc) ?_
      refine aw_bipush (npc := 60) (v := 14) (by decide) dX8_text_58 rfl ?_
      refine aw_icmp_ne (npc := 63) (tgt := 66) dX8_text_60 rfl (by decide) (fun hc16 => ?_) (fun hc16 => ?_)
      · have hc16N : ¬ c = 14 := fun z9q => hc16 ((nI_eq (a := c) (b := 14) (by omega) (by omega)).mpr z9q)
        refine aw_aload_n (npc := 67) rfl dX8_text_66 rfl ?_
        refine aw_get (npc := 70) dX8_text_67 rfl kf_X8_9 F15.1 rfl ?_
        refine aw_bipush (npc := 72) (v := 7) (by decide) dX8_text_70 rfl ?_
        refine aw_iald (npc := 73) (x := N 7) (j := 7) dX8_text_72 rfl F15.2.1 ⟨by decide, by decide⟩ (tl_at (by omega)) ?_
        refine aw_top (y := nI c) (hc) ?_
        refine aw_istore_n (npc := 74) (L' := [some (.ref 69), some (.int 1), some (.int (nI c)), none]) dX8_text_73 rfl (by decide) rfl rfl ?_
        refine aw_aload_n (npc := 75) rfl dX8_text_74 rfl ?_
        refine aw_get (npc := 78) dX8_text_75 rfl kf_X8_9 F15.1 rfl ?_
        refine aw_bipush (npc := 80) (v := 62) (by decide) dX8_text_78 rfl ?_
        refine aw_iconst (npc := 81) (v := 2) (by decide) dX8_text_80 rfl ?_
        refine aw_iload_n (npc := 82) rfl dX8_text_81 rfl ?_
        refine aw_imulV (npc := 83) (v := nI (2 * c)) dX8_text_82 rfl (pk_mul 2 _) ?_
        refine aw_iaddV (npc := 84) (v := nI (62 + (2 * c))) dX8_text_83 rfl (nI_add 62 _) ?_
        refine aw_sipush (npc := 87) (v := 1000) (by decide) dX8_text_84 rfl ?_
        refine aw_aload_n (npc := 88) rfl dX8_text_87 rfl ?_
        refine aw_get (npc := 91) dX8_text_88 rfl kf_X8_216 F15.1 rfl ?_
        refine aw_top (y := o3 15) ((pk_un (by omega))) ?_
        refine aw_top (y := nI 2) (g15) ?_
        refine aw_imulV (npc := 92) (v := nI (1000 * 2)) dX8_text_91 rfl (pk_mul 1000 _) ?_
        refine aw_aload_n (npc := 93) rfl dX8_text_92 rfl ?_
        refine aw_get (npc := 96) dX8_text_93 rfl kf_X8_228 F15.1 rfl ?_
        refine aw_top (y := o3 19) ((pk_un (by omega))) ?_
        refine aw_top (y := nI σ3.2.1.length) (m19) ?_
        refine aw_iaddV (npc := 97) (v := nI ((1000 * 2) + σ3.2.1.length)) dX8_text_96 rfl (nI_add _ _) ?_
        refine aw_iast (npc := 98) (j := (62 + (2 * c))) dX8_text_97 rfl F15.2.1 (am_ix_nI (by omega)) (by rw [tl_len]; omega) rfl ?_
        have F17 := mr_70 (j := (62 + (2 * c))) (v := nI ((1000 * 2) + σ3.2.1.length)) F15
        refine aw_aload_n (npc := 99) rfl dX8_text_98 rfl ?_
        refine aw_get (npc := 102) dX8_text_99 rfl kf_X8_9 F17.1 rfl ?_
        refine aw_bipush (npc := 104) (v := 62) (by decide) dX8_text_102 rfl ?_
        refine aw_iconst (npc := 105) (v := 2) (by decide) dX8_text_104 rfl ?_
        refine aw_iload_n (npc := 106) rfl dX8_text_105 rfl ?_
        refine aw_imulV (npc := 107) (v := nI (2 * c)) dX8_text_106 rfl (pk_mul 2 _) ?_
        refine aw_iaddV (npc := 108) (v := nI (62 + (2 * c))) dX8_text_107 rfl (nI_add 62 _) ?_
        refine aw_iconst (npc := 109) (v := 1) (by decide) dX8_text_108 rfl ?_
        refine aw_iaddV (npc := 110) (v := nI (63 + (2 * c))) dX8_text_109 rfl ((nI_add _ 1).trans (congrArg nI (by omega))) ?_
        refine aw_aload_n (npc := 111) rfl dX8_text_110 rfl ?_
        refine aw_get (npc := 114) dX8_text_111 rfl kf_X8_234 F17.1 rfl ?_
        refine aw_top (y := o3 20) ((pk_un (by omega))) ?_
        refine aw_top (y := nI σ3.2.2.2.1) (m20) ?_
        refine aw_iast (npc := 115) (j := (63 + (2 * c))) dX8_text_114 rfl F17.2.1 (am_ix_nI (by omega)) (by rw [tl_len]; omega) rfl ?_
        have F18 := mr_70 (j := (63 + (2 * c))) (v := nI σ3.2.2.2.1) F17
        refine aw_iconst (npc := 116) (v := 0) (by decide) dX8_text_115 rfl ?_
        refine aw_istore_n (npc := 117) (L' := [some (.ref 69), some (.int 1), some (.int (nI c)), some (.int 0)]) dX8_text_116 rfl (by decide) rfl rfl ?_
        have hc14b : c < 14 := by omega
        have F5 := F18
        rw [← cpN_0 (N := upd (upd N (62 + (2 * c)) (nI ((1000 * 2) + σ3.2.1.length))) (63 + (2 * c)) (nI σ3.2.2.2.1)) (c := c) (cs := σ3.2.1)] at F5
        refine m_txL (L := L) (c := c) (cs := σ3.2.1) hc14b hlen.2.1 ((pk_un (by decide)).trans m19) mc σ3.2.1.length 0 (by omega) _ F5 (fun h5 F6 f5 => ?_)
        have h57 : cpN (upd (upd N (62 + (2 * c)) (nI ((1000 * 2) + σ3.2.1.length))) (63 + (2 * c)) (nI σ3.2.2.2.1)) c σ3.2.1 σ3.2.1.length 7 = nI c := (if_neg (by omega)).trans ((pk_un (by omega)).trans ((pk_un (by omega)).trans hc))
        refine aw_aload_n (npc := 152) rfl dX8_text_151 rfl ?_
        refine aw_get (npc := 155) dX8_text_152 rfl kf_X8_9 F6.1 rfl ?_
        refine aw_bipush (npc := 157) (v := 7) (by decide) dX8_text_155 rfl ?_
        refine aw_dup2 (npc := 158) rfl rfl dX8_text_157 rfl ?_
        refine aw_iald (npc := 159) (x := (cpN (upd (upd N (62 + (2 * c)) (nI ((1000 * 2) + σ3.2.1.length))) (63 + (2 * c)) (nI σ3.2.2.2.1)) c σ3.2.1 σ3.2.1.length) 7) (j := 7) dX8_text_158 rfl F6.2.1 ⟨by decide, by decide⟩ (tl_at (by omega)) ?_
        refine aw_top (y := nI c) (h57) ?_
        refine aw_iconst (npc := 160) (v := 1) (by decide) dX8_text_159 rfl ?_
        refine aw_iaddV (npc := 161) (v := nI (c + 1)) dX8_text_160 rfl (nI_add _ 1) ?_
        refine aw_iast (npc := 162) (j := 7) dX8_text_161 rfl F6.2.1 ⟨by decide, by decide⟩ (by rw [tl_len]; omega) rfl ?_
        have F19 := mr_70 (j := 7) (v := nI (c + 1)) F6
        refine aw_iload_n (npc := 163) rfl dX8_text_162 rfl ?_
        refine aw_iret rfl dX8_text_163 ?_
        exact ks2 hK hz0 hz1 hz2 _ _ r3 (by omega) _ _ _ F19 pk_us (fun k k1 k2 k3 k4 => (pk_un (by omega)).trans (g3 k k1 k2 k3 k4)) ha3 (am_fpU (show ¬ (70 < 69 ∨ 92 ≤ 70) by omega) (am_fpT f5 (am_fpU (show ¬ (70 < 69 ∨ 92 ≤ 70) by omega) (am_fpU (show ¬ (70 < 69 ∨ 92 ≤ 70) by omega) (am_fpU (show ¬ (69 < 69 ∨ 92 ≤ 69) by omega) (am_fpT f3 (am_fpT f2 (am_fpT f1 (am_fpU (show ¬ (69 < 69 ∨ 92 ≤ 69) by omega) (am_fpU (show ¬ (69 < 69 ∨ 92 ≤ 69) by omega) am_fp0))))))))))
      · have hc16N := (nI_eq (a := c) (b := 14) (by omega) (by omega)).mp hc16
        refine aw_ldc (npc := 65) kc_X8_92 dX8_text_63 rfl ?_
        refine aw_iret rfl dX8_text_65 ?_
        exact kb2 hK hz0 hz1 hz2 _ _ r3 (by omega) _ _ _ F15 pk_us (fun k k1 k2 k3 k4 => (pk_un (by omega)).trans (g3 k k1 k2 k3 k4)) ha3 (am_fpU (show ¬ (69 < 69 ∨ 92 ≤ 69) by omega) (am_fpT f3 (am_fpT f2 (am_fpT f1 (am_fpU (show ¬ (69 < 69 ∨ 92 ≤ 69) by omega) (am_fpU (show ¬ (69 < 69 ∨ 92 ≤ 69) by omega) am_fp0))))))
    · obtain ⟨o3, a3, F3, ⟨vk3, m19, m20, m22, mc, mw, mq⟩, ho3, ha3⟩ := H3
      have g3 : oX o3 o := fun k a1 a2 a3 a4 => (ho3 k (by omega) a2 a3 a4).trans (g2 k (by omega))
      have g15 : o3 15 = nI 2 := (ho3 15 (by omega) (by decide) (by decide) (by decide)).trans e15
      refine aw_re (S' := [.int 0]) rfl ?_
      refine aw_if_eq (npc := 28) (tgt := 32) dX8_text_25 rfl (by decide) (fun _ => ?_) (fun hc => absurd (by decide) hc)
      refine aw_iconst (npc := 33) (v := 0) (by decide) dX8_text_32 rfl ?_
      refine aw_istore_n (npc := 34) (L' := [some (.ref 69), some (.int 0), none, none]) dX8_text_33 rfl (by decide) rfl rfl ?_
      refine aw_aload_n (npc := 35) rfl dX8_text_34 rfl ?_
      refine aw_iconst (npc := 36) (v := 0) (by decide) dX8_text_35 rfl ?_
      refine aw_put (npc := 39) dX8_text_36 rfl kf_X8_192 F3.1 (Nat.le_of_ble_eq_true rfl) (am_ok_int _) rfl ?_
      have F20 := mr_o9 (v := 0) F3
      refine aw_iload_n (npc := 40) rfl dX8_text_39 rfl ?_
      refine aw_if_ne (npc := 43) (tgt := 51) dX8_text_40 rfl (by decide) (fun hc => absurd (by decide) hc) (fun _ => ?_)
      refine aw_bipush (npc := 45) (v := -100) (by decide) dX8_text_43 rfl ?_
      refine aw_aload_n (npc := 46) rfl dX8_text_45 rfl ?_
      refine aw_get (npc := 49) dX8_text_46 rfl kf_X8_198 F20.1 rfl ?_
      refine aw_top (y := o3 11) ((pk_un (by omega))) ?_
      refine aw_top (y := nI σ3.1.2.1) (vk3.2.1) ?_
      refine aw_isub (npc := 50) dX8_text_49 rfl ?_
      refine aw_iret rfl dX8_text_50 ?_
      exact (e3 ▸ kf2 hK hz0 hz1 hz2 r3) _ _ _ F20 pk_us (fun k k1 k2 k3 k4 => (pk_un (by omega)).trans (g3 k k1 k2 k3 k4)) ha3 (am_fpU (show ¬ (69 < 69 ∨ 92 ≤ 69) by omega) (am_fpT f3 (am_fpT f2 (am_fpT f1 (am_fpU (show ¬ (69 < 69 ∨ 92 ≤ 69) by omega) (am_fpU (show ¬ (69 < 69 ∨ 92 ≤ 69) by omega) am_fp0))))))
  · refine aw_re (S' := [.int 0]) rfl ?_
    refine aw_if_eq (npc := 21) (tgt := 32) dX8_text_18 rfl (by decide) (fun _ => ?_) (fun hc => absurd (by decide) hc)
    refine aw_iconst (npc := 33) (v := 0) (by decide) dX8_text_32 rfl ?_
    refine aw_istore_n (npc := 34) (L' := [some (.ref 69), some (.int 0), none, none]) dX8_text_33 rfl (by decide) rfl rfl ?_
    refine aw_aload_n (npc := 35) rfl dX8_text_34 rfl ?_
    refine aw_iconst (npc := 36) (v := 0) (by decide) dX8_text_35 rfl ?_
    refine aw_put (npc := 39) dX8_text_36 rfl kf_X8_192 F1.1 (Nat.le_of_ble_eq_true rfl) (am_ok_int _) rfl ?_
    have F21 := mr_o9 (v := 0) F1
    refine aw_iload_n (npc := 40) rfl dX8_text_39 rfl ?_
    refine aw_if_ne (npc := 43) (tgt := 51) dX8_text_40 rfl (by decide) (fun hc => absurd (by decide) hc) (fun _ => ?_)
    refine aw_bipush (npc := 45) (v := -100) (by decide) dX8_text_43 rfl ?_
    refine aw_aload_n (npc := 46) rfl dX8_text_45 rfl ?_
    refine aw_get (npc := 49) dX8_text_46 rfl kf_X8_198 F21.1 rfl ?_
    refine aw_top (y := o1 11) ((pk_un (by omega))) ?_
    refine aw_top (y := nI (nx L (a 75) 0 false).2.1) (vk1.2.1) ?_
    refine aw_isub (npc := 50) dX8_text_49 rfl ?_
    refine aw_iret rfl dX8_text_50 ?_
    exact kN hz _ _ _ F21 pk_us (fun k k1 k2 k3 k4 => (pk_un (by omega)).trans (g1 k (by omega))) (fun _ _ _ _ => rfl) (am_fpU (show ¬ (69 < 69 ∨ 92 ≤ 69) by omega) (am_fpT f1 (am_fpU (show ¬ (69 < 69 ∨ 92 ≤ 69) by omega) (am_fpU (show ¬ (69 < 69 ∨ 92 ≤ 69) by omega) am_fp0))))
