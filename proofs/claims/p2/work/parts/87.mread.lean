def mtk (t : Nat) : Nat := if t = 5 then 4 else t
set_option maxHeartbeats 4000000 in
set_option maxRecDepth 100000 in
theorem m_isLetter {X : List Int32} {d rc rs n : Nat} {Q : am_Q} {L : Nat} {N : Nat → Int32} {a : Nat → Nat → Int32} {o : Nat → Int32} {h : am_H} (F : MR o N a h) (h9 : o 9 = nI L) (hL : L ≤ 96) {i : Nat} (hi : i ≤ L) (k1 : i < L ∧ so (a 75 i) = 1 → Q (some (.int 1)) n h) (k0 : ¬ (i < L ∧ so (a 75 i) = 1) → Q (some (.int 0)) n h) : AW X mX8_isLetter d rc rs 0 [some (.ref 69), some (.int (nI i))] [] n h Q := by
  refine aw_iload_n (npc := 1) rfl dX8_isLetter_0 rfl ?_
  refine aw_aload_n (npc := 2) rfl dX8_isLetter_1 rfl ?_
  refine aw_get (npc := 5) dX8_isLetter_2 rfl kf_X8_192 F.1 rfl ?_
  refine aw_top (y := nI L) (h9) ?_
  refine aw_icmp_ge (npc := 8) (tgt := 34) dX8_isLetter_5 rfl (by decide) (fun hc1 => ?_) (fun hc1 => ?_)
  · have hc1N := (nI_leI (a := L) (b := i) (by omega) (by omega)).mp hc1
    refine aw_iconst (npc := 35) (v := 0) (by decide) dX8_isLetter_34 rfl ?_
    refine aw_zret rfl rfl dX8_isLetter_35 ?_
    exact k0 (fun z => by have z1 := z.1; omega)
  · have hc1N : ¬ L ≤ i := fun z9q => hc1 ((nI_leI (a := L) (b := i) (by omega) (by omega)).mpr z9q)
    refine aw_aload_n (npc := 9) rfl dX8_isLetter_8 rfl ?_
    refine aw_get (npc := 12) dX8_isLetter_9 rfl kf_X8_29 F.1 rfl ?_
    refine aw_iload_n (npc := 13) rfl dX8_isLetter_12 rfl ?_
    refine aw_iald (npc := 14) (x := (a 75) i) (j := i) dX8_isLetter_13 rfl F.2.2.2.2.2.2.1 (am_ix_nI (by omega)) (tl_at (by omega)) ?_
    refine aw_bipush (npc := 16) (v := 97) (by decide) dX8_isLetter_14 rfl ?_
    refine aw_icmp_lt (npc := 19) (tgt := 34) dX8_isLetter_16 rfl (by decide) (fun hc2 => ?_) (fun hc2 => ?_)
    · refine aw_iconst (npc := 35) (v := 0) (by decide) dX8_isLetter_34 rfl ?_
      refine aw_zret rfl rfl dX8_isLetter_35 ?_
      exact k0 (fun z => absurd hc2 (Int32.not_lt.mpr (so_1.mp z.2).1))
    · refine aw_aload_n (npc := 20) rfl dX8_isLetter_19 rfl ?_
      refine aw_get (npc := 23) dX8_isLetter_20 rfl kf_X8_29 F.1 rfl ?_
      refine aw_iload_n (npc := 24) rfl dX8_isLetter_23 rfl ?_
      refine aw_iald (npc := 25) (x := (a 75) i) (j := i) dX8_isLetter_24 rfl F.2.2.2.2.2.2.1 (am_ix_nI (by omega)) (tl_at (by omega)) ?_
      refine aw_bipush (npc := 27) (v := 122) (by decide) dX8_isLetter_25 rfl ?_
      refine aw_icmp_gt (npc := 30) (tgt := 34) dX8_isLetter_27 rfl (by decide) (fun hc3 => ?_) (fun hc3 => ?_)
      · refine aw_iconst (npc := 35) (v := 0) (by decide) dX8_isLetter_34 rfl ?_
        refine aw_zret rfl rfl dX8_isLetter_35 ?_
        exact k0 (fun z => absurd hc3 (Int32.not_lt.mpr (so_1.mp z.2).2))
      · refine aw_iconst (npc := 31) (v := 1) (by decide) dX8_isLetter_30 rfl ?_
        refine aw_goto (npc := 35) dX8_isLetter_31 (by decide) ?_
        refine aw_zret rfl rfl dX8_isLetter_35 ?_
        exact k1 ⟨by omega, so_1.mpr ⟨Int32.not_lt.mp hc2, Int32.not_lt.mp hc3⟩⟩
theorem so_f2 {b : Int32} (h1 : 48 ≤ b) (h2 : b ≤ 57) : so b = 2 := by
  have h3 : ¬ (97 ≤ b ∧ b ≤ 122) := fun q => absurd (Int32.le_trans q.1 h2) (by decide)
  exact (so_2 h3).mpr ⟨h1, h2⟩
set_option maxHeartbeats 4000000 in
set_option maxRecDepth 100000 in
theorem m_isFigure {X : List Int32} {d rc rs n : Nat} {Q : am_Q} {L : Nat} {N : Nat → Int32} {a : Nat → Nat → Int32} {o : Nat → Int32} {h : am_H} (F : MR o N a h) (h9 : o 9 = nI L) (hL : L ≤ 96) {i : Nat} (hi : i ≤ L) (k1 : i < L ∧ so (a 75 i) = 2 → Q (some (.int 1)) n h) (k0 : ¬ (i < L ∧ so (a 75 i) = 2) → Q (some (.int 0)) n h) : AW X mX8_isFigure d rc rs 0 [some (.ref 69), some (.int (nI i))] [] n h Q := by
  refine aw_iload_n (npc := 1) rfl dX8_isFigure_0 rfl ?_
  refine aw_aload_n (npc := 2) rfl dX8_isFigure_1 rfl ?_
  refine aw_get (npc := 5) dX8_isFigure_2 rfl kf_X8_192 F.1 rfl ?_
  refine aw_top (y := nI L) (h9) ?_
  refine aw_icmp_ge (npc := 8) (tgt := 34) dX8_isFigure_5 rfl (by decide) (fun hc1 => ?_) (fun hc1 => ?_)
  · have hc1N := (nI_leI (a := L) (b := i) (by omega) (by omega)).mp hc1
    refine aw_iconst (npc := 35) (v := 0) (by decide) dX8_isFigure_34 rfl ?_
    refine aw_zret rfl rfl dX8_isFigure_35 ?_
    exact k0 (fun z => by have z1 := z.1; omega)
  · have hc1N : ¬ L ≤ i := fun z9q => hc1 ((nI_leI (a := L) (b := i) (by omega) (by omega)).mpr z9q)
    refine aw_aload_n (npc := 9) rfl dX8_isFigure_8 rfl ?_
    refine aw_get (npc := 12) dX8_isFigure_9 rfl kf_X8_29 F.1 rfl ?_
    refine aw_iload_n (npc := 13) rfl dX8_isFigure_12 rfl ?_
    refine aw_iald (npc := 14) (x := (a 75) i) (j := i) dX8_isFigure_13 rfl F.2.2.2.2.2.2.1 (am_ix_nI (by omega)) (tl_at (by omega)) ?_
    refine aw_bipush (npc := 16) (v := 48) (by decide) dX8_isFigure_14 rfl ?_
    refine aw_icmp_lt (npc := 19) (tgt := 34) dX8_isFigure_16 rfl (by decide) (fun hc2 => ?_) (fun hc2 => ?_)
    · refine aw_iconst (npc := 35) (v := 0) (by decide) dX8_isFigure_34 rfl ?_
      refine aw_zret rfl rfl dX8_isFigure_35 ?_
      exact k0 (fun z => absurd hc2 (Int32.not_lt.mpr (so_2d z.2).1))
    · refine aw_aload_n (npc := 20) rfl dX8_isFigure_19 rfl ?_
      refine aw_get (npc := 23) dX8_isFigure_20 rfl kf_X8_29 F.1 rfl ?_
      refine aw_iload_n (npc := 24) rfl dX8_isFigure_23 rfl ?_
      refine aw_iald (npc := 25) (x := (a 75) i) (j := i) dX8_isFigure_24 rfl F.2.2.2.2.2.2.1 (am_ix_nI (by omega)) (tl_at (by omega)) ?_
      refine aw_bipush (npc := 27) (v := 57) (by decide) dX8_isFigure_25 rfl ?_
      refine aw_icmp_gt (npc := 30) (tgt := 34) dX8_isFigure_27 rfl (by decide) (fun hc3 => ?_) (fun hc3 => ?_)
      · refine aw_iconst (npc := 35) (v := 0) (by decide) dX8_isFigure_34 rfl ?_
        refine aw_zret rfl rfl dX8_isFigure_35 ?_
        exact k0 (fun z => absurd hc3 (Int32.not_lt.mpr (so_2d z.2).2))
      · refine aw_iconst (npc := 31) (v := 1) (by decide) dX8_isFigure_30 rfl ?_
        refine aw_goto (npc := 35) dX8_isFigure_31 (by decide) ?_
        refine aw_zret rfl rfl dX8_isFigure_35 ?_
        exact k1 ⟨by omega, so_f2 (Int32.not_lt.mp hc2) (Int32.not_lt.mp hc3)⟩
set_option maxHeartbeats 4000000 in
set_option maxRecDepth 100000 in
theorem m_bl {X : List Int32} {d rc rs n : Nat} {Q : am_Q} {L : Nat} {N : Nat → Int32} {a : Nat → Nat → Int32} (hL : L ≤ 96) {v1 : Option Value} : ∀ (m i : Nat), i + m = L → ∀ (o : Nat → Int32) (h : am_H), MR o N a h → o 9 = nI L → o 10 = nI i → (∀ o9 h9x, o9 10 = nI (sk L (a 75) i) → (∀ k, k ≠ 10 → o9 k = o k) → MR o9 N a h9x → am_fp (fun k => k < 69 ∨ 92 ≤ k) h9x h → AW X mX8_go (d + 2) rc rs 38 [some (.ref 69), v1] [] n h9x Q) → AW X mX8_go (d + 2) rc rs 0 [some (.ref 69), v1] [] n h Q := by
  intro m
  induction m with
  | zero =>
    intro i hi o h F h9 h10 hq
    refine aw_aload_n (npc := 1) rfl dX8_go_0 rfl ?_
    refine aw_get (npc := 4) dX8_go_1 rfl kf_X8_195 F.1 rfl ?_
    refine aw_top (y := nI i) (h10) ?_
    refine aw_aload_n (npc := 5) rfl dX8_go_4 rfl ?_
    refine aw_get (npc := 8) dX8_go_5 rfl kf_X8_192 F.1 rfl ?_
    refine aw_top (y := nI L) (h9) ?_
    refine aw_icmp_ge (npc := 11) (tgt := 38) dX8_go_8 rfl (by decide) (fun _ => ?_) (fun hc => absurd (nI_le (a := L) (b := i) (by omega) (by omega)) hc)
    exact hq o h (h10.trans (congrArg nI (sk_e (Or.inl (by omega))).symm)) (fun _ _ => rfl) F am_fp0
  | succ m ih =>
    intro i hi o h F h9 h10 hq
    refine aw_aload_n (npc := 1) rfl dX8_go_0 rfl ?_
    refine aw_get (npc := 4) dX8_go_1 rfl kf_X8_195 F.1 rfl ?_
    refine aw_top (y := nI i) (h10) ?_
    refine aw_aload_n (npc := 5) rfl dX8_go_4 rfl ?_
    refine aw_get (npc := 8) dX8_go_5 rfl kf_X8_192 F.1 rfl ?_
    refine aw_top (y := nI L) (h9) ?_
    refine aw_icmp_ge (npc := 11) (tgt := 38) dX8_go_8 rfl (by decide) (fun hc => absurd hc (nI_ge (a := i) (b := L) (by omega) (by omega))) (fun _ => ?_)
    refine aw_aload_n (npc := 12) rfl dX8_go_11 rfl ?_
    refine aw_get (npc := 15) dX8_go_12 rfl kf_X8_29 F.1 rfl ?_
    refine aw_aload_n (npc := 16) rfl dX8_go_15 rfl ?_
    refine aw_get (npc := 19) dX8_go_16 rfl kf_X8_195 F.1 rfl ?_
    refine aw_top (y := nI i) (h10) ?_
    refine aw_iald (npc := 20) (x := (a 75) i) (j := i) dX8_go_19 rfl F.2.2.2.2.2.2.1 (am_ix_nI (by omega)) (tl_at (by omega)) ?_
    refine aw_bipush (npc := 22) (v := 32) (by decide) dX8_go_20 rfl ?_
    refine aw_icmp_ne (npc := 25) (tgt := 38) dX8_go_22 rfl (by decide) (fun hc2 => ?_) (fun hc2 => ?_)
    · exact hq o h (h10.trans (congrArg nI (sk_e (Or.inr hc2)).symm)) (fun _ _ => rfl) F am_fp0
    · refine aw_aload_n (npc := 26) rfl dX8_go_25 rfl ?_
      refine aw_dup (npc := 27) rfl dX8_go_26 rfl ?_
      refine aw_get (npc := 30) dX8_go_27 rfl kf_X8_195 F.1 rfl ?_
      refine aw_top (y := nI i) (h10) ?_
      refine aw_iconst (npc := 31) (v := 1) (by decide) dX8_go_30 rfl ?_
      refine aw_iaddV (npc := 32) (v := nI (i + 1)) dX8_go_31 rfl (nI_add _ 1) ?_
      refine aw_put (npc := 35) dX8_go_32 rfl kf_X8_195 F.1 (Nat.le_of_ble_eq_true rfl) (am_ok_int _) rfl ?_
      have F3 := mr_o10 (v := nI (i + 1)) F
      refine aw_goto (npc := 0) dX8_go_35 (by decide) ?_
      refine ih (i + 1) (by omega) _ _ F3 ((pk_un (by decide)).trans h9) pk_us (fun o9 h9x q1 q2 F9 f9 => hq o9 h9x (q1.trans ?_) (fun k hk => (q2 k hk).trans (pk_un hk)) F9 (am_fpT f9 (am_fpU (show ¬ (69 < 69 ∨ 92 ≤ 69) by omega) am_fp0)))
      exact congrArg nI (sk_s (by omega) hc2).symm
set_option maxHeartbeats 4000000 in
set_option maxRecDepth 100000 in
theorem m_wl {X : List Int32} {d rc rs n : Nat} {Q : am_Q} {L : Nat} {N : Nat → Int32} {a : Nat → Nat → Int32} (hL : L ≤ 96) {w1 : Int32} : ∀ (m i : Nat), i + m = L → ∀ (o : Nat → Int32) (h : am_H), MR o N a h → o 9 = nI L → o 10 = nI i → (∀ o9 h9x, o9 10 = nI (rn L (a 75) 1 i) → (∀ k, k ≠ 10 → o9 k = o k) → MR o9 N a h9x → am_fp (fun k => k < 69 ∨ 92 ≤ k) h9x h → AW X mX8_go (d + 2) rc rs 117 [some (.ref 69), some (.int w1)] [] n h9x Q) → AW X mX8_go (d + 2) rc rs 93 [some (.ref 69), some (.int w1)] [] n h Q := by
  intro m
  induction m with
  | zero =>
    intro i hi o h F h9 h10 hq
    refine aw_aload_n (npc := 94) rfl dX8_go_93 rfl ?_
    refine aw_aload_n (npc := 95) rfl dX8_go_94 rfl ?_
    refine aw_get (npc := 98) dX8_go_95 rfl kf_X8_195 F.1 rfl ?_
    refine aw_top (y := nI i) (h10) ?_
    refine aw_callV (npc := 101) (N := mX8_isLetter) (b := 69) (mc := 0) (ms := 0) (A := [.int (nI i)]) (S := []) (L0 := [some (.ref 69), some (.int (nI i))]) dX8_go_98 rfl km_X8_isLetter kk_X8_207 F.1 ⟨by decide, rfl⟩ rfl ⟨rfl, by decide⟩ rfl (Nat.le_of_ble_eq_true rfl) (Nat.zero_add _) (Nat.zero_add _) rfl ?_
    refine m_isLetter (L := L) (i := i) F h9 hL (by omega) (fun hs1 => ?_) (fun hs1 => ?_)
    · exact absurd hs1.1 (by omega)
    · refine aw_re (S' := [.int 0]) rfl ?_
      refine aw_if_eq (npc := 104) (tgt := 117) dX8_go_101 rfl (by decide) (fun _ => ?_) (fun hc => absurd (by decide) hc)
      exact hq o h (h10.trans (congrArg nI (rn_e (L := L) (tp := a 75) (t := 1) (i := i) (by have z := hs1; omega)).symm)) (fun _ _ => rfl) F am_fp0
  | succ m ih =>
    intro i hi o h F h9 h10 hq
    refine aw_aload_n (npc := 94) rfl dX8_go_93 rfl ?_
    refine aw_aload_n (npc := 95) rfl dX8_go_94 rfl ?_
    refine aw_get (npc := 98) dX8_go_95 rfl kf_X8_195 F.1 rfl ?_
    refine aw_top (y := nI i) (h10) ?_
    refine aw_callV (npc := 101) (N := mX8_isLetter) (b := 69) (mc := 0) (ms := 0) (A := [.int (nI i)]) (S := []) (L0 := [some (.ref 69), some (.int (nI i))]) dX8_go_98 rfl km_X8_isLetter kk_X8_207 F.1 ⟨by decide, rfl⟩ rfl ⟨rfl, by decide⟩ rfl (Nat.le_of_ble_eq_true rfl) (Nat.zero_add _) (Nat.zero_add _) rfl ?_
    refine m_isLetter (L := L) (i := i) F h9 hL (by omega) (fun hs1 => ?_) (fun hs1 => ?_)
    · refine aw_re (S' := [.int 1]) rfl ?_
      refine aw_if_eq (npc := 104) (tgt := 117) dX8_go_101 rfl (by decide) (fun hc => absurd hc (by decide)) (fun _ => ?_)
      refine aw_aload_n (npc := 105) rfl dX8_go_104 rfl ?_
      refine aw_dup (npc := 106) rfl dX8_go_105 rfl ?_
      refine aw_get (npc := 109) dX8_go_106 rfl kf_X8_195 F.1 rfl ?_
      refine aw_top (y := nI i) (h10) ?_
      refine aw_iconst (npc := 110) (v := 1) (by decide) dX8_go_109 rfl ?_
      refine aw_iaddV (npc := 111) (v := nI (i + 1)) dX8_go_110 rfl (nI_add _ 1) ?_
      refine aw_put (npc := 114) dX8_go_111 rfl kf_X8_195 F.1 (Nat.le_of_ble_eq_true rfl) (am_ok_int _) rfl ?_
      have F2 := mr_o10 (v := nI (i + 1)) F
      refine aw_goto (npc := 93) dX8_go_114 (by decide) ?_
      refine ih (i + 1) (by omega) _ _ F2 ((pk_un (by decide)).trans h9) pk_us (fun o9 h9x q1 q2 F9 f9 => hq o9 h9x (q1.trans ?_) (fun k hk => (q2 k hk).trans (pk_un hk)) F9 (am_fpT f9 (am_fpU (show ¬ (69 < 69 ∨ 92 ≤ 69) by omega) am_fp0)))
      exact congrArg nI (rn_s hs1.1 hs1.2).symm
    · refine aw_re (S' := [.int 0]) rfl ?_
      refine aw_if_eq (npc := 104) (tgt := 117) dX8_go_101 rfl (by decide) (fun _ => ?_) (fun hc => absurd (by decide) hc)
      exact hq o h (h10.trans (congrArg nI (rn_e (L := L) (tp := a 75) (t := 1) (i := i) (by have z := hs1; omega)).symm)) (fun _ _ => rfl) F am_fp0
theorem nu_s {tp : Nat → Int32} : ∀ (m i : Nat) (s : Int32), nuV tp (m + 1) i s = nuV tp m i s * 10 + tp (i + m) - 48 := by
  intro m
  induction m with
  | zero => intro i s; rfl
  | succ m ih =>
    intro i s
    show nuV tp (m + 1) (i + 1) _ = nuV tp m (i + 1) _ * 10 + tp (i + (m + 1)) - 48
    rw [ih, show i + 1 + m = i + (m + 1) by omega]
theorem nu_a {tp : Nat → Int32} {f i : Nat} {v : Int32} (hf : f ≤ i) (h : v = nuV tp (i - f) f 0) : 10 * v + tp i - 48 = nuV tp (i + 1 - f) f 0 := by
  rw [show i + 1 - f = (i - f) + 1 by omega, nu_s, ← h, show f + (i - f) = i by omega, Int32.mul_comm]
def nfV (tp : Nat → Int32) (f i : Nat) (v : Int32) : Prop := i ≤ f + 4 → v = nuV tp (i - f) f 0
set_option maxHeartbeats 4000000 in
set_option maxRecDepth 100000 in
theorem m_fl {X : List Int32} {d rc rs n : Nat} {Q : am_Q} {L : Nat} {N : Nat → Int32} {a : Nat → Nat → Int32} (hL : L ≤ 96) {w1 : Int32} {f : Nat} : ∀ (m i : Nat), i + m = L → ∀ (o : Nat → Int32) (h : am_H), MR o N a h → o 9 = nI L → o 10 = nI i → o 11 = nI f → nfV (a 75) f i (o 13) → f ≤ i → (∀ o9 h9x, o9 10 = nI (rn L (a 75) 2 i) → (∀ k, k ≠ 10 → k ≠ 13 → o9 k = o k) → MR o9 N a h9x → am_fp (fun k => k < 69 ∨ 92 ≤ k) h9x h → nfV (a 75) f (rn L (a 75) 2 i) (o9 13) → AW X mX8_go (d + 2) rc rs 238 [some (.ref 69), some (.int w1)] [] n h9x Q) → AW X mX8_go (d + 2) rc rs 170 [some (.ref 69), some (.int w1)] [] n h Q := by
  intro m
  induction m with
  | zero =>
    intro i hi o h F h9 h10 h11 hv hfi hq
    refine aw_aload_n (npc := 171) rfl dX8_go_170 rfl ?_
    refine aw_aload_n (npc := 172) rfl dX8_go_171 rfl ?_
    refine aw_get (npc := 175) dX8_go_172 rfl kf_X8_195 F.1 rfl ?_
    refine aw_top (y := nI i) (h10) ?_
    refine aw_callV (npc := 178) (N := mX8_isFigure) (b := 69) (mc := 0) (ms := 0) (A := [.int (nI i)]) (S := []) (L0 := [some (.ref 69), some (.int (nI i))]) dX8_go_175 rfl km_X8_isFigure kk_X8_213 F.1 ⟨by decide, rfl⟩ rfl ⟨rfl, by decide⟩ rfl (Nat.le_of_ble_eq_true rfl) (Nat.zero_add _) (Nat.zero_add _) rfl ?_
    refine m_isFigure (L := L) (i := i) F h9 hL (by omega) (fun hs1 => ?_) (fun hs1 => ?_)
    · exact absurd hs1.1 (by omega)
    · refine aw_re (S' := [.int 0]) rfl ?_
      refine aw_if_eq (npc := 181) (tgt := 238) dX8_go_178 rfl (by decide) (fun _ => ?_) (fun hc => absurd (by decide) hc)
      exact hq o h (h10.trans (congrArg nI (rn_e (L := L) (tp := a 75) (t := 2) (i := i) (by have z := hs1; omega)).symm)) (fun _ _ _ => rfl) F am_fp0 ((rn_e (L := L) (tp := a 75) (t := 2) (i := i) (by have z := hs1; omega)).symm ▸ hv)
  | succ m ih =>
    intro i hi o h F h9 h10 h11 hv hfi hq
    refine aw_aload_n (npc := 171) rfl dX8_go_170 rfl ?_
    refine aw_aload_n (npc := 172) rfl dX8_go_171 rfl ?_
    refine aw_get (npc := 175) dX8_go_172 rfl kf_X8_195 F.1 rfl ?_
    refine aw_top (y := nI i) (h10) ?_
    refine aw_callV (npc := 178) (N := mX8_isFigure) (b := 69) (mc := 0) (ms := 0) (A := [.int (nI i)]) (S := []) (L0 := [some (.ref 69), some (.int (nI i))]) dX8_go_175 rfl km_X8_isFigure kk_X8_213 F.1 ⟨by decide, rfl⟩ rfl ⟨rfl, by decide⟩ rfl (Nat.le_of_ble_eq_true rfl) (Nat.zero_add _) (Nat.zero_add _) rfl ?_
    refine m_isFigure (L := L) (i := i) F h9 hL (by omega) (fun hs1 => ?_) (fun hs1 => ?_)
    · refine aw_re (S' := [.int 1]) rfl ?_
      refine aw_if_eq (npc := 181) (tgt := 238) dX8_go_178 rfl (by decide) (fun hc => absurd hc (by decide)) (fun _ => ?_)
      refine aw_aload_n (npc := 182) rfl dX8_go_181 rfl ?_
      refine aw_aload_n (npc := 183) rfl dX8_go_182 rfl ?_
      refine aw_get (npc := 186) dX8_go_183 rfl kf_X8_195 F.1 rfl ?_
      refine aw_top (y := nI i) (h10) ?_
      refine aw_aload_n (npc := 187) rfl dX8_go_186 rfl ?_
      refine aw_get (npc := 190) dX8_go_187 rfl kf_X8_198 F.1 rfl ?_
      refine aw_top (y := nI f) (h11) ?_
      refine aw_isubV (npc := 191) (v := nI (i - f)) dX8_go_190 rfl (pk_sub (by omega)) ?_
      refine aw_iconst (npc := 192) (v := 4) (by decide) dX8_go_191 rfl ?_
      refine aw_icmp_ge (npc := 195) (tgt := 218) dX8_go_192 rfl (by decide) (fun hc2 => ?_) (fun hc2 => ?_)
      · have hc2N := (nI_leI (a := 4) (b := (i - f)) (by omega) (by omega)).mp hc2
        refine aw_aload_n (npc := 219) rfl dX8_go_218 rfl ?_
        refine aw_get (npc := 222) dX8_go_219 rfl kf_X8_210 F.1 rfl ?_
        refine aw_put (npc := 225) dX8_go_222 rfl kf_X8_210 F.1 (Nat.le_of_ble_eq_true rfl) (am_ok_int _) rfl ?_
        have F3 := mr_o13 (v := o 13) F
        refine aw_aload_n (npc := 226) rfl dX8_go_225 rfl ?_
        refine aw_dup (npc := 227) rfl dX8_go_226 rfl ?_
        refine aw_get (npc := 230) dX8_go_227 rfl kf_X8_195 F3.1 rfl ?_
        refine aw_top (y := o 10) ((pk_un (by omega))) ?_
        refine aw_top (y := nI i) (h10) ?_
        refine aw_iconst (npc := 231) (v := 1) (by decide) dX8_go_230 rfl ?_
        refine aw_iaddV (npc := 232) (v := nI (i + 1)) dX8_go_231 rfl (nI_add _ 1) ?_
        refine aw_put (npc := 235) dX8_go_232 rfl kf_X8_195 F3.1 (Nat.le_of_ble_eq_true rfl) (am_ok_int _) rfl ?_
        have F4 := mr_o10 (v := nI (i + 1)) F3
        refine aw_goto (npc := 170) dX8_go_235 (by decide) ?_
        refine ih (i + 1) (by omega) _ _ F4 ((pk_un (by decide)).trans ((pk_un (by decide)).trans h9)) pk_us ((pk_un (by decide)).trans ((pk_un (by decide)).trans h11)) (fun z => absurd z (by omega)) (by omega) (fun o9 h9x q1 q2 F9 f9 v9 => hq o9 h9x (q1.trans ?_) (fun k hk hk3 => (q2 k hk hk3).trans ((pk_un hk).trans (pk_un hk3))) F9 (am_fpT f9 (am_fpU (show ¬ (69 < 69 ∨ 92 ≤ 69) by omega) (am_fpU (show ¬ (69 < 69 ∨ 92 ≤ 69) by omega) am_fp0))) ?_)
        · exact congrArg nI (rn_s hs1.1 hs1.2).symm
        · exact ((rn_s hs1.1 hs1.2).symm) ▸ v9
      · have hc2N : ¬ 4 ≤ (i - f) := fun z9q => hc2 ((nI_leI (a := 4) (b := (i - f)) (by omega) (by omega)).mpr z9q)
        refine aw_bipush (npc := 197) (v := 10) (by decide) dX8_go_195 rfl ?_
        refine aw_aload_n (npc := 198) rfl dX8_go_197 rfl ?_
        refine aw_get (npc := 201) dX8_go_198 rfl kf_X8_210 F.1 rfl ?_
        refine aw_imul (npc := 202) dX8_go_201 rfl ?_
        refine aw_aload_n (npc := 203) rfl dX8_go_202 rfl ?_
        refine aw_get (npc := 206) dX8_go_203 rfl kf_X8_29 F.1 rfl ?_
        refine aw_aload_n (npc := 207) rfl dX8_go_206 rfl ?_
        refine aw_get (npc := 210) dX8_go_207 rfl kf_X8_195 F.1 rfl ?_
        refine aw_top (y := nI i) (h10) ?_
        refine aw_iald (npc := 211) (x := (a 75) i) (j := i) dX8_go_210 rfl F.2.2.2.2.2.2.1 (am_ix_nI (by omega)) (tl_at (by omega)) ?_
        refine aw_iadd (npc := 212) dX8_go_211 rfl ?_
        refine aw_bipush (npc := 214) (v := 48) (by decide) dX8_go_212 rfl ?_
        refine aw_isub (npc := 215) dX8_go_214 rfl ?_
        refine aw_goto (npc := 222) dX8_go_215 (by decide) ?_
        refine aw_put (npc := 225) dX8_go_222 rfl kf_X8_210 F.1 (Nat.le_of_ble_eq_true rfl) (am_ok_int _) rfl ?_
        have F5 := mr_o13 (v := ((10 * (o 13)) + ((a 75) i)) - 48) F
        refine aw_aload_n (npc := 226) rfl dX8_go_225 rfl ?_
        refine aw_dup (npc := 227) rfl dX8_go_226 rfl ?_
        refine aw_get (npc := 230) dX8_go_227 rfl kf_X8_195 F5.1 rfl ?_
        refine aw_top (y := o 10) ((pk_un (by omega))) ?_
        refine aw_top (y := nI i) (h10) ?_
        refine aw_iconst (npc := 231) (v := 1) (by decide) dX8_go_230 rfl ?_
        refine aw_iaddV (npc := 232) (v := nI (i + 1)) dX8_go_231 rfl (nI_add _ 1) ?_
        refine aw_put (npc := 235) dX8_go_232 rfl kf_X8_195 F5.1 (Nat.le_of_ble_eq_true rfl) (am_ok_int _) rfl ?_
        have F6 := mr_o10 (v := nI (i + 1)) F5
        refine aw_goto (npc := 170) dX8_go_235 (by decide) ?_
        refine ih (i + 1) (by omega) _ _ F6 ((pk_un (by decide)).trans ((pk_un (by decide)).trans h9)) pk_us ((pk_un (by decide)).trans ((pk_un (by decide)).trans h11)) (fun z => ((pk_un (by decide)).trans pk_us).trans (nu_a hfi (hv (by omega)))) (by omega) (fun o9 h9x q1 q2 F9 f9 v9 => hq o9 h9x (q1.trans ?_) (fun k hk hk3 => (q2 k hk hk3).trans ((pk_un hk).trans (pk_un hk3))) F9 (am_fpT f9 (am_fpU (show ¬ (69 < 69 ∨ 92 ≤ 69) by omega) (am_fpU (show ¬ (69 < 69 ∨ 92 ≤ 69) by omega) am_fp0))) ?_)
        · exact congrArg nI (rn_s hs1.1 hs1.2).symm
        · exact ((rn_s hs1.1 hs1.2).symm) ▸ v9
    · refine aw_re (S' := [.int 0]) rfl ?_
      refine aw_if_eq (npc := 181) (tgt := 238) dX8_go_178 rfl (by decide) (fun _ => ?_) (fun hc => absurd (by decide) hc)
      exact hq o h (h10.trans (congrArg nI (rn_e (L := L) (tp := a 75) (t := 2) (i := i) (by have z := hs1; omega)).symm)) (fun _ _ _ => rfl) F am_fp0 ((rn_e (L := L) (tp := a 75) (t := 2) (i := i) (by have z := hs1; omega)).symm ▸ hv)
def VK (L : Nat) (tp : Nat → Int32) (K : Nat × Nat × Nat) (o : Nat → Int32) : Prop := o 10 = nI K.2.2 ∧ o 11 = nI K.2.1 ∧ o 12 = nI (mtk K.1) ∧ (K.1 = 1 ∨ K.1 = 3 → o 13 = tp K.2.1) ∧ (K.1 = 2 → o 13 = nuV tp (K.2.2 - K.2.1) K.2.1 0) ∧ (K.1 = 1 ∨ K.1 = 2 ∨ K.1 = 3 → ∀ s, K.2.2 ≤ s → s ≤ L → (o 14 = nI s ↔ (wd K = true ∧ s = K.2.2)))
def gK (o9 o : Nat → Int32) : Prop := ∀ k, k ≠ 10 → k ≠ 11 → k ≠ 12 → k ≠ 13 → k ≠ 14 → o9 k = o k
theorem en_t {L e : Nat} {K : Nat × Nat × Nat} {x : Int32} (hL : L ≤ 96) (he : K.2.2 ≤ L) (hx : x = nI K.2.2) (hw : wd K = true) : ∀ s, K.2.2 ≤ s → s ≤ L → (x = nI s ↔ (wd K = true ∧ s = K.2.2)) := fun s h1 h2 => ⟨fun z => ⟨hw, ((nI_eq (a := K.2.2) (b := s) (by omega) (by omega)).mp (hx.symm.trans z)).symm⟩, fun z => hx.trans (congrArg nI z.2.symm)⟩
set_option maxHeartbeats 4000000 in
set_option maxRecDepth 100000 in
theorem m_adv {X : List Int32} {d rc rs n : Nat} {Q : am_Q} {L : Nat} {N : Nat → Int32} {a : Nat → Nat → Int32} {o : Nat → Int32} {h : am_H} (F : MR o N a h) (h9 : o 9 = nI L) (hL : L ≤ 96) {i : Nat} {w : Bool} (h10 : o 10 = nI i) (hi : i ≤ L) (hen : ∀ s, i ≤ s → s ≤ L → (o 14 = nI s ↔ (w = true ∧ s = i))) (hq : ∀ o9 h9x, MR o9 N a h9x → VK L (a 75) (nx L (a 75) i w) o9 → gK o9 o → am_fp (fun k => k < 69 ∨ 92 ≤ k) h9x h → Q none n h9x) : AW X mX8_go (d + 2) rc rs 0 [some (.ref 69), none] [] n h Q := by
  refine m_bl hL (L - i) i (by omega) _ _ F h9 h10 (fun o1 h1 q1 q2 F1 f1 => ?_)
  have hsk := skB_p (tp := a 75) (L - i) i
  have hsk1 : i ≤ sk L (a 75) i := hsk.1
  have hsk2 : sk L (a 75) i ≤ L := by have z := hsk.2.1; show skB (a 75) (L - i) i ≤ L; omega
  have hsk3 : sk L (a 75) i < L → ¬ a 75 (sk L (a 75) i) = 32 := fun z => hsk.2.2 (by have z2 : skB (a 75) (L - i) i < L := z; omega)
  have h19 : o1 9 = nI L := (q2 9 (by decide)).trans h9
  have h114 : o1 14 = o 14 := q2 14 (by decide)
  generalize es : sk L (a 75) i = s at *
  refine aw_aload_n (npc := 39) rfl dX8_go_38 rfl ?_
  refine aw_aload_n (npc := 40) rfl dX8_go_39 rfl ?_
  refine aw_get (npc := 43) dX8_go_40 rfl kf_X8_195 F1.1 rfl ?_
  refine aw_top (y := nI s) (q1) ?_
  refine aw_put (npc := 46) dX8_go_43 rfl kf_X8_198 F1.1 (Nat.le_of_ble_eq_true rfl) (am_ok_int _) rfl ?_
  have F1 := mr_o11 (v := nI s) F1
  refine aw_aload_n (npc := 47) rfl dX8_go_46 rfl ?_
  refine aw_get (npc := 50) dX8_go_47 rfl kf_X8_198 F1.1 rfl ?_
  refine aw_top (y := nI s) (pk_us) ?_
  refine aw_aload_n (npc := 51) rfl dX8_go_50 rfl ?_
  refine aw_get (npc := 54) dX8_go_51 rfl kf_X8_201 F1.1 rfl ?_
  refine aw_top (y := o1 14) ((pk_un (by omega))) ?_
  refine aw_top (y := o 14) (h114) ?_
  refine aw_icmp_ne (npc := 57) (tgt := 61) dX8_go_54 rfl (by decide) (fun hc2 => ?_) (fun hc2 => ?_)
  · refine aw_iconst (npc := 62) (v := 0) (by decide) dX8_go_61 rfl ?_
    refine aw_istore_n (npc := 63) (L' := [some (.ref 69), some (.int 0)]) dX8_go_62 rfl (by decide) rfl rfl ?_
    refine aw_aload_n (npc := 64) rfl dX8_go_63 rfl ?_
    refine aw_get (npc := 67) dX8_go_64 rfl kf_X8_198 F1.1 rfl ?_
    refine aw_top (y := nI s) (pk_us) ?_
    refine aw_aload_n (npc := 68) rfl dX8_go_67 rfl ?_
    refine aw_get (npc := 71) dX8_go_68 rfl kf_X8_192 F1.1 rfl ?_
    refine aw_top (y := o1 9) ((pk_un (by omega))) ?_
    refine aw_top (y := nI L) (h19) ?_
    refine aw_icmp_ne (npc := 74) (tgt := 82) dX8_go_71 rfl (by decide) (fun hc3 => ?_) (fun hc3 => ?_)
    · have hc3N : ¬ s = L := fun z9q => hc3 ((nI_eq (a := s) (b := L) (by omega) (by omega)).mpr z9q)
      refine aw_aload_n (npc := 83) rfl dX8_go_82 rfl ?_
      refine aw_aload_n (npc := 84) rfl dX8_go_83 rfl ?_
      refine aw_get (npc := 87) dX8_go_84 rfl kf_X8_198 F1.1 rfl ?_
      refine aw_top (y := nI s) (pk_us) ?_
      refine aw_callV (npc := 90) (N := mX8_isLetter) (b := 69) (mc := 0) (ms := 0) (A := [.int (nI s)]) (S := []) (L0 := [some (.ref 69), some (.int (nI s))]) dX8_go_87 rfl km_X8_isLetter kk_X8_207 F1.1 ⟨by decide, rfl⟩ rfl ⟨rfl, by decide⟩ rfl (Nat.le_of_ble_eq_true rfl) (Nat.zero_add _) (Nat.zero_add _) rfl ?_
      refine m_isLetter (L := L) (i := s) F1 (((pk_un (by omega))).trans h19) hL (by omega) (fun hs4 => ?_) (fun hs4 => ?_)
      · refine aw_re (S' := [.int 1]) rfl ?_
        refine aw_if_eq (npc := 93) (tgt := 154) dX8_go_90 rfl (by decide) (fun hc => absurd hc (by decide)) (fun _ => ?_)
        refine m_wl hL (L - s) s (by omega) _ _ F1 ((pk_un (by decide)).trans h19) ((pk_un (by decide)).trans q1) (fun o2 h2 p1 p2 F2 f2 => ?_)
        have hrn := rnB_p (tp := a 75) (t := 1) (L - s) s
        have hrn1 : s ≤ rn L (a 75) 1 s := hrn.1
        have hrn2 : rn L (a 75) 1 s ≤ L := by have z := hrn.2.1; show rnB (a 75) 1 (L - s) s ≤ L; omega
        have p2m : ∀ k, k ≠ 10 → k ≠ 11 → o2 k = o k := fun k h1 h2 => (p2 k h1).trans ((pk_un h2).trans (q2 k h1))
        have p211 : o2 11 = nI s := (p2 11 (by decide)).trans pk_us
        refine aw_aload_n (npc := 118) rfl dX8_go_117 rfl ?_
        refine aw_iload_n (npc := 119) rfl dX8_go_118 rfl ?_
        refine aw_if_eq (npc := 122) (tgt := 126) dX8_go_119 rfl (by decide) (fun _ => ?_) (fun hc => absurd (by decide) hc)
        refine aw_iconst (npc := 127) (v := 1) (by decide) dX8_go_126 rfl ?_
        refine aw_put (npc := 130) dX8_go_127 rfl kf_X8_204 F2.1 (Nat.le_of_ble_eq_true rfl) (am_ok_int _) rfl ?_
        have F5 := mr_o12 (v := 1) F2
        refine aw_aload_n (npc := 131) rfl dX8_go_130 rfl ?_
        refine aw_aload_n (npc := 132) rfl dX8_go_131 rfl ?_
        refine aw_get (npc := 135) dX8_go_132 rfl kf_X8_29 F5.1 rfl ?_
        refine aw_aload_n (npc := 136) rfl dX8_go_135 rfl ?_
        refine aw_get (npc := 139) dX8_go_136 rfl kf_X8_198 F5.1 rfl ?_
        refine aw_top (y := o2 11) ((pk_un (by omega))) ?_
        refine aw_top (y := nI s) (p211) ?_
        refine aw_iald (npc := 140) (x := (a 75) s) (j := s) dX8_go_139 rfl F5.2.2.2.2.2.2.1 (am_ix_nI (by omega)) (tl_at (by omega)) ?_
        refine aw_put (npc := 143) dX8_go_140 rfl kf_X8_210 F5.1 (Nat.le_of_ble_eq_true rfl) (am_ok_int _) rfl ?_
        have F6 := mr_o13 (v := (a 75) s) F5
        refine aw_aload_n (npc := 144) rfl dX8_go_143 rfl ?_
        refine aw_aload_n (npc := 145) rfl dX8_go_144 rfl ?_
        refine aw_get (npc := 148) dX8_go_145 rfl kf_X8_195 F6.1 rfl ?_
        refine aw_top (y := o2 10) (((pk_un (by omega))).trans (pk_un (by omega))) ?_
        refine aw_top (y := nI (rn L (a 75) 1 s)) (p1) ?_
        refine aw_put (npc := 151) dX8_go_148 rfl kf_X8_201 F6.1 (Nat.le_of_ble_eq_true rfl) (am_ok_int _) rfl ?_
        have F7 := mr_o14 (v := nI (rn L (a 75) 1 s)) F6
        refine aw_goto (npc := 303) dX8_go_151 (by decide) ?_
        refine aw_vret rfl dX8_go_303 ?_
        have hw9 : ¬ (w = true ∧ s = i) := fun z => hc2 ((hen s hsk1 hsk2).mpr z).symm
        have hlt : s < L := hs4.1
        have sot : so (a 75 s) = 1 := hs4.2
        have ern : rn L (a 75) (so (a 75 s)) (s + 1) = rn L (a 75) 1 s := by rw [sot]; exact (rn_s hlt sot).symm
        have hgt : s + 1 ≤ rn L (a 75) 1 s := by have z := (rnB_p (tp := a 75) (t := 1) (L - (s + 1)) (s + 1)).1; have y : rn L (a 75) 1 s = rnB (a 75) 1 (L - (s + 1)) (s + 1) := rn_s hlt sot; omega
        have ea : nx L (a 75) i w = (1, s, rn L (a 75) 1 s) := by
          unfold nx
          rw [es, if_neg (show ¬ L ≤ s by omega), if_neg (show ¬ so (a 75 s) = 3 by omega), ern, sot]
          exact if_neg (fun z => z.elim hw9 (fun y => by cases y.1))
        exact hq _ _ F7 (ea ▸ (show VK L (a 75) (1, s, rn L (a 75) 1 s) _ from ⟨(((((pk_un (by omega))).trans (pk_un (by omega))).trans (pk_un (by omega))).trans p1), (((((pk_un (by omega))).trans (pk_un (by omega))).trans (pk_un (by omega))).trans p211), ((((pk_un (by omega))).trans (pk_un (by omega))).trans pk_us), (fun _ => (((pk_un (by omega))).trans pk_us)), (fun z => by cases z), fun _ => en_t (e := 0) (K := (1, s, rn L (a 75) 1 s)) hL hrn2 (pk_us) rfl⟩)) (fun k k10 k11 k12 k13 k14 => ((pk_un k14).trans ((pk_un k13).trans ((pk_un k12).trans (p2m k k10 k11))))) (am_fpU (show ¬ (69 < 69 ∨ 92 ≤ 69) by omega) (am_fpU (show ¬ (69 < 69 ∨ 92 ≤ 69) by omega) (am_fpU (show ¬ (69 < 69 ∨ 92 ≤ 69) by omega) (am_fpT f2 (am_fpU (show ¬ (69 < 69 ∨ 92 ≤ 69) by omega) f1)))))
      · refine aw_re (S' := [.int 0]) rfl ?_
        refine aw_if_eq (npc := 93) (tgt := 154) dX8_go_90 rfl (by decide) (fun _ => ?_) (fun hc => absurd (by decide) hc)
        refine aw_aload_n (npc := 155) rfl dX8_go_154 rfl ?_
        refine aw_aload_n (npc := 156) rfl dX8_go_155 rfl ?_
        refine aw_get (npc := 159) dX8_go_156 rfl kf_X8_198 F1.1 rfl ?_
        refine aw_top (y := nI s) (pk_us) ?_
        refine aw_callV (npc := 162) (N := mX8_isFigure) (b := 69) (mc := 0) (ms := 0) (A := [.int (nI s)]) (S := []) (L0 := [some (.ref 69), some (.int (nI s))]) dX8_go_159 rfl km_X8_isFigure kk_X8_213 F1.1 ⟨by decide, rfl⟩ rfl ⟨rfl, by decide⟩ rfl (Nat.le_of_ble_eq_true rfl) (Nat.zero_add _) (Nat.zero_add _) rfl ?_
        refine m_isFigure (L := L) (i := s) F1 (((pk_un (by omega))).trans h19) hL (by omega) (fun hs8 => ?_) (fun hs8 => ?_)
        · refine aw_re (S' := [.int 1]) rfl ?_
          refine aw_if_eq (npc := 165) (tgt := 275) dX8_go_162 rfl (by decide) (fun hc => absurd hc (by decide)) (fun _ => ?_)
          refine aw_aload_n (npc := 166) rfl dX8_go_165 rfl ?_
          refine aw_iconst (npc := 167) (v := 0) (by decide) dX8_go_166 rfl ?_
          refine aw_put (npc := 170) dX8_go_167 rfl kf_X8_210 F1.1 (Nat.le_of_ble_eq_true rfl) (am_ok_int _) rfl ?_
          have F9 := mr_o13 (v := 0) F1
          refine m_fl (f := s) hL (L - s) s (by omega) _ _ F9 ((pk_un (by decide)).trans ((pk_un (by decide)).trans h19)) ((pk_un (by decide)).trans ((pk_un (by decide)).trans q1)) ((pk_un (by decide)).trans pk_us) (fun _ => by rw [Nat.sub_self]; exact pk_us) (Nat.le_refl _) (fun o2 h2 p1 p2 F2 f2 v2 => ?_)
          have hrn := rnB_p (tp := a 75) (t := 2) (L - s) s
          have hrn1 : s ≤ rn L (a 75) 2 s := hrn.1
          have hrn2 : rn L (a 75) 2 s ≤ L := by have z := hrn.2.1; show rnB (a 75) 2 (L - s) s ≤ L; omega
          have p2m : ∀ k, k ≠ 10 → k ≠ 11 → k ≠ 13 → o2 k = o k := fun k h1 h2 h3 => (p2 k h1 h3).trans ((pk_un h3).trans ((pk_un h2).trans (q2 k h1)))
          have p211 : o2 11 = nI s := (p2 11 (by decide) (by decide)).trans ((pk_un (by decide)).trans pk_us)
          refine aw_aload_n (npc := 239) rfl dX8_go_238 rfl ?_
          refine aw_iload_n (npc := 240) rfl dX8_go_239 rfl ?_
          refine aw_if_ne (npc := 243) (tgt := 256) dX8_go_240 rfl (by decide) (fun hc => absurd (by decide) hc) (fun _ => ?_)
          refine aw_aload_n (npc := 244) rfl dX8_go_243 rfl ?_
          refine aw_get (npc := 247) dX8_go_244 rfl kf_X8_195 F2.1 rfl ?_
          refine aw_top (y := nI (rn L (a 75) 2 s)) (p1) ?_
          refine aw_aload_n (npc := 248) rfl dX8_go_247 rfl ?_
          refine aw_get (npc := 251) dX8_go_248 rfl kf_X8_198 F2.1 rfl ?_
          refine aw_top (y := nI s) (p211) ?_
          refine aw_isubV (npc := 252) (v := nI ((rn L (a 75) 2 s) - s)) dX8_go_251 rfl (pk_sub (by omega)) ?_
          refine aw_iconst (npc := 253) (v := 4) (by decide) dX8_go_252 rfl ?_
          refine aw_icmp_le (npc := 256) (tgt := 260) dX8_go_253 rfl (by decide) (fun hc10 => ?_) (fun hc10 => ?_)
          · have hc10N := (nI_leI (a := ((rn L (a 75) 2 s) - s)) (b := 4) (by omega) (by omega)).mp hc10
            refine aw_iconst (npc := 261) (v := 2) (by decide) dX8_go_260 rfl ?_
            refine aw_put (npc := 264) dX8_go_261 rfl kf_X8_204 F2.1 (Nat.le_of_ble_eq_true rfl) (am_ok_int _) rfl ?_
            have F11 := mr_o12 (v := 2) F2
            refine aw_aload_n (npc := 265) rfl dX8_go_264 rfl ?_
            refine aw_aload_n (npc := 266) rfl dX8_go_265 rfl ?_
            refine aw_get (npc := 269) dX8_go_266 rfl kf_X8_195 F11.1 rfl ?_
            refine aw_top (y := o2 10) ((pk_un (by omega))) ?_
            refine aw_top (y := nI (rn L (a 75) 2 s)) (p1) ?_
            refine aw_put (npc := 272) dX8_go_269 rfl kf_X8_201 F11.1 (Nat.le_of_ble_eq_true rfl) (am_ok_int _) rfl ?_
            have F12 := mr_o14 (v := nI (rn L (a 75) 2 s)) F11
            refine aw_goto (npc := 303) dX8_go_272 (by decide) ?_
            refine aw_vret rfl dX8_go_303 ?_
            have hw9 : ¬ (w = true ∧ s = i) := fun z => hc2 ((hen s hsk1 hsk2).mpr z).symm
            have hlt : s < L := hs8.1
            have sot : so (a 75 s) = 2 := hs8.2
            have ern : rn L (a 75) (so (a 75 s)) (s + 1) = rn L (a 75) 2 s := by rw [sot]; exact (rn_s hlt sot).symm
            have hgt : s + 1 ≤ rn L (a 75) 2 s := by have z := (rnB_p (tp := a 75) (t := 2) (L - (s + 1)) (s + 1)).1; have y : rn L (a 75) 2 s = rnB (a 75) 2 (L - (s + 1)) (s + 1) := rn_s hlt sot; omega
            have ea : nx L (a 75) i w = (2, s, rn L (a 75) 2 s) := by
              unfold nx
              rw [es, if_neg (show ¬ L ≤ s by omega), if_neg (show ¬ so (a 75 s) = 3 by omega), ern, sot]
              exact if_neg (fun z => z.elim hw9 (fun y => by have y2 := y.2; omega))
            exact hq _ _ F12 (ea ▸ (show VK L (a 75) (2, s, rn L (a 75) 2 s) _ from ⟨((((pk_un (by omega))).trans (pk_un (by omega))).trans p1), ((((pk_un (by omega))).trans (pk_un (by omega))).trans p211), (((pk_un (by omega))).trans pk_us), (fun z => by rcases z with z | z <;> cases z), (fun _ => ((((pk_un (by omega))).trans (pk_un (by omega))).trans (v2 (by omega)))), fun _ => en_t (e := 0) (K := (2, s, rn L (a 75) 2 s)) hL hrn2 (pk_us) rfl⟩)) (fun k k10 k11 k12 k13 k14 => ((pk_un k14).trans ((pk_un k12).trans (p2m k k10 k11 k13)))) (am_fpU (show ¬ (69 < 69 ∨ 92 ≤ 69) by omega) (am_fpU (show ¬ (69 < 69 ∨ 92 ≤ 69) by omega) (am_fpT f2 (am_fpU (show ¬ (69 < 69 ∨ 92 ≤ 69) by omega) (am_fpU (show ¬ (69 < 69 ∨ 92 ≤ 69) by omega) f1)))))
          · have hc10N : ¬ ((rn L (a 75) 2 s) - s) ≤ 4 := fun z9q => hc10 ((nI_leI (a := ((rn L (a 75) 2 s) - s)) (b := 4) (by omega) (by omega)).mpr z9q)
            refine aw_iconst (npc := 257) (v := 4) (by decide) dX8_go_256 rfl ?_
            refine aw_goto (npc := 261) dX8_go_257 (by decide) ?_
            refine aw_put (npc := 264) dX8_go_261 rfl kf_X8_204 F2.1 (Nat.le_of_ble_eq_true rfl) (am_ok_int _) rfl ?_
            have F13 := mr_o12 (v := 4) F2
            refine aw_aload_n (npc := 265) rfl dX8_go_264 rfl ?_
            refine aw_aload_n (npc := 266) rfl dX8_go_265 rfl ?_
            refine aw_get (npc := 269) dX8_go_266 rfl kf_X8_195 F13.1 rfl ?_
            refine aw_top (y := o2 10) ((pk_un (by omega))) ?_
            refine aw_top (y := nI (rn L (a 75) 2 s)) (p1) ?_
            refine aw_put (npc := 272) dX8_go_269 rfl kf_X8_201 F13.1 (Nat.le_of_ble_eq_true rfl) (am_ok_int _) rfl ?_
            have F14 := mr_o14 (v := nI (rn L (a 75) 2 s)) F13
            refine aw_goto (npc := 303) dX8_go_272 (by decide) ?_
            refine aw_vret rfl dX8_go_303 ?_
            have hw9 : ¬ (w = true ∧ s = i) := fun z => hc2 ((hen s hsk1 hsk2).mpr z).symm
            have hlt : s < L := hs8.1
            have sot : so (a 75 s) = 2 := hs8.2
            have ern : rn L (a 75) (so (a 75 s)) (s + 1) = rn L (a 75) 2 s := by rw [sot]; exact (rn_s hlt sot).symm
            have hgt : s + 1 ≤ rn L (a 75) 2 s := by have z := (rnB_p (tp := a 75) (t := 2) (L - (s + 1)) (s + 1)).1; have y : rn L (a 75) 2 s = rnB (a 75) 2 (L - (s + 1)) (s + 1) := rn_s hlt sot; omega
            have ea : nx L (a 75) i w = (5, s, rn L (a 75) 2 s) := by
              unfold nx
              rw [es, if_neg (show ¬ L ≤ s by omega), if_neg (show ¬ so (a 75 s) = 3 by omega), ern, sot]
              exact if_pos (Or.inr ⟨rfl, by omega⟩)
            exact hq _ _ F14 (ea ▸ (show VK L (a 75) (5, s, rn L (a 75) 2 s) _ from ⟨((((pk_un (by omega))).trans (pk_un (by omega))).trans p1), ((((pk_un (by omega))).trans (pk_un (by omega))).trans p211), (((pk_un (by omega))).trans pk_us), (fun z => by rcases z with z | z <;> cases z), (fun z => by cases z), (fun z => by rcases z with z | z | z <;> cases z)⟩)) (fun k k10 k11 k12 k13 k14 => ((pk_un k14).trans ((pk_un k12).trans (p2m k k10 k11 k13)))) (am_fpU (show ¬ (69 < 69 ∨ 92 ≤ 69) by omega) (am_fpU (show ¬ (69 < 69 ∨ 92 ≤ 69) by omega) (am_fpT f2 (am_fpU (show ¬ (69 < 69 ∨ 92 ≤ 69) by omega) (am_fpU (show ¬ (69 < 69 ∨ 92 ≤ 69) by omega) f1)))))
        · refine aw_re (S' := [.int 0]) rfl ?_
          refine aw_if_eq (npc := 165) (tgt := 275) dX8_go_162 rfl (by decide) (fun _ => ?_) (fun hc => absurd (by decide) hc)
          refine aw_aload_n (npc := 276) rfl dX8_go_275 rfl ?_
          refine aw_iconst (npc := 277) (v := 3) (by decide) dX8_go_276 rfl ?_
          refine aw_put (npc := 280) dX8_go_277 rfl kf_X8_204 F1.1 (Nat.le_of_ble_eq_true rfl) (am_ok_int _) rfl ?_
          have F15 := mr_o12 (v := 3) F1
          refine aw_aload_n (npc := 281) rfl dX8_go_280 rfl ?_
          refine aw_aload_n (npc := 282) rfl dX8_go_281 rfl ?_
          refine aw_get (npc := 285) dX8_go_282 rfl kf_X8_29 F15.1 rfl ?_
          refine aw_aload_n (npc := 286) rfl dX8_go_285 rfl ?_
          refine aw_get (npc := 289) dX8_go_286 rfl kf_X8_198 F15.1 rfl ?_
          refine aw_top (y := nI s) (((pk_un (by omega))).trans pk_us) ?_
          refine aw_iald (npc := 290) (x := (a 75) s) (j := s) dX8_go_289 rfl F15.2.2.2.2.2.2.1 (am_ix_nI (by omega)) (tl_at (by omega)) ?_
          refine aw_put (npc := 293) dX8_go_290 rfl kf_X8_210 F15.1 (Nat.le_of_ble_eq_true rfl) (am_ok_int _) rfl ?_
          have F16 := mr_o13 (v := (a 75) s) F15
          refine aw_aload_n (npc := 294) rfl dX8_go_293 rfl ?_
          refine aw_dup (npc := 295) rfl dX8_go_294 rfl ?_
          refine aw_get (npc := 298) dX8_go_295 rfl kf_X8_195 F16.1 rfl ?_
          refine aw_top (y := o1 10) ((((pk_un (by omega))).trans (pk_un (by omega))).trans (pk_un (by omega))) ?_
          refine aw_top (y := nI s) (q1) ?_
          refine aw_iconst (npc := 299) (v := 1) (by decide) dX8_go_298 rfl ?_
          refine aw_iaddV (npc := 300) (v := nI (s + 1)) dX8_go_299 rfl (nI_add _ 1) ?_
          refine aw_put (npc := 303) dX8_go_300 rfl kf_X8_195 F16.1 (Nat.le_of_ble_eq_true rfl) (am_ok_int _) rfl ?_
          have F17 := mr_o10 (v := nI (s + 1)) F16
          refine aw_vret rfl dX8_go_303 ?_
          have hw9 : ¬ (w = true ∧ s = i) := fun z => hc2 ((hen s hsk1 hsk2).mpr z).symm
          have hlt : s < L := by omega
          have so3 : so (a 75 s) = 3 := by
            rcases so_c (a 75 s) with z | z | z | z
            · exact absurd ⟨hlt, z⟩ hs4
            · exact absurd ⟨hlt, z⟩ hs8
            · exact z
            · exact absurd (so_4.mp z) (hsk3 hlt)
          have ea : nx L (a 75) i w = (3, s, s + 1) := by unfold nx; rw [es]; exact (if_neg (by omega)).trans (if_pos so3)
          exact hq _ _ F17 (ea ▸ (show VK L (a 75) (3, s, s + 1) _ from ⟨(pk_us), (((((pk_un (by omega))).trans (pk_un (by omega))).trans (pk_un (by omega))).trans pk_us), ((((pk_un (by omega))).trans (pk_un (by omega))).trans pk_us), (fun _ => (((pk_un (by omega))).trans pk_us)), (fun z => by cases z), fun _ s9 h1 h2 => ⟨fun z => absurd ((hen s9 (by have y : s + 1 ≤ s9 := h1; omega) h2).mp (((((((pk_un (by omega))).trans (pk_un (by omega))).trans (pk_un (by omega))).trans (pk_un (by omega))).trans h114).symm.trans z)).2 (by have y : s + 1 ≤ s9 := h1; omega), fun z => by cases z.1⟩⟩)) (fun k k10 k11 k12 k13 k14 => ((pk_un k10).trans ((pk_un k13).trans ((pk_un k12).trans ((pk_un k11).trans (q2 k k10)))))) (am_fpU (show ¬ (69 < 69 ∨ 92 ≤ 69) by omega) (am_fpU (show ¬ (69 < 69 ∨ 92 ≤ 69) by omega) (am_fpU (show ¬ (69 < 69 ∨ 92 ≤ 69) by omega) (am_fpU (show ¬ (69 < 69 ∨ 92 ≤ 69) by omega) f1))))
    · have hc3N := (nI_eq (a := s) (b := L) (by omega) (by omega)).mp hc3
      refine aw_aload_n (npc := 75) rfl dX8_go_74 rfl ?_
      refine aw_iconst (npc := 76) (v := 0) (by decide) dX8_go_75 rfl ?_
      refine aw_put (npc := 79) dX8_go_76 rfl kf_X8_204 F1.1 (Nat.le_of_ble_eq_true rfl) (am_ok_int _) rfl ?_
      have F18 := mr_o12 (v := 0) F1
      refine aw_goto (npc := 303) dX8_go_79 (by decide) ?_
      refine aw_vret rfl dX8_go_303 ?_
      have hw9 : ¬ (w = true ∧ s = i) := fun z => hc2 ((hen s hsk1 hsk2).mpr z).symm
      have ea : nx L (a 75) i w = (0, s, s) := by unfold nx; rw [es]; exact if_pos (by omega)
      exact hq _ _ F18 (ea ▸ (show VK L (a 75) (0, s, s) _ from ⟨((((pk_un (by omega))).trans (pk_un (by omega))).trans q1), (((pk_un (by omega))).trans pk_us), (pk_us), (fun z => by rcases z with z | z <;> cases z), (fun z => by cases z), (fun z => by rcases z with z | z | z <;> cases z)⟩)) (fun k k10 k11 k12 k13 k14 => ((pk_un k12).trans ((pk_un k11).trans (q2 k k10)))) (am_fpU (show ¬ (69 < 69 ∨ 92 ≤ 69) by omega) (am_fpU (show ¬ (69 < 69 ∨ 92 ≤ 69) by omega) f1))
  · refine aw_iconst (npc := 58) (v := 1) (by decide) dX8_go_57 rfl ?_
    refine aw_goto (npc := 62) dX8_go_58 (by decide) ?_
    refine aw_istore_n (npc := 63) (L' := [some (.ref 69), some (.int 1)]) dX8_go_62 rfl (by decide) rfl rfl ?_
    refine aw_aload_n (npc := 64) rfl dX8_go_63 rfl ?_
    refine aw_get (npc := 67) dX8_go_64 rfl kf_X8_198 F1.1 rfl ?_
    refine aw_top (y := nI s) (pk_us) ?_
    refine aw_aload_n (npc := 68) rfl dX8_go_67 rfl ?_
    refine aw_get (npc := 71) dX8_go_68 rfl kf_X8_192 F1.1 rfl ?_
    refine aw_top (y := o1 9) ((pk_un (by omega))) ?_
    refine aw_top (y := nI L) (h19) ?_
    refine aw_icmp_ne (npc := 74) (tgt := 82) dX8_go_71 rfl (by decide) (fun hc19 => ?_) (fun hc19 => ?_)
    · have hc19N : ¬ s = L := fun z9q => hc19 ((nI_eq (a := s) (b := L) (by omega) (by omega)).mpr z9q)
      refine aw_aload_n (npc := 83) rfl dX8_go_82 rfl ?_
      refine aw_aload_n (npc := 84) rfl dX8_go_83 rfl ?_
      refine aw_get (npc := 87) dX8_go_84 rfl kf_X8_198 F1.1 rfl ?_
      refine aw_top (y := nI s) (pk_us) ?_
      refine aw_callV (npc := 90) (N := mX8_isLetter) (b := 69) (mc := 0) (ms := 0) (A := [.int (nI s)]) (S := []) (L0 := [some (.ref 69), some (.int (nI s))]) dX8_go_87 rfl km_X8_isLetter kk_X8_207 F1.1 ⟨by decide, rfl⟩ rfl ⟨rfl, by decide⟩ rfl (Nat.le_of_ble_eq_true rfl) (Nat.zero_add _) (Nat.zero_add _) rfl ?_
      refine m_isLetter (L := L) (i := s) F1 (((pk_un (by omega))).trans h19) hL (by omega) (fun hs20 => ?_) (fun hs20 => ?_)
      · refine aw_re (S' := [.int 1]) rfl ?_
        refine aw_if_eq (npc := 93) (tgt := 154) dX8_go_90 rfl (by decide) (fun hc => absurd hc (by decide)) (fun _ => ?_)
        refine m_wl hL (L - s) s (by omega) _ _ F1 ((pk_un (by decide)).trans h19) ((pk_un (by decide)).trans q1) (fun o2 h2 p1 p2 F2 f2 => ?_)
        have hrn := rnB_p (tp := a 75) (t := 1) (L - s) s
        have hrn1 : s ≤ rn L (a 75) 1 s := hrn.1
        have hrn2 : rn L (a 75) 1 s ≤ L := by have z := hrn.2.1; show rnB (a 75) 1 (L - s) s ≤ L; omega
        have p2m : ∀ k, k ≠ 10 → k ≠ 11 → o2 k = o k := fun k h1 h2 => (p2 k h1).trans ((pk_un h2).trans (q2 k h1))
        have p211 : o2 11 = nI s := (p2 11 (by decide)).trans pk_us
        refine aw_aload_n (npc := 118) rfl dX8_go_117 rfl ?_
        refine aw_iload_n (npc := 119) rfl dX8_go_118 rfl ?_
        refine aw_if_eq (npc := 122) (tgt := 126) dX8_go_119 rfl (by decide) (fun hc => absurd hc (by decide)) (fun _ => ?_)
        refine aw_iconst (npc := 123) (v := 4) (by decide) dX8_go_122 rfl ?_
        refine aw_goto (npc := 127) dX8_go_123 (by decide) ?_
        refine aw_put (npc := 130) dX8_go_127 rfl kf_X8_204 F2.1 (Nat.le_of_ble_eq_true rfl) (am_ok_int _) rfl ?_
        have F21 := mr_o12 (v := 4) F2
        refine aw_aload_n (npc := 131) rfl dX8_go_130 rfl ?_
        refine aw_aload_n (npc := 132) rfl dX8_go_131 rfl ?_
        refine aw_get (npc := 135) dX8_go_132 rfl kf_X8_29 F21.1 rfl ?_
        refine aw_aload_n (npc := 136) rfl dX8_go_135 rfl ?_
        refine aw_get (npc := 139) dX8_go_136 rfl kf_X8_198 F21.1 rfl ?_
        refine aw_top (y := o2 11) ((pk_un (by omega))) ?_
        refine aw_top (y := nI s) (p211) ?_
        refine aw_iald (npc := 140) (x := (a 75) s) (j := s) dX8_go_139 rfl F21.2.2.2.2.2.2.1 (am_ix_nI (by omega)) (tl_at (by omega)) ?_
        refine aw_put (npc := 143) dX8_go_140 rfl kf_X8_210 F21.1 (Nat.le_of_ble_eq_true rfl) (am_ok_int _) rfl ?_
        have F22 := mr_o13 (v := (a 75) s) F21
        refine aw_aload_n (npc := 144) rfl dX8_go_143 rfl ?_
        refine aw_aload_n (npc := 145) rfl dX8_go_144 rfl ?_
        refine aw_get (npc := 148) dX8_go_145 rfl kf_X8_195 F22.1 rfl ?_
        refine aw_top (y := o2 10) (((pk_un (by omega))).trans (pk_un (by omega))) ?_
        refine aw_top (y := nI (rn L (a 75) 1 s)) (p1) ?_
        refine aw_put (npc := 151) dX8_go_148 rfl kf_X8_201 F22.1 (Nat.le_of_ble_eq_true rfl) (am_ok_int _) rfl ?_
        have F23 := mr_o14 (v := nI (rn L (a 75) 1 s)) F22
        refine aw_goto (npc := 303) dX8_go_151 (by decide) ?_
        refine aw_vret rfl dX8_go_303 ?_
        have hw9 : w = true ∧ s = i := (hen s hsk1 hsk2).mp hc2.symm
        have hlt : s < L := hs20.1
        have sot : so (a 75 s) = 1 := hs20.2
        have ern : rn L (a 75) (so (a 75 s)) (s + 1) = rn L (a 75) 1 s := by rw [sot]; exact (rn_s hlt sot).symm
        have hgt : s + 1 ≤ rn L (a 75) 1 s := by have z := (rnB_p (tp := a 75) (t := 1) (L - (s + 1)) (s + 1)).1; have y : rn L (a 75) 1 s = rnB (a 75) 1 (L - (s + 1)) (s + 1) := rn_s hlt sot; omega
        have ea : nx L (a 75) i w = (5, s, rn L (a 75) 1 s) := by
          unfold nx
          rw [es, if_neg (show ¬ L ≤ s by omega), if_neg (show ¬ so (a 75 s) = 3 by omega), ern, sot]
          exact if_pos (Or.inl hw9)
        exact hq _ _ F23 (ea ▸ (show VK L (a 75) (5, s, rn L (a 75) 1 s) _ from ⟨(((((pk_un (by omega))).trans (pk_un (by omega))).trans (pk_un (by omega))).trans p1), (((((pk_un (by omega))).trans (pk_un (by omega))).trans (pk_un (by omega))).trans p211), ((((pk_un (by omega))).trans (pk_un (by omega))).trans pk_us), (fun z => by rcases z with z | z <;> cases z), (fun z => by cases z), (fun z => by rcases z with z | z | z <;> cases z)⟩)) (fun k k10 k11 k12 k13 k14 => ((pk_un k14).trans ((pk_un k13).trans ((pk_un k12).trans (p2m k k10 k11))))) (am_fpU (show ¬ (69 < 69 ∨ 92 ≤ 69) by omega) (am_fpU (show ¬ (69 < 69 ∨ 92 ≤ 69) by omega) (am_fpU (show ¬ (69 < 69 ∨ 92 ≤ 69) by omega) (am_fpT f2 (am_fpU (show ¬ (69 < 69 ∨ 92 ≤ 69) by omega) f1)))))
      · refine aw_re (S' := [.int 0]) rfl ?_
        refine aw_if_eq (npc := 93) (tgt := 154) dX8_go_90 rfl (by decide) (fun _ => ?_) (fun hc => absurd (by decide) hc)
        refine aw_aload_n (npc := 155) rfl dX8_go_154 rfl ?_
        refine aw_aload_n (npc := 156) rfl dX8_go_155 rfl ?_
        refine aw_get (npc := 159) dX8_go_156 rfl kf_X8_198 F1.1 rfl ?_
        refine aw_top (y := nI s) (pk_us) ?_
        refine aw_callV (npc := 162) (N := mX8_isFigure) (b := 69) (mc := 0) (ms := 0) (A := [.int (nI s)]) (S := []) (L0 := [some (.ref 69), some (.int (nI s))]) dX8_go_159 rfl km_X8_isFigure kk_X8_213 F1.1 ⟨by decide, rfl⟩ rfl ⟨rfl, by decide⟩ rfl (Nat.le_of_ble_eq_true rfl) (Nat.zero_add _) (Nat.zero_add _) rfl ?_
        refine m_isFigure (L := L) (i := s) F1 (((pk_un (by omega))).trans h19) hL (by omega) (fun hs24 => ?_) (fun hs24 => ?_)
        · refine aw_re (S' := [.int 1]) rfl ?_
          refine aw_if_eq (npc := 165) (tgt := 275) dX8_go_162 rfl (by decide) (fun hc => absurd hc (by decide)) (fun _ => ?_)
          refine aw_aload_n (npc := 166) rfl dX8_go_165 rfl ?_
          refine aw_iconst (npc := 167) (v := 0) (by decide) dX8_go_166 rfl ?_
          refine aw_put (npc := 170) dX8_go_167 rfl kf_X8_210 F1.1 (Nat.le_of_ble_eq_true rfl) (am_ok_int _) rfl ?_
          have F25 := mr_o13 (v := 0) F1
          refine m_fl (f := s) hL (L - s) s (by omega) _ _ F25 ((pk_un (by decide)).trans ((pk_un (by decide)).trans h19)) ((pk_un (by decide)).trans ((pk_un (by decide)).trans q1)) ((pk_un (by decide)).trans pk_us) (fun _ => by rw [Nat.sub_self]; exact pk_us) (Nat.le_refl _) (fun o2 h2 p1 p2 F2 f2 v2 => ?_)
          have hrn := rnB_p (tp := a 75) (t := 2) (L - s) s
          have hrn1 : s ≤ rn L (a 75) 2 s := hrn.1
          have hrn2 : rn L (a 75) 2 s ≤ L := by have z := hrn.2.1; show rnB (a 75) 2 (L - s) s ≤ L; omega
          have p2m : ∀ k, k ≠ 10 → k ≠ 11 → k ≠ 13 → o2 k = o k := fun k h1 h2 h3 => (p2 k h1 h3).trans ((pk_un h3).trans ((pk_un h2).trans (q2 k h1)))
          have p211 : o2 11 = nI s := (p2 11 (by decide) (by decide)).trans ((pk_un (by decide)).trans pk_us)
          refine aw_aload_n (npc := 239) rfl dX8_go_238 rfl ?_
          refine aw_iload_n (npc := 240) rfl dX8_go_239 rfl ?_
          refine aw_if_ne (npc := 243) (tgt := 256) dX8_go_240 rfl (by decide) (fun _ => ?_) (fun hc => absurd hc (by decide))
          refine aw_iconst (npc := 257) (v := 4) (by decide) dX8_go_256 rfl ?_
          refine aw_goto (npc := 261) dX8_go_257 (by decide) ?_
          refine aw_put (npc := 264) dX8_go_261 rfl kf_X8_204 F2.1 (Nat.le_of_ble_eq_true rfl) (am_ok_int _) rfl ?_
          have F26 := mr_o12 (v := 4) F2
          refine aw_aload_n (npc := 265) rfl dX8_go_264 rfl ?_
          refine aw_aload_n (npc := 266) rfl dX8_go_265 rfl ?_
          refine aw_get (npc := 269) dX8_go_266 rfl kf_X8_195 F26.1 rfl ?_
          refine aw_top (y := o2 10) ((pk_un (by omega))) ?_
          refine aw_top (y := nI (rn L (a 75) 2 s)) (p1) ?_
          refine aw_put (npc := 272) dX8_go_269 rfl kf_X8_201 F26.1 (Nat.le_of_ble_eq_true rfl) (am_ok_int _) rfl ?_
          have F27 := mr_o14 (v := nI (rn L (a 75) 2 s)) F26
          refine aw_goto (npc := 303) dX8_go_272 (by decide) ?_
          refine aw_vret rfl dX8_go_303 ?_
          have hw9 : w = true ∧ s = i := (hen s hsk1 hsk2).mp hc2.symm
          have hlt : s < L := hs24.1
          have sot : so (a 75 s) = 2 := hs24.2
          have ern : rn L (a 75) (so (a 75 s)) (s + 1) = rn L (a 75) 2 s := by rw [sot]; exact (rn_s hlt sot).symm
          have hgt : s + 1 ≤ rn L (a 75) 2 s := by have z := (rnB_p (tp := a 75) (t := 2) (L - (s + 1)) (s + 1)).1; have y : rn L (a 75) 2 s = rnB (a 75) 2 (L - (s + 1)) (s + 1) := rn_s hlt sot; omega
          have ea : nx L (a 75) i w = (5, s, rn L (a 75) 2 s) := by
            unfold nx
            rw [es, if_neg (show ¬ L ≤ s by omega), if_neg (show ¬ so (a 75 s) = 3 by omega), ern, sot]
            exact if_pos (Or.inl hw9)
          exact hq _ _ F27 (ea ▸ (show VK L (a 75) (5, s, rn L (a 75) 2 s) _ from ⟨((((pk_un (by omega))).trans (pk_un (by omega))).trans p1), ((((pk_un (by omega))).trans (pk_un (by omega))).trans p211), (((pk_un (by omega))).trans pk_us), (fun z => by rcases z with z | z <;> cases z), (fun z => by cases z), (fun z => by rcases z with z | z | z <;> cases z)⟩)) (fun k k10 k11 k12 k13 k14 => ((pk_un k14).trans ((pk_un k12).trans (p2m k k10 k11 k13)))) (am_fpU (show ¬ (69 < 69 ∨ 92 ≤ 69) by omega) (am_fpU (show ¬ (69 < 69 ∨ 92 ≤ 69) by omega) (am_fpT f2 (am_fpU (show ¬ (69 < 69 ∨ 92 ≤ 69) by omega) (am_fpU (show ¬ (69 < 69 ∨ 92 ≤ 69) by omega) f1)))))
        · refine aw_re (S' := [.int 0]) rfl ?_
          refine aw_if_eq (npc := 165) (tgt := 275) dX8_go_162 rfl (by decide) (fun _ => ?_) (fun hc => absurd (by decide) hc)
          refine aw_aload_n (npc := 276) rfl dX8_go_275 rfl ?_
          refine aw_iconst (npc := 277) (v := 3) (by decide) dX8_go_276 rfl ?_
          refine aw_put (npc := 280) dX8_go_277 rfl kf_X8_204 F1.1 (Nat.le_of_ble_eq_true rfl) (am_ok_int _) rfl ?_
          have F28 := mr_o12 (v := 3) F1
          refine aw_aload_n (npc := 281) rfl dX8_go_280 rfl ?_
          refine aw_aload_n (npc := 282) rfl dX8_go_281 rfl ?_
          refine aw_get (npc := 285) dX8_go_282 rfl kf_X8_29 F28.1 rfl ?_
          refine aw_aload_n (npc := 286) rfl dX8_go_285 rfl ?_
          refine aw_get (npc := 289) dX8_go_286 rfl kf_X8_198 F28.1 rfl ?_
          refine aw_top (y := nI s) (((pk_un (by omega))).trans pk_us) ?_
          refine aw_iald (npc := 290) (x := (a 75) s) (j := s) dX8_go_289 rfl F28.2.2.2.2.2.2.1 (am_ix_nI (by omega)) (tl_at (by omega)) ?_
          refine aw_put (npc := 293) dX8_go_290 rfl kf_X8_210 F28.1 (Nat.le_of_ble_eq_true rfl) (am_ok_int _) rfl ?_
          have F29 := mr_o13 (v := (a 75) s) F28
          refine aw_aload_n (npc := 294) rfl dX8_go_293 rfl ?_
          refine aw_dup (npc := 295) rfl dX8_go_294 rfl ?_
          refine aw_get (npc := 298) dX8_go_295 rfl kf_X8_195 F29.1 rfl ?_
          refine aw_top (y := o1 10) ((((pk_un (by omega))).trans (pk_un (by omega))).trans (pk_un (by omega))) ?_
          refine aw_top (y := nI s) (q1) ?_
          refine aw_iconst (npc := 299) (v := 1) (by decide) dX8_go_298 rfl ?_
          refine aw_iaddV (npc := 300) (v := nI (s + 1)) dX8_go_299 rfl (nI_add _ 1) ?_
          refine aw_put (npc := 303) dX8_go_300 rfl kf_X8_195 F29.1 (Nat.le_of_ble_eq_true rfl) (am_ok_int _) rfl ?_
          have F30 := mr_o10 (v := nI (s + 1)) F29
          refine aw_vret rfl dX8_go_303 ?_
          have hw9 : w = true ∧ s = i := (hen s hsk1 hsk2).mp hc2.symm
          have hlt : s < L := by omega
          have so3 : so (a 75 s) = 3 := by
            rcases so_c (a 75 s) with z | z | z | z
            · exact absurd ⟨hlt, z⟩ hs20
            · exact absurd ⟨hlt, z⟩ hs24
            · exact z
            · exact absurd (so_4.mp z) (hsk3 hlt)
          have ea : nx L (a 75) i w = (3, s, s + 1) := by unfold nx; rw [es]; exact (if_neg (by omega)).trans (if_pos so3)
          exact hq _ _ F30 (ea ▸ (show VK L (a 75) (3, s, s + 1) _ from ⟨(pk_us), (((((pk_un (by omega))).trans (pk_un (by omega))).trans (pk_un (by omega))).trans pk_us), ((((pk_un (by omega))).trans (pk_un (by omega))).trans pk_us), (fun _ => (((pk_un (by omega))).trans pk_us)), (fun z => by cases z), fun _ s9 h1 h2 => ⟨fun z => absurd ((hen s9 (by have y : s + 1 ≤ s9 := h1; omega) h2).mp (((((((pk_un (by omega))).trans (pk_un (by omega))).trans (pk_un (by omega))).trans (pk_un (by omega))).trans h114).symm.trans z)).2 (by have y : s + 1 ≤ s9 := h1; omega), fun z => by cases z.1⟩⟩)) (fun k k10 k11 k12 k13 k14 => ((pk_un k10).trans ((pk_un k13).trans ((pk_un k12).trans ((pk_un k11).trans (q2 k k10)))))) (am_fpU (show ¬ (69 < 69 ∨ 92 ≤ 69) by omega) (am_fpU (show ¬ (69 < 69 ∨ 92 ≤ 69) by omega) (am_fpU (show ¬ (69 < 69 ∨ 92 ≤ 69) by omega) (am_fpU (show ¬ (69 < 69 ∨ 92 ≤ 69) by omega) f1))))
    · have hc19N := (nI_eq (a := s) (b := L) (by omega) (by omega)).mp hc19
      refine aw_aload_n (npc := 75) rfl dX8_go_74 rfl ?_
      refine aw_iconst (npc := 76) (v := 0) (by decide) dX8_go_75 rfl ?_
      refine aw_put (npc := 79) dX8_go_76 rfl kf_X8_204 F1.1 (Nat.le_of_ble_eq_true rfl) (am_ok_int _) rfl ?_
      have F31 := mr_o12 (v := 0) F1
      refine aw_goto (npc := 303) dX8_go_79 (by decide) ?_
      refine aw_vret rfl dX8_go_303 ?_
      have hw9 : w = true ∧ s = i := (hen s hsk1 hsk2).mp hc2.symm
      have ea : nx L (a 75) i w = (0, s, s) := by unfold nx; rw [es]; exact if_pos (by omega)
      exact hq _ _ F31 (ea ▸ (show VK L (a 75) (0, s, s) _ from ⟨((((pk_un (by omega))).trans (pk_un (by omega))).trans q1), (((pk_un (by omega))).trans pk_us), (pk_us), (fun z => by rcases z with z | z <;> cases z), (fun z => by cases z), (fun z => by rcases z with z | z | z <;> cases z)⟩)) (fun k k10 k11 k12 k13 k14 => ((pk_un k12).trans ((pk_un k11).trans (q2 k k10)))) (am_fpU (show ¬ (69 < 69 ∨ 92 ≤ 69) by omega) (am_fpU (show ¬ (69 < 69 ∨ 92 ≤ 69) by omega) f1))
