def mtk (t : Nat) : Nat := if t = 5 then 4 else t
set_option maxHeartbeats 4000000 in
set_option maxRecDepth 100000 in
theorem m_isLetter {X : List Int32} {d rc rs n : Nat} {Q : am_Q} {L : Nat} {N : Nat → Int32} {a : Nat → Nat → Int32} {o : Nat → Int32} {h : am_H} (F : MR o N a h) (h9 : o 9 = nI L) (hL : L ≤ 96) {i : Nat} (hi : i ≤ L) (k1 : i < L ∧ so (a 75 i) = 1 → Q (some (.int 1)) n h) (k0 : ¬ (i < L ∧ so (a 75 i) = 1) → Q (some (.int 0)) n h) : AW X mX8_isLetter d rc rs 0 [some (.ref 69), some (.int (nI i))] [] n h Q := by
  refine aw_iload_n (npc := 1) rfl dX8_isLetter_0 rfl ?_
  refine aw_aload_n (npc := 2) rfl dX8_isLetter_1 rfl ?_
  refine aw_get (npc := 5) dX8_isLetter_2 rfl kf_X8_192 F.1 rfl ?_
  refine aw_top (y := nI L) (h9) ?_
  refine aw_icmp_ge (npc := 8) (tgt := 34) dX8_isLetter_5 rfl (by decide) (fun hc1 => ?_) (fun hc1 => ?_)
  · have hc1N := (nI_leI (a := L) (b := i) (by omega) (by omega)).mp hc1
    refine aw_iconst (npc := 35) (v := 0) (by decide) dX8_isLetter_34 rfl ?_
    refine aw_zret rfl rfl dX8_isLetter_35 ?_
    exact k0 (fun z => by have z1 := z.1; omega)
  · have hc1N : ¬ L ≤ i := fun z9q => hc1 ((nI_leI (a := L) (b := i) (by omega) (by omega)).mpr z9q)
    refine aw_aload_n (npc := 9) rfl dX8_isLetter_8 rfl ?_
    refine aw_get (npc := 12) dX8_isLetter_9 rfl kf_X8_29 F.1 rfl ?_
    refine aw_iload_n (npc := 13) rfl dX8_isLetter_12 rfl ?_
    refine aw_iald (npc := 14) (x := (a 75) i) (j := i) dX8_isLetter_13 rfl F.2.2.2.2.2.2.1 (am_ix_nI (by omega)) (tl_at (by omega)) ?_
    refine aw_bipush (npc := 16) (v := 97) (by decide) dX8_isLetter_14 rfl ?_
    refine aw_icmp_lt (npc := 19) (tgt := 34) dX8_isLetter_16 rfl (by decide) (fun hc2 => ?_) (fun hc2 => ?_)
    · refine aw_iconst (npc := 35) (v := 0) (by decide) dX8_isLetter_34 rfl ?_
      refine aw_zret rfl rfl dX8_isLetter_35 ?_
      exact k0 (fun z => absurd hc2 (Int32.not_lt.mpr (so_1.mp z.2).1))
    · refine aw_aload_n (npc := 20) rfl dX8_isLetter_19 rfl ?_
      refine aw_get (npc := 23) dX8_isLetter_20 rfl kf_X8_29 F.1 rfl ?_
      refine aw_iload_n (npc := 24) rfl dX8_isLetter_23 rfl ?_
      refine aw_iald (npc := 25) (x := (a 75) i) (j := i) dX8_isLetter_24 rfl F.2.2.2.2.2.2.1 (am_ix_nI (by omega)) (tl_at (by omega)) ?_
      refine aw_bipush (npc := 27) (v := 122) (by decide) dX8_isLetter_25 rfl ?_
      refine aw_icmp_gt (npc := 30) (tgt := 34) dX8_isLetter_27 rfl (by decide) (fun hc3 => ?_) (fun hc3 => ?_)
      · refine aw_iconst (npc := 35) (v := 0) (by decide) dX8_isLetter_34 rfl ?_
        refine aw_zret rfl rfl dX8_isLetter_35 ?_
        exact k0 (fun z => absurd hc3 (Int32.not_lt.mpr (so_1.mp z.2).2))
      · refine aw_iconst (npc := 31) (v := 1) (by decide) dX8_isLetter_30 rfl ?_
        refine aw_goto (npc := 35) dX8_isLetter_31 (by decide) ?_
        refine aw_zret rfl rfl dX8_isLetter_35 ?_
        exact k1 ⟨by omega, so_1.mpr ⟨Int32.not_lt.mp hc2, Int32.not_lt.mp hc3⟩⟩
theorem so_f2 {b : Int32} (h1 : 48 ≤ b) (h2 : b ≤ 57) : so b = 2 := by
  have h3 : ¬ (97 ≤ b ∧ b ≤ 122) := fun q => absurd (Int32.le_trans q.1 h2) (by decide)
  exact (so_2 h3).mpr ⟨h1, h2⟩
set_option maxHeartbeats 4000000 in
set_option maxRecDepth 100000 in
theorem m_isFigure {X : List Int32} {d rc rs n : Nat} {Q : am_Q} {L : Nat} {N : Nat → Int32} {a : Nat → Nat → Int32} {o : Nat → Int32} {h : am_H} (F : MR o N a h) (h9 : o 9 = nI L) (hL : L ≤ 96) {i : Nat} (hi : i ≤ L) (k1 : i < L ∧ so (a 75 i) = 2 → Q (some (.int 1)) n h) (k0 : ¬ (i < L ∧ so (a 75 i) = 2) → Q (some (.int 0)) n h) : AW X mX8_isFigure d rc rs 0 [some (.ref 69), some (.int (nI i))] [] n h Q := by
  refine aw_iload_n (npc := 1) rfl dX8_isFigure_0 rfl ?_
  refine aw_aload_n (npc := 2) rfl dX8_isFigure_1 rfl ?_
  refine aw_get (npc := 5) dX8_isFigure_2 rfl kf_X8_192 F.1 rfl ?_
  refine aw_top (y := nI L) (h9) ?_
  refine aw_icmp_ge (npc := 8) (tgt := 34) dX8_isFigure_5 rfl (by decide) (fun hc1 => ?_) (fun hc1 => ?_)
  · have hc1N := (nI_leI (a := L) (b := i) (by omega) (by omega)).mp hc1
    refine aw_iconst (npc := 35) (v := 0) (by decide) dX8_isFigure_34 rfl ?_
    refine aw_zret rfl rfl dX8_isFigure_35 ?_
    exact k0 (fun z => by have z1 := z.1; omega)
  · have hc1N : ¬ L ≤ i := fun z9q => hc1 ((nI_leI (a := L) (b := i) (by omega) (by omega)).mpr z9q)
    refine aw_aload_n (npc := 9) rfl dX8_isFigure_8 rfl ?_
    refine aw_get (npc := 12) dX8_isFigure_9 rfl kf_X8_29 F.1 rfl ?_
    refine aw_iload_n (npc := 13) rfl dX8_isFigure_12 rfl ?_
    refine aw_iald (npc := 14) (x := (a 75) i) (j := i) dX8_isFigure_13 rfl F.2.2.2.2.2.2.1 (am_ix_nI (by omega)) (tl_at (by omega)) ?_
    refine aw_bipush (npc := 16) (v := 48) (by decide) dX8_isFigure_14 rfl ?_
    refine aw_icmp_lt (npc := 19) (tgt := 34) dX8_isFigure_16 rfl (by decide) (fun hc2 => ?_) (fun hc2 => ?_)
    · refine aw_iconst (npc := 35) (v := 0) (by decide) dX8_isFigure_34 rfl ?_
      refine aw_zret rfl rfl dX8_isFigure_35 ?_
      exact k0 (fun z => absurd hc2 (Int32.not_lt.mpr (so_2d z.2).1))
    · refine aw_aload_n (npc := 20) rfl dX8_isFigure_19 rfl ?_
      refine aw_get (npc := 23) dX8_isFigure_20 rfl kf_X8_29 F.1 rfl ?_
      refine aw_iload_n (npc := 24) rfl dX8_isFigure_23 rfl ?_
      refine aw_iald (npc := 25) (x := (a 75) i) (j := i) dX8_isFigure_24 rfl F.2.2.2.2.2.2.1 (am_ix_nI (by omega)) (tl_at (by omega)) ?_
      refine aw_bipush (npc := 27) (v := 57) (by decide) dX8_isFigure_25 rfl ?_
      refine aw_icmp_gt (npc := 30) (tgt := 34) dX8_isFigure_27 rfl (by decide) (fun hc3 => ?_) (fun hc3 => ?_)
      · refine aw_iconst (npc := 35) (v := 0) (by decide) dX8_isFigure_34 rfl ?_
        refine aw_zret rfl rfl dX8_isFigure_35 ?_
        exact k0 (fun z => absurd hc3 (Int32.not_lt.mpr (so_2d z.2).2))
      · refine aw_iconst (npc := 31) (v := 1) (by decide) dX8_isFigure_30 rfl ?_
        refine aw_goto (npc := 35) dX8_isFigure_31 (by decide) ?_
        refine aw_zret rfl rfl dX8_isFigure_35 ?_
        exact k1 ⟨by omega, so_f2 (Int32.not_lt.mp hc2) (Int32.not_lt.mp hc3)⟩
set_option maxHeartbeats 4000000 in
set_option maxRecDepth 100000 in
theorem m_bl {X : List Int32} {d rc rs n : Nat} {Q : am_Q} {L : Nat} {N : Nat → Int32} {a : Nat → Nat → Int32} (hL : L ≤ 96) {v1 : Option Value} : ∀ (m i : Nat), i + m = L → ∀ (o : Nat → Int32) (h : am_H), MR o N a h → o 9 = nI L → o 10 = nI i → (∀ o9 h9x, o9 10 = nI (sk L (a 75) i) → (∀ k, k ≠ 10 → o9 k = o k) → MR o9 N a h9x → am_fp (fun k => k < 69 ∨ 92 ≤ k) h9x h → AW X mX8_go (d + 2) rc rs 38 [some (.ref 69), v1] [] n h9x Q) → AW X mX8_go (d + 2) rc rs 0 [some (.ref 69), v1] [] n h Q := by
  intro m
  induction m with
  | zero =>
    intro i hi o h F h9 h10 hq
    refine aw_aload_n (npc := 1) rfl dX8_go_0 rfl ?_
    refine aw_get (npc := 4) dX8_go_1 rfl kf_X8_195 F.1 rfl ?_
    refine aw_top (y := nI i) (h10) ?_
    refine aw_aload_n (npc := 5) rfl dX8_go_4 rfl ?_
    refine aw_get (npc := 8) dX8_go_5 rfl kf_X8_192 F.1 rfl ?_
    refine aw_top (y := nI L) (h9) ?_
    refine aw_icmp_ge (npc := 11) (tgt := 38) dX8_go_8 rfl (by decide) (fun _ => ?_) (fun hc => absurd (nI_le (a := L) (b := i) (by omega) (by omega)) hc)
    exact hq o h (h10.trans (congrArg nI (sk_e (Or.inl (by omega))).symm)) (fun _ _ => rfl) F am_fp0
  | succ m ih =>
    intro i hi o h F h9 h10 hq
    refine aw_aload_n (npc := 1) rfl dX8_go_0 rfl ?_
    refine aw_get (npc := 4) dX8_go_1 rfl kf_X8_195 F.1 rfl ?_
    refine aw_top (y := nI i) (h10) ?_
    refine aw_aload_n (npc := 5) rfl dX8_go_4 rfl ?_
    refine aw_get (npc := 8) dX8_go_5 rfl kf_X8_192 F.1 rfl ?_
    refine aw_top (y := nI L) (h9) ?_
    refine aw_icmp_ge (npc := 11) (tgt := 38) dX8_go_8 rfl (by decide) (fun hc => absurd hc (nI_ge (a := i) (b := L) (by omega) (by omega))) (fun _ => ?_)
    refine aw_aload_n (npc := 12) rfl dX8_go_11 rfl ?_
    refine aw_get (npc := 15) dX8_go_12 rfl kf_X8_29 F.1 rfl ?_
    refine aw_aload_n (npc := 16) rfl dX8_go_15 rfl ?_
    refine aw_get (npc := 19) dX8_go_16 rfl kf_X8_195 F.1 rfl ?_
    refine aw_top (y := nI i) (h10) ?_
    refine aw_iald (npc := 20) (x := (a 75) i) (j := i) dX8_go_19 rfl F.2.2.2.2.2.2.1 (am_ix_nI (by omega)) (tl_at (by omega)) ?_
    refine aw_bipush (npc := 22) (v := 32) (by decide) dX8_go_20 rfl ?_
    refine aw_icmp_ne (npc := 25) (tgt := 38) dX8_go_22 rfl (by decide) (fun hc2 => ?_) (fun hc2 => ?_)
    · exact hq o h (h10.trans (congrArg nI (sk_e (Or.inr hc2)).symm)) (fun _ _ => rfl) F am_fp0
    · refine aw_aload_n (npc := 26) rfl dX8_go_25 rfl ?_
      refine aw_dup (npc := 27) rfl dX8_go_26 rfl ?_
      refine aw_get (npc := 30) dX8_go_27 rfl kf_X8_195 F.1 rfl ?_
      refine aw_top (y := nI i) (h10) ?_
      refine aw_iconst (npc := 31) (v := 1) (by decide) dX8_go_30 rfl ?_
      refine aw_iaddV (npc := 32) (v := nI (i + 1)) dX8_go_31 rfl (nI_add _ 1) ?_
      refine aw_put (npc := 35) dX8_go_32 rfl kf_X8_195 F.1 (Nat.le_of_ble_eq_true rfl) (am_ok_int _) rfl ?_
      have F3 := mr_o10 (v := nI (i + 1)) F
      refine aw_goto (npc := 0) dX8_go_35 (by decide) ?_
      refine ih (i + 1) (by omega) _ _ F3 ((pk_un (by decide)).trans h9) pk_us (fun o9 h9x q1 q2 F9 f9 => hq o9 h9x (q1.trans ?_) (fun k hk => (q2 k hk).trans (pk_un hk)) F9 (am_fpT f9 (am_fpU (show ¬ (69 < 69 ∨ 92 ≤ 69) by omega) am_fp0)))
      exact congrArg nI (sk_s (by omega) hc2).symm
set_option maxHeartbeats 4000000 in
set_option maxRecDepth 100000 in
theorem m_wl {X : List Int32} {d rc rs n : Nat} {Q : am_Q} {L : Nat} {N : Nat → Int32} {a : Nat → Nat → Int32} (hL : L ≤ 96) {w1 : Int32} : ∀ (m i : Nat), i + m = L → ∀ (o : Nat → Int32) (h : am_H), MR o N a h → o 9 = nI L → o 10 = nI i → (∀ o9 h9x, o9 10 = nI (rn L (a 75) 1 i) → (∀ k, k ≠ 10 → o9 k = o k) → MR o9 N a h9x → am_fp (fun k => k < 69 ∨ 92 ≤ k) h9x h → AW X mX8_go (d + 2) rc rs 117 [some (.ref 69), some (.int w1)] [] n h9x Q) → AW X mX8_go (d + 2) rc rs 93 [some (.ref 69), some (.int w1)] [] n h Q := by
  intro m
  induction m with
  | zero =>
    intro i hi o h F h9 h10 hq
    refine aw_aload_n (npc := 94) rfl dX8_go_93 rfl ?_
    refine aw_aload_n (npc := 95) rfl dX8_go_94 rfl ?_
    refine aw_get (npc := 98) dX8_go_95 rfl kf_X8_195 F.1 rfl ?_
    refine aw_top (y := nI i) (h10) ?_
    refine aw_callV (npc := 101) (N := mX8_isLetter) (b := 69) (mc := 0) (ms := 0) (A := [.int (nI i)]) (S := []) (L0 := [some (.ref 69), some (.int (nI i))]) dX8_go_98 rfl km_X8_isLetter kk_X8_207 F.1 ⟨by decide, rfl⟩ rfl ⟨rfl, by decide⟩ rfl (Nat.le_of_ble_eq_true rfl) (Nat.zero_add _) (Nat.zero_add _) rfl ?_
    refine m_isLetter (L := L) (i := i) F h9 hL (by omega) (fun hs1 => ?_) (fun hs1 => ?_)
    · exact absurd hs1.1 (by omega)
    · refine aw_re (S' := [.int 0]) rfl ?_
      refine aw_if_eq (npc := 104) (tgt := 117) dX8_go_101 rfl (by decide) (fun _ => ?_) (fun hc => absurd (by decide) hc)
      exact hq o h (h10.trans (congrArg nI (rn_e (L := L) (tp := a 75) (t := 1) (i := i) (by have z := hs1; omega)).symm)) (fun _ _ => rfl) F am_fp0
  | succ m ih =>
    intro i hi o h F h9 h10 hq
    refine aw_aload_n (npc := 94) rfl dX8_go_93 rfl ?_
    refine aw_aload_n (npc := 95) rfl dX8_go_94 rfl ?_
    refine aw_get (npc := 98) dX8_go_95 rfl kf_X8_195 F.1 rfl ?_
    refine aw_top (y := nI i) (h10) ?_
    refine aw_callV (npc := 101) (N := mX8_isLetter) (b := 69) (mc := 0) (ms := 0) (A := [.int (nI i)]) (S := []) (L0 := [some (.ref 69), some (.int (nI i))]) dX8_go_98 rfl km_X8_isLetter kk_X8_207 F.1 ⟨by decide, rfl⟩ rfl ⟨rfl, by decide⟩ rfl (Nat.le_of_ble_eq_true rfl) (Nat.zero_add _) (Nat.zero_add _) rfl ?_
    refine m_isLetter (L := L) (i := i) F h9 hL (by omega) (fun hs1 => ?_) (fun hs1 => ?_)
    · refine aw_re (S' := [.int 1]) rfl ?_
      refine aw_if_eq (npc := 104) (tgt := 117) dX8_go_101 rfl (by decide) (fun hc => absurd hc (by decide)) (fun _ => ?_)
      refine aw_aload_n (npc := 105) rfl dX8_go_104 rfl ?_
      refine aw_dup (npc := 106) rfl dX8_go_105 rfl ?_
      refine aw_get (npc := 109) dX8_go_106 rfl kf_X8_195 F.1 rfl ?_
      refine aw_top (y := nI i) (h10) ?_
      refine aw_iconst (npc := 110) (v := 1) (by decide) dX8_go_109 rfl ?_
      refine aw_iaddV (npc := 111) (v := nI (i + 1)) dX8_go_110 rfl (nI_add _ 1) ?_
      refine aw_put (npc := 114) dX8_go_111 rfl kf_X8_195 F.1 (Nat.le_of_ble_eq_true rfl) (am_ok_int _) rfl ?_
      have F2 := mr_o10 (v := nI (i + 1)) F
      refine aw_goto (npc := 93) dX8_go_114 (by decide) ?_
      refine ih (i + 1) (by omega) _ _ F2 ((pk_un (by decide)).trans h9) pk_us (fun o9 h9x q1 q2 F9 f9 => hq o9 h9x (q1.trans ?_) (fun k hk => (q2 k hk).trans (pk_un hk)) F9 (am_fpT f9 (am_fpU (show ¬ (69 < 69 ∨ 92 ≤ 69) by omega) am_fp0)))
      exact congrArg nI (rn_s hs1.1 hs1.2).symm
    · refine aw_re (S' := [.int 0]) rfl ?_
      refine aw_if_eq (npc := 104) (tgt := 117) dX8_go_101 rfl (by decide) (fun _ => ?_) (fun hc => absurd (by decide) hc)
      exact hq o h (h10.trans (congrArg nI (rn_e (L := L) (tp := a 75) (t := 1) (i := i) (by have z := hs1; omega)).symm)) (fun _ _ => rfl) F am_fp0
theorem nu_s {tp : Nat → Int32} : ∀ (m i : Nat) (s : Int32), nuV tp (m + 1) i s = nuV tp m i s * 10 + tp (i + m) - 48 := by
  intro m
  induction m with
  | zero => intro i s; rfl
  | succ m ih =>
    intro i s
    show nuV tp (m + 1) (i + 1) _ = nuV tp m (i + 1) _ * 10 + tp (i + (m + 1)) - 48
    rw [ih, show i + 1 + m = i + (m + 1) by omega]
theorem nu_a {tp : Nat → Int32} {f i : Nat} {v : Int32} (hf : f ≤ i) (h : v = nuV tp (i - f) f 0) : 10 * v + tp i - 48 = nuV tp (i + 1 - f) f 0 := by
  rw [show i + 1 - f = (i - f) + 1 by omega, nu_s, ← h, show f + (i - f) = i by omega, Int32.mul_comm]
def nfV (tp : Nat → Int32) (f i : Nat) (v : Int32) : Prop := i ≤ f + 4 → v = nuV tp (i - f) f 0
set_option maxHeartbeats 4000000 in
set_option maxRecDepth 100000 in
theorem m_fl {X : List Int32} {d rc rs n : Nat} {Q : am_Q} {L : Nat} {N : Nat → Int32} {a : Nat → Nat → Int32} (hL : L ≤ 96) {w1 : Int32} {f : Nat} : ∀ (m i : Nat), i + m = L → ∀ (o : Nat → Int32) (h : am_H), MR o N a h → o 9 = nI L → o 10 = nI i → o 11 = nI f → nfV (a 75) f i (o 13) → f ≤ i → (∀ o9 h9x, o9 10 = nI (rn L (a 75) 2 i) → (∀ k, k ≠ 10 → k ≠ 13 → o9 k = o k) → MR o9 N a h9x → am_fp (fun k => k < 69 ∨ 92 ≤ k) h9x h → nfV (a 75) f (rn L (a 75) 2 i) (o9 13) → AW X mX8_go (d + 2) rc rs 238 [some (.ref 69), some (.int w1)] [] n h9x Q) → AW X mX8_go (d + 2) rc rs 170 [some (.ref 69), some (.int w1)] [] n h Q := by
  intro m
  induction m with
  | zero =>
    intro i hi o h F h9 h10 h11 hv hfi hq
    refine aw_aload_n (npc := 171) rfl dX8_go_170 rfl ?_
    refine aw_aload_n (npc := 172) rfl dX8_go_171 rfl ?_
    refine aw_get (npc := 175) dX8_go_172 rfl kf_X8_195 F.1 rfl ?_
    refine aw_top (y := nI i) (h10) ?_
    refine aw_callV (npc := 178) (N := mX8_isFigure) (b := 69) (mc := 0) (ms := 0) (A := [.int (nI i)]) (S := []) (L0 := [some (.ref 69), some (.int (nI i))]) dX8_go_175 rfl km_X8_isFigure kk_X8_213 F.1 ⟨by decide, rfl⟩ rfl ⟨rfl, by decide⟩ rfl (Nat.le_of_ble_eq_true rfl) (Nat.zero_add _) (Nat.zero_add _) rfl ?_
    refine m_isFigure (L := L) (i := i) F h9 hL (by omega) (fun hs1 => ?_) (fun hs1 => ?_)
    · exact absurd hs1.1 (by omega)
    · refine aw_re (S' := [.int 0]) rfl ?_
      refine aw_if_eq (npc := 181) (tgt := 238) dX8_go_178 rfl (by decide) (fun _ => ?_) (fun hc => absurd (by decide) hc)
      exact hq o h (h10.trans (congrArg nI (rn_e (L := L) (tp := a 75) (t := 2) (i := i) (by have z := hs1; omega)).symm)) (fun _ _ _ => rfl) F am_fp0 ((rn_e (L := L) (tp := a 75) (t := 2) (i := i) (by have z := hs1; omega)).symm ▸ hv)
  | succ m ih =>
    intro i hi o h F h9 h10 h11 hv hfi hq
    refine aw_aload_n (npc := 171) rfl dX8_go_170 rfl ?_
    refine aw_aload_n (npc := 172) rfl dX8_go_171 rfl ?_
    refine aw_get (npc := 175) dX8_go_172 rfl kf_X8_195 F.1 rfl ?_
    refine aw_top (y := nI i) (h10) ?_
    refine aw_callV (npc := 178) (N := mX8_isFigure) (b := 69) (mc := 0) (ms := 0) (A := [.int (nI i)]) (S := []) (L0 := [some (.ref 69), some (.int (nI i))]) dX8_go_175 rfl km_X8_isFigure kk_X8_213 F.1 ⟨by decide, rfl⟩ rfl ⟨rfl, by decide⟩ rfl (Nat.le_of_ble_eq_true rfl) (Nat.zero_add _) (Nat.zero_add _) rfl ?_
    refine m_isFigure (L := L) (i := i) F h9 hL (by omega) (fun hs1 => ?_) (fun hs1 => ?_)
    · refine aw_re (S' := [.int 1]) rfl ?_
      refine aw_if_eq (npc := 181) (tgt := 238) dX8_go_178 rfl (by decide) (fun hc => absurd hc (by decide)) (fun _ => ?_)
      refine aw_aload_n (npc := 182) rfl dX8_go_181 rfl ?_
      refine aw_aload_n (npc := 183) rfl dX8_go_182 rfl ?_
      refine aw_get (npc := 186) dX8_go_183 rfl kf_X8_195 F.1 rfl ?_
      refine aw_top (y := nI i) (h10) ?_
      refine aw_aload_n (npc := 187) rfl dX8_go_186 rfl ?_
      refine aw_get (npc := 190) dX8_go_187 rfl kf_X8_198 F.1 rfl ?_
      refine aw_top (y := nI f) (h11) ?_
      refine aw_isubV (npc := 191) (v := nI (i - f)) dX8_go_190 rfl (pk_sub (by omega)) ?_
      refine aw_iconst (npc := 192) (v := 4) (by decide) dX8_go_191 rfl ?_
      refine aw_icmp_ge (npc := 195) (tgt := 218) dX8_go_192 rfl (by decide) (fun hc2 => ?_) (fun hc2 => ?_)
      · have hc2N := (nI_leI (a := 4) (b := (i - f)) (by omega) (by omega)).mp hc2
        refine aw_aload_n (npc := 219) rfl dX8_go_218 rfl ?_
        refine aw_get (npc := 222) dX8_go_219 rfl kf_X8_210 F.1 rfl ?_
        refine aw_put (npc := 225) dX8_go_222 rfl kf_X8_210 F.1 (Nat.le_of_ble_eq_true rfl) (am_ok_int _) rfl ?_
        have F3 := mr_o13 (v := o 13) F
        refine aw_aload_n (npc := 226) rfl dX8_go_225 rfl ?_
        refine aw_dup (npc := 227) rfl dX8_go_226 rfl ?_
        refine aw_get (npc := 230) dX8_go_227 rfl kf_X8_195 F3.1 rfl ?_
        refine aw_top (y := o 10) ((pk_un (by omega))) ?_
        refine aw_top (y := nI i) (h10) ?_
        refine aw_iconst (npc := 231) (v := 1) (by decide) dX8_go_230 rfl ?_
        refine aw_iaddV (npc := 232) (v := nI (i + 1)) dX8_go_231 rfl (nI_add _ 1) ?_
        refine aw_put (npc := 235) dX8_go_232 rfl kf_X8_195 F3.1 (Nat.le_of_ble_eq_true rfl) (am_ok_int _) rfl ?_
        have F4 := mr_o10 (v := nI (i + 1)) F3
        refine aw_goto (npc := 170) dX8_go_235 (by decide) ?_
        refine ih (i + 1) (by omega) _ _ F4 ((pk_un (by decide)).trans ((pk_un (by decide)).trans h9)) pk_us ((pk_un (by decide)).trans ((pk_un (by decide)).trans h11)) (fun z => absurd z (by omega)) (by omega) (fun o9 h9x q1 q2 F9 f9 v9 => hq o9 h9x (q1.trans ?_) (fun k hk hk3 => (q2 k hk hk3).trans ((pk_un hk).trans (pk_un hk3))) F9 (am_fpT f9 (am_fpU (show ¬ (69 < 69 ∨ 92 ≤ 69) by omega) (am_fpU (show ¬ (69 < 69 ∨ 92 ≤ 69) by omega) am_fp0))) ?_)
        · exact congrArg nI (rn_s hs1.1 hs1.2).symm
        · exact ((rn_s hs1.1 hs1.2).symm) ▸ v9
      · have hc2N : ¬ 4 ≤ (i - f) := fun z9q => hc2 ((nI_leI (a := 4) (b := (i - f)) (by omega) (by omega)).mpr z9q)
        refine aw_bipush (npc := 197) (v := 10) (by decide) dX8_go_195 rfl ?_
        refine aw_aload_n (npc := 198) rfl dX8_go_197 rfl ?_
        refine aw_get (npc := 201) dX8_go_198 rfl kf_X8_210 F.1 rfl ?_
        refine aw_imul (npc := 202) dX8_go_201 rfl ?_
        refine aw_aload_n (npc := 203) rfl dX8_go_202 rfl ?_
        refine aw_get (npc := 206) dX8_go_203 rfl kf_X8_29 F.1 rfl ?_
        refine aw_aload_n (npc := 207) rfl dX8_go_206 rfl ?_
        refine aw_get (npc := 210) dX8_go_207 rfl kf_X8_195 F.1 rfl ?_
        refine aw_top (y := nI i) (h10) ?_
        refine aw_iald (npc := 211) (x := (a 75) i) (j := i) dX8_go_210 rfl F.2.2.2.2.2.2.1 (am_ix_nI (by omega)) (tl_at (by omega)) ?_
        refine aw_iadd (npc := 212) dX8_go_211 rfl ?_
        refine aw_bipush (npc := 214) (v := 48) (by decide) dX8_go_212 rfl ?_
        refine aw_isub (npc := 215) dX8_go_214 rfl ?_
        refine aw_goto (npc := 222) dX8_go_215 (by decide) ?_
        refine aw_put (npc := 225) dX8_go_222 rfl kf_X8_210 F.1 (Nat.le_of_ble_eq_true rfl) (am_ok_int _) rfl ?_
        have F5 := mr_o13 (v := ((10 * (o 13)) + ((a 75) i)) - 48) F
        refine aw_aload_n (npc := 226) rfl dX8_go_225 rfl ?_
        refine aw_dup (npc := 227) rfl dX8_go_226 rfl ?_
        refine aw_get (npc := 230) dX8_go_227 rfl kf_X8_195 F5.1 rfl ?_
        refine aw_top (y := o 10) ((pk_un (by omega))) ?_
        refine aw_top (y := nI i) (h10) ?_
        refine aw_iconst (npc := 231) (v := 1) (by decide) dX8_go_230 rfl ?_
        refine aw_iaddV (npc := 232) (v := nI (i + 1)) dX8_go_231 rfl (nI_add _ 1) ?_
        refine aw_put (npc := 235) dX8_go_232 rfl kf_X8_195 F5.1 (Nat.le_of_ble_eq_true rfl) (am_ok_int _) rfl ?_
        have F6 := mr_o10 (v := nI (i + 1)) F5
        refine aw_goto (npc := 170) dX8_go_235 (by decide) ?_
        refine ih (i + 1) (by omega) _ _ F6 ((pk_un (by decide)).trans ((pk_un (by decide)).trans h9)) pk_us ((pk_un (by decide)).trans ((pk_un (by decide)).trans h11)) (fun z => ((pk_un (by decide)).trans pk_us).trans (nu_a hfi (hv (by omega)))) (by omega) (fun o9 h9x q1 q2 F9 f9 v9 => hq o9 h9x (q1.trans ?_) (fun k hk hk3 => (q2 k hk hk3).trans ((pk_un hk).trans (pk_un hk3))) F9 (am_fpT f9 (am_fpU (show ¬ (69 < 69 ∨ 92 ≤ 69) by omega) (am_fpU (show ¬ (69 < 69 ∨ 92 ≤ 69) by omega) am_fp0))) ?_)
        · exact congrArg nI (rn_s hs1.1 hs1.2).symm
        · exact ((rn_s hs1.1 hs1.2).symm) ▸ v9
    · refine aw_re (S' := [.int 0]) rfl ?_
      refine aw_if_eq (npc := 181) (tgt := 238) dX8_go_178 rfl (by decide) (fun _ => ?_) (fun hc => absurd (by decide) hc)
      exact hq o h (h10.trans (congrArg nI (rn_e (L := L) (tp := a 75) (t := 2) (i := i) (by have z := hs1; omega)).symm)) (fun _ _ _ => rfl) F am_fp0 ((rn_e (L := L) (tp := a 75) (t := 2) (i := i) (by have z := hs1; omega)).symm ▸ hv)
def VK (L : Nat) (tp : Nat → Int32) (K : Nat × Nat × Nat) (o : Nat → Int32) : Prop := o 10 = nI K.2.2 ∧ o 11 = nI K.2.1 ∧ o 12 = nI (mtk K.1) ∧ (K.1 = 1 ∨ K.1 = 3 → o 13 = tp K.2.1) ∧ (K.1 = 2 → o 13 = nuV tp (K.2.2 - K.2.1) K.2.1 0) ∧ (K.1 = 1 ∨ K.1 = 2 ∨ K.1 = 3 → ∀ s, K.2.2 ≤ s → s ≤ L → (o 14 = nI s ↔ (wd K = true ∧ s = K.2.2)))
def gK (o9 o : Nat → Int32) : Prop := ∀ k, k ≠ 10 → k ≠ 11 → k ≠ 12 → k ≠ 13 → k ≠ 14 → o9 k = o k
theorem en_t {L e : Nat} {K : Nat × Nat × Nat} {x : Int32} (hL : L ≤ 96) (he : K.2.2 ≤ L) (hx : x = nI K.2.2) (hw : wd K = true) : ∀ s, K.2.2 ≤ s → s ≤ L → (x = nI s ↔ (wd K = true ∧ s = K.2.2)) := fun s h1 h2 => ⟨fun z => ⟨hw, ((nI_eq (a := K.2.2) (b := s) (by omega) (by omega)).mp (hx.symm.trans z)).symm⟩, fun z => hx.trans (congrArg nI z.2.symm)⟩
set_option maxHeartbeats 4000000 in
set_option maxRecDepth 100000 in
theorem m_adv {X : List Int32} {d rc rs n : Nat} {Q : am_Q} {L : Nat} {N : Nat → Int32} {a : Nat → Nat → Int32} {o : Nat → Int32} {h : am_H} (F : MR o N a h) (h9 : o 9 = nI L) (hL : L ≤ 96) {i : Nat} {w : Bool} (h10 : o 10 = nI i) (hi : i ≤ L) (hen : ∀ s, i ≤ s → s ≤ L → (o 14 = nI s ↔ (w = true ∧ s = i))) (hq : ∀ o9 h9x, MR o9 N a h9x → VK L (a 75) (nx L (a 75) i w) o9 → gK o9 o → am_fp (fun k => k < 69 ∨ 92 ≤ k) h9x h → Q none n h9x) : AW X mX8_go (d + 2) rc rs 0 [some (.ref 69), none] [] n h Q := by
  refine m_bl hL (L - i) i (by omega) _ _ F h9 h10 (fun o1 h1 q1 q2 F1 f1 => ?_)
  have hsk := skB_p (tp := a 75) (L - i) i
  have hsk1 : i ≤ sk L (a 75) i := hsk.1
  have hsk2 : sk L (a 75) i ≤ L := by have z := hsk.2.1; show skB (a 75) (L - i) i ≤ L; omega
  have hsk3 : sk L (a 75) i < L → ¬ a 75 (sk L (a 75) i) = 32 := fun z => hsk.2.2 (by have z2 : skB (a 75) (L - i) i < L := z; omega)
  have h19 : o1 9 = nI L := (q2 9 (by decide)).trans h9
  have h114 : o1 14 = o 14 := q2 14 (by decide)
  generalize es : sk L (a 75) i = s at *
  refine aw_aload_n (npc := 39) rfl dX8_go_38 rfl ?_
  refine aw_aload_n (npc := 40) rfl dX8_go_39 rfl ?_
  refine aw_get (npc := 43) dX8_go_40 rfl kf_X8_195 F1.1 rfl ?_
  refine aw_top (y := nI s) (q1) ?_
  refine aw_put (npc := 46) dX8_go_43 rfl kf_X8_198 F1.1 (Nat.le_of_ble_eq_true rfl) (am_ok_int _) rfl ?_
  have F1 := mr_o11 (v := nI s) F1
  refine aw_aload_n (npc := 47) rfl dX8_go_46 rfl ?_
  refine aw_get (npc := 50) dX8_go_47 rfl kf_X8_198 F1.1 rfl ?_
  refine aw_top (y := nI s) (pk_us) ?_
  refine aw_aload_n (npc := 51) rfl dX8_go_50 rfl ?_
  refine aw_get (npc := 54) dX8_go_51 rfl kf_X8_201 F1.1 rfl ?_
  refine aw_top (y := o1 14) ((pk_un (by omega))) ?_
  refine aw_top (y := o 14) (h114) ?_
  refine aw_icmp_ne (npc := 57) (tgt := 61) dX8_go_54 rfl (by decide) (fun hc2 => ?_) (fun hc2 => ?_)
  · refine aw_iconst (npc := 62) (v := 0) (by decide) dX8_go_61 rfl ?_
    refine aw_istore_n (npc := 63) (L' := [some (.ref 69), some (.int 0)]) dX8_go_62 rfl (by decide) rfl rfl ?_
    refine aw_aload_n (npc := 64) rfl dX8_go_63 rfl ?_
    refine aw_get (npc := 67) dX8_go_64 rfl kf_X8_198 F1.1 rfl ?_
    refine aw_top (y := nI s) (pk_us) ?_
    refine aw_aload_n (npc := 68) rfl dX8_go_67 rfl ?_
    refine aw_get (npc := 71) dX8_go_68 rfl kf_X8_192 F1.1 rfl ?_
    refine aw_top (y := o1 9) ((pk_un (by omega))) ?_
    refine aw_top (y := nI L) (h19) ?_
    refine aw_icmp_ne (npc := 74) (tgt := 82) dX8_go_71 rfl (by decide) (fun hc3 => ?_) (fun hc3 => ?_)
    · have hc3N : ¬ s = L := fun z9q => hc3 ((nI_eq (a := s) (b := L) (by omega) (by omega)).mpr z9q)
      refine aw_aload_n (npc := 83) rfl dX8_go_82 rfl ?_
      refine aw_aload_n (npc := 84) rfl dX8_go_83 rfl ?_
      refine aw_get (npc := 87) dX8_go_84 rfl kf_X8_198 F1.1 rfl ?_
      refine aw_top (y := nI s) (pk_us) ?_
      refine aw_callV (npc := 90) (N := mX8_isLetter) (b := 69) (mc := 0) (ms := 0) (A := [.int (nI s)]) (S := []) (L0 := [some (.ref 69), some (.int (nI s))]) dX8_go_87 rfl km_X8_isLetter kk_X8_207 F1.1 ⟨by decide, rfl⟩ rfl ⟨rfl, by decide⟩ rfl (Nat.le_of_ble_eq_true rfl) (Nat.zero_add _) (Nat.zero_add _) rfl ?_
      refine m_isLetter (L := L) (i := s) F1 (((pk_un (by omega))).trans h19) hL (by omega) (fun hs4 => ?_) (fun hs4 => ?_)
      · refine aw_re (S' := [.int 1]) rfl ?_
        refine aw_if_eq (npc := 93) (tgt := 154) dX8_go_90 rfl (by decide) (fun hc => absurd hc (by decide)) (fun _ => ?_)
        refine m_wl hL (L - s) s (by omega) _ _ F1 ((pk_un (by decide)).trans h19) ((pk_un (by decide)).trans q1) (fun o2 h2 p1 p2 F2 f2 => ?_)
        have hrn := rnB_p (tp := a 75) (t := 1) (L - s) s
        have hrn1 : s ≤ rn L (a 75) 1 s := hrn.1
        have hrn2 : rn L (a 75) 1 s ≤ L := by have z := hrn.2.1; show rnB (a 75) 1 (L - s) s ≤ L; omega
        have p2m : ∀ k, k ≠ 10 → k ≠ 11 → o2 k = o k := fun k h1 h2 => (p2 k h1).trans ((pk_un h2).trans (q2 k h1))
        have p211 : o2 11 = nI s := (p2 11 (by decide)).trans pk_us
        refine aw_aload_n (npc := 118) rfl dX8_go_117 rfl ?_
        refine aw_iload_n (npc := 119) rfl dX8_go_118 rfl ?_
        refine aw_if_eq (npc := 122) (tgt := 126) dX8_go_119 rfl (by decide) (fun _ => ?_) (fun hc => absurd (by decide) hc)
        refine aw_iconst (npc := 127) (v := 1) (by decide) dX8_go_126 rfl ?_
        refine aw_put (npc := 130) dX8_go_127 rfl kf_X8_204 F2.1 (Nat.le_of_ble_eq_true rfl) (am_ok_int _) rfl ?_
        have F5 := mr_o12 (v := 1) F2
        refine aw_aload_n (npc := 131) rfl dX8_go_130 rfl ?_
        refine aw_aload_n (npc := 132) rfl dX8_go_131 rfl ?_
        refine aw_get (npc := 135) dX8_go_132 rfl kf_X8_29 F5.1 rfl ?_
        refine aw_aload_n (npc := 136) rfl dX8_go_135 rfl ?_
        refine aw_get (npc := 139) dX8_go_136 rfl kf_X8_198 F5.1 rfl ?_
        refine aw_top (y := o2 11) ((pk_un (by omega))) ?_
        refine aw_top (y := nI s) (p211) ?_
        refine aw_iald (npc := 140) (x := (a 75) s) (j := s) dX8_go_139 rfl F5.2.2.2.2.2.2.1 (am_ix_nI (by omega)) (tl_at (by omega)) ?_
        refine aw_put (npc := 143) dX8_go_140 rfl kf_X8_210 F5.1 (Nat.le_of_ble_eq_true rfl) (am_ok_int _) rfl ?_
        have F6 := mr_o13 (v := (a 75) s) F5
        refine aw_aload_n (npc := 144) rfl dX8_go_143 rfl ?_
        refine aw_aload_n (npc := 145) rfl dX8_go_144 rfl ?_
        refine aw_get (npc := 148) dX8_go_145 rfl kf_X8_195 F6.1 rfl ?_
        refine aw_top (y := o2 10) (((pk_un (by omega))).trans (pk_un (by omega))) ?_
        refine aw_top (y := nI (rn L (a 75) 1 s)) (p1) ?_
        refine aw_put (npc := 151) dX8_go_148 rfl kf_X8_201 F6.1 (Nat.le_of_ble_eq_true rfl) (am_ok_int _) rfl ?_
        have F7 := mr_o14 (v := nI (rn L (a 75) 1 s)) F6
        refine aw_goto (npc := 303) dX8_go_151 (by decide) ?_
        refine aw_vret rfl dX8_go_303 ?_
        have hw9 : ¬ (w = true ∧ s = i) := fun z => hc2 ((hen s hsk1 hsk2).mpr z).symm
        have hlt : s < L := hs4.1
        have sot : so (a 75 s) = 1 := hs4.2
        have ern : rn L (a 75) (so (a 75 s)) (s + 1) = rn L (a 75) 1 s := by rw [sot]; exact (rn_s hlt sot).symm
        have hgt : s + 1 ≤ rn L (a 75) 1 s := by have z := (rnB_p (tp := a 75) (t := 1) (L - (s + 1)) (s + 1)).1; have y : rn L (a 75) 1 s = rnB (a 75) 1 (L - (s + 1)) (s + 1) := rn_s hlt sot; omega
        have ea : nx L (a 75) i w = (1, s, rn L (a 75) 1 s) := by
          unfold nx
          rw [es, if_neg (show ¬ L ≤ s by omega), if_neg (show ¬ so (a 75 s) = 3 by omega), ern, sot]
          exact if_neg (fun z => z.elim hw9 (fun y => by cases y.1))
        exact hq _ _ F7 (ea ▸ (show VK L (a 75) (1, s, rn L (a 75) 1 s) _ from ⟨(((((pk_un (by omega))).trans (pk_un (by omega))).trans (pk_un (by omega))).trans p1), (((((pk_un (by omega))).trans (pk_un (by omega))).trans (pk_un (by omega))).trans p211), ((((pk_un (by omega))).trans (pk_un (by omega))).trans pk_us), (fun _ => (((pk_un (by omega))).trans pk_us)), (fun z => by cases z), fun _ => en_t (e := 0) (K := (1, s, rn L (a 75) 1 s)) hL hrn2 (pk_us) rfl⟩)) (fun k k10 k11 k12 k13 k14 => ((pk_un k14).trans ((pk_un k13).trans ((pk_un k12).trans (p2m k k10 k11))))) (am_fpU (show ¬ (69 < 69 ∨ 92 ≤ 69) by omega) (am_fpU (show ¬ (69 < 69 ∨ 92 ≤ 69) by omega) (am_fpU (show ¬ (69 < 69 ∨ 92 ≤ 69) by omega) (am_fpT f2 (am_fpU (show ¬ (69 < 69 ∨ 92 ≤ 69) by omega) f1)))))
      · refine aw_re (S' := [.int 0]) rfl ?_
        refine aw_if_eq (npc := 93) (tgt := 154) dX8_go_90 rfl (by decide) (fun _ => ?_) (fun hc => absurd (by decide) hc)
        refine aw_aload_n (npc := 155) rfl dX8_go_154 rfl ?_
        refine aw_aload_n (npc := 156) rfl dX8_go_155 rfl ?_
        refine aw_get (npc := 159) dX8_go_156 rfl kf_X8_198 F1.1 rfl ?_
        refine aw_top (y := nI s) (pk_us) ?_
        refine aw_callV (npc := 162) (N := mX8_isFigure) (b := 69) (mc := 0) (ms := 0) (A := [.int (nI s)]) (S := []) (L0 := [some (.ref 69), some (.int (nI s))]) dX8_go_159 rfl km_X8_isFigure kk_X8_213 F1.1 ⟨by decide, rfl⟩ rfl ⟨rfl, by decide⟩ rfl (Nat.le_of_ble_eq_true rfl) (Nat.zero_add _) (Nat.zero_add _) rfl ?_
        refine m_isFigure (L := L) (i := s) F1 (((pk_un (by omega))).trans h19) hL (by omega) (fun hs8 => ?_) (fun hs8 => ?_)
        · refine aw_re (S' := [.int 1]) rfl ?_
          refine aw_if_eq (npc := 165) (tgt := 275) dX8_go_162 rfl (by decide) (fun hc => absurd hc (by decide)) (fun _ => ?_)
          refine aw_aload_n (npc := 166) rfl dX8_go_165 rfl ?_
          refine aw_iconst (npc := 167) (v := 0) (by decide) dX8_go_166 rfl ?_
          refine aw_put (npc := 170) dX8_go_167 rfl kf_X8_210 F1.1 (Nat.le_of_ble_eq_true rfl) (am_ok_int _) rfl ?_
          have F9 := mr_o13 (v := 0) F1
          refine m_fl (f := s) hL (L - s) s (by omega) _ _ F9 ((pk_un (by decide)).trans ((pk_un (by decide)).trans h19)) ((pk_un (by decide)).trans ((pk_un (by decide)).trans q1)) ((pk_un (by decide)).trans pk_us) (fun _ => by rw [Nat.sub_self]; exact pk_us) (Nat.le_refl _) (fun o2 h2 p1 p2 F2 f2 v2 => ?_)
          have hrn := rnB_p (tp := a 75) (t := 2) (L - s) s
          have hrn1 : s ≤ rn L (a 75) 2 s := hrn.1
          have hrn2 : rn L (a 75) 2 s ≤ L := by have z := hrn.2.1; show rnB (a 75) 2 (L - s) s ≤ L; omega
          have p2m : ∀ k, k ≠ 10 → k ≠ 11 → k ≠ 13 → o2 k = o k := fun k h1 h2 h3 => (p2 k h1 h3).trans ((pk_un h3).trans ((pk_un h2).trans (q2 k h1)))
          have p211 : o2 11 = nI s := (p2 11 (by decide) (by decide)).trans ((pk_un (by decide)).trans pk_us)
          refine aw_aload_n (npc := 239) rfl dX8_go_238 rfl ?_
          refine aw_iload_n (npc := 240) rfl dX8_go_239 rfl ?_
          refine aw_if_ne (npc := 243) (tgt := 256) dX8_go_240 rfl (by decide) (fun hc => absurd (by decide) hc) (fun _ => ?_)
          refine aw_aload_n (npc := 244) rfl dX8_go_243 rfl ?_
          refine aw_get (npc := 247) dX8_go_244 rfl kf_X8_195 F2.1 rfl ?_
          refine aw_top (y := nI (rn L (a 75) 2 s)) (p1) ?_
          refine aw_aload_n (npc := 248) rfl dX8_go_247 rfl ?_
          refine aw_get (npc := 251) dX8_go_248 rfl kf_X8_198 F2.1 rfl ?_
          refine aw_top (y := nI s) (p211) ?_
          refine aw_isubV (npc := 252) (v := nI ((rn L (a 75) 2 s) - s)) dX8_go_251 rfl (pk_sub (by omega)) ?_
          refine aw_iconst (npc := 253) (v := 4) (by decide) dX8_go_252 rfl ?_
          refine aw_icmp_le (npc := 256) (tgt := 260) dX8_go_253 rfl (by decide) (fun hc10 => ?_) (fun hc10 => ?_)
          · have hc10N := (nI_leI (a := ((rn L (a 75) 2 s) - s)) (b := 4) (by omega) (by omega)).mp hc10
            refine aw_iconst (npc := 261) (v := 2) (by decide) dX8_go_260 rfl ?_
            refine aw_put (npc := 264) dX8_go_261 rfl kf_X8_204 F2.1 (Nat.le_of_ble_eq_true rfl) (am_ok_int _) rfl ?_
            have F11 := mr_o12 (v := 2) F2
            refine aw_aload_n (npc := 265) rfl dX8_go_264 rfl ?_
            refine aw_aload_n (npc := 266) rfl dX8_go_265 rfl ?_
            refine aw_get (npc := 269) dX8_go_266 rfl kf_X8_195 F11.1 rfl ?_
            refine aw_top (y := o2 10) ((pk_un (by omega))) ?_
            refine aw_top (y := nI (rn L (a 75) 2 s)) (p1) ?_
            refine aw_put (npc := 272) dX8_go_269 rfl kf_X8_201 F11.1 (Nat.le_of_ble_eq_true rfl) (am_ok_int _) rfl ?_
            have F12 := mr_o14 (v := nI (rn L (a 75) 2 s)) F11
            refine aw_goto (npc := 303) dX8_go_272 (by decide) ?_
            refine aw_vret rfl dX8_go_303 ?_
            have hw9 : ¬ (w = true ∧ s = i) := fun z => hc2 ((hen s hsk1 hsk2).mpr z).symm
            have hlt : s < L := hs8.1
            have sot : so (a 75 s) = 2 := hs8.2
            have ern : rn L (a 75) (so (a 75 s)) (s + 1) = rn L (a 75) 2 s := by rw [sot]; exact (rn_s hlt sot).symm
            have hgt : s + 1 ≤ rn L (a 75) 2 s := by have z := (rnB_p (tp := a 75) (t := 2) (L - (s + 1)) (s + 1)).1; have y : rn L (a 75) 2 s = rnB (a 75) 2 (L - (s + 1)) (s + 1) := rn_s hlt sot; omega
            have ea : nx L (a 75) i w = (2, s, rn L (a 75) 2 s) := by
              unfold nx
              rw [es, if_neg (show ¬ L ≤ s by omega), if_neg (show ¬ so (a 75 s) = 3 by omega), ern, sot]
              exact if_neg (fun z => z.elim hw9 (fun y => by have y2 := y.2; omega))
            exact hq _ _ F12 (ea ▸ (show VK L (a 75) (2, s, rn L (a 75) 2 s) _ from ⟨((((pk_un (by omega))).trans (pk_un (by omega))).trans p1), ((((pk_un (by omega))).trans (pk_un (by omega))).trans p211), (((pk_un (by omega))).trans pk_us), (fun z => by rcases z with z | z <;> cases z), (fun _ => ((((pk_un (by omega))).trans (pk_un (by omega))).trans (v2 (by omega)))), fun _ => en_t (e := 0) (K := (2, s, rn L (a 75) 2 s)) hL hrn2 (pk_us) rfl⟩)) (fun k k10 k11 k12 k13 k14 => ((pk_un k14).trans ((pk_un k12).trans (p2m k k10 k11 k13)))) (am_fpU (show ¬ (69 < 69 ∨ 92 ≤ 69) by omega) (am_fpU (show ¬ (69 < 69 ∨ 92 ≤ 69) by omega) (am_fpT f2 (am_fpU (show ¬ (69 < 69 ∨ 92 ≤ 69) by omega) (am_fpU (show ¬ (69 < 69 ∨ 92 ≤ 69) by omega) f1)))))
          · have hc10N : ¬ ((rn L (a 75) 2 s) - s) ≤ 4 := fun z9q => hc10 ((nI_leI (a := ((rn L (a 75) 2 s) - s)) (b := 4) (by omega) (by omega)).mpr z9q)
            refine aw_iconst (npc := 257) (v := 4) (by decide) dX8_go_256 rfl ?_
            refine aw_goto (npc := 261) dX8_go_257 (by decide) ?_
            refine aw_put (npc := 264) dX8_go_261 rfl kf_X8_204 F2.1 (Nat.le_of_ble_eq_true rfl) (am_ok_int _) rfl ?_
            have F13 := mr_o12 (v := 4) F2
            refine aw_aload_n (npc := 265) rfl dX8_go_264 rfl ?_
            refine aw_aload_n (npc := 266) rfl dX8_go_265 rfl ?_
            refine aw_get (npc := 269) dX8_go_266 rfl kf_X8_195 F13.1 rfl ?_
            refine aw_top (y := o2 10) ((pk_un (by omega))) ?_
            refine aw_top (y := nI (rn L (a 75) 2 s)) (p1) ?_
            refine aw_put (npc := 272) dX8_go_269 rfl kf_X8_201 F13.1 (Nat.le_of_ble_eq_true rfl) (am_ok_int _) rfl ?_
            have F14 := mr_o14 (v := nI (rn L (a 75) 2 s)) F13
            refine aw_goto (npc := 303) dX8_go_272 (by decide) ?_
            refine aw_vret rfl dX8_go_303 ?_
            have hw9 : ¬ (w = true ∧ s = i) := fun z => hc2 ((hen s hsk1 hsk2).mpr z).symm
            have hlt : s < L := hs8.1
            have sot : so (a 75 s) = 2 := hs8.2
            have ern : rn L (a 75) (so (a 75 s)) (s + 1) = rn L (a 75) 2 s := by rw [sot]; exact (rn_s hlt sot).symm
            have hgt : s + 1 ≤ rn L (a 75) 2 s := by have z := (rnB_p (tp := a 75) (t := 2) (L - (s + 1)) (s + 1)).1; have y : rn L (a 75) 2 s = rnB (a 75) 2 (L - (s + 1)) (s + 1) := rn_s hlt sot; omega
            have ea : nx L (a 75) i w = (5, s, rn L (a 75) 2 s) := by
              unfold nx
              rw [es, if_neg (show ¬ L ≤ s by omega), if_neg (show ¬ so (a 75 s) = 3 by omega), ern, sot]
              exact if_pos (Or.inr ⟨rfl, by omega⟩)
            exact hq _ _ F14 (ea ▸ (show VK L (a 75) (5, s, rn L (a 75) 2 s) _ from ⟨((((pk_un (by omega))).trans (pk_un (by omega))).trans p1), ((((pk_un (by omega))).trans (pk_un (by omega))).trans p211), (((pk_un (by omega))).trans pk_us), (fun z => by rcases z with z | z <;> cases z), (fun z => by cases z), (fun z => by rcases z with z | z | z <;> cases z)⟩)) (fun k k10 k11 k12 k13 k14 => ((pk_un k14).trans ((pk_un k12).trans (p2m k k10 k11 k13)))) (am_fpU (show ¬ (69 < 69 ∨ 92 ≤ 69) by omega) (am_fpU (show ¬ (69 < 69 ∨ 92 ≤ 69) by omega) (am_fpT f2 (am_fpU (show ¬ (69 < 69 ∨ 92 ≤ 69) by omega) (am_fpU (show ¬ (69 < 69 ∨ 92 ≤ 69) by omega) f1)))))
        · refine aw_re (S' := [.int 0]) rfl ?_
          refine aw_if_eq (npc := 165) (tgt := 275) dX8_go_162 rfl (by decide) (fun _ => ?_) (fun hc => absurd (by decide) hc)
          refine aw_aload_n (npc := 276) rfl dX8_go_275 rfl ?_
          refine aw_iconst (npc := 277) (v := 3) (by decide) dX8_go_276 rfl ?_
          refine aw_put (npc := 280) dX8_go_277 rfl kf_X8_204 F1.1 (Nat.le_of_ble_eq_true rfl) (am_ok_int _) rfl ?_
          have F15 := mr_o12 (v := 3) F1
          refine aw_aload_n (npc := 281) rfl dX8_go_280 rfl ?_
          refine aw_aload_n (npc := 282) rfl dX8_go_281 rfl ?_
          refine aw_get (npc := 285) dX8_go_282 rfl kf_X8_29 F15.1 rfl ?_
          refine aw_aload_n (npc := 286) rfl dX8_go_285 rfl ?_
          refine aw_get (npc := 289) dX8_go_286 rfl kf_X8_198 F15.1 rfl ?_
          refine aw_top (y := nI s) (((pk_un (by omega))).trans pk_us) ?_
          refine aw_iald (npc := 290) (x := (a 75) s) (j := s) dX8_go_289 rfl F15.2.2.2.2.2.2.1 (am_ix_nI (by omega)) (tl_at (by omega)) ?_
          refine aw_put (npc := 293) dX8_go_290 rfl kf_X8_210 F15.1 (Nat.le_of_ble_eq_true rfl) (am_ok_int _) rfl ?_
          have F16 := mr_o13 (v := (a 75) s) F15
          refine aw_aload_n (npc := 294) rfl dX8_go_293 rfl ?_
          refine aw_dup (npc := 295) rfl dX8_go_294 rfl ?_
          refine aw_get (npc := 298) dX8_go_295 rfl kf_X8_195 F16.1 rfl ?_
          refine aw_top (y := o1 10) ((((pk_un (by omega))).trans (pk_un (by omega))).trans (pk_un (by omega))) ?_
          refine aw_top (y := nI s) (q1) ?_
          refine aw_iconst (npc := 299) (v := 1) (by decide) dX8_go_298 rfl ?_
          refine aw_iaddV (npc := 300) (v := nI (s + 1)) dX8_go_299 rfl (nI_add _ 1) ?_
          refine aw_put (npc := 303) dX8_go_300 rfl kf_X8_195 F16.1 (Nat.le_of_ble_eq_true rfl) (am_ok_int _) rfl ?_
          have F17 := mr_o10 (v := nI (s + 1)) F16
          refine aw_vret rfl dX8_go_303 ?_
          have hw9 : ¬ (w = true ∧ s = i) := fun z => hc2 ((hen s hsk1 hsk2).mpr z).symm
          have hlt : s < L := by omega
          have so3 : so (a 75 s) = 3 := by
            rcases so_c (a 75 s) with z | z | z | z
            · exact absurd ⟨hlt, z⟩ hs4
            · exact absurd ⟨hlt, z⟩ hs8
            · exact z
            · exact absurd (so_4.mp z) (hsk3 hlt)
          have ea : nx L (a 75) i w = (3, s, s + 1) := by unfold nx; rw [es]; exact (if_neg (by omega)).trans (if_pos so3)
          exact hq _ _ F17 (ea ▸ (show VK L (a 75) (3, s, s + 1) _ from ⟨(pk_us), (((((pk_un (by omega))).trans (pk_un (by omega))).trans (pk_un (by omega))).trans pk_us), ((((pk_un (by omega))).trans (pk_un (by omega))).trans pk_us), (fun _ => (((pk_un (by omega))).trans pk_us)), (fun z => by cases z), fun _ s9 h1 h2 => ⟨fun z => absurd ((hen s9 (by have y : s + 1 ≤ s9 := h1; omega) h2).mp (((((((pk_un (by omega))).trans (pk_un (by omega))).trans (pk_un (by omega))).trans (pk_un (by omega))).trans h114).symm.trans z)).2 (by have y : s + 1 ≤ s9 := h1; omega), fun z => by cases z.1⟩⟩)) (fun k k10 k11 k12 k13 k14 => ((pk_un k10).trans ((pk_un k13).trans ((pk_un k12).trans ((pk_un k11).trans (q2 k k10)))))) (am_fpU (show ¬ (69 < 69 ∨ 92 ≤ 69) by omega) (am_fpU (show ¬ (69 < 69 ∨ 92 ≤ 69) by omega) (am_fpU (show ¬ (69 < 69 ∨ 92 ≤ 69) by omega) (am_fpU (show ¬ (69 < 69 ∨ 92 ≤ 69) by omega) f1))))
    · have hc3N := (nI_eq (a := s) (b := L) (by omega) (by omega)).mp hc3
      refine aw_aload_n (npc := 75) rfl dX8_go_74 rfl ?_
      refine aw_iconst (npc := 76) (v := 0) (by decide) dX8_go_75 rfl ?_
      refine aw_put (npc := 79) dX8_go_76 rfl kf_X8_204 F1.1 (Nat.le_of_ble_eq_true rfl) (am_ok_int _) rfl ?_
      have F18 := mr_o12 (v := 0) F1
      refine aw_goto (npc := 303) dX8_go_79 (by decide) ?_
      refine aw_vret rfl dX8_go_303 ?_
      have hw9 : ¬ (w = true ∧ s = i) := fun z => hc2 ((hen s hsk1 hsk2).mpr z).symm
      have ea : nx L (a 75) i w = (0, s, s) := by unfold nx; rw [es]; exact if_pos (by omega)
      exact hq _ _ F18 (ea ▸ (show VK L (a 75) (0, s, s) _ from ⟨((((pk_un (by omega))).trans (pk_un (by omega))).trans q1), (((pk_un (by omega))).trans pk_us), (pk_us), (fun z => by rcases z with z | z <;> cases z), (fun z => by cases z), (fun z => by rcases z with z | z | z <;> cases z)⟩)) (fun k k10 k11 k12 k13 k14 => ((pk_un k12).trans ((pk_un k11).trans (q2 k k10)))) (am_fpU (show ¬ (69 < 69 ∨ 92 ≤ 69) by omega) (am_fpU (show ¬ (69 < 69 ∨ 92 ≤ 69) by omega) f1))
  · refine aw_iconst (npc := 58) (v := 1) (by decide) dX8_go_57 rfl ?_
    refine aw_goto (npc := 62) dX8_go_58 (by decide) ?_
    refine aw_istore_n (npc := 63) (L' := [some (.ref 69), some (.int 1)]) dX8_go_62 rfl (by decide) rfl rfl ?_
    refine aw_aload_n (npc := 64) rfl dX8_go_63 rfl ?_
    refine aw_get (npc := 67) dX8_go_64 rfl kf_X8_198 F1.1 rfl ?_
    refine aw_top (y := nI s) (pk_us) ?_
    refine aw_aload_n (npc := 68) rfl dX8_go_67 rfl ?_
    refine aw_get (npc := 71) dX8_go_68 rfl kf_X8_192 F1.1 rfl ?_
    refine aw_top (y := o1 9) ((pk_un (by omega))) ?_
    refine aw_top (y := nI L) (h19) ?_
    refine aw_icmp_ne (npc := 74) (tgt := 82) dX8_go_71 rfl (by decide) (fun hc19 => ?_) (fun hc19 => ?_)
    · have hc19N : ¬ s = L := fun z9q => hc19 ((nI_eq (a := s) (b := L) (by omega) (by omega)).mpr z9q)
      refine aw_aload_n (npc := 83) rfl dX8_go_82 rfl ?_
      refine aw_aload_n (npc := 84) rfl dX8_go_83 rfl ?_
      refine aw_get (npc := 87) dX8_go_84 rfl kf_X8_198 F1.1 rfl ?_
      refine aw_top (y := nI s) (pk_us) ?_
      refine aw_callV (npc := 90) (N := mX8_isLetter) (b := 69) (mc := 0) (ms := 0) (A := [.int (nI s)]) (S := []) (L0 := [some (.ref 69), some (.int (nI s))]) dX8_go_87 rfl km_X8_isLetter kk_X8_207 F1.1 ⟨by decide, rfl⟩ rfl ⟨rfl, by decide⟩ rfl (Nat.le_of_ble_eq_true rfl) (Nat.zero_add _) (Nat.zero_add _) rfl ?_
      refine m_isLetter (L := L) (i := s) F1 (((pk_un (by omega))).trans h19) hL (by omega) (fun hs20 => ?_) (fun hs20 => ?_)
      · refine aw_re (S' := [.int 1]) rfl ?_
        refine aw_if_eq (npc := 93) (tgt := 154) dX8_go_90 rfl (by decide) (fun hc => absurd hc (by decide)) (fun _ => ?_)
        refine m_wl hL (L - s) s (by omega) _ _ F1 ((pk_un (by decide)).trans h19) ((pk_un (by decide)).trans q1) (fun o2 h2 p1 p2 F2 f2 => ?_)
        have hrn := rnB_p (tp := a 75) (t := 1) (L - s) s
        have hrn1 : s ≤ rn L (a 75) 1 s := hrn.1
        have hrn2 : rn L (a 75) 1 s ≤ L := by have z := hrn.2.1; show rnB (a 75) 1 (L - s) s ≤ L; omega
        have p2m : ∀ k, k ≠ 10 → k ≠ 11 → o2 k = o k := fun k h1 h2 => (p2 k h1).trans ((pk_un h2).trans (q2 k h1))
        have p211 : o2 11 = nI s := (p2 11 (by decide)).trans pk_us
        refine aw_aload_n (npc := 118) rfl dX8_go_117 rfl ?_
        refine aw_iload_n (npc := 119) rfl dX8_go_118 rfl ?_
        refine aw_if_eq (npc := 122) (tgt := 126) dX8_go_119 rfl (by decide) (fun hc => absurd hc (by decide)) (fun _ => ?_)
        refine aw_iconst (npc := 123) (v := 4) (by decide) dX8_go_122 rfl ?_
        refine aw_goto (npc := 127) dX8_go_123 (by decide) ?_
        refine aw_put (npc := 130) dX8_go_127 rfl kf_X8_204 F2.1 (Nat.le_of_ble_eq_true rfl) (am_ok_int _) rfl ?_
        have F21 := mr_o12 (v := 4) F2
        refine aw_aload_n (npc := 131) rfl dX8_go_130 rfl ?_
        refine aw_aload_n (npc := 132) rfl dX8_go_131 rfl ?_
        refine aw_get (npc := 135) dX8_go_132 rfl kf_X8_29 F21.1 rfl ?_
        refine aw_aload_n (npc := 136) rfl dX8_go_135 rfl ?_
        refine aw_get (npc := 139) dX8_go_136 rfl kf_X8_198 F21.1 rfl ?_
        refine aw_top (y := o2 11) ((pk_un (by omega))) ?_
        refine aw_top (y := nI s) (p211) ?_
        refine aw_iald (npc := 140) (x := (a 75) s) (j := s) dX8_go_139 rfl F21.2.2.2.2.2.2.1 (am_ix_nI (by omega)) (tl_at (by omega)) ?_
        refine aw_put (npc := 143) dX8_go_140 rfl kf_X8_210 F21.1 (Nat.le_of_ble_eq_true rfl) (am_ok_int _) rfl ?_
        have F22 := mr_o13 (v := (a 75) s) F21
        refine aw_aload_n (npc := 144) rfl dX8_go_143 rfl ?_
        refine aw_aload_n (npc := 145) rfl dX8_go_144 rfl ?_
        refine aw_get (npc := 148) dX8_go_145 rfl kf_X8_195 F22.1 rfl ?_
        refine aw_top (y := o2 10) (((pk_un (by omega))).trans (pk_un (by omega))) ?_
        refine aw_top (y := nI (rn L (a 75) 1 s)) (p1) ?_
        refine aw_put (npc := 151) dX8_go_148 rfl kf_X8_201 F22.1 (Nat.le_of_ble_eq_true rfl) (am_ok_int _) rfl ?_
        have F23 := mr_o14 (v := nI (rn L (a 75) 1 s)) F22
        refine aw_goto (npc := 303) dX8_go_151 (by decide) ?_
        refine aw_vret rfl dX8_go_303 ?_
        have hw9 : w = true ∧ s = i := (hen s hsk1 hsk2).mp hc2.symm
        have hlt : s < L := hs20.1
        have sot : so (a 75 s) = 1 := hs20.2
        have ern : rn L (a 75) (so (a 75 s)) (s + 1) = rn L (a 75) 1 s := by rw [sot]; exact (rn_s hlt sot).symm
        have hgt : s + 1 ≤ rn L (a 75) 1 s := by have z := (rnB_p (tp := a 75) (t := 1) (L - (s + 1)) (s + 1)).1; have y : rn L (a 75) 1 s = rnB (a 75) 1 (L - (s + 1)) (s + 1) := rn_s hlt sot; omega
        have ea : nx L (a 75) i w = (5, s, rn L (a 75) 1 s) := by
          unfold nx
          rw [es, if_neg (show ¬ L ≤ s by omega), if_neg (show ¬ so (a 75 s) = 3 by omega), ern, sot]
          exact if_pos (Or.inl hw9)
        exact hq _ _ F23 (ea ▸ (show VK L (a 75) (5, s, rn L (a 75) 1 s) _ from ⟨(((((pk_un (by omega))).trans (pk_un (by omega))).trans (pk_un (by omega))).trans p1), (((((pk_un (by omega))).trans (pk_un (by omega))).trans (pk_un (by omega))).trans p211), ((((pk_un (by omega))).trans (pk_un (by omega))).trans pk_us), (fun z => by rcases z with z | z <;> cases z), (fun z => by cases z), (fun z => by rcases z with z | z | z <;> cases z)⟩)) (fun k k10 k11 k12 k13 k14 => ((pk_un k14).trans ((pk_un k13).trans ((pk_un k12).trans (p2m k k10 k11))))) (am_fpU (show ¬ (69 < 69 ∨ 92 ≤ 69) by omega) (am_fpU (show ¬ (69 < 69 ∨ 92 ≤ 69) by omega) (am_fpU (show ¬ (69 < 69 ∨ 92 ≤ 69) by omega) (am_fpT f2 (am_fpU (show ¬ (69 < 69 ∨ 92 ≤ 69) by omega) f1)))))
      · refine aw_re (S' := [.int 0]) rfl ?_
        refine aw_if_eq (npc := 93) (tgt := 154) dX8_go_90 rfl (by decide) (fun _ => ?_) (fun hc => absurd (by decide) hc)
        refine aw_aload_n (npc := 155) rfl dX8_go_154 rfl ?_
        refine aw_aload_n (npc := 156) rfl dX8_go_155 rfl ?_
        refine aw_get (npc := 159) dX8_go_156 rfl kf_X8_198 F1.1 rfl ?_
        refine aw_top (y := nI s) (pk_us) ?_
        refine aw_callV (npc := 162) (N := mX8_isFigure) (b := 69) (mc := 0) (ms := 0) (A := [.int (nI s)]) (S := []) (L0 := [some (.ref 69), some (.int (nI s))]) dX8_go_159 rfl km_X8_isFigure kk_X8_213 F1.1 ⟨by decide, rfl⟩ rfl ⟨rfl, by decide⟩ rfl (Nat.le_of_ble_eq_true rfl) (Nat.zero_add _) (Nat.zero_add _) rfl ?_
        refine m_isFigure (L := L) (i := s) F1 (((pk_un (by omega))).trans h19) hL (by omega) (fun hs24 => ?_) (fun hs24 => ?_)
        · refine aw_re (S' := [.int 1]) rfl ?_
          refine aw_if_eq (npc := 165) (tgt := 275) dX8_go_162 rfl (by decide) (fun hc => absurd hc (by decide)) (fun _ => ?_)
          refine aw_aload_n (npc := 166) rfl dX8_go_165 rfl ?_
          refine aw_iconst (npc := 167) (v := 0) (by decide) dX8_go_166 rfl ?_
          refine aw_put (npc := 170) dX8_go_167 rfl kf_X8_210 F1.1 (Nat.le_of_ble_eq_true rfl) (am_ok_int _) rfl ?_
          have F25 := mr_o13 (v := 0) F1
          refine m_fl (f := s) hL (L - s) s (by omega) _ _ F25 ((pk_un (by decide)).trans ((pk_un (by decide)).trans h19)) ((pk_un (by decide)).trans ((pk_un (by decide)).trans q1)) ((pk_un (by decide)).trans pk_us) (fun _ => by rw [Nat.sub_self]; exact pk_us) (Nat.le_refl _) (fun o2 h2 p1 p2 F2 f2 v2 => ?_)
          have hrn := rnB_p (tp := a 75) (t := 2) (L - s) s
          have hrn1 : s ≤ rn L (a 75) 2 s := hrn.1
          have hrn2 : rn L (a 75) 2 s ≤ L := by have z := hrn.2.1; show rnB (a 75) 2 (L - s) s ≤ L; omega
          have p2m : ∀ k, k ≠ 10 → k ≠ 11 → k ≠ 13 → o2 k = o k := fun k h1 h2 h3 => (p2 k h1 h3).trans ((pk_un h3).trans ((pk_un h2).trans (q2 k h1)))
          have p211 : o2 11 = nI s := (p2 11 (by decide) (by decide)).trans ((pk_un (by decide)).trans pk_us)
          refine aw_aload_n (npc := 239) rfl dX8_go_238 rfl ?_
          refine aw_iload_n (npc := 240) rfl dX8_go_239 rfl ?_
          refine aw_if_ne (npc := 243) (tgt := 256) dX8_go_240 rfl (by decide) (fun _ => ?_) (fun hc => absurd hc (by decide))
          refine aw_iconst (npc := 257) (v := 4) (by decide) dX8_go_256 rfl ?_
          refine aw_goto (npc := 261) dX8_go_257 (by decide) ?_
          refine aw_put (npc := 264) dX8_go_261 rfl kf_X8_204 F2.1 (Nat.le_of_ble_eq_true rfl) (am_ok_int _) rfl ?_
          have F26 := mr_o12 (v := 4) F2
          refine aw_aload_n (npc := 265) rfl dX8_go_264 rfl ?_
          refine aw_aload_n (npc := 266) rfl dX8_go_265 rfl ?_
          refine aw_get (npc := 269) dX8_go_266 rfl kf_X8_195 F26.1 rfl ?_
          refine aw_top (y := o2 10) ((pk_un (by omega))) ?_
          refine aw_top (y := nI (rn L (a 75) 2 s)) (p1) ?_
          refine aw_put (npc := 272) dX8_go_269 rfl kf_X8_201 F26.1 (Nat.le_of_ble_eq_true rfl) (am_ok_int _) rfl ?_
          have F27 := mr_o14 (v := nI (rn L (a 75) 2 s)) F26
          refine aw_goto (npc := 303) dX8_go_272 (by decide) ?_
          refine aw_vret rfl dX8_go_303 ?_
          have hw9 : w = true ∧ s = i := (hen s hsk1 hsk2).mp hc2.symm
          have hlt : s < L := hs24.1
          have sot : so (a 75 s) = 2 := hs24.2
          have ern : rn L (a 75) (so (a 75 s)) (s + 1) = rn L (a 75) 2 s := by rw [sot]; exact (rn_s hlt sot).symm
          have hgt : s + 1 ≤ rn L (a 75) 2 s := by have z := (rnB_p (tp := a 75) (t := 2) (L - (s + 1)) (s + 1)).1; have y : rn L (a 75) 2 s = rnB (a 75) 2 (L - (s + 1)) (s + 1) := rn_s hlt sot; omega
          have ea : nx L (a 75) i w = (5, s, rn L (a 75) 2 s) := by
            unfold nx
            rw [es, if_neg (show ¬ L ≤ s by omega), if_neg (show ¬ so (a 75 s) = 3 by omega), ern, sot]
            exact if_pos (Or.inl hw9)
          exact hq _ _ F27 (ea ▸ (show VK L (a 75) (5, s, rn L (a 75) 2 s) _ from ⟨((((pk_un (by omega))).trans (pk_un (by omega))).trans p1), ((((pk_un (by omega))).trans (pk_un (by omega))).trans p211), (((pk_un (by omega))).trans pk_us), (fun z => by rcases z with z | z <;> cases z), (fun z => by cases z), (fun z => by rcases z with z | z | z <;> cases z)⟩)) (fun k k10 k11 k12 k13 k14 => ((pk_un k14).trans ((pk_un k12).trans (p2m k k10 k11 k13)))) (am_fpU (show ¬ (69 < 69 ∨ 92 ≤ 69) by omega) (am_fpU (show ¬ (69 < 69 ∨ 92 ≤ 69) by omega) (am_fpT f2 (am_fpU (show ¬ (69 < 69 ∨ 92 ≤ 69) by omega) (am_fpU (show ¬ (69 < 69 ∨ 92 ≤ 69) by omega) f1)))))
        · refine aw_re (S' := [.int 0]) rfl ?_
          refine aw_if_eq (npc := 165) (tgt := 275) dX8_go_162 rfl (by decide) (fun _ => ?_) (fun hc => absurd (by decide) hc)
          refine aw_aload_n (npc := 276) rfl dX8_go_275 rfl ?_
          refine aw_iconst (npc := 277) (v := 3) (by decide) dX8_go_276 rfl ?_
          refine aw_put (npc := 280) dX8_go_277 rfl kf_X8_204 F1.1 (Nat.le_of_ble_eq_true rfl) (am_ok_int _) rfl ?_
          have F28 := mr_o12 (v := 3) F1
          refine aw_aload_n (npc := 281) rfl dX8_go_280 rfl ?_
          refine aw_aload_n (npc := 282) rfl dX8_go_281 rfl ?_
          refine aw_get (npc := 285) dX8_go_282 rfl kf_X8_29 F28.1 rfl ?_
          refine aw_aload_n (npc := 286) rfl dX8_go_285 rfl ?_
          refine aw_get (npc := 289) dX8_go_286 rfl kf_X8_198 F28.1 rfl ?_
          refine aw_top (y := nI s) (((pk_un (by omega))).trans pk_us) ?_
          refine aw_iald (npc := 290) (x := (a 75) s) (j := s) dX8_go_289 rfl F28.2.2.2.2.2.2.1 (am_ix_nI (by omega)) (tl_at (by omega)) ?_
          refine aw_put (npc := 293) dX8_go_290 rfl kf_X8_210 F28.1 (Nat.le_of_ble_eq_true rfl) (am_ok_int _) rfl ?_
          have F29 := mr_o13 (v := (a 75) s) F28
          refine aw_aload_n (npc := 294) rfl dX8_go_293 rfl ?_
          refine aw_dup (npc := 295) rfl dX8_go_294 rfl ?_
          refine aw_get (npc := 298) dX8_go_295 rfl kf_X8_195 F29.1 rfl ?_
          refine aw_top (y := o1 10) ((((pk_un (by omega))).trans (pk_un (by omega))).trans (pk_un (by omega))) ?_
          refine aw_top (y := nI s) (q1) ?_
          refine aw_iconst (npc := 299) (v := 1) (by decide) dX8_go_298 rfl ?_
          refine aw_iaddV (npc := 300) (v := nI (s + 1)) dX8_go_299 rfl (nI_add _ 1) ?_
          refine aw_put (npc := 303) dX8_go_300 rfl kf_X8_195 F29.1 (Nat.le_of_ble_eq_true rfl) (am_ok_int _) rfl ?_
          have F30 := mr_o10 (v := nI (s + 1)) F29
          refine aw_vret rfl dX8_go_303 ?_
          have hw9 : w = true ∧ s = i := (hen s hsk1 hsk2).mp hc2.symm
          have hlt : s < L := by omega
          have so3 : so (a 75 s) = 3 := by
            rcases so_c (a 75 s) with z | z | z | z
            · exact absurd ⟨hlt, z⟩ hs20
            · exact absurd ⟨hlt, z⟩ hs24
            · exact z
            · exact absurd (so_4.mp z) (hsk3 hlt)
          have ea : nx L (a 75) i w = (3, s, s + 1) := by unfold nx; rw [es]; exact (if_neg (by omega)).trans (if_pos so3)
          exact hq _ _ F30 (ea ▸ (show VK L (a 75) (3, s, s + 1) _ from ⟨(pk_us), (((((pk_un (by omega))).trans (pk_un (by omega))).trans (pk_un (by omega))).trans pk_us), ((((pk_un (by omega))).trans (pk_un (by omega))).trans pk_us), (fun _ => (((pk_un (by omega))).trans pk_us)), (fun z => by cases z), fun _ s9 h1 h2 => ⟨fun z => absurd ((hen s9 (by have y : s + 1 ≤ s9 := h1; omega) h2).mp (((((((pk_un (by omega))).trans (pk_un (by omega))).trans (pk_un (by omega))).trans (pk_un (by omega))).trans h114).symm.trans z)).2 (by have y : s + 1 ≤ s9 := h1; omega), fun z => by cases z.1⟩⟩)) (fun k k10 k11 k12 k13 k14 => ((pk_un k10).trans ((pk_un k13).trans ((pk_un k12).trans ((pk_un k11).trans (q2 k k10)))))) (am_fpU (show ¬ (69 < 69 ∨ 92 ≤ 69) by omega) (am_fpU (show ¬ (69 < 69 ∨ 92 ≤ 69) by omega) (am_fpU (show ¬ (69 < 69 ∨ 92 ≤ 69) by omega) (am_fpU (show ¬ (69 < 69 ∨ 92 ≤ 69) by omega) f1))))
    · have hc19N := (nI_eq (a := s) (b := L) (by omega) (by omega)).mp hc19
      refine aw_aload_n (npc := 75) rfl dX8_go_74 rfl ?_
      refine aw_iconst (npc := 76) (v := 0) (by decide) dX8_go_75 rfl ?_
      refine aw_put (npc := 79) dX8_go_76 rfl kf_X8_204 F1.1 (Nat.le_of_ble_eq_true rfl) (am_ok_int _) rfl ?_
      have F31 := mr_o12 (v := 0) F1
      refine aw_goto (npc := 303) dX8_go_79 (by decide) ?_
      refine aw_vret rfl dX8_go_303 ?_
      have hw9 : w = true ∧ s = i := (hen s hsk1 hsk2).mp hc2.symm
      have ea : nx L (a 75) i w = (0, s, s) := by unfold nx; rw [es]; exact if_pos (by omega)
      exact hq _ _ F31 (ea ▸ (show VK L (a 75) (0, s, s) _ from ⟨((((pk_un (by omega))).trans (pk_un (by omega))).trans q1), (((pk_un (by omega))).trans pk_us), (pk_us), (fun z => by rcases z with z | z <;> cases z), (fun z => by cases z), (fun z => by rcases z with z | z | z <;> cases z)⟩)) (fun k k10 k11 k12 k13 k14 => ((pk_un k12).trans ((pk_un k11).trans (q2 k k10)))) (am_fpU (show ¬ (69 < 69 ∨ 92 ≤ 69) by omega) (am_fpU (show ¬ (69 < 69 ∨ 92 ≤ 69) by omega) f1))
def rkM (x : Int32) : Int32 := if x = -1 then 1 else if x = -2 then 2 else if -5 ≤ x then 3 else if -7 ≤ x then 4 else if -9 ≤ x then 5 else 6
set_option maxHeartbeats 4000000 in
set_option maxRecDepth 100000 in
theorem m_rank {X : List Int32} {d rc rs n : Nat} {Q : am_Q} {h : am_H} {x : Int32} (hq : Q (some (.int (rkM x))) n h) : AW X mX8_rank d rc rs 0 [some (.int x)] [] n h Q := by
  refine aw_iload_n (npc := 1) rfl dX8_rank_0 rfl ?_
  refine aw_iconst (npc := 2) (v := -1) (by decide) dX8_rank_1 rfl ?_
  refine aw_icmp_ne (npc := 5) (tgt := 9) dX8_rank_2 rfl (by decide) (fun hc1 => ?_) (fun hc1 => ?_)
  · refine aw_iload_n (npc := 10) rfl dX8_rank_9 rfl ?_
    refine aw_bipush (npc := 12) (v := -2) (by decide) dX8_rank_10 rfl ?_
    refine aw_icmp_ne (npc := 15) (tgt := 19) dX8_rank_12 rfl (by decide) (fun hc2 => ?_) (fun hc2 => ?_)
    · refine aw_iload_n (npc := 20) rfl dX8_rank_19 rfl ?_
      refine aw_bipush (npc := 22) (v := -5) (by decide) dX8_rank_20 rfl ?_
      refine aw_icmp_lt (npc := 25) (tgt := 29) dX8_rank_22 rfl (by decide) (fun hc3 => ?_) (fun hc3 => ?_)
      · refine aw_iload_n (npc := 30) rfl dX8_rank_29 rfl ?_
        refine aw_bipush (npc := 32) (v := -7) (by decide) dX8_rank_30 rfl ?_
        refine aw_icmp_lt (npc := 35) (tgt := 39) dX8_rank_32 rfl (by decide) (fun hc4 => ?_) (fun hc4 => ?_)
        · refine aw_iload_n (npc := 40) rfl dX8_rank_39 rfl ?_
          refine aw_bipush (npc := 42) (v := -9) (by decide) dX8_rank_40 rfl ?_
          refine aw_icmp_lt (npc := 45) (tgt := 49) dX8_rank_42 rfl (by decide) (fun hc5 => ?_) (fun hc5 => ?_)
          · refine aw_bipush (npc := 51) (v := 6) (by decide) dX8_rank_49 rfl ?_
            refine aw_iret rfl dX8_rank_51 ?_
            exact (show rkM x = 6 by simp [rkM, hc1, hc2, Int32.not_le.mpr hc3, Int32.not_le.mpr hc4, Int32.not_le.mpr hc5]) ▸ hq
          · refine aw_iconst (npc := 46) (v := 5) (by decide) dX8_rank_45 rfl ?_
            refine aw_goto (npc := 51) dX8_rank_46 (by decide) ?_
            refine aw_iret rfl dX8_rank_51 ?_
            exact (show rkM x = 5 by simp [rkM, hc1, hc2, Int32.not_le.mpr hc3, Int32.not_le.mpr hc4, Int32.not_lt.mp hc5]) ▸ hq
        · refine aw_iconst (npc := 36) (v := 4) (by decide) dX8_rank_35 rfl ?_
          refine aw_goto (npc := 51) dX8_rank_36 (by decide) ?_
          refine aw_iret rfl dX8_rank_51 ?_
          exact (show rkM x = 4 by simp [rkM, hc1, hc2, Int32.not_le.mpr hc3, Int32.not_lt.mp hc4]) ▸ hq
      · refine aw_iconst (npc := 26) (v := 3) (by decide) dX8_rank_25 rfl ?_
        refine aw_goto (npc := 51) dX8_rank_26 (by decide) ?_
        refine aw_iret rfl dX8_rank_51 ?_
        exact (show rkM x = 3 by simp [rkM, hc1, hc2, Int32.not_lt.mp hc3]) ▸ hq
    · refine aw_iconst (npc := 16) (v := 2) (by decide) dX8_rank_15 rfl ?_
      refine aw_goto (npc := 51) dX8_rank_16 (by decide) ?_
      refine aw_iret rfl dX8_rank_51 ?_
      exact (show rkM x = 2 by simp [rkM, hc1, hc2]) ▸ hq
  · refine aw_iconst (npc := 6) (v := 1) (by decide) dX8_rank_5 rfl ?_
    refine aw_goto (npc := 51) dX8_rank_6 (by decide) ?_
    refine aw_iret rfl dX8_rank_51 ?_
    exact (show rkM x = 1 by simp [rkM, hc1]) ▸ hq
def sgm (b : Int32) : Int32 := if b = 124 then -1 else if b = 38 then -2 else if b = 60 then -3 else if b = 61 then -4 else if b = 62 then -5 else if b = 43 then -6 else if b = 45 then -7 else if b = 42 then -8 else if b = 47 then -9 else 0
def sgV (t : Nat) (b : Int32) : Int32 := if t = 3 then sgm b else 0
set_option maxHeartbeats 4000000 in
set_option maxRecDepth 100000 in
theorem m_sign {X : List Int32} {d rc rs n : Nat} {Q : am_Q} {L : Nat} {N : Nat → Int32} {a : Nat → Nat → Int32} {o : Nat → Int32} {h : am_H} {t : Nat} {y : Int32} (F : MR o N a h) (ht : t ≤ 5) (h12 : o 12 = nI t) (h13 : o 13 = y) (hq : Q (some (.int (sgV t y))) n h) : AW X mX8_signHere d rc rs 0 [some (.ref 69)] [] n h Q := by
  refine aw_aload_n (npc := 1) rfl dX8_signHere_0 rfl ?_
  refine aw_get (npc := 4) dX8_signHere_1 rfl kf_X8_204 F.1 rfl ?_
  refine aw_top (y := nI t) (h12) ?_
  refine aw_iconst (npc := 5) (v := 3) (by decide) dX8_signHere_4 rfl ?_
  refine aw_icmp_eq (npc := 8) (tgt := 10) dX8_signHere_5 rfl (by decide) (fun hc1 => ?_) (fun hc1 => ?_)
  · have hc1N := (nI_eq (a := t) (b := 3) (by omega) (by omega)).mp hc1
    refine aw_aload_n (npc := 11) rfl dX8_signHere_10 rfl ?_
    refine aw_get (npc := 14) dX8_signHere_11 rfl kf_X8_210 F.1 rfl ?_
    refine aw_top (y := y) (h13) ?_
    by_cases hk2 : y = 38
    · subst hk2
      refine aw_lookup (npc := 98) (off := 84) dX8_signHere_14 rfl (by decide) (by decide) ?_
      refine aw_bipush (npc := 100) (v := -2) (by decide) dX8_signHere_98 rfl ?_
      refine aw_iret rfl dX8_signHere_100 ?_
      exact (show sgV t 38 = (-2) by simp [sgV, sgm, hc1N]) ▸ hq
    by_cases hk3 : y = 42
    · subst hk3
      refine aw_lookup (npc := 116) (off := 102) dX8_signHere_14 rfl (by decide) (by decide) ?_
      refine aw_bipush (npc := 118) (v := -8) (by decide) dX8_signHere_116 rfl ?_
      refine aw_iret rfl dX8_signHere_118 ?_
      exact (show sgV t 42 = (-8) by simp [sgV, sgm, hc1N]) ▸ hq
    by_cases hk4 : y = 43
    · subst hk4
      refine aw_lookup (npc := 110) (off := 96) dX8_signHere_14 rfl (by decide) (by decide) ?_
      refine aw_bipush (npc := 112) (v := -6) (by decide) dX8_signHere_110 rfl ?_
      refine aw_iret rfl dX8_signHere_112 ?_
      exact (show sgV t 43 = (-6) by simp [sgV, sgm, hc1N]) ▸ hq
    by_cases hk5 : y = 45
    · subst hk5
      refine aw_lookup (npc := 113) (off := 99) dX8_signHere_14 rfl (by decide) (by decide) ?_
      refine aw_bipush (npc := 115) (v := -7) (by decide) dX8_signHere_113 rfl ?_
      refine aw_iret rfl dX8_signHere_115 ?_
      exact (show sgV t 45 = (-7) by simp [sgV, sgm, hc1N]) ▸ hq
    by_cases hk6 : y = 47
    · subst hk6
      refine aw_lookup (npc := 119) (off := 105) dX8_signHere_14 rfl (by decide) (by decide) ?_
      refine aw_bipush (npc := 121) (v := -9) (by decide) dX8_signHere_119 rfl ?_
      refine aw_iret rfl dX8_signHere_121 ?_
      exact (show sgV t 47 = (-9) by simp [sgV, sgm, hc1N]) ▸ hq
    by_cases hk7 : y = 60
    · subst hk7
      refine aw_lookup (npc := 101) (off := 87) dX8_signHere_14 rfl (by decide) (by decide) ?_
      refine aw_bipush (npc := 103) (v := -3) (by decide) dX8_signHere_101 rfl ?_
      refine aw_iret rfl dX8_signHere_103 ?_
      exact (show sgV t 60 = (-3) by simp [sgV, sgm, hc1N]) ▸ hq
    by_cases hk8 : y = 61
    · subst hk8
      refine aw_lookup (npc := 104) (off := 90) dX8_signHere_14 rfl (by decide) (by decide) ?_
      refine aw_bipush (npc := 106) (v := -4) (by decide) dX8_signHere_104 rfl ?_
      refine aw_iret rfl dX8_signHere_106 ?_
      exact (show sgV t 61 = (-4) by simp [sgV, sgm, hc1N]) ▸ hq
    by_cases hk9 : y = 62
    · subst hk9
      refine aw_lookup (npc := 107) (off := 93) dX8_signHere_14 rfl (by decide) (by decide) ?_
      refine aw_bipush (npc := 109) (v := -5) (by decide) dX8_signHere_107 rfl ?_
      refine aw_iret rfl dX8_signHere_109 ?_
      exact (show sgV t 62 = (-5) by simp [sgV, sgm, hc1N]) ▸ hq
    by_cases hk10 : y = 124
    · subst hk10
      refine aw_lookup (npc := 96) (off := 82) dX8_signHere_14 rfl (by decide) (by decide) ?_
      refine aw_iconst (npc := 97) (v := -1) (by decide) dX8_signHere_96 rfl ?_
      refine aw_iret rfl dX8_signHere_97 ?_
      exact (show sgV t 124 = (-1) by simp [sgV, sgm, hc1N]) ▸ hq
    refine aw_lookup (npc := 122) (off := 108) dX8_signHere_14 rfl ((lv_osw (k := 38) hk2 rfl).trans ((lv_osw (k := 42) hk3 rfl).trans ((lv_osw (k := 43) hk4 rfl).trans ((lv_osw (k := 45) hk5 rfl).trans ((lv_osw (k := 47) hk6 rfl).trans ((lv_osw (k := 60) hk7 rfl).trans ((lv_osw (k := 61) hk8 rfl).trans ((lv_osw (k := 62) hk9 rfl).trans ((lv_osw (k := 124) hk10 rfl).trans (rfl)))))))))) (by decide) ?_
    refine aw_iconst (npc := 123) (v := 0) (by decide) dX8_signHere_122 rfl ?_
    refine aw_iret rfl dX8_signHere_123 ?_
    exact (show sgV t y = 0 by simp [sgV, sgm, hc1N, hk2, hk3, hk4, hk5, hk6, hk7, hk8, hk9, hk10]) ▸ hq
  · have hc1N : ¬ t = 3 := fun z9q => hc1 ((nI_eq (a := t) (b := 3) (by omega) (by omega)).mpr z9q)
    refine aw_iconst (npc := 9) (v := 0) (by decide) dX8_signHere_8 rfl ?_
    refine aw_iret rfl dX8_signHere_9 ?_
    exact (show sgV t y = 0 by simp [sgV, sgm, hc1N]) ▸ hq
def nmS (y : Int32) : Nat := if y = 0 then 3 else if y = 1 then 4 else 5
set_option maxHeartbeats 4000000 in
set_option maxRecDepth 100000 in
theorem m_nameOf {X : List Int32} {d rc rs n : Nat} {Q : am_Q} {L : Nat} {N : Nat → Int32} {a : Nat → Nat → Int32} {o : Nat → Int32} {h : am_H} {v : Nat} {y : Int32} (F : MR o N a h) (hv : v < 128) (h15 : o 15 = y) (hq : Q (some (.int (bI (nmF (nmS y) v)))) n h) : AW X mX8_nameOf d rc rs 0 [some (.ref 69), some (.int (nI v))] [] n h Q := by
  refine aw_aload_n (npc := 1) rfl dX8_nameOf_0 rfl ?_
  refine aw_get (npc := 4) dX8_nameOf_1 rfl kf_X8_216 F.1 rfl ?_
  refine aw_top (y := y) (h15) ?_
  by_cases hk1 : y = 0
  · subst hk1
    refine aw_lookup (npc := 32) (off := 28) dX8_nameOf_4 rfl (by decide) (by decide) ?_
    refine aw_iload_n (npc := 33) rfl dX8_nameOf_32 rfl ?_
    refine aw_bipush (npc := 35) (v := 112) (by decide) dX8_nameOf_33 rfl ?_
    refine aw_icmp_ne (npc := 38) (tgt := 42) dX8_nameOf_35 rfl (by decide) (fun hc2 => ?_) (fun hc2 => ?_)
    · have hc2N : ¬ v = 112 := fun z9q => hc2 ((nI_eq (a := v) (b := 112) (by omega) (by omega)).mpr z9q)
      have hc2M := Ne.symm hc2N
      refine aw_iload_n (npc := 43) rfl dX8_nameOf_42 rfl ?_
      refine aw_bipush (npc := 45) (v := 104) (by decide) dX8_nameOf_43 rfl ?_
      refine aw_icmp_ne (npc := 48) (tgt := 52) dX8_nameOf_45 rfl (by decide) (fun hc3 => ?_) (fun hc3 => ?_)
      · have hc3N : ¬ v = 104 := fun z9q => hc3 ((nI_eq (a := v) (b := 104) (by omega) (by omega)).mpr z9q)
        have hc3M := Ne.symm hc3N
        refine aw_iload_n (npc := 53) rfl dX8_nameOf_52 rfl ?_
        refine aw_bipush (npc := 55) (v := 115) (by decide) dX8_nameOf_53 rfl ?_
        refine aw_icmp_ne (npc := 58) (tgt := 62) dX8_nameOf_55 rfl (by decide) (fun hc4 => ?_) (fun hc4 => ?_)
        · have hc4N : ¬ v = 115 := fun z9q => hc4 ((nI_eq (a := v) (b := 115) (by omega) (by omega)).mpr z9q)
          have hc4M := Ne.symm hc4N
          refine aw_iconst (npc := 63) (v := -1) (by decide) dX8_nameOf_62 rfl ?_
          refine aw_iret rfl dX8_nameOf_63 ?_
          exact (show bI (nmF (nmS 0) v) = (-1) by simp [nmS, nmF, bI, nI0, show nI 1 = 1 from rfl, show nI 2 = 2 from rfl, hc2M, hc3M, hc4M]) ▸ hq
        · have hc4N := (nI_eq (a := v) (b := 115) (by omega) (by omega)).mp hc4
          have hc4M := Eq.symm hc4N
          refine aw_iconst (npc := 59) (v := 2) (by decide) dX8_nameOf_58 rfl ?_
          refine aw_goto (npc := 63) dX8_nameOf_59 (by decide) ?_
          refine aw_iret rfl dX8_nameOf_63 ?_
          exact (show bI (nmF (nmS 0) v) = 2 by simp [nmS, nmF, bI, nI0, show nI 1 = 1 from rfl, show nI 2 = 2 from rfl, hc2M, hc3M, hc4M]) ▸ hq
      · have hc3N := (nI_eq (a := v) (b := 104) (by omega) (by omega)).mp hc3
        have hc3M := Eq.symm hc3N
        refine aw_iconst (npc := 49) (v := 1) (by decide) dX8_nameOf_48 rfl ?_
        refine aw_goto (npc := 63) dX8_nameOf_49 (by decide) ?_
        refine aw_iret rfl dX8_nameOf_63 ?_
        exact (show bI (nmF (nmS 0) v) = 1 by simp [nmS, nmF, bI, nI0, show nI 1 = 1 from rfl, show nI 2 = 2 from rfl, hc2M, hc3M]) ▸ hq
    · have hc2N := (nI_eq (a := v) (b := 112) (by omega) (by omega)).mp hc2
      have hc2M := Eq.symm hc2N
      refine aw_iconst (npc := 39) (v := 0) (by decide) dX8_nameOf_38 rfl ?_
      refine aw_goto (npc := 63) dX8_nameOf_39 (by decide) ?_
      refine aw_iret rfl dX8_nameOf_63 ?_
      exact (show bI (nmF (nmS 0) v) = 0 by simp [nmS, nmF, bI, nI0, show nI 1 = 1 from rfl, show nI 2 = 2 from rfl, hc2M]) ▸ hq
  by_cases hk5 : y = 1
  · subst hk5
    refine aw_lookup (npc := 64) (off := 60) dX8_nameOf_4 rfl (by decide) (by decide) ?_
    refine aw_iload_n (npc := 65) rfl dX8_nameOf_64 rfl ?_
    refine aw_bipush (npc := 67) (v := 108) (by decide) dX8_nameOf_65 rfl ?_
    refine aw_icmp_ne (npc := 70) (tgt := 74) dX8_nameOf_67 rfl (by decide) (fun hc6 => ?_) (fun hc6 => ?_)
    · have hc6N : ¬ v = 108 := fun z9q => hc6 ((nI_eq (a := v) (b := 108) (by omega) (by omega)).mpr z9q)
      have hc6M := Ne.symm hc6N
      refine aw_iload_n (npc := 75) rfl dX8_nameOf_74 rfl ?_
      refine aw_bipush (npc := 77) (v := 112) (by decide) dX8_nameOf_75 rfl ?_
      refine aw_icmp_ne (npc := 80) (tgt := 84) dX8_nameOf_77 rfl (by decide) (fun hc7 => ?_) (fun hc7 => ?_)
      · have hc7N : ¬ v = 112 := fun z9q => hc7 ((nI_eq (a := v) (b := 112) (by omega) (by omega)).mpr z9q)
        have hc7M := Ne.symm hc7N
        refine aw_iconst (npc := 85) (v := -1) (by decide) dX8_nameOf_84 rfl ?_
        refine aw_iret rfl dX8_nameOf_85 ?_
        exact (show bI (nmF (nmS 1) v) = (-1) by simp [nmS, nmF, bI, nI0, show nI 1 = 1 from rfl, show nI 2 = 2 from rfl, hc6M, hc7M]) ▸ hq
      · have hc7N := (nI_eq (a := v) (b := 112) (by omega) (by omega)).mp hc7
        have hc7M := Eq.symm hc7N
        refine aw_iconst (npc := 81) (v := 1) (by decide) dX8_nameOf_80 rfl ?_
        refine aw_goto (npc := 85) dX8_nameOf_81 (by decide) ?_
        refine aw_iret rfl dX8_nameOf_85 ?_
        exact (show bI (nmF (nmS 1) v) = 1 by simp [nmS, nmF, bI, nI0, show nI 1 = 1 from rfl, show nI 2 = 2 from rfl, hc6M, hc7M]) ▸ hq
    · have hc6N := (nI_eq (a := v) (b := 108) (by omega) (by omega)).mp hc6
      have hc6M := Eq.symm hc6N
      refine aw_iconst (npc := 71) (v := 0) (by decide) dX8_nameOf_70 rfl ?_
      refine aw_goto (npc := 85) dX8_nameOf_71 (by decide) ?_
      refine aw_iret rfl dX8_nameOf_85 ?_
      exact (show bI (nmF (nmS 1) v) = 0 by simp [nmS, nmF, bI, nI0, show nI 1 = 1 from rfl, show nI 2 = 2 from rfl, hc6M]) ▸ hq
  refine aw_lookup (npc := 86) (off := 82) dX8_nameOf_4 rfl ((lv_osw (k := 0) hk1 rfl).trans ((lv_osw (k := 1) hk5 rfl).trans (rfl))) (by decide) ?_
  refine aw_iload_n (npc := 87) rfl dX8_nameOf_86 rfl ?_
  refine aw_bipush (npc := 89) (v := 121) (by decide) dX8_nameOf_87 rfl ?_
  refine aw_icmp_ne (npc := 92) (tgt := 96) dX8_nameOf_89 rfl (by decide) (fun hc8 => ?_) (fun hc8 => ?_)
  · have hc8N : ¬ v = 121 := fun z9q => hc8 ((nI_eq (a := v) (b := 121) (by omega) (by omega)).mpr z9q)
    have hc8M := Ne.symm hc8N
    refine aw_iload_n (npc := 97) rfl dX8_nameOf_96 rfl ?_
    refine aw_bipush (npc := 99) (v := 110) (by decide) dX8_nameOf_97 rfl ?_
    refine aw_icmp_ne (npc := 102) (tgt := 106) dX8_nameOf_99 rfl (by decide) (fun hc9 => ?_) (fun hc9 => ?_)
    · have hc9N : ¬ v = 110 := fun z9q => hc9 ((nI_eq (a := v) (b := 110) (by omega) (by omega)).mpr z9q)
      have hc9M := Ne.symm hc9N
      refine aw_iconst (npc := 107) (v := -1) (by decide) dX8_nameOf_106 rfl ?_
      refine aw_iret rfl dX8_nameOf_107 ?_
      exact (show bI (nmF (nmS y) v) = (-1) by simp [nmS, nmF, bI, nI0, show nI 1 = 1 from rfl, show nI 2 = 2 from rfl, hk1, hk5, hc8M, hc9M]) ▸ hq
    · have hc9N := (nI_eq (a := v) (b := 110) (by omega) (by omega)).mp hc9
      have hc9M := Eq.symm hc9N
      refine aw_iconst (npc := 103) (v := 1) (by decide) dX8_nameOf_102 rfl ?_
      refine aw_goto (npc := 107) dX8_nameOf_103 (by decide) ?_
      refine aw_iret rfl dX8_nameOf_107 ?_
      exact (show bI (nmF (nmS y) v) = 1 by simp [nmS, nmF, bI, nI0, show nI 1 = 1 from rfl, show nI 2 = 2 from rfl, hk1, hk5, hc8M, hc9M]) ▸ hq
  · have hc8N := (nI_eq (a := v) (b := 121) (by omega) (by omega)).mp hc8
    have hc8M := Eq.symm hc8N
    refine aw_iconst (npc := 93) (v := 0) (by decide) dX8_nameOf_92 rfl ?_
    refine aw_goto (npc := 107) dX8_nameOf_93 (by decide) ?_
    refine aw_iret rfl dX8_nameOf_107 ?_
    exact (show bI (nmF (nmS y) v) = 0 by simp [nmS, nmF, bI, nI0, show nI 1 = 1 from rfl, show nI 2 = 2 from rfl, hk1, hk5, hc8M]) ▸ hq
def kz0 (tp : Nat → Int32) (f e : Nat) : Prop := e = f + 4 ∧ tp (f + 0) = 116 ∧ tp (f + 1) = 111 ∧ tp (f + 2) = 110 ∧ tp (f + 3) = 101
set_option maxHeartbeats 4000000 in
set_option maxRecDepth 100000 in
theorem m_kw0 {X : List Int32} {d rc rs n : Nat} {Q : am_Q} {L : Nat} {N : Nat → Int32} {a : Nat → Nat → Int32} {o : Nat → Int32} {h : am_H} {f e : Nat} {v2 v3 v4 : Option Value} (F : MR o N a h) (h10 : o 10 = nI e) (h11 : o 11 = nI f) (hfe : f ≤ e) (he : e ≤ 96) (kt : kz0 (a 75) f e → ∀ u2 u3 u4 : Int32, AW X mX8_takesKey (d + 1) rc rs 110 [some (.ref 69), some (.int 0), some (.int u2), some (.int u3), some (.int u4)] [] n h Q) (kf : ¬ kz0 (a 75) f e → ∀ u2 u3 u4 : Int32, AW X mX8_takesKey (d + 1) rc rs 121 [some (.ref 69), some (.int 0), some (.int u2), some (.int u3), some (.int u4)] [] n h Q) : AW X mX8_takesKey (d + 1) rc rs 17 [some (.ref 69), some (.int 0), v2, v3, v4] [] n h Q := by
  refine aw_aload_n (npc := 18) rfl dX8_takesKey_17 rfl ?_
  refine aw_get (npc := 21) dX8_takesKey_18 rfl kf_X8_36 F.1 rfl ?_
  refine aw_iload_n (npc := 22) rfl dX8_takesKey_21 rfl ?_
  refine aw_iconst (npc := 23) (v := 1) (by decide) dX8_takesKey_22 rfl ?_
  refine aw_iaddV (npc := 24) (v := 1) dX8_takesKey_23 rfl (by decide) ?_
  refine aw_iald (npc := 25) (x := 4) (j := 1) dX8_takesKey_24 rfl F.2.2.2.2.2.2.2.2.1 ⟨by decide, by decide⟩ rfl ?_
  refine aw_aload_n (npc := 26) rfl dX8_takesKey_25 rfl ?_
  refine aw_get (npc := 29) dX8_takesKey_26 rfl kf_X8_36 F.1 rfl ?_
  refine aw_iload_n (npc := 30) rfl dX8_takesKey_29 rfl ?_
  refine aw_iald (npc := 31) (x := 0) (j := 0) dX8_takesKey_30 rfl F.2.2.2.2.2.2.2.2.1 ⟨by decide, by decide⟩ rfl ?_
  refine aw_isubV (npc := 32) (v := 4) dX8_takesKey_31 rfl (by decide) ?_
  refine aw_istore_n (npc := 33) (L' := [some (.ref 69), some (.int 0), some (.int 4), v3, v4]) dX8_takesKey_32 rfl (by decide) rfl rfl ?_
  refine aw_iload_n (npc := 34) rfl dX8_takesKey_33 rfl ?_
  refine aw_aload_n (npc := 35) rfl dX8_takesKey_34 rfl ?_
  refine aw_get (npc := 38) dX8_takesKey_35 rfl kf_X8_195 F.1 rfl ?_
  refine aw_top (y := nI e) (h10) ?_
  refine aw_aload_n (npc := 39) rfl dX8_takesKey_38 rfl ?_
  refine aw_get (npc := 42) dX8_takesKey_39 rfl kf_X8_198 F.1 rfl ?_
  refine aw_top (y := nI f) (h11) ?_
  refine aw_isubV (npc := 43) (v := nI (e - f)) dX8_takesKey_42 rfl (pk_sub (by omega)) ?_
  refine aw_icmp_ne (npc := 46) (tgt := 50) dX8_takesKey_43 rfl (by decide) (fun hc1 => ?_) (fun hc1 => ?_)
  · have hc1N : ¬ 4 = (e - f) := fun z9q => hc1 ((nI_eq (a := 4) (b := (e - f)) (by omega) (by omega)).mpr z9q)
    refine aw_iconst (npc := 51) (v := 0) (by decide) dX8_takesKey_50 rfl ?_
    refine aw_istore_n (npc := 52) (L' := [some (.ref 69), some (.int 0), some (.int 4), some (.int 0), v4]) dX8_takesKey_51 rfl (by decide) rfl rfl ?_
    refine aw_iconst (npc := 53) (v := 0) (by decide) dX8_takesKey_52 rfl ?_
    refine aw_istore (npc := 55) (L' := [some (.ref 69), some (.int 0), some (.int 4), some (.int 0), some (.int 0)]) dX8_takesKey_53 rfl (by decide) rfl rfl ?_
    refine aw_iload (npc := 57) rfl dX8_takesKey_55 rfl ?_
    refine aw_iload_n (npc := 58) rfl dX8_takesKey_57 rfl ?_
    refine aw_icmp_ge (npc := 61) (tgt := 106) dX8_takesKey_58 rfl (by decide) (fun hc => absurd hc (by decide)) (fun _ => ?_)
    refine aw_iload_n (npc := 62) rfl dX8_takesKey_61 rfl ?_
    refine aw_if_eq (npc := 65) (tgt := 106) dX8_takesKey_62 rfl (by decide) (fun _ => ?_) (fun hc => absurd (by decide) hc)
    refine aw_iload_n (npc := 107) rfl dX8_takesKey_106 rfl ?_
    refine aw_if_eq (npc := 110) (tgt := 121) dX8_takesKey_107 rfl (by decide) (fun _ => ?_) (fun hc => absurd (by decide) hc)
    exact kf (fun z => hc1N (by have z2 := z.1; omega)) _ _ _
  · have hc1N := (nI_eq (a := 4) (b := (e - f)) (by omega) (by omega)).mp hc1
    refine aw_iconst (npc := 47) (v := 1) (by decide) dX8_takesKey_46 rfl ?_
    refine aw_goto (npc := 51) dX8_takesKey_47 (by decide) ?_
    refine aw_istore_n (npc := 52) (L' := [some (.ref 69), some (.int 0), some (.int 4), some (.int 1), v4]) dX8_takesKey_51 rfl (by decide) rfl rfl ?_
    refine aw_iconst (npc := 53) (v := 0) (by decide) dX8_takesKey_52 rfl ?_
    refine aw_istore (npc := 55) (L' := [some (.ref 69), some (.int 0), some (.int 4), some (.int 1), some (.int 0)]) dX8_takesKey_53 rfl (by decide) rfl rfl ?_
    refine aw_iload (npc := 57) rfl dX8_takesKey_55 rfl ?_
    refine aw_iload_n (npc := 58) rfl dX8_takesKey_57 rfl ?_
    refine aw_icmp_ge (npc := 61) (tgt := 106) dX8_takesKey_58 rfl (by decide) (fun hc => absurd hc (by decide)) (fun _ => ?_)
    refine aw_iload_n (npc := 62) rfl dX8_takesKey_61 rfl ?_
    refine aw_if_eq (npc := 65) (tgt := 106) dX8_takesKey_62 rfl (by decide) (fun hc => absurd hc (by decide)) (fun _ => ?_)
    refine aw_aload_n (npc := 66) rfl dX8_takesKey_65 rfl ?_
    refine aw_get (npc := 69) dX8_takesKey_66 rfl kf_X8_29 F.1 rfl ?_
    refine aw_aload_n (npc := 70) rfl dX8_takesKey_69 rfl ?_
    refine aw_get (npc := 73) dX8_takesKey_70 rfl kf_X8_198 F.1 rfl ?_
    refine aw_top (y := nI f) (h11) ?_
    refine aw_iload (npc := 75) rfl dX8_takesKey_73 rfl ?_
    refine aw_iaddV (npc := 76) (v := nI (f + 0)) dX8_takesKey_75 rfl (nI_add _ 0) ?_
    refine aw_iald (npc := 77) (x := (a 75) (f + 0)) (j := (f + 0)) dX8_takesKey_76 rfl F.2.2.2.2.2.2.1 (am_ix_nI (by omega)) (tl_at (by omega)) ?_
    refine aw_aload_n (npc := 78) rfl dX8_takesKey_77 rfl ?_
    refine aw_get (npc := 81) dX8_takesKey_78 rfl kf_X8_32 F.1 rfl ?_
    refine aw_aload_n (npc := 82) rfl dX8_takesKey_81 rfl ?_
    refine aw_get (npc := 85) dX8_takesKey_82 rfl kf_X8_36 F.1 rfl ?_
    refine aw_iload_n (npc := 86) rfl dX8_takesKey_85 rfl ?_
    refine aw_iald (npc := 87) (x := 0) (j := 0) dX8_takesKey_86 rfl F.2.2.2.2.2.2.2.2.1 ⟨by decide, by decide⟩ rfl ?_
    refine aw_iload (npc := 89) rfl dX8_takesKey_87 rfl ?_
    refine aw_iaddV (npc := 90) (v := 0) dX8_takesKey_89 rfl (by decide) ?_
    refine aw_cald (npc := 91) (x := 116) (j := 0) dX8_takesKey_90 rfl F.2.2.2.2.2.2.2.1 ⟨by decide, by decide⟩ rfl ?_
    refine aw_icmp_ne (npc := 94) (tgt := 98) dX8_takesKey_91 rfl (by decide) (fun hc2 => ?_) (fun hc2 => ?_)
    · refine aw_iconst (npc := 99) (v := 0) (by decide) dX8_takesKey_98 rfl ?_
      refine aw_istore_n (npc := 100) (L' := [some (.ref 69), some (.int 0), some (.int 4), some (.int 0), some (.int 0)]) dX8_takesKey_99 rfl (by decide) rfl rfl ?_
      refine aw_iinc (npc := 103) (v := 1) (L' := [some (.ref 69), some (.int 0), some (.int 4), some (.int 0), some (.int 1)]) dX8_takesKey_100 rfl rfl (by decide) (by decide) rfl rfl ?_
      refine aw_goto (npc := 55) dX8_takesKey_103 (by decide) ?_
      refine aw_iload (npc := 57) rfl dX8_takesKey_55 rfl ?_
      refine aw_iload_n (npc := 58) rfl dX8_takesKey_57 rfl ?_
      refine aw_icmp_ge (npc := 61) (tgt := 106) dX8_takesKey_58 rfl (by decide) (fun hc => absurd hc (by decide)) (fun _ => ?_)
      refine aw_iload_n (npc := 62) rfl dX8_takesKey_61 rfl ?_
      refine aw_if_eq (npc := 65) (tgt := 106) dX8_takesKey_62 rfl (by decide) (fun _ => ?_) (fun hc => absurd (by decide) hc)
      refine aw_iload_n (npc := 107) rfl dX8_takesKey_106 rfl ?_
      refine aw_if_eq (npc := 110) (tgt := 121) dX8_takesKey_107 rfl (by decide) (fun _ => ?_) (fun hc => absurd (by decide) hc)
      exact kf (fun z => hc2 z.2.1) _ _ _
    · refine aw_iconst (npc := 95) (v := 1) (by decide) dX8_takesKey_94 rfl ?_
      refine aw_goto (npc := 99) dX8_takesKey_95 (by decide) ?_
      refine aw_istore_n (npc := 100) (L' := [some (.ref 69), some (.int 0), some (.int 4), some (.int 1), some (.int 0)]) dX8_takesKey_99 rfl (by decide) rfl rfl ?_
      refine aw_iinc (npc := 103) (v := 1) (L' := [some (.ref 69), some (.int 0), some (.int 4), some (.int 1), some (.int 1)]) dX8_takesKey_100 rfl rfl (by decide) (by decide) rfl rfl ?_
      refine aw_goto (npc := 55) dX8_takesKey_103 (by decide) ?_
      refine aw_iload (npc := 57) rfl dX8_takesKey_55 rfl ?_
      refine aw_iload_n (npc := 58) rfl dX8_takesKey_57 rfl ?_
      refine aw_icmp_ge (npc := 61) (tgt := 106) dX8_takesKey_58 rfl (by decide) (fun hc => absurd hc (by decide)) (fun _ => ?_)
      refine aw_iload_n (npc := 62) rfl dX8_takesKey_61 rfl ?_
      refine aw_if_eq (npc := 65) (tgt := 106) dX8_takesKey_62 rfl (by decide) (fun hc => absurd hc (by decide)) (fun _ => ?_)
      refine aw_aload_n (npc := 66) rfl dX8_takesKey_65 rfl ?_
      refine aw_get (npc := 69) dX8_takesKey_66 rfl kf_X8_29 F.1 rfl ?_
      refine aw_aload_n (npc := 70) rfl dX8_takesKey_69 rfl ?_
      refine aw_get (npc := 73) dX8_takesKey_70 rfl kf_X8_198 F.1 rfl ?_
      refine aw_top (y := nI f) (h11) ?_
      refine aw_iload (npc := 75) rfl dX8_takesKey_73 rfl ?_
      refine aw_iaddV (npc := 76) (v := nI (f + 1)) dX8_takesKey_75 rfl (nI_add _ 1) ?_
      refine aw_iald (npc := 77) (x := (a 75) (f + 1)) (j := (f + 1)) dX8_takesKey_76 rfl F.2.2.2.2.2.2.1 (am_ix_nI (by omega)) (tl_at (by omega)) ?_
      refine aw_aload_n (npc := 78) rfl dX8_takesKey_77 rfl ?_
      refine aw_get (npc := 81) dX8_takesKey_78 rfl kf_X8_32 F.1 rfl ?_
      refine aw_aload_n (npc := 82) rfl dX8_takesKey_81 rfl ?_
      refine aw_get (npc := 85) dX8_takesKey_82 rfl kf_X8_36 F.1 rfl ?_
      refine aw_iload_n (npc := 86) rfl dX8_takesKey_85 rfl ?_
      refine aw_iald (npc := 87) (x := 0) (j := 0) dX8_takesKey_86 rfl F.2.2.2.2.2.2.2.2.1 ⟨by decide, by decide⟩ rfl ?_
      refine aw_iload (npc := 89) rfl dX8_takesKey_87 rfl ?_
      refine aw_iaddV (npc := 90) (v := 1) dX8_takesKey_89 rfl (by decide) ?_
      refine aw_cald (npc := 91) (x := 111) (j := 1) dX8_takesKey_90 rfl F.2.2.2.2.2.2.2.1 ⟨by decide, by decide⟩ rfl ?_
      refine aw_icmp_ne (npc := 94) (tgt := 98) dX8_takesKey_91 rfl (by decide) (fun hc3 => ?_) (fun hc3 => ?_)
      · refine aw_iconst (npc := 99) (v := 0) (by decide) dX8_takesKey_98 rfl ?_
        refine aw_istore_n (npc := 100) (L' := [some (.ref 69), some (.int 0), some (.int 4), some (.int 0), some (.int 1)]) dX8_takesKey_99 rfl (by decide) rfl rfl ?_
        refine aw_iinc (npc := 103) (v := 2) (L' := [some (.ref 69), some (.int 0), some (.int 4), some (.int 0), some (.int 2)]) dX8_takesKey_100 rfl rfl (by decide) (by decide) rfl rfl ?_
        refine aw_goto (npc := 55) dX8_takesKey_103 (by decide) ?_
        refine aw_iload (npc := 57) rfl dX8_takesKey_55 rfl ?_
        refine aw_iload_n (npc := 58) rfl dX8_takesKey_57 rfl ?_
        refine aw_icmp_ge (npc := 61) (tgt := 106) dX8_takesKey_58 rfl (by decide) (fun hc => absurd hc (by decide)) (fun _ => ?_)
        refine aw_iload_n (npc := 62) rfl dX8_takesKey_61 rfl ?_
        refine aw_if_eq (npc := 65) (tgt := 106) dX8_takesKey_62 rfl (by decide) (fun _ => ?_) (fun hc => absurd (by decide) hc)
        refine aw_iload_n (npc := 107) rfl dX8_takesKey_106 rfl ?_
        refine aw_if_eq (npc := 110) (tgt := 121) dX8_takesKey_107 rfl (by decide) (fun _ => ?_) (fun hc => absurd (by decide) hc)
        exact kf (fun z => hc3 z.2.2.1) _ _ _
      · refine aw_iconst (npc := 95) (v := 1) (by decide) dX8_takesKey_94 rfl ?_
        refine aw_goto (npc := 99) dX8_takesKey_95 (by decide) ?_
        refine aw_istore_n (npc := 100) (L' := [some (.ref 69), some (.int 0), some (.int 4), some (.int 1), some (.int 1)]) dX8_takesKey_99 rfl (by decide) rfl rfl ?_
        refine aw_iinc (npc := 103) (v := 2) (L' := [some (.ref 69), some (.int 0), some (.int 4), some (.int 1), some (.int 2)]) dX8_takesKey_100 rfl rfl (by decide) (by decide) rfl rfl ?_
        refine aw_goto (npc := 55) dX8_takesKey_103 (by decide) ?_
        refine aw_iload (npc := 57) rfl dX8_takesKey_55 rfl ?_
        refine aw_iload_n (npc := 58) rfl dX8_takesKey_57 rfl ?_
        refine aw_icmp_ge (npc := 61) (tgt := 106) dX8_takesKey_58 rfl (by decide) (fun hc => absurd hc (by decide)) (fun _ => ?_)
        refine aw_iload_n (npc := 62) rfl dX8_takesKey_61 rfl ?_
        refine aw_if_eq (npc := 65) (tgt := 106) dX8_takesKey_62 rfl (by decide) (fun hc => absurd hc (by decide)) (fun _ => ?_)
        refine aw_aload_n (npc := 66) rfl dX8_takesKey_65 rfl ?_
        refine aw_get (npc := 69) dX8_takesKey_66 rfl kf_X8_29 F.1 rfl ?_
        refine aw_aload_n (npc := 70) rfl dX8_takesKey_69 rfl ?_
        refine aw_get (npc := 73) dX8_takesKey_70 rfl kf_X8_198 F.1 rfl ?_
        refine aw_top (y := nI f) (h11) ?_
        refine aw_iload (npc := 75) rfl dX8_takesKey_73 rfl ?_
        refine aw_iaddV (npc := 76) (v := nI (f + 2)) dX8_takesKey_75 rfl (nI_add _ 2) ?_
        refine aw_iald (npc := 77) (x := (a 75) (f + 2)) (j := (f + 2)) dX8_takesKey_76 rfl F.2.2.2.2.2.2.1 (am_ix_nI (by omega)) (tl_at (by omega)) ?_
        refine aw_aload_n (npc := 78) rfl dX8_takesKey_77 rfl ?_
        refine aw_get (npc := 81) dX8_takesKey_78 rfl kf_X8_32 F.1 rfl ?_
        refine aw_aload_n (npc := 82) rfl dX8_takesKey_81 rfl ?_
        refine aw_get (npc := 85) dX8_takesKey_82 rfl kf_X8_36 F.1 rfl ?_
        refine aw_iload_n (npc := 86) rfl dX8_takesKey_85 rfl ?_
        refine aw_iald (npc := 87) (x := 0) (j := 0) dX8_takesKey_86 rfl F.2.2.2.2.2.2.2.2.1 ⟨by decide, by decide⟩ rfl ?_
        refine aw_iload (npc := 89) rfl dX8_takesKey_87 rfl ?_
        refine aw_iaddV (npc := 90) (v := 2) dX8_takesKey_89 rfl (by decide) ?_
        refine aw_cald (npc := 91) (x := 110) (j := 2) dX8_takesKey_90 rfl F.2.2.2.2.2.2.2.1 ⟨by decide, by decide⟩ rfl ?_
        refine aw_icmp_ne (npc := 94) (tgt := 98) dX8_takesKey_91 rfl (by decide) (fun hc4 => ?_) (fun hc4 => ?_)
        · refine aw_iconst (npc := 99) (v := 0) (by decide) dX8_takesKey_98 rfl ?_
          refine aw_istore_n (npc := 100) (L' := [some (.ref 69), some (.int 0), some (.int 4), some (.int 0), some (.int 2)]) dX8_takesKey_99 rfl (by decide) rfl rfl ?_
          refine aw_iinc (npc := 103) (v := 3) (L' := [some (.ref 69), some (.int 0), some (.int 4), some (.int 0), some (.int 3)]) dX8_takesKey_100 rfl rfl (by decide) (by decide) rfl rfl ?_
          refine aw_goto (npc := 55) dX8_takesKey_103 (by decide) ?_
          refine aw_iload (npc := 57) rfl dX8_takesKey_55 rfl ?_
          refine aw_iload_n (npc := 58) rfl dX8_takesKey_57 rfl ?_
          refine aw_icmp_ge (npc := 61) (tgt := 106) dX8_takesKey_58 rfl (by decide) (fun hc => absurd hc (by decide)) (fun _ => ?_)
          refine aw_iload_n (npc := 62) rfl dX8_takesKey_61 rfl ?_
          refine aw_if_eq (npc := 65) (tgt := 106) dX8_takesKey_62 rfl (by decide) (fun _ => ?_) (fun hc => absurd (by decide) hc)
          refine aw_iload_n (npc := 107) rfl dX8_takesKey_106 rfl ?_
          refine aw_if_eq (npc := 110) (tgt := 121) dX8_takesKey_107 rfl (by decide) (fun _ => ?_) (fun hc => absurd (by decide) hc)
          exact kf (fun z => hc4 z.2.2.2.1) _ _ _
        · refine aw_iconst (npc := 95) (v := 1) (by decide) dX8_takesKey_94 rfl ?_
          refine aw_goto (npc := 99) dX8_takesKey_95 (by decide) ?_
          refine aw_istore_n (npc := 100) (L' := [some (.ref 69), some (.int 0), some (.int 4), some (.int 1), some (.int 2)]) dX8_takesKey_99 rfl (by decide) rfl rfl ?_
          refine aw_iinc (npc := 103) (v := 3) (L' := [some (.ref 69), some (.int 0), some (.int 4), some (.int 1), some (.int 3)]) dX8_takesKey_100 rfl rfl (by decide) (by decide) rfl rfl ?_
          refine aw_goto (npc := 55) dX8_takesKey_103 (by decide) ?_
          refine aw_iload (npc := 57) rfl dX8_takesKey_55 rfl ?_
          refine aw_iload_n (npc := 58) rfl dX8_takesKey_57 rfl ?_
          refine aw_icmp_ge (npc := 61) (tgt := 106) dX8_takesKey_58 rfl (by decide) (fun hc => absurd hc (by decide)) (fun _ => ?_)
          refine aw_iload_n (npc := 62) rfl dX8_takesKey_61 rfl ?_
          refine aw_if_eq (npc := 65) (tgt := 106) dX8_takesKey_62 rfl (by decide) (fun hc => absurd hc (by decide)) (fun _ => ?_)
          refine aw_aload_n (npc := 66) rfl dX8_takesKey_65 rfl ?_
          refine aw_get (npc := 69) dX8_takesKey_66 rfl kf_X8_29 F.1 rfl ?_
          refine aw_aload_n (npc := 70) rfl dX8_takesKey_69 rfl ?_
          refine aw_get (npc := 73) dX8_takesKey_70 rfl kf_X8_198 F.1 rfl ?_
          refine aw_top (y := nI f) (h11) ?_
          refine aw_iload (npc := 75) rfl dX8_takesKey_73 rfl ?_
          refine aw_iaddV (npc := 76) (v := nI (f + 3)) dX8_takesKey_75 rfl (nI_add _ 3) ?_
          refine aw_iald (npc := 77) (x := (a 75) (f + 3)) (j := (f + 3)) dX8_takesKey_76 rfl F.2.2.2.2.2.2.1 (am_ix_nI (by omega)) (tl_at (by omega)) ?_
          refine aw_aload_n (npc := 78) rfl dX8_takesKey_77 rfl ?_
          refine aw_get (npc := 81) dX8_takesKey_78 rfl kf_X8_32 F.1 rfl ?_
          refine aw_aload_n (npc := 82) rfl dX8_takesKey_81 rfl ?_
          refine aw_get (npc := 85) dX8_takesKey_82 rfl kf_X8_36 F.1 rfl ?_
          refine aw_iload_n (npc := 86) rfl dX8_takesKey_85 rfl ?_
          refine aw_iald (npc := 87) (x := 0) (j := 0) dX8_takesKey_86 rfl F.2.2.2.2.2.2.2.2.1 ⟨by decide, by decide⟩ rfl ?_
          refine aw_iload (npc := 89) rfl dX8_takesKey_87 rfl ?_
          refine aw_iaddV (npc := 90) (v := 3) dX8_takesKey_89 rfl (by decide) ?_
          refine aw_cald (npc := 91) (x := 101) (j := 3) dX8_takesKey_90 rfl F.2.2.2.2.2.2.2.1 ⟨by decide, by decide⟩ rfl ?_
          refine aw_icmp_ne (npc := 94) (tgt := 98) dX8_takesKey_91 rfl (by decide) (fun hc5 => ?_) (fun hc5 => ?_)
          · refine aw_iconst (npc := 99) (v := 0) (by decide) dX8_takesKey_98 rfl ?_
            refine aw_istore_n (npc := 100) (L' := [some (.ref 69), some (.int 0), some (.int 4), some (.int 0), some (.int 3)]) dX8_takesKey_99 rfl (by decide) rfl rfl ?_
            refine aw_iinc (npc := 103) (v := 4) (L' := [some (.ref 69), some (.int 0), some (.int 4), some (.int 0), some (.int 4)]) dX8_takesKey_100 rfl rfl (by decide) (by decide) rfl rfl ?_
            refine aw_goto (npc := 55) dX8_takesKey_103 (by decide) ?_
            refine aw_iload (npc := 57) rfl dX8_takesKey_55 rfl ?_
            refine aw_iload_n (npc := 58) rfl dX8_takesKey_57 rfl ?_
            refine aw_icmp_ge (npc := 61) (tgt := 106) dX8_takesKey_58 rfl (by decide) (fun _ => ?_) (fun hc => absurd (by decide) hc)
            refine aw_iload_n (npc := 107) rfl dX8_takesKey_106 rfl ?_
            refine aw_if_eq (npc := 110) (tgt := 121) dX8_takesKey_107 rfl (by decide) (fun _ => ?_) (fun hc => absurd (by decide) hc)
            exact kf (fun z => hc5 z.2.2.2.2) _ _ _
          · refine aw_iconst (npc := 95) (v := 1) (by decide) dX8_takesKey_94 rfl ?_
            refine aw_goto (npc := 99) dX8_takesKey_95 (by decide) ?_
            refine aw_istore_n (npc := 100) (L' := [some (.ref 69), some (.int 0), some (.int 4), some (.int 1), some (.int 3)]) dX8_takesKey_99 rfl (by decide) rfl rfl ?_
            refine aw_iinc (npc := 103) (v := 4) (L' := [some (.ref 69), some (.int 0), some (.int 4), some (.int 1), some (.int 4)]) dX8_takesKey_100 rfl rfl (by decide) (by decide) rfl rfl ?_
            refine aw_goto (npc := 55) dX8_takesKey_103 (by decide) ?_
            refine aw_iload (npc := 57) rfl dX8_takesKey_55 rfl ?_
            refine aw_iload_n (npc := 58) rfl dX8_takesKey_57 rfl ?_
            refine aw_icmp_ge (npc := 61) (tgt := 106) dX8_takesKey_58 rfl (by decide) (fun _ => ?_) (fun hc => absurd (by decide) hc)
            refine aw_iload_n (npc := 107) rfl dX8_takesKey_106 rfl ?_
            refine aw_if_eq (npc := 110) (tgt := 121) dX8_takesKey_107 rfl (by decide) (fun hc => absurd hc (by decide)) (fun _ => ?_)
            exact kt ⟨by omega, hc2, hc3, hc4, hc5⟩ _ _ _
def kz1 (tp : Nat → Int32) (f e : Nat) : Prop := e = f + 3 ∧ tp (f + 0) = 102 ∧ tp (f + 1) = 101 ∧ tp (f + 2) = 101
set_option maxHeartbeats 4000000 in
set_option maxRecDepth 100000 in
theorem m_kw1 {X : List Int32} {d rc rs n : Nat} {Q : am_Q} {L : Nat} {N : Nat → Int32} {a : Nat → Nat → Int32} {o : Nat → Int32} {h : am_H} {f e : Nat} {v2 v3 v4 : Option Value} (F : MR o N a h) (h10 : o 10 = nI e) (h11 : o 11 = nI f) (hfe : f ≤ e) (he : e ≤ 96) (kt : kz1 (a 75) f e → ∀ u2 u3 u4 : Int32, AW X mX8_takesKey (d + 1) rc rs 110 [some (.ref 69), some (.int 1), some (.int u2), some (.int u3), some (.int u4)] [] n h Q) (kf : ¬ kz1 (a 75) f e → ∀ u2 u3 u4 : Int32, AW X mX8_takesKey (d + 1) rc rs 121 [some (.ref 69), some (.int 1), some (.int u2), some (.int u3), some (.int u4)] [] n h Q) : AW X mX8_takesKey (d + 1) rc rs 17 [some (.ref 69), some (.int 1), v2, v3, v4] [] n h Q := by
  refine aw_aload_n (npc := 18) rfl dX8_takesKey_17 rfl ?_
  refine aw_get (npc := 21) dX8_takesKey_18 rfl kf_X8_36 F.1 rfl ?_
  refine aw_iload_n (npc := 22) rfl dX8_takesKey_21 rfl ?_
  refine aw_iconst (npc := 23) (v := 1) (by decide) dX8_takesKey_22 rfl ?_
  refine aw_iaddV (npc := 24) (v := 2) dX8_takesKey_23 rfl (by decide) ?_
  refine aw_iald (npc := 25) (x := 7) (j := 2) dX8_takesKey_24 rfl F.2.2.2.2.2.2.2.2.1 ⟨by decide, by decide⟩ rfl ?_
  refine aw_aload_n (npc := 26) rfl dX8_takesKey_25 rfl ?_
  refine aw_get (npc := 29) dX8_takesKey_26 rfl kf_X8_36 F.1 rfl ?_
  refine aw_iload_n (npc := 30) rfl dX8_takesKey_29 rfl ?_
  refine aw_iald (npc := 31) (x := 4) (j := 1) dX8_takesKey_30 rfl F.2.2.2.2.2.2.2.2.1 ⟨by decide, by decide⟩ rfl ?_
  refine aw_isubV (npc := 32) (v := 3) dX8_takesKey_31 rfl (by decide) ?_
  refine aw_istore_n (npc := 33) (L' := [some (.ref 69), some (.int 1), some (.int 3), v3, v4]) dX8_takesKey_32 rfl (by decide) rfl rfl ?_
  refine aw_iload_n (npc := 34) rfl dX8_takesKey_33 rfl ?_
  refine aw_aload_n (npc := 35) rfl dX8_takesKey_34 rfl ?_
  refine aw_get (npc := 38) dX8_takesKey_35 rfl kf_X8_195 F.1 rfl ?_
  refine aw_top (y := nI e) (h10) ?_
  refine aw_aload_n (npc := 39) rfl dX8_takesKey_38 rfl ?_
  refine aw_get (npc := 42) dX8_takesKey_39 rfl kf_X8_198 F.1 rfl ?_
  refine aw_top (y := nI f) (h11) ?_
  refine aw_isubV (npc := 43) (v := nI (e - f)) dX8_takesKey_42 rfl (pk_sub (by omega)) ?_
  refine aw_icmp_ne (npc := 46) (tgt := 50) dX8_takesKey_43 rfl (by decide) (fun hc1 => ?_) (fun hc1 => ?_)
  · have hc1N : ¬ 3 = (e - f) := fun z9q => hc1 ((nI_eq (a := 3) (b := (e - f)) (by omega) (by omega)).mpr z9q)
    refine aw_iconst (npc := 51) (v := 0) (by decide) dX8_takesKey_50 rfl ?_
    refine aw_istore_n (npc := 52) (L' := [some (.ref 69), some (.int 1), some (.int 3), some (.int 0), v4]) dX8_takesKey_51 rfl (by decide) rfl rfl ?_
    refine aw_iconst (npc := 53) (v := 0) (by decide) dX8_takesKey_52 rfl ?_
    refine aw_istore (npc := 55) (L' := [some (.ref 69), some (.int 1), some (.int 3), some (.int 0), some (.int 0)]) dX8_takesKey_53 rfl (by decide) rfl rfl ?_
    refine aw_iload (npc := 57) rfl dX8_takesKey_55 rfl ?_
    refine aw_iload_n (npc := 58) rfl dX8_takesKey_57 rfl ?_
    refine aw_icmp_ge (npc := 61) (tgt := 106) dX8_takesKey_58 rfl (by decide) (fun hc => absurd hc (by decide)) (fun _ => ?_)
    refine aw_iload_n (npc := 62) rfl dX8_takesKey_61 rfl ?_
    refine aw_if_eq (npc := 65) (tgt := 106) dX8_takesKey_62 rfl (by decide) (fun _ => ?_) (fun hc => absurd (by decide) hc)
    refine aw_iload_n (npc := 107) rfl dX8_takesKey_106 rfl ?_
    refine aw_if_eq (npc := 110) (tgt := 121) dX8_takesKey_107 rfl (by decide) (fun _ => ?_) (fun hc => absurd (by decide) hc)
    exact kf (fun z => hc1N (by have z2 := z.1; omega)) _ _ _
  · have hc1N := (nI_eq (a := 3) (b := (e - f)) (by omega) (by omega)).mp hc1
    refine aw_iconst (npc := 47) (v := 1) (by decide) dX8_takesKey_46 rfl ?_
    refine aw_goto (npc := 51) dX8_takesKey_47 (by decide) ?_
    refine aw_istore_n (npc := 52) (L' := [some (.ref 69), some (.int 1), some (.int 3), some (.int 1), v4]) dX8_takesKey_51 rfl (by decide) rfl rfl ?_
    refine aw_iconst (npc := 53) (v := 0) (by decide) dX8_takesKey_52 rfl ?_
    refine aw_istore (npc := 55) (L' := [some (.ref 69), some (.int 1), some (.int 3), some (.int 1), some (.int 0)]) dX8_takesKey_53 rfl (by decide) rfl rfl ?_
    refine aw_iload (npc := 57) rfl dX8_takesKey_55 rfl ?_
    refine aw_iload_n (npc := 58) rfl dX8_takesKey_57 rfl ?_
    refine aw_icmp_ge (npc := 61) (tgt := 106) dX8_takesKey_58 rfl (by decide) (fun hc => absurd hc (by decide)) (fun _ => ?_)
    refine aw_iload_n (npc := 62) rfl dX8_takesKey_61 rfl ?_
    refine aw_if_eq (npc := 65) (tgt := 106) dX8_takesKey_62 rfl (by decide) (fun hc => absurd hc (by decide)) (fun _ => ?_)
    refine aw_aload_n (npc := 66) rfl dX8_takesKey_65 rfl ?_
    refine aw_get (npc := 69) dX8_takesKey_66 rfl kf_X8_29 F.1 rfl ?_
    refine aw_aload_n (npc := 70) rfl dX8_takesKey_69 rfl ?_
    refine aw_get (npc := 73) dX8_takesKey_70 rfl kf_X8_198 F.1 rfl ?_
    refine aw_top (y := nI f) (h11) ?_
    refine aw_iload (npc := 75) rfl dX8_takesKey_73 rfl ?_
    refine aw_iaddV (npc := 76) (v := nI (f + 0)) dX8_takesKey_75 rfl (nI_add _ 0) ?_
    refine aw_iald (npc := 77) (x := (a 75) (f + 0)) (j := (f + 0)) dX8_takesKey_76 rfl F.2.2.2.2.2.2.1 (am_ix_nI (by omega)) (tl_at (by omega)) ?_
    refine aw_aload_n (npc := 78) rfl dX8_takesKey_77 rfl ?_
    refine aw_get (npc := 81) dX8_takesKey_78 rfl kf_X8_32 F.1 rfl ?_
    refine aw_aload_n (npc := 82) rfl dX8_takesKey_81 rfl ?_
    refine aw_get (npc := 85) dX8_takesKey_82 rfl kf_X8_36 F.1 rfl ?_
    refine aw_iload_n (npc := 86) rfl dX8_takesKey_85 rfl ?_
    refine aw_iald (npc := 87) (x := 4) (j := 1) dX8_takesKey_86 rfl F.2.2.2.2.2.2.2.2.1 ⟨by decide, by decide⟩ rfl ?_
    refine aw_iload (npc := 89) rfl dX8_takesKey_87 rfl ?_
    refine aw_iaddV (npc := 90) (v := 4) dX8_takesKey_89 rfl (by decide) ?_
    refine aw_cald (npc := 91) (x := 102) (j := 4) dX8_takesKey_90 rfl F.2.2.2.2.2.2.2.1 ⟨by decide, by decide⟩ rfl ?_
    refine aw_icmp_ne (npc := 94) (tgt := 98) dX8_takesKey_91 rfl (by decide) (fun hc2 => ?_) (fun hc2 => ?_)
    · refine aw_iconst (npc := 99) (v := 0) (by decide) dX8_takesKey_98 rfl ?_
      refine aw_istore_n (npc := 100) (L' := [some (.ref 69), some (.int 1), some (.int 3), some (.int 0), some (.int 0)]) dX8_takesKey_99 rfl (by decide) rfl rfl ?_
      refine aw_iinc (npc := 103) (v := 1) (L' := [some (.ref 69), some (.int 1), some (.int 3), some (.int 0), some (.int 1)]) dX8_takesKey_100 rfl rfl (by decide) (by decide) rfl rfl ?_
      refine aw_goto (npc := 55) dX8_takesKey_103 (by decide) ?_
      refine aw_iload (npc := 57) rfl dX8_takesKey_55 rfl ?_
      refine aw_iload_n (npc := 58) rfl dX8_takesKey_57 rfl ?_
      refine aw_icmp_ge (npc := 61) (tgt := 106) dX8_takesKey_58 rfl (by decide) (fun hc => absurd hc (by decide)) (fun _ => ?_)
      refine aw_iload_n (npc := 62) rfl dX8_takesKey_61 rfl ?_
      refine aw_if_eq (npc := 65) (tgt := 106) dX8_takesKey_62 rfl (by decide) (fun _ => ?_) (fun hc => absurd (by decide) hc)
      refine aw_iload_n (npc := 107) rfl dX8_takesKey_106 rfl ?_
      refine aw_if_eq (npc := 110) (tgt := 121) dX8_takesKey_107 rfl (by decide) (fun _ => ?_) (fun hc => absurd (by decide) hc)
      exact kf (fun z => hc2 z.2.1) _ _ _
    · refine aw_iconst (npc := 95) (v := 1) (by decide) dX8_takesKey_94 rfl ?_
      refine aw_goto (npc := 99) dX8_takesKey_95 (by decide) ?_
      refine aw_istore_n (npc := 100) (L' := [some (.ref 69), some (.int 1), some (.int 3), some (.int 1), some (.int 0)]) dX8_takesKey_99 rfl (by decide) rfl rfl ?_
      refine aw_iinc (npc := 103) (v := 1) (L' := [some (.ref 69), some (.int 1), some (.int 3), some (.int 1), some (.int 1)]) dX8_takesKey_100 rfl rfl (by decide) (by decide) rfl rfl ?_
      refine aw_goto (npc := 55) dX8_takesKey_103 (by decide) ?_
      refine aw_iload (npc := 57) rfl dX8_takesKey_55 rfl ?_
      refine aw_iload_n (npc := 58) rfl dX8_takesKey_57 rfl ?_
      refine aw_icmp_ge (npc := 61) (tgt := 106) dX8_takesKey_58 rfl (by decide) (fun hc => absurd hc (by decide)) (fun _ => ?_)
      refine aw_iload_n (npc := 62) rfl dX8_takesKey_61 rfl ?_
      refine aw_if_eq (npc := 65) (tgt := 106) dX8_takesKey_62 rfl (by decide) (fun hc => absurd hc (by decide)) (fun _ => ?_)
      refine aw_aload_n (npc := 66) rfl dX8_takesKey_65 rfl ?_
      refine aw_get (npc := 69) dX8_takesKey_66 rfl kf_X8_29 F.1 rfl ?_
      refine aw_aload_n (npc := 70) rfl dX8_takesKey_69 rfl ?_
      refine aw_get (npc := 73) dX8_takesKey_70 rfl kf_X8_198 F.1 rfl ?_
      refine aw_top (y := nI f) (h11) ?_
      refine aw_iload (npc := 75) rfl dX8_takesKey_73 rfl ?_
      refine aw_iaddV (npc := 76) (v := nI (f + 1)) dX8_takesKey_75 rfl (nI_add _ 1) ?_
      refine aw_iald (npc := 77) (x := (a 75) (f + 1)) (j := (f + 1)) dX8_takesKey_76 rfl F.2.2.2.2.2.2.1 (am_ix_nI (by omega)) (tl_at (by omega)) ?_
      refine aw_aload_n (npc := 78) rfl dX8_takesKey_77 rfl ?_
      refine aw_get (npc := 81) dX8_takesKey_78 rfl kf_X8_32 F.1 rfl ?_
      refine aw_aload_n (npc := 82) rfl dX8_takesKey_81 rfl ?_
      refine aw_get (npc := 85) dX8_takesKey_82 rfl kf_X8_36 F.1 rfl ?_
      refine aw_iload_n (npc := 86) rfl dX8_takesKey_85 rfl ?_
      refine aw_iald (npc := 87) (x := 4) (j := 1) dX8_takesKey_86 rfl F.2.2.2.2.2.2.2.2.1 ⟨by decide, by decide⟩ rfl ?_
      refine aw_iload (npc := 89) rfl dX8_takesKey_87 rfl ?_
      refine aw_iaddV (npc := 90) (v := 5) dX8_takesKey_89 rfl (by decide) ?_
      refine aw_cald (npc := 91) (x := 101) (j := 5) dX8_takesKey_90 rfl F.2.2.2.2.2.2.2.1 ⟨by decide, by decide⟩ rfl ?_
      refine aw_icmp_ne (npc := 94) (tgt := 98) dX8_takesKey_91 rfl (by decide) (fun hc3 => ?_) (fun hc3 => ?_)
      · refine aw_iconst (npc := 99) (v := 0) (by decide) dX8_takesKey_98 rfl ?_
        refine aw_istore_n (npc := 100) (L' := [some (.ref 69), some (.int 1), some (.int 3), some (.int 0), some (.int 1)]) dX8_takesKey_99 rfl (by decide) rfl rfl ?_
        refine aw_iinc (npc := 103) (v := 2) (L' := [some (.ref 69), some (.int 1), some (.int 3), some (.int 0), some (.int 2)]) dX8_takesKey_100 rfl rfl (by decide) (by decide) rfl rfl ?_
        refine aw_goto (npc := 55) dX8_takesKey_103 (by decide) ?_
        refine aw_iload (npc := 57) rfl dX8_takesKey_55 rfl ?_
        refine aw_iload_n (npc := 58) rfl dX8_takesKey_57 rfl ?_
        refine aw_icmp_ge (npc := 61) (tgt := 106) dX8_takesKey_58 rfl (by decide) (fun hc => absurd hc (by decide)) (fun _ => ?_)
        refine aw_iload_n (npc := 62) rfl dX8_takesKey_61 rfl ?_
        refine aw_if_eq (npc := 65) (tgt := 106) dX8_takesKey_62 rfl (by decide) (fun _ => ?_) (fun hc => absurd (by decide) hc)
        refine aw_iload_n (npc := 107) rfl dX8_takesKey_106 rfl ?_
        refine aw_if_eq (npc := 110) (tgt := 121) dX8_takesKey_107 rfl (by decide) (fun _ => ?_) (fun hc => absurd (by decide) hc)
        exact kf (fun z => hc3 z.2.2.1) _ _ _
      · refine aw_iconst (npc := 95) (v := 1) (by decide) dX8_takesKey_94 rfl ?_
        refine aw_goto (npc := 99) dX8_takesKey_95 (by decide) ?_
        refine aw_istore_n (npc := 100) (L' := [some (.ref 69), some (.int 1), some (.int 3), some (.int 1), some (.int 1)]) dX8_takesKey_99 rfl (by decide) rfl rfl ?_
        refine aw_iinc (npc := 103) (v := 2) (L' := [some (.ref 69), some (.int 1), some (.int 3), some (.int 1), some (.int 2)]) dX8_takesKey_100 rfl rfl (by decide) (by decide) rfl rfl ?_
        refine aw_goto (npc := 55) dX8_takesKey_103 (by decide) ?_
        refine aw_iload (npc := 57) rfl dX8_takesKey_55 rfl ?_
        refine aw_iload_n (npc := 58) rfl dX8_takesKey_57 rfl ?_
        refine aw_icmp_ge (npc := 61) (tgt := 106) dX8_takesKey_58 rfl (by decide) (fun hc => absurd hc (by decide)) (fun _ => ?_)
        refine aw_iload_n (npc := 62) rfl dX8_takesKey_61 rfl ?_
        refine aw_if_eq (npc := 65) (tgt := 106) dX8_takesKey_62 rfl (by decide) (fun hc => absurd hc (by decide)) (fun _ => ?_)
        refine aw_aload_n (npc := 66) rfl dX8_takesKey_65 rfl ?_
        refine aw_get (npc := 69) dX8_takesKey_66 rfl kf_X8_29 F.1 rfl ?_
        refine aw_aload_n (npc := 70) rfl dX8_takesKey_69 rfl ?_
        refine aw_get (npc := 73) dX8_takesKey_70 rfl kf_X8_198 F.1 rfl ?_
        refine aw_top (y := nI f) (h11) ?_
        refine aw_iload (npc := 75) rfl dX8_takesKey_73 rfl ?_
        refine aw_iaddV (npc := 76) (v := nI (f + 2)) dX8_takesKey_75 rfl (nI_add _ 2) ?_
        refine aw_iald (npc := 77) (x := (a 75) (f + 2)) (j := (f + 2)) dX8_takesKey_76 rfl F.2.2.2.2.2.2.1 (am_ix_nI (by omega)) (tl_at (by omega)) ?_
        refine aw_aload_n (npc := 78) rfl dX8_takesKey_77 rfl ?_
        refine aw_get (npc := 81) dX8_takesKey_78 rfl kf_X8_32 F.1 rfl ?_
        refine aw_aload_n (npc := 82) rfl dX8_takesKey_81 rfl ?_
        refine aw_get (npc := 85) dX8_takesKey_82 rfl kf_X8_36 F.1 rfl ?_
        refine aw_iload_n (npc := 86) rfl dX8_takesKey_85 rfl ?_
        refine aw_iald (npc := 87) (x := 4) (j := 1) dX8_takesKey_86 rfl F.2.2.2.2.2.2.2.2.1 ⟨by decide, by decide⟩ rfl ?_
        refine aw_iload (npc := 89) rfl dX8_takesKey_87 rfl ?_
        refine aw_iaddV (npc := 90) (v := 6) dX8_takesKey_89 rfl (by decide) ?_
        refine aw_cald (npc := 91) (x := 101) (j := 6) dX8_takesKey_90 rfl F.2.2.2.2.2.2.2.1 ⟨by decide, by decide⟩ rfl ?_
        refine aw_icmp_ne (npc := 94) (tgt := 98) dX8_takesKey_91 rfl (by decide) (fun hc4 => ?_) (fun hc4 => ?_)
        · refine aw_iconst (npc := 99) (v := 0) (by decide) dX8_takesKey_98 rfl ?_
          refine aw_istore_n (npc := 100) (L' := [some (.ref 69), some (.int 1), some (.int 3), some (.int 0), some (.int 2)]) dX8_takesKey_99 rfl (by decide) rfl rfl ?_
          refine aw_iinc (npc := 103) (v := 3) (L' := [some (.ref 69), some (.int 1), some (.int 3), some (.int 0), some (.int 3)]) dX8_takesKey_100 rfl rfl (by decide) (by decide) rfl rfl ?_
          refine aw_goto (npc := 55) dX8_takesKey_103 (by decide) ?_
          refine aw_iload (npc := 57) rfl dX8_takesKey_55 rfl ?_
          refine aw_iload_n (npc := 58) rfl dX8_takesKey_57 rfl ?_
          refine aw_icmp_ge (npc := 61) (tgt := 106) dX8_takesKey_58 rfl (by decide) (fun _ => ?_) (fun hc => absurd (by decide) hc)
          refine aw_iload_n (npc := 107) rfl dX8_takesKey_106 rfl ?_
          refine aw_if_eq (npc := 110) (tgt := 121) dX8_takesKey_107 rfl (by decide) (fun _ => ?_) (fun hc => absurd (by decide) hc)
          exact kf (fun z => hc4 z.2.2.2) _ _ _
        · refine aw_iconst (npc := 95) (v := 1) (by decide) dX8_takesKey_94 rfl ?_
          refine aw_goto (npc := 99) dX8_takesKey_95 (by decide) ?_
          refine aw_istore_n (npc := 100) (L' := [some (.ref 69), some (.int 1), some (.int 3), some (.int 1), some (.int 2)]) dX8_takesKey_99 rfl (by decide) rfl rfl ?_
          refine aw_iinc (npc := 103) (v := 3) (L' := [some (.ref 69), some (.int 1), some (.int 3), some (.int 1), some (.int 3)]) dX8_takesKey_100 rfl rfl (by decide) (by decide) rfl rfl ?_
          refine aw_goto (npc := 55) dX8_takesKey_103 (by decide) ?_
          refine aw_iload (npc := 57) rfl dX8_takesKey_55 rfl ?_
          refine aw_iload_n (npc := 58) rfl dX8_takesKey_57 rfl ?_
          refine aw_icmp_ge (npc := 61) (tgt := 106) dX8_takesKey_58 rfl (by decide) (fun _ => ?_) (fun hc => absurd (by decide) hc)
          refine aw_iload_n (npc := 107) rfl dX8_takesKey_106 rfl ?_
          refine aw_if_eq (npc := 110) (tgt := 121) dX8_takesKey_107 rfl (by decide) (fun hc => absurd hc (by decide)) (fun _ => ?_)
          exact kt ⟨by omega, hc2, hc3, hc4⟩ _ _ _
def kz2 (tp : Nat → Int32) (f e : Nat) : Prop := e = f + 4 ∧ tp (f + 0) = 102 ∧ tp (f + 1) = 105 ∧ tp (f + 2) = 110 ∧ tp (f + 3) = 101
set_option maxHeartbeats 4000000 in
set_option maxRecDepth 100000 in
theorem m_kw2 {X : List Int32} {d rc rs n : Nat} {Q : am_Q} {L : Nat} {N : Nat → Int32} {a : Nat → Nat → Int32} {o : Nat → Int32} {h : am_H} {f e : Nat} {v2 v3 v4 : Option Value} (F : MR o N a h) (h10 : o 10 = nI e) (h11 : o 11 = nI f) (hfe : f ≤ e) (he : e ≤ 96) (kt : kz2 (a 75) f e → ∀ u2 u3 u4 : Int32, AW X mX8_takesKey (d + 1) rc rs 110 [some (.ref 69), some (.int 2), some (.int u2), some (.int u3), some (.int u4)] [] n h Q) (kf : ¬ kz2 (a 75) f e → ∀ u2 u3 u4 : Int32, AW X mX8_takesKey (d + 1) rc rs 121 [some (.ref 69), some (.int 2), some (.int u2), some (.int u3), some (.int u4)] [] n h Q) : AW X mX8_takesKey (d + 1) rc rs 17 [some (.ref 69), some (.int 2), v2, v3, v4] [] n h Q := by
  refine aw_aload_n (npc := 18) rfl dX8_takesKey_17 rfl ?_
  refine aw_get (npc := 21) dX8_takesKey_18 rfl kf_X8_36 F.1 rfl ?_
  refine aw_iload_n (npc := 22) rfl dX8_takesKey_21 rfl ?_
  refine aw_iconst (npc := 23) (v := 1) (by decide) dX8_takesKey_22 rfl ?_
  refine aw_iaddV (npc := 24) (v := 3) dX8_takesKey_23 rfl (by decide) ?_
  refine aw_iald (npc := 25) (x := 11) (j := 3) dX8_takesKey_24 rfl F.2.2.2.2.2.2.2.2.1 ⟨by decide, by decide⟩ rfl ?_
  refine aw_aload_n (npc := 26) rfl dX8_takesKey_25 rfl ?_
  refine aw_get (npc := 29) dX8_takesKey_26 rfl kf_X8_36 F.1 rfl ?_
  refine aw_iload_n (npc := 30) rfl dX8_takesKey_29 rfl ?_
  refine aw_iald (npc := 31) (x := 7) (j := 2) dX8_takesKey_30 rfl F.2.2.2.2.2.2.2.2.1 ⟨by decide, by decide⟩ rfl ?_
  refine aw_isubV (npc := 32) (v := 4) dX8_takesKey_31 rfl (by decide) ?_
  refine aw_istore_n (npc := 33) (L' := [some (.ref 69), some (.int 2), some (.int 4), v3, v4]) dX8_takesKey_32 rfl (by decide) rfl rfl ?_
  refine aw_iload_n (npc := 34) rfl dX8_takesKey_33 rfl ?_
  refine aw_aload_n (npc := 35) rfl dX8_takesKey_34 rfl ?_
  refine aw_get (npc := 38) dX8_takesKey_35 rfl kf_X8_195 F.1 rfl ?_
  refine aw_top (y := nI e) (h10) ?_
  refine aw_aload_n (npc := 39) rfl dX8_takesKey_38 rfl ?_
  refine aw_get (npc := 42) dX8_takesKey_39 rfl kf_X8_198 F.1 rfl ?_
  refine aw_top (y := nI f) (h11) ?_
  refine aw_isubV (npc := 43) (v := nI (e - f)) dX8_takesKey_42 rfl (pk_sub (by omega)) ?_
  refine aw_icmp_ne (npc := 46) (tgt := 50) dX8_takesKey_43 rfl (by decide) (fun hc1 => ?_) (fun hc1 => ?_)
  · have hc1N : ¬ 4 = (e - f) := fun z9q => hc1 ((nI_eq (a := 4) (b := (e - f)) (by omega) (by omega)).mpr z9q)
    refine aw_iconst (npc := 51) (v := 0) (by decide) dX8_takesKey_50 rfl ?_
    refine aw_istore_n (npc := 52) (L' := [some (.ref 69), some (.int 2), some (.int 4), some (.int 0), v4]) dX8_takesKey_51 rfl (by decide) rfl rfl ?_
    refine aw_iconst (npc := 53) (v := 0) (by decide) dX8_takesKey_52 rfl ?_
    refine aw_istore (npc := 55) (L' := [some (.ref 69), some (.int 2), some (.int 4), some (.int 0), some (.int 0)]) dX8_takesKey_53 rfl (by decide) rfl rfl ?_
    refine aw_iload (npc := 57) rfl dX8_takesKey_55 rfl ?_
    refine aw_iload_n (npc := 58) rfl dX8_takesKey_57 rfl ?_
    refine aw_icmp_ge (npc := 61) (tgt := 106) dX8_takesKey_58 rfl (by decide) (fun hc => absurd hc (by decide)) (fun _ => ?_)
    refine aw_iload_n (npc := 62) rfl dX8_takesKey_61 rfl ?_
    refine aw_if_eq (npc := 65) (tgt := 106) dX8_takesKey_62 rfl (by decide) (fun _ => ?_) (fun hc => absurd (by decide) hc)
    refine aw_iload_n (npc := 107) rfl dX8_takesKey_106 rfl ?_
    refine aw_if_eq (npc := 110) (tgt := 121) dX8_takesKey_107 rfl (by decide) (fun _ => ?_) (fun hc => absurd (by decide) hc)
    exact kf (fun z => hc1N (by have z2 := z.1; omega)) _ _ _
  · have hc1N := (nI_eq (a := 4) (b := (e - f)) (by omega) (by omega)).mp hc1
    refine aw_iconst (npc := 47) (v := 1) (by decide) dX8_takesKey_46 rfl ?_
    refine aw_goto (npc := 51) dX8_takesKey_47 (by decide) ?_
    refine aw_istore_n (npc := 52) (L' := [some (.ref 69), some (.int 2), some (.int 4), some (.int 1), v4]) dX8_takesKey_51 rfl (by decide) rfl rfl ?_
    refine aw_iconst (npc := 53) (v := 0) (by decide) dX8_takesKey_52 rfl ?_
    refine aw_istore (npc := 55) (L' := [some (.ref 69), some (.int 2), some (.int 4), some (.int 1), some (.int 0)]) dX8_takesKey_53 rfl (by decide) rfl rfl ?_
    refine aw_iload (npc := 57) rfl dX8_takesKey_55 rfl ?_
    refine aw_iload_n (npc := 58) rfl dX8_takesKey_57 rfl ?_
    refine aw_icmp_ge (npc := 61) (tgt := 106) dX8_takesKey_58 rfl (by decide) (fun hc => absurd hc (by decide)) (fun _ => ?_)
    refine aw_iload_n (npc := 62) rfl dX8_takesKey_61 rfl ?_
    refine aw_if_eq (npc := 65) (tgt := 106) dX8_takesKey_62 rfl (by decide) (fun hc => absurd hc (by decide)) (fun _ => ?_)
    refine aw_aload_n (npc := 66) rfl dX8_takesKey_65 rfl ?_
    refine aw_get (npc := 69) dX8_takesKey_66 rfl kf_X8_29 F.1 rfl ?_
    refine aw_aload_n (npc := 70) rfl dX8_takesKey_69 rfl ?_
    refine aw_get (npc := 73) dX8_takesKey_70 rfl kf_X8_198 F.1 rfl ?_
    refine aw_top (y := nI f) (h11) ?_
    refine aw_iload (npc := 75) rfl dX8_takesKey_73 rfl ?_
    refine aw_iaddV (npc := 76) (v := nI (f + 0)) dX8_takesKey_75 rfl (nI_add _ 0) ?_
    refine aw_iald (npc := 77) (x := (a 75) (f + 0)) (j := (f + 0)) dX8_takesKey_76 rfl F.2.2.2.2.2.2.1 (am_ix_nI (by omega)) (tl_at (by omega)) ?_
    refine aw_aload_n (npc := 78) rfl dX8_takesKey_77 rfl ?_
    refine aw_get (npc := 81) dX8_takesKey_78 rfl kf_X8_32 F.1 rfl ?_
    refine aw_aload_n (npc := 82) rfl dX8_takesKey_81 rfl ?_
    refine aw_get (npc := 85) dX8_takesKey_82 rfl kf_X8_36 F.1 rfl ?_
    refine aw_iload_n (npc := 86) rfl dX8_takesKey_85 rfl ?_
    refine aw_iald (npc := 87) (x := 7) (j := 2) dX8_takesKey_86 rfl F.2.2.2.2.2.2.2.2.1 ⟨by decide, by decide⟩ rfl ?_
    refine aw_iload (npc := 89) rfl dX8_takesKey_87 rfl ?_
    refine aw_iaddV (npc := 90) (v := 7) dX8_takesKey_89 rfl (by decide) ?_
    refine aw_cald (npc := 91) (x := 102) (j := 7) dX8_takesKey_90 rfl F.2.2.2.2.2.2.2.1 ⟨by decide, by decide⟩ rfl ?_
    refine aw_icmp_ne (npc := 94) (tgt := 98) dX8_takesKey_91 rfl (by decide) (fun hc2 => ?_) (fun hc2 => ?_)
    · refine aw_iconst (npc := 99) (v := 0) (by decide) dX8_takesKey_98 rfl ?_
      refine aw_istore_n (npc := 100) (L' := [some (.ref 69), some (.int 2), some (.int 4), some (.int 0), some (.int 0)]) dX8_takesKey_99 rfl (by decide) rfl rfl ?_
      refine aw_iinc (npc := 103) (v := 1) (L' := [some (.ref 69), some (.int 2), some (.int 4), some (.int 0), some (.int 1)]) dX8_takesKey_100 rfl rfl (by decide) (by decide) rfl rfl ?_
      refine aw_goto (npc := 55) dX8_takesKey_103 (by decide) ?_
      refine aw_iload (npc := 57) rfl dX8_takesKey_55 rfl ?_
      refine aw_iload_n (npc := 58) rfl dX8_takesKey_57 rfl ?_
      refine aw_icmp_ge (npc := 61) (tgt := 106) dX8_takesKey_58 rfl (by decide) (fun hc => absurd hc (by decide)) (fun _ => ?_)
      refine aw_iload_n (npc := 62) rfl dX8_takesKey_61 rfl ?_
      refine aw_if_eq (npc := 65) (tgt := 106) dX8_takesKey_62 rfl (by decide) (fun _ => ?_) (fun hc => absurd (by decide) hc)
      refine aw_iload_n (npc := 107) rfl dX8_takesKey_106 rfl ?_
      refine aw_if_eq (npc := 110) (tgt := 121) dX8_takesKey_107 rfl (by decide) (fun _ => ?_) (fun hc => absurd (by decide) hc)
      exact kf (fun z => hc2 z.2.1) _ _ _
    · refine aw_iconst (npc := 95) (v := 1) (by decide) dX8_takesKey_94 rfl ?_
      refine aw_goto (npc := 99) dX8_takesKey_95 (by decide) ?_
      refine aw_istore_n (npc := 100) (L' := [some (.ref 69), some (.int 2), some (.int 4), some (.int 1), some (.int 0)]) dX8_takesKey_99 rfl (by decide) rfl rfl ?_
      refine aw_iinc (npc := 103) (v := 1) (L' := [some (.ref 69), some (.int 2), some (.int 4), some (.int 1), some (.int 1)]) dX8_takesKey_100 rfl rfl (by decide) (by decide) rfl rfl ?_
      refine aw_goto (npc := 55) dX8_takesKey_103 (by decide) ?_
      refine aw_iload (npc := 57) rfl dX8_takesKey_55 rfl ?_
      refine aw_iload_n (npc := 58) rfl dX8_takesKey_57 rfl ?_
      refine aw_icmp_ge (npc := 61) (tgt := 106) dX8_takesKey_58 rfl (by decide) (fun hc => absurd hc (by decide)) (fun _ => ?_)
      refine aw_iload_n (npc := 62) rfl dX8_takesKey_61 rfl ?_
      refine aw_if_eq (npc := 65) (tgt := 106) dX8_takesKey_62 rfl (by decide) (fun hc => absurd hc (by decide)) (fun _ => ?_)
      refine aw_aload_n (npc := 66) rfl dX8_takesKey_65 rfl ?_
      refine aw_get (npc := 69) dX8_takesKey_66 rfl kf_X8_29 F.1 rfl ?_
      refine aw_aload_n (npc := 70) rfl dX8_takesKey_69 rfl ?_
      refine aw_get (npc := 73) dX8_takesKey_70 rfl kf_X8_198 F.1 rfl ?_
      refine aw_top (y := nI f) (h11) ?_
      refine aw_iload (npc := 75) rfl dX8_takesKey_73 rfl ?_
      refine aw_iaddV (npc := 76) (v := nI (f + 1)) dX8_takesKey_75 rfl (nI_add _ 1) ?_
      refine aw_iald (npc := 77) (x := (a 75) (f + 1)) (j := (f + 1)) dX8_takesKey_76 rfl F.2.2.2.2.2.2.1 (am_ix_nI (by omega)) (tl_at (by omega)) ?_
      refine aw_aload_n (npc := 78) rfl dX8_takesKey_77 rfl ?_
      refine aw_get (npc := 81) dX8_takesKey_78 rfl kf_X8_32 F.1 rfl ?_
      refine aw_aload_n (npc := 82) rfl dX8_takesKey_81 rfl ?_
      refine aw_get (npc := 85) dX8_takesKey_82 rfl kf_X8_36 F.1 rfl ?_
      refine aw_iload_n (npc := 86) rfl dX8_takesKey_85 rfl ?_
      refine aw_iald (npc := 87) (x := 7) (j := 2) dX8_takesKey_86 rfl F.2.2.2.2.2.2.2.2.1 ⟨by decide, by decide⟩ rfl ?_
      refine aw_iload (npc := 89) rfl dX8_takesKey_87 rfl ?_
      refine aw_iaddV (npc := 90) (v := 8) dX8_takesKey_89 rfl (by decide) ?_
      refine aw_cald (npc := 91) (x := 105) (j := 8) dX8_takesKey_90 rfl F.2.2.2.2.2.2.2.1 ⟨by decide, by decide⟩ rfl ?_
      refine aw_icmp_ne (npc := 94) (tgt := 98) dX8_takesKey_91 rfl (by decide) (fun hc3 => ?_) (fun hc3 => ?_)
      · refine aw_iconst (npc := 99) (v := 0) (by decide) dX8_takesKey_98 rfl ?_
        refine aw_istore_n (npc := 100) (L' := [some (.ref 69), some (.int 2), some (.int 4), some (.int 0), some (.int 1)]) dX8_takesKey_99 rfl (by decide) rfl rfl ?_
        refine aw_iinc (npc := 103) (v := 2) (L' := [some (.ref 69), some (.int 2), some (.int 4), some (.int 0), some (.int 2)]) dX8_takesKey_100 rfl rfl (by decide) (by decide) rfl rfl ?_
        refine aw_goto (npc := 55) dX8_takesKey_103 (by decide) ?_
        refine aw_iload (npc := 57) rfl dX8_takesKey_55 rfl ?_
        refine aw_iload_n (npc := 58) rfl dX8_takesKey_57 rfl ?_
        refine aw_icmp_ge (npc := 61) (tgt := 106) dX8_takesKey_58 rfl (by decide) (fun hc => absurd hc (by decide)) (fun _ => ?_)
        refine aw_iload_n (npc := 62) rfl dX8_takesKey_61 rfl ?_
        refine aw_if_eq (npc := 65) (tgt := 106) dX8_takesKey_62 rfl (by decide) (fun _ => ?_) (fun hc => absurd (by decide) hc)
        refine aw_iload_n (npc := 107) rfl dX8_takesKey_106 rfl ?_
        refine aw_if_eq (npc := 110) (tgt := 121) dX8_takesKey_107 rfl (by decide) (fun _ => ?_) (fun hc => absurd (by decide) hc)
        exact kf (fun z => hc3 z.2.2.1) _ _ _
      · refine aw_iconst (npc := 95) (v := 1) (by decide) dX8_takesKey_94 rfl ?_
        refine aw_goto (npc := 99) dX8_takesKey_95 (by decide) ?_
        refine aw_istore_n (npc := 100) (L' := [some (.ref 69), some (.int 2), some (.int 4), some (.int 1), some (.int 1)]) dX8_takesKey_99 rfl (by decide) rfl rfl ?_
        refine aw_iinc (npc := 103) (v := 2) (L' := [some (.ref 69), some (.int 2), some (.int 4), some (.int 1), some (.int 2)]) dX8_takesKey_100 rfl rfl (by decide) (by decide) rfl rfl ?_
        refine aw_goto (npc := 55) dX8_takesKey_103 (by decide) ?_
        refine aw_iload (npc := 57) rfl dX8_takesKey_55 rfl ?_
        refine aw_iload_n (npc := 58) rfl dX8_takesKey_57 rfl ?_
        refine aw_icmp_ge (npc := 61) (tgt := 106) dX8_takesKey_58 rfl (by decide) (fun hc => absurd hc (by decide)) (fun _ => ?_)
        refine aw_iload_n (npc := 62) rfl dX8_takesKey_61 rfl ?_
        refine aw_if_eq (npc := 65) (tgt := 106) dX8_takesKey_62 rfl (by decide) (fun hc => absurd hc (by decide)) (fun _ => ?_)
        refine aw_aload_n (npc := 66) rfl dX8_takesKey_65 rfl ?_
        refine aw_get (npc := 69) dX8_takesKey_66 rfl kf_X8_29 F.1 rfl ?_
        refine aw_aload_n (npc := 70) rfl dX8_takesKey_69 rfl ?_
        refine aw_get (npc := 73) dX8_takesKey_70 rfl kf_X8_198 F.1 rfl ?_
        refine aw_top (y := nI f) (h11) ?_
        refine aw_iload (npc := 75) rfl dX8_takesKey_73 rfl ?_
        refine aw_iaddV (npc := 76) (v := nI (f + 2)) dX8_takesKey_75 rfl (nI_add _ 2) ?_
        refine aw_iald (npc := 77) (x := (a 75) (f + 2)) (j := (f + 2)) dX8_takesKey_76 rfl F.2.2.2.2.2.2.1 (am_ix_nI (by omega)) (tl_at (by omega)) ?_
        refine aw_aload_n (npc := 78) rfl dX8_takesKey_77 rfl ?_
        refine aw_get (npc := 81) dX8_takesKey_78 rfl kf_X8_32 F.1 rfl ?_
        refine aw_aload_n (npc := 82) rfl dX8_takesKey_81 rfl ?_
        refine aw_get (npc := 85) dX8_takesKey_82 rfl kf_X8_36 F.1 rfl ?_
        refine aw_iload_n (npc := 86) rfl dX8_takesKey_85 rfl ?_
        refine aw_iald (npc := 87) (x := 7) (j := 2) dX8_takesKey_86 rfl F.2.2.2.2.2.2.2.2.1 ⟨by decide, by decide⟩ rfl ?_
        refine aw_iload (npc := 89) rfl dX8_takesKey_87 rfl ?_
        refine aw_iaddV (npc := 90) (v := 9) dX8_takesKey_89 rfl (by decide) ?_
        refine aw_cald (npc := 91) (x := 110) (j := 9) dX8_takesKey_90 rfl F.2.2.2.2.2.2.2.1 ⟨by decide, by decide⟩ rfl ?_
        refine aw_icmp_ne (npc := 94) (tgt := 98) dX8_takesKey_91 rfl (by decide) (fun hc4 => ?_) (fun hc4 => ?_)
        · refine aw_iconst (npc := 99) (v := 0) (by decide) dX8_takesKey_98 rfl ?_
          refine aw_istore_n (npc := 100) (L' := [some (.ref 69), some (.int 2), some (.int 4), some (.int 0), some (.int 2)]) dX8_takesKey_99 rfl (by decide) rfl rfl ?_
          refine aw_iinc (npc := 103) (v := 3) (L' := [some (.ref 69), some (.int 2), some (.int 4), some (.int 0), some (.int 3)]) dX8_takesKey_100 rfl rfl (by decide) (by decide) rfl rfl ?_
          refine aw_goto (npc := 55) dX8_takesKey_103 (by decide) ?_
          refine aw_iload (npc := 57) rfl dX8_takesKey_55 rfl ?_
          refine aw_iload_n (npc := 58) rfl dX8_takesKey_57 rfl ?_
          refine aw_icmp_ge (npc := 61) (tgt := 106) dX8_takesKey_58 rfl (by decide) (fun hc => absurd hc (by decide)) (fun _ => ?_)
          refine aw_iload_n (npc := 62) rfl dX8_takesKey_61 rfl ?_
          refine aw_if_eq (npc := 65) (tgt := 106) dX8_takesKey_62 rfl (by decide) (fun _ => ?_) (fun hc => absurd (by decide) hc)
          refine aw_iload_n (npc := 107) rfl dX8_takesKey_106 rfl ?_
          refine aw_if_eq (npc := 110) (tgt := 121) dX8_takesKey_107 rfl (by decide) (fun _ => ?_) (fun hc => absurd (by decide) hc)
          exact kf (fun z => hc4 z.2.2.2.1) _ _ _
        · refine aw_iconst (npc := 95) (v := 1) (by decide) dX8_takesKey_94 rfl ?_
          refine aw_goto (npc := 99) dX8_takesKey_95 (by decide) ?_
          refine aw_istore_n (npc := 100) (L' := [some (.ref 69), some (.int 2), some (.int 4), some (.int 1), some (.int 2)]) dX8_takesKey_99 rfl (by decide) rfl rfl ?_
          refine aw_iinc (npc := 103) (v := 3) (L' := [some (.ref 69), some (.int 2), some (.int 4), some (.int 1), some (.int 3)]) dX8_takesKey_100 rfl rfl (by decide) (by decide) rfl rfl ?_
          refine aw_goto (npc := 55) dX8_takesKey_103 (by decide) ?_
          refine aw_iload (npc := 57) rfl dX8_takesKey_55 rfl ?_
          refine aw_iload_n (npc := 58) rfl dX8_takesKey_57 rfl ?_
          refine aw_icmp_ge (npc := 61) (tgt := 106) dX8_takesKey_58 rfl (by decide) (fun hc => absurd hc (by decide)) (fun _ => ?_)
          refine aw_iload_n (npc := 62) rfl dX8_takesKey_61 rfl ?_
          refine aw_if_eq (npc := 65) (tgt := 106) dX8_takesKey_62 rfl (by decide) (fun hc => absurd hc (by decide)) (fun _ => ?_)
          refine aw_aload_n (npc := 66) rfl dX8_takesKey_65 rfl ?_
          refine aw_get (npc := 69) dX8_takesKey_66 rfl kf_X8_29 F.1 rfl ?_
          refine aw_aload_n (npc := 70) rfl dX8_takesKey_69 rfl ?_
          refine aw_get (npc := 73) dX8_takesKey_70 rfl kf_X8_198 F.1 rfl ?_
          refine aw_top (y := nI f) (h11) ?_
          refine aw_iload (npc := 75) rfl dX8_takesKey_73 rfl ?_
          refine aw_iaddV (npc := 76) (v := nI (f + 3)) dX8_takesKey_75 rfl (nI_add _ 3) ?_
          refine aw_iald (npc := 77) (x := (a 75) (f + 3)) (j := (f + 3)) dX8_takesKey_76 rfl F.2.2.2.2.2.2.1 (am_ix_nI (by omega)) (tl_at (by omega)) ?_
          refine aw_aload_n (npc := 78) rfl dX8_takesKey_77 rfl ?_
          refine aw_get (npc := 81) dX8_takesKey_78 rfl kf_X8_32 F.1 rfl ?_
          refine aw_aload_n (npc := 82) rfl dX8_takesKey_81 rfl ?_
          refine aw_get (npc := 85) dX8_takesKey_82 rfl kf_X8_36 F.1 rfl ?_
          refine aw_iload_n (npc := 86) rfl dX8_takesKey_85 rfl ?_
          refine aw_iald (npc := 87) (x := 7) (j := 2) dX8_takesKey_86 rfl F.2.2.2.2.2.2.2.2.1 ⟨by decide, by decide⟩ rfl ?_
          refine aw_iload (npc := 89) rfl dX8_takesKey_87 rfl ?_
          refine aw_iaddV (npc := 90) (v := 10) dX8_takesKey_89 rfl (by decide) ?_
          refine aw_cald (npc := 91) (x := 101) (j := 10) dX8_takesKey_90 rfl F.2.2.2.2.2.2.2.1 ⟨by decide, by decide⟩ rfl ?_
          refine aw_icmp_ne (npc := 94) (tgt := 98) dX8_takesKey_91 rfl (by decide) (fun hc5 => ?_) (fun hc5 => ?_)
          · refine aw_iconst (npc := 99) (v := 0) (by decide) dX8_takesKey_98 rfl ?_
            refine aw_istore_n (npc := 100) (L' := [some (.ref 69), some (.int 2), some (.int 4), some (.int 0), some (.int 3)]) dX8_takesKey_99 rfl (by decide) rfl rfl ?_
            refine aw_iinc (npc := 103) (v := 4) (L' := [some (.ref 69), some (.int 2), some (.int 4), some (.int 0), some (.int 4)]) dX8_takesKey_100 rfl rfl (by decide) (by decide) rfl rfl ?_
            refine aw_goto (npc := 55) dX8_takesKey_103 (by decide) ?_
            refine aw_iload (npc := 57) rfl dX8_takesKey_55 rfl ?_
            refine aw_iload_n (npc := 58) rfl dX8_takesKey_57 rfl ?_
            refine aw_icmp_ge (npc := 61) (tgt := 106) dX8_takesKey_58 rfl (by decide) (fun _ => ?_) (fun hc => absurd (by decide) hc)
            refine aw_iload_n (npc := 107) rfl dX8_takesKey_106 rfl ?_
            refine aw_if_eq (npc := 110) (tgt := 121) dX8_takesKey_107 rfl (by decide) (fun _ => ?_) (fun hc => absurd (by decide) hc)
            exact kf (fun z => hc5 z.2.2.2.2) _ _ _
          · refine aw_iconst (npc := 95) (v := 1) (by decide) dX8_takesKey_94 rfl ?_
            refine aw_goto (npc := 99) dX8_takesKey_95 (by decide) ?_
            refine aw_istore_n (npc := 100) (L' := [some (.ref 69), some (.int 2), some (.int 4), some (.int 1), some (.int 3)]) dX8_takesKey_99 rfl (by decide) rfl rfl ?_
            refine aw_iinc (npc := 103) (v := 4) (L' := [some (.ref 69), some (.int 2), some (.int 4), some (.int 1), some (.int 4)]) dX8_takesKey_100 rfl rfl (by decide) (by decide) rfl rfl ?_
            refine aw_goto (npc := 55) dX8_takesKey_103 (by decide) ?_
            refine aw_iload (npc := 57) rfl dX8_takesKey_55 rfl ?_
            refine aw_iload_n (npc := 58) rfl dX8_takesKey_57 rfl ?_
            refine aw_icmp_ge (npc := 61) (tgt := 106) dX8_takesKey_58 rfl (by decide) (fun _ => ?_) (fun hc => absurd (by decide) hc)
            refine aw_iload_n (npc := 107) rfl dX8_takesKey_106 rfl ?_
            refine aw_if_eq (npc := 110) (tgt := 121) dX8_takesKey_107 rfl (by decide) (fun hc => absurd hc (by decide)) (fun _ => ?_)
            exact kt ⟨by omega, hc2, hc3, hc4, hc5⟩ _ _ _
theorem vk_u {L k : Nat} {tp : Nat → Int32} {K : Nat × Nat × Nat} {o : Nat → Int32} {v : Int32} (hk : k < 10 ∨ 14 < k) (h : VK L tp K o) : VK L tp K (upd o k v) := by
  obtain ⟨h1, h2, h3, h4, h5, h6⟩ := h
  exact ⟨(pk_un (by omega)).trans h1, (pk_un (by omega)).trans h2, (pk_un (by omega)).trans h3, fun z => (pk_un (by omega)).trans (h4 z), fun z => (pk_un (by omega)).trans (h5 z), fun z s a b => by rw [pk_un (by omega)]; exact h6 z s a b⟩
theorem mtk_eq {t j : Nat} (ht : t ≤ 5) (h4 : t ≠ 4) (hj : j < 4) : (mtk t = j ↔ t = j) := by
  unfold mtk
  split <;> omega
def oK (o9 o : Nat → Int32) : Prop := ∀ k, k < 10 ∨ 15 < k → o9 k = o k
set_option maxHeartbeats 4000000 in
set_option maxRecDepth 100000 in
theorem m_key {X : List Int32} {d rc rs n : Nat} {Q : am_Q} {L : Nat} {N : Nat → Int32} {a : Nat → Nat → Int32} {o : Nat → Int32} {h : am_H} (F : MR o N a h) (h9 : o 9 = nI L) (hL : L ≤ 96) {K : Nat × Nat × Nat} (vk : VK L (a 75) K o) (wk : WFK L (a 75) K) (k0 : K.1 = 1 → kz0 (a 75) K.2.1 K.2.2 → ∀ o9 h9x, MR o9 N a h9x → VK L (a 75) (adv L (a 75) K) o9 → o9 15 = nI 0 → oK o9 o → am_fp (fun k => k < 69 ∨ 92 ≤ k) h9x h → Q (some (.int 1)) n h9x) (k1 : K.1 = 1 → ¬ kz0 (a 75) K.2.1 K.2.2 → kz1 (a 75) K.2.1 K.2.2 → ∀ o9 h9x, MR o9 N a h9x → VK L (a 75) (adv L (a 75) K) o9 → o9 15 = nI 1 → oK o9 o → am_fp (fun k => k < 69 ∨ 92 ≤ k) h9x h → Q (some (.int 1)) n h9x) (k2 : K.1 = 1 → ¬ kz0 (a 75) K.2.1 K.2.2 → ¬ kz1 (a 75) K.2.1 K.2.2 → kz2 (a 75) K.2.1 K.2.2 → ∀ o9 h9x, MR o9 N a h9x → VK L (a 75) (adv L (a 75) K) o9 → o9 15 = nI 2 → oK o9 o → am_fp (fun k => k < 69 ∨ 92 ≤ k) h9x h → Q (some (.int 1)) n h9x) (kf : (K.1 = 1 → ¬ kz0 (a 75) K.2.1 K.2.2 ∧ ¬ kz1 (a 75) K.2.1 K.2.2 ∧ ¬ kz2 (a 75) K.2.1 K.2.2) → Q (some (.int 0)) n h) : AW X mX8_takesKey (d + 3) rc rs 0 [some (.ref 69), none, none, none, none] [] n h Q := by
  have hmt : mtk K.1 ≤ 5 := by have z := wk.2.2.1; unfold mtk; split <;> omega
  refine aw_aload_n (npc := 1) rfl dX8_takesKey_0 rfl ?_
  refine aw_get (npc := 4) dX8_takesKey_1 rfl kf_X8_204 F.1 rfl ?_
  refine aw_top (y := nI (mtk K.1)) (vk.2.2.1) ?_
  refine aw_iconst (npc := 5) (v := 1) (by decide) dX8_takesKey_4 rfl ?_
  refine aw_icmp_eq (npc := 8) (tgt := 10) dX8_takesKey_5 rfl (by decide) (fun hc1 => ?_) (fun hc1 => ?_)
  · have hc1N := (nI_eq (a := (mtk K.1)) (b := 1) (by omega) (by omega)).mp hc1
    have hK1 : K.1 = 1 := (mtk_eq wk.2.2.1 wk.2.2.2.1 (by omega)).mp hc1N
    refine aw_iconst (npc := 11) (v := 0) (by decide) dX8_takesKey_10 rfl ?_
    refine aw_istore_n (npc := 12) (L' := [some (.ref 69), some (.int 0), none, none, none]) dX8_takesKey_11 rfl (by decide) rfl rfl ?_
    refine aw_iload_n (npc := 13) rfl dX8_takesKey_12 rfl ?_
    refine aw_iconst (npc := 14) (v := 3) (by decide) dX8_takesKey_13 rfl ?_
    refine aw_icmp_ge (npc := 17) (tgt := 127) dX8_takesKey_14 rfl (by decide) (fun hc => absurd hc (by decide)) (fun _ => ?_)
    refine m_kw0 (L := L) F vk.1 vk.2.1 wk.2.1 (by have z := wk.1; omega) (fun hz2 u2 u3 u4 => ?_) (fun hz2 u2 u3 u4 => ?_)
    · refine aw_aload_n (npc := 111) rfl dX8_takesKey_110 rfl ?_
      refine aw_iload_n (npc := 112) rfl dX8_takesKey_111 rfl ?_
      refine aw_put (npc := 115) dX8_takesKey_112 rfl kf_X8_216 F.1 (Nat.le_of_ble_eq_true rfl) (am_ok_int _) rfl ?_
      have F3 := mr_o15 (v := 0) F
      refine aw_aload_n (npc := 116) rfl dX8_takesKey_115 rfl ?_
      refine aw_callV (npc := 119) (N := mX8_go) (b := 69) (mc := 0) (ms := 0) (A := []) (S := []) (L0 := [some (.ref 69), none]) dX8_takesKey_116 rfl km_X8_go kk_X8_219 F3.1 ⟨by decide, rfl⟩ rfl ⟨rfl, by decide⟩ rfl (Nat.le_of_ble_eq_true rfl) (Nat.zero_add _) (Nat.zero_add _) rfl ?_
      refine m_adv (i := K.2.2) (w := wd K) F3 ((pk_un (by decide)).trans h9) hL ((pk_un (by decide)).trans vk.1) wk.1 (fun s a1 a2 => by rw [pk_un (by decide)]; exact vk.2.2.2.2.2 (Or.inl hK1) s a1 a2) (fun o9 h9x F9 vk9 gk9 f9 => ?_)
      refine aw_iconst (npc := 120) (v := 1) (by decide) dX8_takesKey_119 rfl ?_
      refine aw_zret rfl rfl dX8_takesKey_120 ?_
      exact k0 hK1 hz2 _ _ F9 vk9 ((gk9 15 (by decide) (by decide) (by decide) (by decide) (by decide)).trans pk_us) (fun k hk => (gk9 k (by omega) (by omega) (by omega) (by omega) (by omega)).trans (pk_un (by omega))) (am_fpT f9 (am_fpU (show ¬ (69 < 69 ∨ 92 ≤ 69) by omega) am_fp0))
    · refine aw_iinc (npc := 124) (v := 1) (L' := [some (.ref 69), some (.int 1), some (.int u2), some (.int u3), some (.int u4)]) dX8_takesKey_121 rfl rfl (by decide) (by decide) rfl rfl ?_
      refine aw_goto (npc := 12) dX8_takesKey_124 (by decide) ?_
      refine aw_iload_n (npc := 13) rfl dX8_takesKey_12 rfl ?_
      refine aw_iconst (npc := 14) (v := 3) (by decide) dX8_takesKey_13 rfl ?_
      refine aw_icmp_ge (npc := 17) (tgt := 127) dX8_takesKey_14 rfl (by decide) (fun hc => absurd hc (by decide)) (fun _ => ?_)
      refine m_kw1 (L := L) F vk.1 vk.2.1 wk.2.1 (by have z := wk.1; omega) (fun hz4 u2 u3 u4 => ?_) (fun hz4 u2 u3 u4 => ?_)
      · refine aw_aload_n (npc := 111) rfl dX8_takesKey_110 rfl ?_
        refine aw_iload_n (npc := 112) rfl dX8_takesKey_111 rfl ?_
        refine aw_put (npc := 115) dX8_takesKey_112 rfl kf_X8_216 F.1 (Nat.le_of_ble_eq_true rfl) (am_ok_int _) rfl ?_
        have F5 := mr_o15 (v := 1) F
        refine aw_aload_n (npc := 116) rfl dX8_takesKey_115 rfl ?_
        refine aw_callV (npc := 119) (N := mX8_go) (b := 69) (mc := 0) (ms := 0) (A := []) (S := []) (L0 := [some (.ref 69), none]) dX8_takesKey_116 rfl km_X8_go kk_X8_219 F5.1 ⟨by decide, rfl⟩ rfl ⟨rfl, by decide⟩ rfl (Nat.le_of_ble_eq_true rfl) (Nat.zero_add _) (Nat.zero_add _) rfl ?_
        refine m_adv (i := K.2.2) (w := wd K) F5 ((pk_un (by decide)).trans h9) hL ((pk_un (by decide)).trans vk.1) wk.1 (fun s a1 a2 => by rw [pk_un (by decide)]; exact vk.2.2.2.2.2 (Or.inl hK1) s a1 a2) (fun o9 h9x F9 vk9 gk9 f9 => ?_)
        refine aw_iconst (npc := 120) (v := 1) (by decide) dX8_takesKey_119 rfl ?_
        refine aw_zret rfl rfl dX8_takesKey_120 ?_
        exact k1 hK1 hz2 hz4 _ _ F9 vk9 ((gk9 15 (by decide) (by decide) (by decide) (by decide) (by decide)).trans pk_us) (fun k hk => (gk9 k (by omega) (by omega) (by omega) (by omega) (by omega)).trans (pk_un (by omega))) (am_fpT f9 (am_fpU (show ¬ (69 < 69 ∨ 92 ≤ 69) by omega) am_fp0))
      · refine aw_iinc (npc := 124) (v := 2) (L' := [some (.ref 69), some (.int 2), some (.int u2), some (.int u3), some (.int u4)]) dX8_takesKey_121 rfl rfl (by decide) (by decide) rfl rfl ?_
        refine aw_goto (npc := 12) dX8_takesKey_124 (by decide) ?_
        refine aw_iload_n (npc := 13) rfl dX8_takesKey_12 rfl ?_
        refine aw_iconst (npc := 14) (v := 3) (by decide) dX8_takesKey_13 rfl ?_
        refine aw_icmp_ge (npc := 17) (tgt := 127) dX8_takesKey_14 rfl (by decide) (fun hc => absurd hc (by decide)) (fun _ => ?_)
        refine m_kw2 (L := L) F vk.1 vk.2.1 wk.2.1 (by have z := wk.1; omega) (fun hz6 u2 u3 u4 => ?_) (fun hz6 u2 u3 u4 => ?_)
        · refine aw_aload_n (npc := 111) rfl dX8_takesKey_110 rfl ?_
          refine aw_iload_n (npc := 112) rfl dX8_takesKey_111 rfl ?_
          refine aw_put (npc := 115) dX8_takesKey_112 rfl kf_X8_216 F.1 (Nat.le_of_ble_eq_true rfl) (am_ok_int _) rfl ?_
          have F7 := mr_o15 (v := 2) F
          refine aw_aload_n (npc := 116) rfl dX8_takesKey_115 rfl ?_
          refine aw_callV (npc := 119) (N := mX8_go) (b := 69) (mc := 0) (ms := 0) (A := []) (S := []) (L0 := [some (.ref 69), none]) dX8_takesKey_116 rfl km_X8_go kk_X8_219 F7.1 ⟨by decide, rfl⟩ rfl ⟨rfl, by decide⟩ rfl (Nat.le_of_ble_eq_true rfl) (Nat.zero_add _) (Nat.zero_add _) rfl ?_
          refine m_adv (i := K.2.2) (w := wd K) F7 ((pk_un (by decide)).trans h9) hL ((pk_un (by decide)).trans vk.1) wk.1 (fun s a1 a2 => by rw [pk_un (by decide)]; exact vk.2.2.2.2.2 (Or.inl hK1) s a1 a2) (fun o9 h9x F9 vk9 gk9 f9 => ?_)
          refine aw_iconst (npc := 120) (v := 1) (by decide) dX8_takesKey_119 rfl ?_
          refine aw_zret rfl rfl dX8_takesKey_120 ?_
          exact k2 hK1 hz2 hz4 hz6 _ _ F9 vk9 ((gk9 15 (by decide) (by decide) (by decide) (by decide) (by decide)).trans pk_us) (fun k hk => (gk9 k (by omega) (by omega) (by omega) (by omega) (by omega)).trans (pk_un (by omega))) (am_fpT f9 (am_fpU (show ¬ (69 < 69 ∨ 92 ≤ 69) by omega) am_fp0))
        · refine aw_iinc (npc := 124) (v := 3) (L' := [some (.ref 69), some (.int 3), some (.int u2), some (.int u3), some (.int u4)]) dX8_takesKey_121 rfl rfl (by decide) (by decide) rfl rfl ?_
          refine aw_goto (npc := 12) dX8_takesKey_124 (by decide) ?_
          refine aw_iload_n (npc := 13) rfl dX8_takesKey_12 rfl ?_
          refine aw_iconst (npc := 14) (v := 3) (by decide) dX8_takesKey_13 rfl ?_
          refine aw_icmp_ge (npc := 17) (tgt := 127) dX8_takesKey_14 rfl (by decide) (fun _ => ?_) (fun hc => absurd (by decide) hc)
          refine aw_iconst (npc := 128) (v := 0) (by decide) dX8_takesKey_127 rfl ?_
          refine aw_zret rfl rfl dX8_takesKey_128 ?_
          exact kf (fun _ => ⟨hz2, hz4, hz6⟩)
  · have hc1N : ¬ (mtk K.1) = 1 := fun z9q => hc1 ((nI_eq (a := (mtk K.1)) (b := 1) (by omega) (by omega)).mpr z9q)
    have hK1 : ¬ K.1 = 1 := fun z => hc1N ((mtk_eq wk.2.2.1 wk.2.2.2.1 (by omega)).mpr z)
    refine aw_iconst (npc := 9) (v := 0) (by decide) dX8_takesKey_8 rfl ?_
    refine aw_zret rfl rfl dX8_takesKey_9 ?_
    exact kf (fun z => absurd z hK1)
abbrev ES : Type := (Nat × Nat × Nat) × List Int32 × List Int32 × Nat × (Nat → Int32)
def EM (σ : ES) (L : Nat) (tp : Nat → Int32) (o : Nat → Int32) (a : Nat → Nat → Int32) : Prop := VK L tp σ.1 o ∧ o 19 = nI σ.2.1.length ∧ o 20 = nI σ.2.2.2.1 ∧ o 22 = nI σ.2.2.1.length ∧ (∀ j, j < σ.2.1.length → a 78 j = σ.2.1.getD j 0) ∧ (∀ j, j < σ.2.2.1.length → a 79 j = σ.2.2.1.reverse.getD j 0) ∧ (∀ k, k < 10 → a 80 k = σ.2.2.2.2 k)
def oE (o o0 : Nat → Int32) : Prop := ∀ k, (k < 10 ∨ 14 < k) → k ≠ 19 → k ≠ 20 → k ≠ 22 → o k = o0 k
def aE (a a0 : Nat → Nat → Int32) : Prop := ∀ k, k ≠ 78 → k ≠ 79 → k ≠ 80 → a k = a0 k
def EX (σ : ES) (L : Nat) (o0 N : Nat → Int32) (a0 : Nat → Nat → Int32) (h : am_H) : Prop := ∃ o a, MR o N a h ∧ EM σ L (a0 75) o a ∧ oE o o0 ∧ aE a a0
def WE (σ : ES) (L : Nat) (tp : Nat → Int32) : Prop := WFK L tp σ.1 ∧ L ≤ 96 ∧ σ.2.1.length + σ.2.2.1.length ≤ 96 ∧ σ.2.2.2.1 ≤ 96
theorem ex_frame {σ : ES} {L : Nat} {o0 N : Nat → Int32} {a0 : Nat → Nat → Int32} {h h' : am_H} (H : EX σ L o0 N a0 h) (hf : ∀ k, 69 ≤ k → k < 92 → h' k = h k) : EX σ L o0 N a0 h' := by
  obtain ⟨o, a, F, R⟩ := H
  exact ⟨o, a, mr_frame F hf, R⟩
def stl (r : Int32) : List Int32 → List Int32 → List Int32 × List Int32
  | cs, [] => (cs, [])
  | cs, w :: ws => if w = -11 ∨ rkM w < r then (cs, w :: ws) else stl r (cs ++ [w]) ws
theorem rev_top {w : Int32} {ws : List Int32} : (w :: ws).reverse.getD ws.length 0 = w := by
  rw [List.reverse_cons, List.getD_eq_getElem?_getD, List.getElem?_append_right (by rw [List.length_reverse]; exact Nat.le_refl _), List.length_reverse, Nat.sub_self]; rfl
theorem rev_low {w : Int32} {ws : List Int32} {j : Nat} (h : j < ws.length) : (w :: ws).reverse.getD j 0 = ws.reverse.getD j 0 := by
  rw [List.reverse_cons, List.getD_eq_getElem?_getD, List.getD_eq_getElem?_getD, List.getElem?_append_left (by rw [List.length_reverse]; exact h)]
theorem aup_eq {a : Nat → Nat → Int32} {k j : Nat} {v : Int32} : aup a k j v k = upd (a k) j v := by
  funext i
  simp [aup, upd]
theorem e_push {a : Nat → Nat → Int32} {cs : List Int32} {c : Int32} (h : ∀ j, j < cs.length → a 78 j = cs.getD j 0) : ∀ j, j < (cs ++ [c]).length → aup a 78 cs.length c 78 j = (cs ++ [c]).getD j 0 := by
  rw [aup_eq]; exact em_cd h
theorem e_wait {a : Nat → Nat → Int32} {ws : List Int32} {c : Int32} (h : ∀ j, j < ws.length → a 79 j = ws.reverse.getD j 0) : ∀ j, j < (c :: ws).length → aup a 79 ws.length c 79 j = (c :: ws).reverse.getD j 0 := by
  rw [aup_eq, List.reverse_cons]
  have z := em_cd (cs := ws.reverse) (cd := a 79) (c := c) (fun j hj => h j (by rw [List.length_reverse] at hj; exact hj))
  rw [List.length_reverse] at z
  intro j hj
  exact z j (by rw [List.length_append, List.length_reverse, List.length_singleton]; exact hj)
set_option maxHeartbeats 4000000 in
set_option maxRecDepth 100000 in
theorem m_settle {X : List Int32} {d rc rs n : Nat} {Q : am_Q} {L : Nat} {o0 N : Nat → Int32} {a0 : Nat → Nat → Int32} {K : Nat × Nat × Nat} {at_ : Nat} {tq : Nat → Int32} {r : Int32} : ∀ (ws cs : List Int32) (h : am_H), EX (K, cs, ws, at_, tq) L o0 N a0 h → cs.length + ws.length ≤ 96 → (∀ h9, EX (K, (stl r cs ws).1, (stl r cs ws).2, at_, tq) L o0 N a0 h9 → am_fp (fun k => k < 69 ∨ 92 ≤ k) h9 h → Q none n h9) → AW X mX8_settle (d + 1) rc rs 0 [some (.ref 69), some (.int r)] [] n h Q := by
  intro ws
  induction ws with
  | nil =>
    intro cs h H hb hq
    have H9 := H
    obtain ⟨o, a, F, ⟨vk, m19, m20, m22, mc, mw, mq⟩, ho, ha⟩ := H
    refine aw_aload_n (npc := 1) rfl dX8_settle_0 rfl ?_
    refine aw_get (npc := 4) dX8_settle_1 rfl kf_X8_222 F.1 rfl ?_
    refine aw_top (y := 0) (m22) ?_
    refine aw_if_le (npc := 7) (tgt := 82) dX8_settle_4 rfl (by decide) (fun _ => ?_) (fun hc => absurd (by decide) hc)
    refine aw_vret rfl dX8_settle_82 ?_
    exact hq _ H9 am_fp0
  | cons w ws ih =>
    intro cs h H hb hq
    obtain ⟨o, a, F, ⟨vk, m19, m20, m22, mc, mw, mq⟩, ho, ha⟩ := H
    have hb2 : cs.length + (ws.length + 1) ≤ 96 := hb
    have ew : a 79 ws.length = w := (mw ws.length (by show ws.length < ws.length + 1; omega)).trans rev_top
    refine aw_aload_n (npc := 1) rfl dX8_settle_0 rfl ?_
    refine aw_get (npc := 4) dX8_settle_1 rfl kf_X8_222 F.1 rfl ?_
    refine aw_top (y := nI (ws.length + 1)) (m22) ?_
    refine aw_if_le (npc := 7) (tgt := 82) dX8_settle_4 rfl (by decide) (fun hc => absurd hc ((fun z => absurd ((nI_leI (a := ws.length + 1) (b := 0) (by omega) (by omega)).mp z) (by omega)))) (fun _ => ?_)
    refine aw_aload_n (npc := 8) rfl dX8_settle_7 rfl ?_
    refine aw_get (npc := 11) dX8_settle_8 rfl kf_X8_42 F.1 rfl ?_
    refine aw_aload_n (npc := 12) rfl dX8_settle_11 rfl ?_
    refine aw_get (npc := 15) dX8_settle_12 rfl kf_X8_222 F.1 rfl ?_
    refine aw_top (y := nI (ws.length + 1)) (m22) ?_
    refine aw_iconst (npc := 16) (v := 1) (by decide) dX8_settle_15 rfl ?_
    refine aw_isubV (npc := 17) (v := nI ws.length) dX8_settle_16 rfl (pk_sub (a := ws.length + 1) (b := 1) (by omega)) ?_
    refine aw_iald (npc := 18) (x := (a 79) ws.length) (j := ws.length) dX8_settle_17 rfl F.2.2.2.2.2.2.2.2.2.2.1 (am_ix_nI (by omega)) (tl_at (by omega)) ?_
    refine aw_top (y := w) ew ?_
    refine aw_bipush (npc := 20) (v := -11) (by decide) dX8_settle_18 rfl ?_
    refine aw_icmp_eq (npc := 23) (tgt := 82) dX8_settle_20 rfl (by decide) (fun hc2 => ?_) (fun hc2 => ?_)
    · refine aw_vret rfl dX8_settle_82 ?_
      refine hq _ ?_ am_fp0
      rw [stl, if_pos (show w = -11 ∨ rkM w < r from Or.inl hc2)]; exact ⟨o, a, F, ⟨vk, m19, m20, m22, mc, mw, mq⟩, ho, ha⟩
    · refine aw_aload_n (npc := 24) rfl dX8_settle_23 rfl ?_
      refine aw_get (npc := 27) dX8_settle_24 rfl kf_X8_42 F.1 rfl ?_
      refine aw_aload_n (npc := 28) rfl dX8_settle_27 rfl ?_
      refine aw_get (npc := 31) dX8_settle_28 rfl kf_X8_222 F.1 rfl ?_
      refine aw_top (y := nI (ws.length + 1)) (m22) ?_
      refine aw_iconst (npc := 32) (v := 1) (by decide) dX8_settle_31 rfl ?_
      refine aw_isubV (npc := 33) (v := nI ws.length) dX8_settle_32 rfl (pk_sub (a := ws.length + 1) (b := 1) (by omega)) ?_
      refine aw_iald (npc := 34) (x := (a 79) ws.length) (j := ws.length) dX8_settle_33 rfl F.2.2.2.2.2.2.2.2.2.2.1 (am_ix_nI (by omega)) (tl_at (by omega)) ?_
      refine aw_top (y := w) ew ?_
      refine aw_callS (npc := 37) (N := mX8_rank) (mc := 0) (ms := 0) (A := [.int w]) (S := []) (L0 := [some (.int w)]) dX8_settle_34 rfl km_X8_rank kk_X8_225 rfl ⟨rfl, by decide⟩ rfl (Nat.le_of_ble_eq_true rfl) (Nat.zero_add _) (Nat.zero_add _) rfl ?_
      refine m_rank ?_
      refine aw_re (S' := [.int (rkM w)]) rfl ?_
      refine aw_iload_n (npc := 38) rfl dX8_settle_37 rfl ?_
      refine aw_icmp_lt (npc := 41) (tgt := 82) dX8_settle_38 rfl (by decide) (fun hc3 => ?_) (fun hc3 => ?_)
      · refine aw_vret rfl dX8_settle_82 ?_
        refine hq _ ?_ am_fp0
        rw [stl, if_pos (show w = -11 ∨ rkM w < r from Or.inr hc3)]; exact ⟨o, a, F, ⟨vk, m19, m20, m22, mc, mw, mq⟩, ho, ha⟩
      · refine aw_aload_n (npc := 42) rfl dX8_settle_41 rfl ?_
        refine aw_dup (npc := 43) rfl dX8_settle_42 rfl ?_
        refine aw_get (npc := 46) dX8_settle_43 rfl kf_X8_222 F.1 rfl ?_
        refine aw_top (y := nI (ws.length + 1)) (m22) ?_
        refine aw_iconst (npc := 47) (v := 1) (by decide) dX8_settle_46 rfl ?_
        refine aw_isubV (npc := 48) (v := nI ws.length) dX8_settle_47 rfl (pk_sub (a := ws.length + 1) (b := 1) (by omega)) ?_
        refine aw_put (npc := 51) dX8_settle_48 rfl kf_X8_222 F.1 (Nat.le_of_ble_eq_true rfl) (am_ok_int _) rfl ?_
        have F4 := mr_o22 (v := nI ws.length) F
        refine aw_aload_n (npc := 52) rfl dX8_settle_51 rfl ?_
        refine aw_get (npc := 55) dX8_settle_52 rfl kf_X8_39 F4.1 rfl ?_
        refine aw_aload_n (npc := 56) rfl dX8_settle_55 rfl ?_
        refine aw_get (npc := 59) dX8_settle_56 rfl kf_X8_228 F4.1 rfl ?_
        refine aw_top (y := o 19) ((pk_un (by omega))) ?_
        refine aw_top (y := nI cs.length) (m19) ?_
        refine aw_aload_n (npc := 60) rfl dX8_settle_59 rfl ?_
        refine aw_get (npc := 63) dX8_settle_60 rfl kf_X8_42 F4.1 rfl ?_
        refine aw_aload_n (npc := 64) rfl dX8_settle_63 rfl ?_
        refine aw_get (npc := 67) dX8_settle_64 rfl kf_X8_222 F4.1 rfl ?_
        refine aw_top (y := nI ws.length) (pk_us) ?_
        refine aw_iald (npc := 68) (x := (a 79) ws.length) (j := ws.length) dX8_settle_67 rfl F4.2.2.2.2.2.2.2.2.2.2.1 (am_ix_nI (by omega)) (tl_at (by omega)) ?_
        refine aw_top (y := w) ew ?_
        refine aw_iast (npc := 69) (j := cs.length) dX8_settle_68 rfl F4.2.2.2.2.2.2.2.2.2.1 (am_ix_nI (by omega)) (by rw [tl_len]; omega) rfl ?_
        have F5 := mr_78 (j := cs.length) (v := w) F4
        refine aw_aload_n (npc := 70) rfl dX8_settle_69 rfl ?_
        refine aw_dup (npc := 71) rfl dX8_settle_70 rfl ?_
        refine aw_get (npc := 74) dX8_settle_71 rfl kf_X8_228 F5.1 rfl ?_
        refine aw_top (y := o 19) ((pk_un (by omega))) ?_
        refine aw_top (y := nI cs.length) (m19) ?_
        refine aw_iconst (npc := 75) (v := 1) (by decide) dX8_settle_74 rfl ?_
        refine aw_iaddV (npc := 76) (v := nI (cs.length + 1)) dX8_settle_75 rfl (nI_add _ 1) ?_
        refine aw_put (npc := 79) dX8_settle_76 rfl kf_X8_228 F5.1 (Nat.le_of_ble_eq_true rfl) (am_ok_int _) rfl ?_
        have F6 := mr_o19 (v := nI (cs.length + 1)) F5
        refine aw_goto (npc := 0) dX8_settle_79 (by decide) ?_
        have hs9 : ¬ (w = -11 ∨ rkM w < r) := fun z => z.elim hc2 hc3
        refine ih (cs ++ [w]) _ ⟨_, _, F6, ⟨vk_u (by decide) (vk_u (by decide) vk), (pk_us.trans (by rw [List.length_append, List.length_singleton])), (pk_un (by decide)).trans ((pk_un (by decide)).trans m20), (pk_un (by decide)).trans pk_us, e_push mc, (fun j hj => (congrFun (aup_n (by decide)) j).trans ((mw j (by have z : j < ws.length := hj; show j < ws.length + 1; omega)).trans (rev_low hj))), (fun k hk => (congrFun (aup_n (by decide)) k).trans (mq k hk))⟩, (fun k k1 k2 k3 k4 => (pk_un k2).trans ((pk_un k4).trans (ho k k1 k2 k3 k4))), (fun k k1 k2 k3 => (aup_n k1).trans (ha k k1 k2 k3))⟩ (by rw [List.length_append, List.length_singleton]; omega) (fun h9 H9 f9 => hq h9 ?_ (am_fpT f9 (am_fpU (show ¬ (69 < 69 ∨ 92 ≤ 69) by omega) (am_fpU (show ¬ (78 < 69 ∨ 92 ≤ 78) by omega) (am_fpU (show ¬ (69 < 69 ∨ 92 ≤ 69) by omega) am_fp0)))))
        rw [stl, if_neg hs9]; exact H9
def nO : List Int32 → Nat
  | [] => 0
  | w :: ws => (if w = -10 then 1 else 0) + nO ws
def cntW (f : Nat → Int32) : Nat → Nat
  | 0 => 0
  | i + 1 => cntW f i + (if f i = -10 then 1 else 0)
theorem cntW_c {f g : Nat → Int32} : ∀ (n : Nat), (∀ j, j < n → f j = g j) → cntW f n = cntW g n := by
  intro n
  induction n with
  | zero => intro _; rfl
  | succ n ih => intro h; show cntW f n + _ = cntW g n + _; rw [ih (fun j hj => h j (by omega)), h n (by omega)]
theorem cntW_r : ∀ (ws : List Int32), cntW (fun j => ws.reverse.getD j 0) ws.length = nO ws := by
  intro ws
  induction ws with
  | nil => rfl
  | cons w ws ih =>
    show cntW (fun j => (w :: ws).reverse.getD j 0) ws.length + (if (w :: ws).reverse.getD ws.length 0 = -10 then 1 else 0) = (if w = -10 then 1 else 0) + nO ws
    rw [rev_top, cntW_c ws.length (g := fun j => ws.reverse.getD j 0) (fun j hj => rev_low hj), ih]; omega
theorem cntW_le {f : Nat → Int32} : ∀ (n : Nat), cntW f n ≤ n := by
  intro n
  induction n with
  | zero => exact Nat.le_refl _
  | succ n ih => show cntW f n + (if f n = -10 then 1 else 0) ≤ n + 1; split <;> omega
set_option maxHeartbeats 4000000 in
set_option maxRecDepth 100000 in
theorem m_notsL {X : List Int32} {d rc rs n : Nat} {Q : am_Q} {L : Nat} {N : Nat → Int32} {a : Nat → Nat → Int32} {o : Nat → Int32} {h : am_H} {w : Nat} (F : MR o N a h) (hw : w ≤ 96) (m22 : o 22 = nI w) (hq : Q (some (.int (nI (cntW (a 79) w)))) n h) : ∀ (m i : Nat), i + m = w → AW X mX8_notsOpen d rc rs 4 [some (.ref 69), some (.int (nI (cntW (a 79) i))), some (.int (nI i))] [] n h Q := by
  intro m
  induction m with
  | zero =>
    intro i hi
    have hiw : i = w := by omega
    rw [hiw]
    refine aw_iload_n (npc := 5) rfl dX8_notsOpen_4 rfl ?_
    refine aw_aload_n (npc := 6) rfl dX8_notsOpen_5 rfl ?_
    refine aw_get (npc := 9) dX8_notsOpen_6 rfl kf_X8_222 F.1 rfl ?_
    refine aw_top (y := nI w) (m22) ?_
    refine aw_icmp_ge (npc := 12) (tgt := 37) dX8_notsOpen_9 rfl (by decide) (fun _ => ?_) (fun hc => absurd (nI_le (a := w) (b := w) (by omega) (by omega)) hc)
    refine aw_iload_n (npc := 38) rfl dX8_notsOpen_37 rfl ?_
    refine aw_iret rfl dX8_notsOpen_38 ?_
    exact hq
  | succ m ih =>
    intro i hi
    have hci := cntW_le (f := a 79) i
    refine aw_iload_n (npc := 5) rfl dX8_notsOpen_4 rfl ?_
    refine aw_aload_n (npc := 6) rfl dX8_notsOpen_5 rfl ?_
    refine aw_get (npc := 9) dX8_notsOpen_6 rfl kf_X8_222 F.1 rfl ?_
    refine aw_top (y := nI w) (m22) ?_
    refine aw_icmp_ge (npc := 12) (tgt := 37) dX8_notsOpen_9 rfl (by decide) (fun hc => absurd hc (nI_ge (a := i) (b := w) (by omega) (by omega))) (fun _ => ?_)
    refine aw_iload_n (npc := 13) rfl dX8_notsOpen_12 rfl ?_
    refine aw_aload_n (npc := 14) rfl dX8_notsOpen_13 rfl ?_
    refine aw_get (npc := 17) dX8_notsOpen_14 rfl kf_X8_42 F.1 rfl ?_
    refine aw_iload_n (npc := 18) rfl dX8_notsOpen_17 rfl ?_
    refine aw_iald (npc := 19) (x := (a 79) i) (j := i) dX8_notsOpen_18 rfl F.2.2.2.2.2.2.2.2.2.2.1 (am_ix_nI (by omega)) (tl_at (by omega)) ?_
    refine aw_bipush (npc := 21) (v := -10) (by decide) dX8_notsOpen_19 rfl ?_
    refine aw_icmp_ne (npc := 24) (tgt := 28) dX8_notsOpen_21 rfl (by decide) (fun hc2 => ?_) (fun hc2 => ?_)
    · refine aw_iconst (npc := 29) (v := 0) (by decide) dX8_notsOpen_28 rfl ?_
      refine aw_iaddV (npc := 30) (v := nI ((cntW (a 79) i) + 0)) dX8_notsOpen_29 rfl (nI_add _ 0) ?_
      refine aw_istore_n (npc := 31) (L' := [some (.ref 69), some (.int (nI ((cntW (a 79) i) + 0))), some (.int (nI i))]) dX8_notsOpen_30 rfl (by decide) rfl rfl ?_
      refine aw_iinc (npc := 34) (v := nI (i + 1)) (L' := [some (.ref 69), some (.int (nI ((cntW (a 79) i) + 0))), some (.int (nI (i + 1)))]) dX8_notsOpen_31 rfl rfl (nI_1 _) (by decide) rfl rfl ?_
      refine aw_goto (npc := 4) dX8_notsOpen_34 (by decide) ?_
      have ec : cntW (a 79) (i + 1) = cntW (a 79) i + 0 := by show cntW (a 79) i + (if a 79 i = -10 then 1 else 0) = _; rw [if_neg hc2]
      refine aw_locs (L' := [some (.ref 69), some (.int (nI (cntW (a 79) (i + 1)))), some (.int (nI (i + 1)))]) (by rw [ec]) ?_
      exact ih (i + 1) (by omega)
    · refine aw_iconst (npc := 25) (v := 1) (by decide) dX8_notsOpen_24 rfl ?_
      refine aw_goto (npc := 29) dX8_notsOpen_25 (by decide) ?_
      refine aw_iaddV (npc := 30) (v := nI ((cntW (a 79) i) + 1)) dX8_notsOpen_29 rfl (nI_add _ 1) ?_
      refine aw_istore_n (npc := 31) (L' := [some (.ref 69), some (.int (nI ((cntW (a 79) i) + 1))), some (.int (nI i))]) dX8_notsOpen_30 rfl (by decide) rfl rfl ?_
      refine aw_iinc (npc := 34) (v := nI (i + 1)) (L' := [some (.ref 69), some (.int (nI ((cntW (a 79) i) + 1))), some (.int (nI (i + 1)))]) dX8_notsOpen_31 rfl rfl (nI_1 _) (by decide) rfl rfl ?_
      refine aw_goto (npc := 4) dX8_notsOpen_34 (by decide) ?_
      have ec : cntW (a 79) (i + 1) = cntW (a 79) i + 1 := by show cntW (a 79) i + (if a 79 i = -10 then 1 else 0) = _; rw [if_pos hc2]
      refine aw_locs (L' := [some (.ref 69), some (.int (nI (cntW (a 79) (i + 1)))), some (.int (nI (i + 1)))]) (by rw [ec]) ?_
      exact ih (i + 1) (by omega)
set_option maxHeartbeats 4000000 in
set_option maxRecDepth 100000 in
theorem m_nots {X : List Int32} {d rc rs n : Nat} {Q : am_Q} {L : Nat} {o0 N : Nat → Int32} {a0 : Nat → Nat → Int32} {σ : ES} {h : am_H} (H : EX σ L o0 N a0 h) (hb : σ.2.2.1.length ≤ 96) (hq : Q (some (.int (nI (nO σ.2.2.1)))) n h) : AW X mX8_notsOpen d rc rs 0 [some (.ref 69), none, none] [] n h Q := by
  obtain ⟨o, a, F, ⟨vk, m19, m20, m22, mc, mw, mq⟩, ho, ha⟩ := H
  refine aw_iconst (npc := 1) (v := 0) (by decide) dX8_notsOpen_0 rfl ?_
  refine aw_istore_n (npc := 2) (L' := [some (.ref 69), some (.int 0), none]) dX8_notsOpen_1 rfl (by decide) rfl rfl ?_
  refine aw_iconst (npc := 3) (v := 0) (by decide) dX8_notsOpen_2 rfl ?_
  refine aw_istore_n (npc := 4) (L' := [some (.ref 69), some (.int 0), some (.int 0)]) dX8_notsOpen_3 rfl (by decide) rfl rfl ?_
  exact m_notsL (L := L) F (by omega) m22 (by rw [cntW_c _ mw, cntW_r]; exact hq) σ.2.2.1.length 0 (by omega)
theorem m_goE {X : List Int32} {d rc rs n : Nat} {Q : am_Q} {L : Nat} {o0 N : Nat → Int32} {a0 : Nat → Nat → Int32} {h : am_H} {σ : ES} (H : EX σ L o0 N a0 h) (hL : L ≤ 96) (wk : WFK L (a0 75) σ.1) (h9 : o0 9 = nI L) (ht : σ.1.1 = 1 ∨ σ.1.1 = 2 ∨ σ.1.1 = 3) (hq : ∀ h9, EX (adv L (a0 75) σ.1, σ.2) L o0 N a0 h9 → am_fp (fun k => k < 69 ∨ 92 ≤ k) h9 h → Q none n h9) : AW X mX8_go (d + 2) rc rs 0 [some (.ref 69), none] [] n h Q := by
  obtain ⟨o, a, F, ⟨vk, m19, m20, m22, mc, mw, mq⟩, ho, ha⟩ := H
  have e75 : a 75 = a0 75 := ha 75 (by decide) (by decide) (by decide)
  refine m_adv (L := L) (i := σ.1.2.2) (w := wd σ.1) F ((ho 9 (by decide) (by decide) (by decide) (by decide)).trans h9) hL vk.1 wk.1 (vk.2.2.2.2.2 ht) (fun o9 h9x F9 vk9 gk f9 => ?_)
  rw [e75] at vk9
  exact hq _ ⟨o9, a, F9, ⟨vk9, (gk 19 (by decide) (by decide) (by decide) (by decide) (by decide)).trans m19, (gk 20 (by decide) (by decide) (by decide) (by decide) (by decide)).trans m20, (gk 22 (by decide) (by decide) (by decide) (by decide) (by decide)).trans m22, mc, mw, mq⟩, (fun k k1 k2 k3 k4 => (gk k (by omega) (by omega) (by omega) (by omega) (by omega)).trans (ho k k1 k2 k3 k4)), ha⟩ f9
def nmK (y : Int32) (tp : Nat → Int32) (K : Nat × Nat × Nat) : Option Nat := if K.1 = 1 ∧ K.2.2 = K.2.1 + 1 then nmF (nmS y) (fN (tp K.2.1)) else none
def ptO (y : Int32) (tp : Nat → Int32) (K : Nat × Nat × Nat) : Option Int32 := if K.1 = 2 then some (nuV tp (K.2.2 - K.2.1) K.2.1 0) else (nmK y tp K).map (fun j => nI (10000 + j))
theorem nmF_lt {s v j : Nat} (h : nmF s v = some j) : j < 4 := by
  unfold nmF at h
  repeat' split at h
  all_goals first | (have z := Option.some.inj h; omega) | cases h
set_option maxHeartbeats 4000000 in
set_option maxRecDepth 100000 in
theorem m_part {X : List Int32} {d rc rs n : Nat} {Q : am_Q} {L : Nat} {o0 N : Nat → Int32} {a0 : Nat → Nat → Int32} {h : am_H} {K : Nat × Nat × Nat} {cs ws : List Int32} {at_ : Nat} {tq : Nat → Int32} (H : EX (K, cs, ws, at_, tq) L o0 N a0 h) (hL : L ≤ 96) (wk : WFK L (a0 75) K) (h9 : o0 9 = nI L) (hb : cs.length + ws.length < 96) (hat : at_ ≤ 96) (k1 : ∀ c, ptO (o0 15) (a0 75) K = some c → ∀ h9, EX (adv L (a0 75) K, (stl 6 (cs ++ [c]) ws).1, (stl 6 (cs ++ [c]) ws).2, at_ + 1, tq) L o0 N a0 h9 → am_fp (fun k => k < 69 ∨ 92 ≤ k) h9 h → Q (some (.int 1)) n h9) (k0 : ptO (o0 15) (a0 75) K = none → Q (some (.int 0)) n h) : AW X mX8_takesPart (d + 3) rc rs 0 [some (.ref 69), none] [] n h Q := by
  have hmt : mtk K.1 ≤ 5 := by have z := wk.2.2.1; unfold mtk; split <;> omega
  have we := wk.1
  have wf := wk.2.1
  refine aw_aload_n (npc := 1) rfl dX8_takesPart_0 rfl ?_
  obtain ⟨o1u, a1u, F1u, ⟨vk1, m19_1, m20_1, m22_1, mc1, mw1, mq1⟩, ho1, ha1⟩ := id H
  refine aw_get (npc := 4) dX8_takesPart_1 rfl kf_X8_204 F1u.1 rfl ?_
  refine aw_top (y := nI (mtk K.1)) (vk1.2.2.1) ?_
  refine aw_iconst (npc := 5) (v := 1) (by decide) dX8_takesPart_4 rfl ?_
  refine aw_icmp_ne (npc := 8) (tgt := 36) dX8_takesPart_5 rfl (by decide) (fun hc1 => ?_) (fun hc1 => ?_)
  · have hc1N : ¬ (mtk K.1) = 1 := fun z9q => hc1 ((nI_eq (a := (mtk K.1)) (b := 1) (by omega) (by omega)).mpr z9q)
    refine aw_iconst (npc := 37) (v := 0) (by decide) dX8_takesPart_36 rfl ?_
    refine aw_istore_n (npc := 38) (L' := [some (.ref 69), some (.int 0)]) dX8_takesPart_37 rfl (by decide) rfl rfl ?_
    refine aw_aload_n (npc := 39) rfl dX8_takesPart_38 rfl ?_
    refine aw_get (npc := 42) dX8_takesPart_39 rfl kf_X8_204 F1u.1 rfl ?_
    refine aw_top (y := nI (mtk K.1)) (vk1.2.2.1) ?_
    refine aw_iconst (npc := 43) (v := 2) (by decide) dX8_takesPart_42 rfl ?_
    refine aw_icmp_eq (npc := 46) (tgt := 52) dX8_takesPart_43 rfl (by decide) (fun hc2 => ?_) (fun hc2 => ?_)
    · have hc2N := (nI_eq (a := (mtk K.1)) (b := 2) (by omega) (by omega)).mp hc2
      refine aw_aload_n (npc := 53) rfl dX8_takesPart_52 rfl ?_
      refine aw_get (npc := 56) dX8_takesPart_53 rfl kf_X8_39 F1u.1 rfl ?_
      refine aw_aload_n (npc := 57) rfl dX8_takesPart_56 rfl ?_
      refine aw_get (npc := 60) dX8_takesPart_57 rfl kf_X8_228 F1u.1 rfl ?_
      refine aw_top (y := nI cs.length) (m19_1) ?_
      refine aw_aload_n (npc := 61) rfl dX8_takesPart_60 rfl ?_
      refine aw_get (npc := 64) dX8_takesPart_61 rfl kf_X8_204 F1u.1 rfl ?_
      refine aw_top (y := nI (mtk K.1)) (vk1.2.2.1) ?_
      refine aw_iconst (npc := 65) (v := 2) (by decide) dX8_takesPart_64 rfl ?_
      refine aw_icmp_ne (npc := 68) (tgt := 75) dX8_takesPart_65 rfl (by decide) (fun hc => absurd (hc2) hc) (fun _ => ?_)
      refine aw_aload_n (npc := 69) rfl dX8_takesPart_68 rfl ?_
      refine aw_get (npc := 72) dX8_takesPart_69 rfl kf_X8_210 F1u.1 rfl ?_
      refine aw_goto (npc := 87) dX8_takesPart_72 (by decide) ?_
      have hK2 : K.1 = 2 := (mtk_eq wk.2.2.1 wk.2.2.2.1 (by omega)).mp hc2N
      refine aw_top (y := nuV (a0 75) (K.2.2 - K.2.1) K.2.1 0) (vk1.2.2.2.2.1 hK2) ?_
      refine aw_iast (npc := 88) (j := cs.length) dX8_takesPart_87 rfl F1u.2.2.2.2.2.2.2.2.2.1 (am_ix_nI (by omega)) (by rw [tl_len]; omega) rfl ?_
      have F4 := mr_78 (j := cs.length) (v := nuV (a0 75) (K.2.2 - K.2.1) K.2.1 0) F1u
      refine aw_aload_n (npc := 89) rfl dX8_takesPart_88 rfl ?_
      refine aw_dup (npc := 90) rfl dX8_takesPart_89 rfl ?_
      refine aw_get (npc := 93) dX8_takesPart_90 rfl kf_X8_228 F4.1 rfl ?_
      refine aw_top (y := nI cs.length) (m19_1) ?_
      refine aw_iconst (npc := 94) (v := 1) (by decide) dX8_takesPart_93 rfl ?_
      refine aw_iaddV (npc := 95) (v := nI (cs.length + 1)) dX8_takesPart_94 rfl (nI_add _ 1) ?_
      refine aw_put (npc := 98) dX8_takesPart_95 rfl kf_X8_228 F4.1 (Nat.le_of_ble_eq_true rfl) (am_ok_int _) rfl ?_
      have F5 := mr_o19 (v := nI (cs.length + 1)) F4
      refine aw_aload_n (npc := 99) rfl dX8_takesPart_98 rfl ?_
      refine aw_dup (npc := 100) rfl dX8_takesPart_99 rfl ?_
      refine aw_get (npc := 103) dX8_takesPart_100 rfl kf_X8_234 F5.1 rfl ?_
      refine aw_top (y := o1u 20) ((pk_un (by omega))) ?_
      refine aw_top (y := nI at_) (m20_1) ?_
      refine aw_iconst (npc := 104) (v := 1) (by decide) dX8_takesPart_103 rfl ?_
      refine aw_iaddV (npc := 105) (v := nI (at_ + 1)) dX8_takesPart_104 rfl (nI_add _ 1) ?_
      refine aw_put (npc := 108) dX8_takesPart_105 rfl kf_X8_234 F5.1 (Nat.le_of_ble_eq_true rfl) (am_ok_int _) rfl ?_
      have F6 := mr_o20 (v := nI (at_ + 1)) F5
      have Hp7 : EX (K, cs ++ [nuV (a0 75) (K.2.2 - K.2.1) K.2.1 0], ws, at_ + 1, tq) L o0 N a0 _ := ⟨_, _, F6, ⟨(vk_u (by decide) (vk_u (by decide) vk1)), ((((pk_un (by omega))).trans pk_us).trans (show nI (cs.length + 1) = nI (cs ++ [nuV (a0 75) (K.2.2 - K.2.1) K.2.1 0]).length by rw [List.length_append, List.length_singleton])), (pk_us), ((((pk_un (by omega))).trans (pk_un (by omega))).trans m22_1), (e_push mc1), (fun j hj => (congrFun (aup_n (by decide)) j).trans (mw1 j hj)), (fun j hj => (congrFun (aup_n (by decide)) j).trans (mq1 j hj))⟩, (fun k k1 k2 k3 k4 => (pk_un k3).trans ((pk_un k2).trans (ho1 k k1 k2 k3 k4))), (fun k k1 k2 k3 => (aup_n k1).trans (ha1 k k1 k2 k3))⟩
      refine aw_aload_n (npc := 109) rfl dX8_takesPart_108 rfl ?_
      refine aw_bipush (npc := 111) (v := 6) (by decide) dX8_takesPart_109 rfl ?_
      obtain ⟨o2u, a2u, F2u, ⟨vk2, m19_2, m20_2, m22_2, mc2, mw2, mq2⟩, ho2, ha2⟩ := id Hp7
      refine aw_callV (npc := 114) (N := mX8_settle) (b := 69) (mc := 0) (ms := 0) (A := [.int 6]) (S := []) (L0 := [some (.ref 69), some (.int 6)]) dX8_takesPart_111 rfl km_X8_settle kk_X8_237 F2u.1 ⟨by decide, rfl⟩ rfl ⟨rfl, by decide⟩ rfl (Nat.le_of_ble_eq_true rfl) (Nat.zero_add _) (Nat.zero_add _) rfl ?_
      refine m_settle (r := 6) ws (cs ++ [nuV (a0 75) (K.2.2 - K.2.1) K.2.1 0]) _ Hp7 (by rw [List.length_append, List.length_singleton]; omega) (fun hp8 Hs9 fz10 => ?_)
      have fyfz10 : ∀ k, (k < 69 ∨ 92 ≤ k) → hp8 k = _ := fun k hk => fz10 k hk
      refine aw_aload_n (npc := 115) rfl dX8_takesPart_114 rfl ?_
      obtain ⟨o3u, a3u, F3u, ⟨vk3, m19_3, m20_3, m22_3, mc3, mw3, mq3⟩, ho3, ha3⟩ := id Hs9
      refine aw_callV (npc := 118) (N := mX8_go) (b := 69) (mc := 0) (ms := 0) (A := []) (S := []) (L0 := [some (.ref 69), none]) dX8_takesPart_115 rfl km_X8_go kk_X8_219 F3u.1 ⟨by decide, rfl⟩ rfl ⟨rfl, by decide⟩ rfl (Nat.le_of_ble_eq_true rfl) (Nat.zero_add _) (Nat.zero_add _) rfl ?_
      refine m_goE Hs9 hL wk h9 (Or.inr (Or.inl hK2)) (fun hp11 Hg12 fz13 => ?_)
      have fyfz13 : ∀ k, (k < 69 ∨ 92 ≤ k) → hp11 k = _ := fun k hk => fz13 k hk
      refine aw_iconst (npc := 119) (v := 1) (by decide) dX8_takesPart_118 rfl ?_
      refine aw_zret rfl rfl dX8_takesPart_119 ?_
      refine k1 _ ?_ _ Hg12 (am_fpT (fun k (hk : k < 69 ∨ 92 ≤ k) => fyfz13 k (by omega)) (am_fpT (fun k (hk : k < 69 ∨ 92 ≤ k) => fyfz10 k (by omega)) (am_fpU (show ¬ (69 < 69 ∨ 92 ≤ 69) by omega) (am_fpU (show ¬ (69 < 69 ∨ 92 ≤ 69) by omega) (am_fpU (show ¬ (78 < 69 ∨ 92 ≤ 78) by omega) am_fp0)))))
      exact if_pos hK2
    · have hc2N : ¬ (mtk K.1) = 2 := fun z9q => hc2 ((nI_eq (a := (mtk K.1)) (b := 2) (by omega) (by omega)).mpr z9q)
      refine aw_iload_n (npc := 47) rfl dX8_takesPart_46 rfl ?_
      refine aw_if_ne (npc := 50) (tgt := 52) dX8_takesPart_47 rfl (by decide) (fun hc => absurd (by decide) hc) (fun _ => ?_)
      refine aw_iconst (npc := 51) (v := 0) (by decide) dX8_takesPart_50 rfl ?_
      refine aw_zret rfl rfl dX8_takesPart_51 ?_
      have hn2 : ¬ K.1 = 2 := fun z => hc2N ((mtk_eq wk.2.2.1 wk.2.2.2.1 (by omega)).mpr z)
      refine k0 ?_
      unfold ptO
      rw [if_neg hn2, show nmK (o0 15) (a0 75) K = none from if_neg (fun z => hc1N ((mtk_eq wk.2.2.1 wk.2.2.2.1 (by omega)).mpr z.1))]; rfl
  · have hc1N := (nI_eq (a := (mtk K.1)) (b := 1) (by omega) (by omega)).mp hc1
    refine aw_aload_n (npc := 9) rfl dX8_takesPart_8 rfl ?_
    refine aw_get (npc := 12) dX8_takesPart_9 rfl kf_X8_195 F1u.1 rfl ?_
    refine aw_top (y := nI K.2.2) (vk1.1) ?_
    refine aw_aload_n (npc := 13) rfl dX8_takesPart_12 rfl ?_
    refine aw_get (npc := 16) dX8_takesPart_13 rfl kf_X8_198 F1u.1 rfl ?_
    refine aw_top (y := nI K.2.1) (vk1.2.1) ?_
    refine aw_isubV (npc := 17) (v := nI (K.2.2 - K.2.1)) dX8_takesPart_16 rfl (pk_sub (by omega)) ?_
    refine aw_iconst (npc := 18) (v := 1) (by decide) dX8_takesPart_17 rfl ?_
    refine aw_icmp_ne (npc := 21) (tgt := 36) dX8_takesPart_18 rfl (by decide) (fun hc14 => ?_) (fun hc14 => ?_)
    · have hc14N : ¬ (K.2.2 - K.2.1) = 1 := fun z9q => hc14 ((nI_eq (a := (K.2.2 - K.2.1)) (b := 1) (by omega) (by omega)).mpr z9q)
      refine aw_iconst (npc := 37) (v := 0) (by decide) dX8_takesPart_36 rfl ?_
      refine aw_istore_n (npc := 38) (L' := [some (.ref 69), some (.int 0)]) dX8_takesPart_37 rfl (by decide) rfl rfl ?_
      refine aw_aload_n (npc := 39) rfl dX8_takesPart_38 rfl ?_
      refine aw_get (npc := 42) dX8_takesPart_39 rfl kf_X8_204 F1u.1 rfl ?_
      refine aw_top (y := nI (mtk K.1)) (vk1.2.2.1) ?_
      refine aw_iconst (npc := 43) (v := 2) (by decide) dX8_takesPart_42 rfl ?_
      refine aw_icmp_eq (npc := 46) (tgt := 52) dX8_takesPart_43 rfl (by decide) (fun hc15 => ?_) (fun hc15 => ?_)
      · have hc15N := (nI_eq (a := (mtk K.1)) (b := 2) (by omega) (by omega)).mp hc15
        refine aw_aload_n (npc := 53) rfl dX8_takesPart_52 rfl ?_
        refine aw_get (npc := 56) dX8_takesPart_53 rfl kf_X8_39 F1u.1 rfl ?_
        refine aw_aload_n (npc := 57) rfl dX8_takesPart_56 rfl ?_
        refine aw_get (npc := 60) dX8_takesPart_57 rfl kf_X8_228 F1u.1 rfl ?_
        refine aw_top (y := nI cs.length) (m19_1) ?_
        refine aw_aload_n (npc := 61) rfl dX8_takesPart_60 rfl ?_
        refine aw_get (npc := 64) dX8_takesPart_61 rfl kf_X8_204 F1u.1 rfl ?_
        refine aw_top (y := nI (mtk K.1)) (vk1.2.2.1) ?_
        refine aw_iconst (npc := 65) (v := 2) (by decide) dX8_takesPart_64 rfl ?_
        refine aw_icmp_ne (npc := 68) (tgt := 75) dX8_takesPart_65 rfl (by decide) (fun hc => absurd (hc15) hc) (fun _ => ?_)
        refine aw_aload_n (npc := 69) rfl dX8_takesPart_68 rfl ?_
        refine aw_get (npc := 72) dX8_takesPart_69 rfl kf_X8_210 F1u.1 rfl ?_
        refine aw_goto (npc := 87) dX8_takesPart_72 (by decide) ?_
        have hK2 : K.1 = 2 := (mtk_eq wk.2.2.1 wk.2.2.2.1 (by omega)).mp hc15N
        refine aw_top (y := nuV (a0 75) (K.2.2 - K.2.1) K.2.1 0) (vk1.2.2.2.2.1 hK2) ?_
        refine aw_iast (npc := 88) (j := cs.length) dX8_takesPart_87 rfl F1u.2.2.2.2.2.2.2.2.2.1 (am_ix_nI (by omega)) (by rw [tl_len]; omega) rfl ?_
        have F17 := mr_78 (j := cs.length) (v := nuV (a0 75) (K.2.2 - K.2.1) K.2.1 0) F1u
        refine aw_aload_n (npc := 89) rfl dX8_takesPart_88 rfl ?_
        refine aw_dup (npc := 90) rfl dX8_takesPart_89 rfl ?_
        refine aw_get (npc := 93) dX8_takesPart_90 rfl kf_X8_228 F17.1 rfl ?_
        refine aw_top (y := nI cs.length) (m19_1) ?_
        refine aw_iconst (npc := 94) (v := 1) (by decide) dX8_takesPart_93 rfl ?_
        refine aw_iaddV (npc := 95) (v := nI (cs.length + 1)) dX8_takesPart_94 rfl (nI_add _ 1) ?_
        refine aw_put (npc := 98) dX8_takesPart_95 rfl kf_X8_228 F17.1 (Nat.le_of_ble_eq_true rfl) (am_ok_int _) rfl ?_
        have F18 := mr_o19 (v := nI (cs.length + 1)) F17
        refine aw_aload_n (npc := 99) rfl dX8_takesPart_98 rfl ?_
        refine aw_dup (npc := 100) rfl dX8_takesPart_99 rfl ?_
        refine aw_get (npc := 103) dX8_takesPart_100 rfl kf_X8_234 F18.1 rfl ?_
        refine aw_top (y := o1u 20) ((pk_un (by omega))) ?_
        refine aw_top (y := nI at_) (m20_1) ?_
        refine aw_iconst (npc := 104) (v := 1) (by decide) dX8_takesPart_103 rfl ?_
        refine aw_iaddV (npc := 105) (v := nI (at_ + 1)) dX8_takesPart_104 rfl (nI_add _ 1) ?_
        refine aw_put (npc := 108) dX8_takesPart_105 rfl kf_X8_234 F18.1 (Nat.le_of_ble_eq_true rfl) (am_ok_int _) rfl ?_
        have F19 := mr_o20 (v := nI (at_ + 1)) F18
        have Hp20 : EX (K, cs ++ [nuV (a0 75) (K.2.2 - K.2.1) K.2.1 0], ws, at_ + 1, tq) L o0 N a0 _ := ⟨_, _, F19, ⟨(vk_u (by decide) (vk_u (by decide) vk1)), ((((pk_un (by omega))).trans pk_us).trans (show nI (cs.length + 1) = nI (cs ++ [nuV (a0 75) (K.2.2 - K.2.1) K.2.1 0]).length by rw [List.length_append, List.length_singleton])), (pk_us), ((((pk_un (by omega))).trans (pk_un (by omega))).trans m22_1), (e_push mc1), (fun j hj => (congrFun (aup_n (by decide)) j).trans (mw1 j hj)), (fun j hj => (congrFun (aup_n (by decide)) j).trans (mq1 j hj))⟩, (fun k k1 k2 k3 k4 => (pk_un k3).trans ((pk_un k2).trans (ho1 k k1 k2 k3 k4))), (fun k k1 k2 k3 => (aup_n k1).trans (ha1 k k1 k2 k3))⟩
        refine aw_aload_n (npc := 109) rfl dX8_takesPart_108 rfl ?_
        refine aw_bipush (npc := 111) (v := 6) (by decide) dX8_takesPart_109 rfl ?_
        obtain ⟨o4u, a4u, F4u, ⟨vk4, m19_4, m20_4, m22_4, mc4, mw4, mq4⟩, ho4, ha4⟩ := id Hp20
        refine aw_callV (npc := 114) (N := mX8_settle) (b := 69) (mc := 0) (ms := 0) (A := [.int 6]) (S := []) (L0 := [some (.ref 69), some (.int 6)]) dX8_takesPart_111 rfl km_X8_settle kk_X8_237 F4u.1 ⟨by decide, rfl⟩ rfl ⟨rfl, by decide⟩ rfl (Nat.le_of_ble_eq_true rfl) (Nat.zero_add _) (Nat.zero_add _) rfl ?_
        refine m_settle (r := 6) ws (cs ++ [nuV (a0 75) (K.2.2 - K.2.1) K.2.1 0]) _ Hp20 (by rw [List.length_append, List.length_singleton]; omega) (fun hp21 Hs22 fz23 => ?_)
        have fyfz23 : ∀ k, (k < 69 ∨ 92 ≤ k) → hp21 k = _ := fun k hk => fz23 k hk
        refine aw_aload_n (npc := 115) rfl dX8_takesPart_114 rfl ?_
        obtain ⟨o5u, a5u, F5u, ⟨vk5, m19_5, m20_5, m22_5, mc5, mw5, mq5⟩, ho5, ha5⟩ := id Hs22
        refine aw_callV (npc := 118) (N := mX8_go) (b := 69) (mc := 0) (ms := 0) (A := []) (S := []) (L0 := [some (.ref 69), none]) dX8_takesPart_115 rfl km_X8_go kk_X8_219 F5u.1 ⟨by decide, rfl⟩ rfl ⟨rfl, by decide⟩ rfl (Nat.le_of_ble_eq_true rfl) (Nat.zero_add _) (Nat.zero_add _) rfl ?_
        refine m_goE Hs22 hL wk h9 (Or.inr (Or.inl hK2)) (fun hp24 Hg25 fz26 => ?_)
        have fyfz26 : ∀ k, (k < 69 ∨ 92 ≤ k) → hp24 k = _ := fun k hk => fz26 k hk
        refine aw_iconst (npc := 119) (v := 1) (by decide) dX8_takesPart_118 rfl ?_
        refine aw_zret rfl rfl dX8_takesPart_119 ?_
        refine k1 _ ?_ _ Hg25 (am_fpT (fun k (hk : k < 69 ∨ 92 ≤ k) => fyfz26 k (by omega)) (am_fpT (fun k (hk : k < 69 ∨ 92 ≤ k) => fyfz23 k (by omega)) (am_fpU (show ¬ (69 < 69 ∨ 92 ≤ 69) by omega) (am_fpU (show ¬ (69 < 69 ∨ 92 ≤ 69) by omega) (am_fpU (show ¬ (78 < 69 ∨ 92 ≤ 78) by omega) am_fp0)))))
        exact if_pos hK2
      · have hc15N : ¬ (mtk K.1) = 2 := fun z9q => hc15 ((nI_eq (a := (mtk K.1)) (b := 2) (by omega) (by omega)).mpr z9q)
        refine aw_iload_n (npc := 47) rfl dX8_takesPart_46 rfl ?_
        refine aw_if_ne (npc := 50) (tgt := 52) dX8_takesPart_47 rfl (by decide) (fun hc => absurd (by decide) hc) (fun _ => ?_)
        refine aw_iconst (npc := 51) (v := 0) (by decide) dX8_takesPart_50 rfl ?_
        refine aw_zret rfl rfl dX8_takesPart_51 ?_
        have hn2 : ¬ K.1 = 2 := fun z => hc15N ((mtk_eq wk.2.2.1 wk.2.2.2.1 (by omega)).mpr z)
        refine k0 ?_
        unfold ptO
        rw [if_neg hn2, show nmK (o0 15) (a0 75) K = none from if_neg (fun z => hc14N (by have y := z.2; omega))]; rfl
    · have hc14N := (nI_eq (a := (K.2.2 - K.2.1)) (b := 1) (by omega) (by omega)).mp hc14
      have hK1 : K.1 = 1 := (mtk_eq wk.2.2.1 wk.2.2.2.1 (by omega)).mp hc1N
      obtain ⟨v, hv1, hv2, ev⟩ := so_let (wk.2.2.2.2.2.2.1 hK1 K.2.1 (Nat.le_refl _) (by omega))
      have e13 : o1u 13 = nI v := (vk1.2.2.2.1 (Or.inl hK1)).trans ev
      have enk : nmK (o0 15) (a0 75) K = nmF (nmS (o0 15)) v := by unfold nmK; rw [if_pos ⟨hK1, by omega⟩, ev, fN_nI (by omega)]
      rcases enm : nmF (nmS (o0 15)) v with _ | j
      · refine aw_aload_n (npc := 22) rfl dX8_takesPart_21 rfl ?_
        refine aw_aload_n (npc := 23) rfl dX8_takesPart_22 rfl ?_
        refine aw_get (npc := 26) dX8_takesPart_23 rfl kf_X8_210 F1u.1 rfl ?_
        refine aw_top (y := nI v) (e13) ?_
        refine aw_callV (npc := 29) (N := mX8_nameOf) (b := 69) (mc := 0) (ms := 0) (A := [.int (nI v)]) (S := []) (L0 := [some (.ref 69), some (.int (nI v))]) dX8_takesPart_26 rfl km_X8_nameOf kk_X8_231 F1u.1 ⟨by decide, rfl⟩ rfl ⟨rfl, by decide⟩ rfl (Nat.le_of_ble_eq_true rfl) (Nat.zero_add _) (Nat.zero_add _) rfl ?_
        refine m_nameOf (L := L) (v := v) F1u (by omega) (ho1 15 (by decide) (by decide) (by decide) (by decide)) ?_
        refine aw_re (S' := [.int (bI (nmF (nmS (o0 15)) v))]) rfl ?_
        refine aw_top (y := (-1)) (by rw [enm]; rfl) ?_
        refine aw_if_lt (npc := 32) (tgt := 36) dX8_takesPart_29 rfl (by decide) (fun _ => ?_) (fun hc => absurd (by decide) hc)
        refine aw_iconst (npc := 37) (v := 0) (by decide) dX8_takesPart_36 rfl ?_
        refine aw_istore_n (npc := 38) (L' := [some (.ref 69), some (.int 0)]) dX8_takesPart_37 rfl (by decide) rfl rfl ?_
        refine aw_aload_n (npc := 39) rfl dX8_takesPart_38 rfl ?_
        refine aw_get (npc := 42) dX8_takesPart_39 rfl kf_X8_204 F1u.1 rfl ?_
        refine aw_top (y := nI (mtk K.1)) (vk1.2.2.1) ?_
        refine aw_iconst (npc := 43) (v := 2) (by decide) dX8_takesPart_42 rfl ?_
        refine aw_icmp_eq (npc := 46) (tgt := 52) dX8_takesPart_43 rfl (by decide) (fun hc => absurd hc ((fun z => absurd ((mtk_eq wk.2.2.1 wk.2.2.2.1 (by omega)).mp ((nI_eq (a := mtk K.1) (b := 2) (by omega) (by omega)).mp z)) (by omega)))) (fun _ => ?_)
        refine aw_iload_n (npc := 47) rfl dX8_takesPart_46 rfl ?_
        refine aw_if_ne (npc := 50) (tgt := 52) dX8_takesPart_47 rfl (by decide) (fun hc => absurd (by decide) hc) (fun _ => ?_)
        refine aw_iconst (npc := 51) (v := 0) (by decide) dX8_takesPart_50 rfl ?_
        refine aw_zret rfl rfl dX8_takesPart_51 ?_
        have hn2 : ¬ K.1 = 2 := by omega
        refine k0 ?_
        unfold ptO
        rw [if_neg hn2, enk, enm]; rfl
      · have hj := nmF_lt enm
        refine aw_aload_n (npc := 22) rfl dX8_takesPart_21 rfl ?_
        refine aw_aload_n (npc := 23) rfl dX8_takesPart_22 rfl ?_
        refine aw_get (npc := 26) dX8_takesPart_23 rfl kf_X8_210 F1u.1 rfl ?_
        refine aw_top (y := nI v) (e13) ?_
        refine aw_callV (npc := 29) (N := mX8_nameOf) (b := 69) (mc := 0) (ms := 0) (A := [.int (nI v)]) (S := []) (L0 := [some (.ref 69), some (.int (nI v))]) dX8_takesPart_26 rfl km_X8_nameOf kk_X8_231 F1u.1 ⟨by decide, rfl⟩ rfl ⟨rfl, by decide⟩ rfl (Nat.le_of_ble_eq_true rfl) (Nat.zero_add _) (Nat.zero_add _) rfl ?_
        refine m_nameOf (L := L) (v := v) F1u (by omega) (ho1 15 (by decide) (by decide) (by decide) (by decide)) ?_
        refine aw_re (S' := [.int (bI (nmF (nmS (o0 15)) v))]) rfl ?_
        refine aw_top (y := nI j) (by rw [enm]; rfl) ?_
        refine aw_if_lt (npc := 32) (tgt := 36) dX8_takesPart_29 rfl (by decide) (fun hc => absurd hc (nI_pos (by omega))) (fun _ => ?_)
        refine aw_iconst (npc := 33) (v := 1) (by decide) dX8_takesPart_32 rfl ?_
        refine aw_goto (npc := 37) dX8_takesPart_33 (by decide) ?_
        refine aw_istore_n (npc := 38) (L' := [some (.ref 69), some (.int 1)]) dX8_takesPart_37 rfl (by decide) rfl rfl ?_
        refine aw_aload_n (npc := 39) rfl dX8_takesPart_38 rfl ?_
        refine aw_get (npc := 42) dX8_takesPart_39 rfl kf_X8_204 F1u.1 rfl ?_
        refine aw_top (y := nI (mtk K.1)) (vk1.2.2.1) ?_
        refine aw_iconst (npc := 43) (v := 2) (by decide) dX8_takesPart_42 rfl ?_
        refine aw_icmp_eq (npc := 46) (tgt := 52) dX8_takesPart_43 rfl (by decide) (fun hc => absurd hc ((fun z => absurd ((mtk_eq wk.2.2.1 wk.2.2.2.1 (by omega)).mp ((nI_eq (a := mtk K.1) (b := 2) (by omega) (by omega)).mp z)) (by omega)))) (fun _ => ?_)
        refine aw_iload_n (npc := 47) rfl dX8_takesPart_46 rfl ?_
        refine aw_if_ne (npc := 50) (tgt := 52) dX8_takesPart_47 rfl (by decide) (fun _ => ?_) (fun hc => absurd hc (by decide))
        refine aw_aload_n (npc := 53) rfl dX8_takesPart_52 rfl ?_
        refine aw_get (npc := 56) dX8_takesPart_53 rfl kf_X8_39 F1u.1 rfl ?_
        refine aw_aload_n (npc := 57) rfl dX8_takesPart_56 rfl ?_
        refine aw_get (npc := 60) dX8_takesPart_57 rfl kf_X8_228 F1u.1 rfl ?_
        refine aw_top (y := nI cs.length) (m19_1) ?_
        refine aw_aload_n (npc := 61) rfl dX8_takesPart_60 rfl ?_
        refine aw_get (npc := 64) dX8_takesPart_61 rfl kf_X8_204 F1u.1 rfl ?_
        refine aw_top (y := nI (mtk K.1)) (vk1.2.2.1) ?_
        refine aw_iconst (npc := 65) (v := 2) (by decide) dX8_takesPart_64 rfl ?_
        refine aw_icmp_ne (npc := 68) (tgt := 75) dX8_takesPart_65 rfl (by decide) (fun _ => ?_) (fun hc => absurd hc ((fun z => absurd ((mtk_eq wk.2.2.1 wk.2.2.2.1 (by omega)).mp ((nI_eq (a := mtk K.1) (b := 2) (by omega) (by omega)).mp z)) (by omega))))
        refine aw_sipush (npc := 78) (v := 10000) (by decide) dX8_takesPart_75 rfl ?_
        refine aw_aload_n (npc := 79) rfl dX8_takesPart_78 rfl ?_
        refine aw_aload_n (npc := 80) rfl dX8_takesPart_79 rfl ?_
        refine aw_get (npc := 83) dX8_takesPart_80 rfl kf_X8_210 F1u.1 rfl ?_
        refine aw_top (y := nI v) (e13) ?_
        refine aw_callV (npc := 86) (N := mX8_nameOf) (b := 69) (mc := 0) (ms := 0) (A := [.int (nI v)]) (S := [.int 10000, .int (nI cs.length), .ref 78]) (L0 := [some (.ref 69), some (.int (nI v))]) dX8_takesPart_83 rfl km_X8_nameOf kk_X8_231 F1u.1 ⟨by decide, rfl⟩ rfl ⟨rfl, by decide⟩ rfl (Nat.le_of_ble_eq_true rfl) (Nat.zero_add _) (Nat.zero_add _) rfl ?_
        refine m_nameOf (L := L) (v := v) F1u (by omega) (ho1 15 (by decide) (by decide) (by decide) (by decide)) ?_
        refine aw_re (S' := [.int (bI (nmF (nmS (o0 15)) v)), .int 10000, .int (nI cs.length), .ref 78]) rfl ?_
        refine aw_top (y := nI j) (by rw [enm]; rfl) ?_
        refine aw_iaddV (npc := 87) (v := nI (10000 + j)) dX8_takesPart_86 rfl (nI_add 10000 _) ?_
        refine aw_iast (npc := 88) (j := cs.length) dX8_takesPart_87 rfl F1u.2.2.2.2.2.2.2.2.2.1 (am_ix_nI (by omega)) (by rw [tl_len]; omega) rfl ?_
        have F31 := mr_78 (j := cs.length) (v := nI (10000 + j)) F1u
        refine aw_aload_n (npc := 89) rfl dX8_takesPart_88 rfl ?_
        refine aw_dup (npc := 90) rfl dX8_takesPart_89 rfl ?_
        refine aw_get (npc := 93) dX8_takesPart_90 rfl kf_X8_228 F31.1 rfl ?_
        refine aw_top (y := nI cs.length) (m19_1) ?_
        refine aw_iconst (npc := 94) (v := 1) (by decide) dX8_takesPart_93 rfl ?_
        refine aw_iaddV (npc := 95) (v := nI (cs.length + 1)) dX8_takesPart_94 rfl (nI_add _ 1) ?_
        refine aw_put (npc := 98) dX8_takesPart_95 rfl kf_X8_228 F31.1 (Nat.le_of_ble_eq_true rfl) (am_ok_int _) rfl ?_
        have F32 := mr_o19 (v := nI (cs.length + 1)) F31
        refine aw_aload_n (npc := 99) rfl dX8_takesPart_98 rfl ?_
        refine aw_dup (npc := 100) rfl dX8_takesPart_99 rfl ?_
        refine aw_get (npc := 103) dX8_takesPart_100 rfl kf_X8_234 F32.1 rfl ?_
        refine aw_top (y := o1u 20) ((pk_un (by omega))) ?_
        refine aw_top (y := nI at_) (m20_1) ?_
        refine aw_iconst (npc := 104) (v := 1) (by decide) dX8_takesPart_103 rfl ?_
        refine aw_iaddV (npc := 105) (v := nI (at_ + 1)) dX8_takesPart_104 rfl (nI_add _ 1) ?_
        refine aw_put (npc := 108) dX8_takesPart_105 rfl kf_X8_234 F32.1 (Nat.le_of_ble_eq_true rfl) (am_ok_int _) rfl ?_
        have F33 := mr_o20 (v := nI (at_ + 1)) F32
        have Hp34 : EX (K, cs ++ [nI (10000 + j)], ws, at_ + 1, tq) L o0 N a0 _ := ⟨_, _, F33, ⟨(vk_u (by decide) (vk_u (by decide) vk1)), ((((pk_un (by omega))).trans pk_us).trans (show nI (cs.length + 1) = nI (cs ++ [nI (10000 + j)]).length by rw [List.length_append, List.length_singleton])), (pk_us), ((((pk_un (by omega))).trans (pk_un (by omega))).trans m22_1), (e_push mc1), (fun j hj => (congrFun (aup_n (by decide)) j).trans (mw1 j hj)), (fun j hj => (congrFun (aup_n (by decide)) j).trans (mq1 j hj))⟩, (fun k k1 k2 k3 k4 => (pk_un k3).trans ((pk_un k2).trans (ho1 k k1 k2 k3 k4))), (fun k k1 k2 k3 => (aup_n k1).trans (ha1 k k1 k2 k3))⟩
        refine aw_aload_n (npc := 109) rfl dX8_takesPart_108 rfl ?_
        refine aw_bipush (npc := 111) (v := 6) (by decide) dX8_takesPart_109 rfl ?_
        obtain ⟨o6u, a6u, F6u, ⟨vk6, m19_6, m20_6, m22_6, mc6, mw6, mq6⟩, ho6, ha6⟩ := id Hp34
        refine aw_callV (npc := 114) (N := mX8_settle) (b := 69) (mc := 0) (ms := 0) (A := [.int 6]) (S := []) (L0 := [some (.ref 69), some (.int 6)]) dX8_takesPart_111 rfl km_X8_settle kk_X8_237 F6u.1 ⟨by decide, rfl⟩ rfl ⟨rfl, by decide⟩ rfl (Nat.le_of_ble_eq_true rfl) (Nat.zero_add _) (Nat.zero_add _) rfl ?_
        refine m_settle (r := 6) ws (cs ++ [nI (10000 + j)]) _ Hp34 (by rw [List.length_append, List.length_singleton]; omega) (fun hp35 Hs36 fz37 => ?_)
        have fyfz37 : ∀ k, (k < 69 ∨ 92 ≤ k) → hp35 k = _ := fun k hk => fz37 k hk
        refine aw_aload_n (npc := 115) rfl dX8_takesPart_114 rfl ?_
        obtain ⟨o7u, a7u, F7u, ⟨vk7, m19_7, m20_7, m22_7, mc7, mw7, mq7⟩, ho7, ha7⟩ := id Hs36
        refine aw_callV (npc := 118) (N := mX8_go) (b := 69) (mc := 0) (ms := 0) (A := []) (S := []) (L0 := [some (.ref 69), none]) dX8_takesPart_115 rfl km_X8_go kk_X8_219 F7u.1 ⟨by decide, rfl⟩ rfl ⟨rfl, by decide⟩ rfl (Nat.le_of_ble_eq_true rfl) (Nat.zero_add _) (Nat.zero_add _) rfl ?_
        refine m_goE Hs36 hL wk h9 (Or.inl hK1) (fun hp38 Hg39 fz40 => ?_)
        have fyfz40 : ∀ k, (k < 69 ∨ 92 ≤ k) → hp38 k = _ := fun k hk => fz40 k hk
        refine aw_iconst (npc := 119) (v := 1) (by decide) dX8_takesPart_118 rfl ?_
        refine aw_zret rfl rfl dX8_takesPart_119 ?_
        refine k1 _ ?_ _ Hg39 (am_fpT (fun k (hk : k < 69 ∨ 92 ≤ k) => fyfz40 k (by omega)) (am_fpT (fun k (hk : k < 69 ∨ 92 ≤ k) => fyfz37 k (by omega)) (am_fpU (show ¬ (69 < 69 ∨ 92 ≤ 69) by omega) (am_fpU (show ¬ (69 < 69 ∨ 92 ≤ 69) by omega) (am_fpU (show ¬ (78 < 69 ∨ 92 ≤ 78) by omega) am_fp0)))))
        unfold ptO
        rw [if_neg (by omega), enk, enm]; rfl
theorem e_tst {a : Nat → Nat → Int32} {tq : Nat → Int32} {j : Nat} {v : Int32} (h : ∀ k, k < 10 → a 80 k = tq k) : ∀ k, k < 10 → aup a 80 j v 80 k = upd tq j v k := by
  rw [aup_eq]
  intro k hk
  by_cases e : k = j
  · subst e; rw [pk_us, pk_us]
  · rw [pk_un e, pk_un e]; exact h k hk
theorem nO_le : ∀ (ws : List Int32), nO ws ≤ ws.length := by
  intro ws
  induction ws with
  | nil => exact Nat.le_refl _
  | cons w ws ih => show (if w = -10 then 1 else 0) + nO ws ≤ ws.length + 1; split <;> omega
theorem stl_len {r : Int32} : ∀ (ws cs : List Int32), (stl r cs ws).1.length + (stl r cs ws).2.length = cs.length + ws.length := by
  intro ws
  induction ws with
  | nil => intro cs; rfl
  | cons w ws ih =>
    intro cs
    unfold stl
    split
    · rfl
    · rw [ih, List.length_append, List.length_singleton]; show cs.length + 1 + ws.length = cs.length + (ws.length + 1); omega
set_option maxHeartbeats 4000000 in
set_option maxRecDepth 100000 in
theorem m_turnW {X : List Int32} {d rc rs n : Nat} {Q : am_Q} {L : Nat} {o0 N : Nat → Int32} {a0 : Nat → Nat → Int32} {h : am_H} {K : Nat × Nat × Nat} {cs ws : List Int32} {at_ p : Nat} {tq : Nat → Int32} {v4 : Option Value} (H : EX (K, cs, ws, at_, tq) L o0 N a0 h) (hL : L ≤ 96) (wk : WFK L (a0 75) K) (h9 : o0 9 = nI L) (hb : cs.length + ws.length < 96) (hat : at_ ≤ 96) (hp : p ≤ 8)
    (k33 : K.1 = 3 ∧ a0 75 K.2.1 = 33 ∧ nO ws < 8 → ∀ v4 h9, EX (adv L (a0 75) K, cs, (-10) :: ws, at_, tq) L o0 N a0 h9 → am_fp (fun k => k < 69 ∨ 92 ≤ k) h9 h → AW X mX8_takesE (d + 4) rc rs 28 [some (.ref 69), some (.int (nI p)), some (.int (nI (nO ((-10) :: ws)))), some (.int 1), v4] [] n h9 Q)
    (k40 : ¬ (K.1 = 3 ∧ a0 75 K.2.1 = 33 ∧ nO ws < 8) → K.1 = 3 ∧ a0 75 K.2.1 = 40 ∧ p < 8 → ∀ v4 h9, EX (adv L (a0 75) K, cs, (-11) :: ws, at_, upd tq (p + 1) 0) L o0 N a0 h9 → am_fp (fun k => k < 69 ∨ 92 ≤ k) h9 h → AW X mX8_takesE (d + 4) rc rs 28 [some (.ref 69), some (.int (nI (p + 1))), some (.int (nI (nO ((-11) :: ws)))), some (.int 1), v4] [] n h9 Q)
    (kpt : ¬ (K.1 = 3 ∧ a0 75 K.2.1 = 33 ∧ nO ws < 8) → ¬ (K.1 = 3 ∧ a0 75 K.2.1 = 40 ∧ p < 8) → ∀ c, ptO (o0 15) (a0 75) K = some c → ∀ v4 h9, EX (adv L (a0 75) K, (stl 6 (cs ++ [c]) ws).1, (stl 6 (cs ++ [c]) ws).2, at_ + 1, tq) L o0 N a0 h9 → am_fp (fun k => k < 69 ∨ 92 ≤ k) h9 h → AW X mX8_takesE (d + 4) rc rs 28 [some (.ref 69), some (.int (nI p)), some (.int (nI (nO (stl 6 (cs ++ [c]) ws).2))), some (.int 0), v4] [] n h9 Q)
    (kno : ¬ (K.1 = 3 ∧ a0 75 K.2.1 = 33 ∧ nO ws < 8) → ¬ (K.1 = 3 ∧ a0 75 K.2.1 = 40 ∧ p < 8) → ptO (o0 15) (a0 75) K = none → Q (some (.int 0)) n h) : AW X mX8_takesE (d + 4) rc rs 28 [some (.ref 69), some (.int (nI p)), some (.int (nI (nO ws))), some (.int 1), v4] [] n h Q := by
  have hmt : mtk K.1 ≤ 5 := by have z := wk.2.2.1; unfold mtk; split <;> omega
  have hno := nO_le ws
  have we := wk.1
  have wf := wk.2.1
  refine aw_iload_n (npc := 29) rfl dX8_takesE_28 rfl ?_
  refine aw_if_ne (npc := 32) (tgt := 39) dX8_takesE_29 rfl (by decide) (fun _ => ?_) (fun hc => absurd hc (by decide))
  refine aw_iload_n (npc := 40) rfl dX8_takesE_39 rfl ?_
  refine aw_if_eq (npc := 43) (tgt := 180) dX8_takesE_40 rfl (by decide) (fun hc => absurd hc (by decide)) (fun _ => ?_)
  refine aw_aload_n (npc := 44) rfl dX8_takesE_43 rfl ?_
  obtain ⟨o1u, a1u, F1u, ⟨vk1, m19_1, m20_1, m22_1, mc1, mw1, mq1⟩, ho1, ha1⟩ := id H
  refine aw_get (npc := 47) dX8_takesE_44 rfl kf_X8_204 F1u.1 rfl ?_
  refine aw_top (y := nI (mtk K.1)) (vk1.2.2.1) ?_
  refine aw_iconst (npc := 48) (v := 3) (by decide) dX8_takesE_47 rfl ?_
  refine aw_icmp_ne (npc := 51) (tgt := 97) dX8_takesE_48 rfl (by decide) (fun hc1 => ?_) (fun hc1 => ?_)
  · have hc1N : ¬ (mtk K.1) = 3 := fun z9q => hc1 ((nI_eq (a := (mtk K.1)) (b := 3) (by omega) (by omega)).mpr z9q)
    refine aw_aload_n (npc := 98) rfl dX8_takesE_97 rfl ?_
    refine aw_get (npc := 101) dX8_takesE_98 rfl kf_X8_204 F1u.1 rfl ?_
    refine aw_top (y := nI (mtk K.1)) (vk1.2.2.1) ?_
    refine aw_iconst (npc := 102) (v := 3) (by decide) dX8_takesE_101 rfl ?_
    refine aw_icmp_ne (npc := 105) (tgt := 158) dX8_takesE_102 rfl (by decide) (fun _ => ?_) (fun hc => absurd hc (hc1))
    refine aw_aload_n (npc := 159) rfl dX8_takesE_158 rfl ?_
    refine aw_callV (npc := 162) (N := mX8_takesPart) (b := 69) (mc := 0) (ms := 0) (A := []) (S := []) (L0 := [some (.ref 69), none]) dX8_takesE_159 rfl km_X8_takesPart kk_X8_240 F1u.1 ⟨by decide, rfl⟩ rfl ⟨rfl, by decide⟩ rfl (Nat.le_of_ble_eq_true rfl) (Nat.zero_add _) (Nat.zero_add _) rfl ?_
    refine m_part H hL wk h9 (by omega) (by omega) (fun c hpt hp Hq fz => ?_) (fun hpt => ?_)
    · have fyfz : ∀ k, (k < 69 ∨ 92 ≤ k) → hp k = _ := fun k hk => fz k hk
      refine aw_re (S' := [.int 1]) rfl ?_
      refine aw_if_eq (npc := 165) (tgt := 170) dX8_takesE_162 rfl (by decide) (fun hc => absurd hc (by decide)) (fun _ => ?_)
      refine aw_iconst (npc := 166) (v := 0) (by decide) dX8_takesE_165 rfl ?_
      refine aw_istore_n (npc := 167) (L' := [some (.ref 69), some (.int (nI p)), some (.int (nI (nO ws))), some (.int 0), v4]) dX8_takesE_166 rfl (by decide) rfl rfl ?_
      refine aw_goto (npc := 172) dX8_takesE_167 (by decide) ?_
      refine aw_aload_n (npc := 173) rfl dX8_takesE_172 rfl ?_
      obtain ⟨o2u, a2u, F2u, ⟨vk2, m19_2, m20_2, m22_2, mc2, mw2, mq2⟩, ho2, ha2⟩ := id Hq
      refine aw_callV (npc := 176) (N := mX8_notsOpen) (b := 69) (mc := 0) (ms := 0) (A := []) (S := []) (L0 := [some (.ref 69), none, none]) dX8_takesE_173 rfl km_X8_notsOpen kk_X8_243 F2u.1 ⟨by decide, rfl⟩ rfl ⟨rfl, by decide⟩ rfl (Nat.le_of_ble_eq_true rfl) (Nat.zero_add _) (Nat.zero_add _) rfl ?_
      refine m_nots Hq (by have z := stl_len (r := 6) ws (cs ++ [c]); rw [List.length_append, List.length_singleton] at z; show (stl 6 (cs ++ [c]) ws).2.length ≤ 96; omega) ?_
      refine aw_re (S' := [.int (nI (nO ((stl 6 (cs ++ [c]) ws).2)))]) rfl ?_
      refine aw_istore_n (npc := 177) (L' := [some (.ref 69), some (.int (nI p)), some (.int (nI (nO ((stl 6 (cs ++ [c]) ws).2)))), some (.int 0), v4]) dX8_takesE_176 rfl (by decide) rfl rfl ?_
      refine aw_goto (npc := 28) dX8_takesE_177 (by decide) ?_
      exact kpt (fun z => hc1N ((mtk_eq wk.2.2.1 wk.2.2.2.1 (by omega)).mpr z.1)) (fun z => hc1N ((mtk_eq wk.2.2.1 wk.2.2.2.1 (by omega)).mpr z.1)) _ hpt _ _ Hq (am_fpT (fun k (hk : k < 69 ∨ 92 ≤ k) => fyfz k (by omega)) am_fp0)
    · refine aw_re (S' := [.int 0]) rfl ?_
      refine aw_if_eq (npc := 165) (tgt := 170) dX8_takesE_162 rfl (by decide) (fun _ => ?_) (fun hc => absurd (by decide) hc)
      refine aw_iconst (npc := 171) (v := 0) (by decide) dX8_takesE_170 rfl ?_
      refine aw_zret rfl rfl dX8_takesE_171 ?_
      exact kno (fun z => hc1N ((mtk_eq wk.2.2.1 wk.2.2.2.1 (by omega)).mpr z.1)) (fun z => hc1N ((mtk_eq wk.2.2.1 wk.2.2.2.1 (by omega)).mpr z.1)) hpt
  · have hc1N := (nI_eq (a := (mtk K.1)) (b := 3) (by omega) (by omega)).mp hc1
    have hK3 : K.1 = 3 := (mtk_eq wk.2.2.1 wk.2.2.2.1 (by omega)).mp hc1N
    refine aw_aload_n (npc := 52) rfl dX8_takesE_51 rfl ?_
    refine aw_get (npc := 55) dX8_takesE_52 rfl kf_X8_210 F1u.1 rfl ?_
    refine aw_top (y := a0 75 K.2.1) (vk1.2.2.2.1 (Or.inr hK3)) ?_
    refine aw_bipush (npc := 57) (v := 33) (by decide) dX8_takesE_55 rfl ?_
    refine aw_icmp_ne (npc := 60) (tgt := 97) dX8_takesE_57 rfl (by decide) (fun hc3 => ?_) (fun hc3 => ?_)
    · refine aw_aload_n (npc := 98) rfl dX8_takesE_97 rfl ?_
      refine aw_get (npc := 101) dX8_takesE_98 rfl kf_X8_204 F1u.1 rfl ?_
      refine aw_top (y := nI (mtk K.1)) (vk1.2.2.1) ?_
      refine aw_iconst (npc := 102) (v := 3) (by decide) dX8_takesE_101 rfl ?_
      refine aw_icmp_ne (npc := 105) (tgt := 158) dX8_takesE_102 rfl (by decide) (fun hc => absurd (hc1) hc) (fun _ => ?_)
      refine aw_aload_n (npc := 106) rfl dX8_takesE_105 rfl ?_
      refine aw_get (npc := 109) dX8_takesE_106 rfl kf_X8_210 F1u.1 rfl ?_
      refine aw_top (y := a0 75 K.2.1) (vk1.2.2.2.1 (Or.inr hK3)) ?_
      refine aw_bipush (npc := 111) (v := 40) (by decide) dX8_takesE_109 rfl ?_
      refine aw_icmp_ne (npc := 114) (tgt := 158) dX8_takesE_111 rfl (by decide) (fun hc5 => ?_) (fun hc5 => ?_)
      · refine aw_aload_n (npc := 159) rfl dX8_takesE_158 rfl ?_
        refine aw_callV (npc := 162) (N := mX8_takesPart) (b := 69) (mc := 0) (ms := 0) (A := []) (S := []) (L0 := [some (.ref 69), none]) dX8_takesE_159 rfl km_X8_takesPart kk_X8_240 F1u.1 ⟨by decide, rfl⟩ rfl ⟨rfl, by decide⟩ rfl (Nat.le_of_ble_eq_true rfl) (Nat.zero_add _) (Nat.zero_add _) rfl ?_
        refine m_part H hL wk h9 (by omega) (by omega) (fun c hpt hp Hq fz => ?_) (fun hpt => ?_)
        · have fyfz : ∀ k, (k < 69 ∨ 92 ≤ k) → hp k = _ := fun k hk => fz k hk
          refine aw_re (S' := [.int 1]) rfl ?_
          refine aw_if_eq (npc := 165) (tgt := 170) dX8_takesE_162 rfl (by decide) (fun hc => absurd hc (by decide)) (fun _ => ?_)
          refine aw_iconst (npc := 166) (v := 0) (by decide) dX8_takesE_165 rfl ?_
          refine aw_istore_n (npc := 167) (L' := [some (.ref 69), some (.int (nI p)), some (.int (nI (nO ws))), some (.int 0), v4]) dX8_takesE_166 rfl (by decide) rfl rfl ?_
          refine aw_goto (npc := 172) dX8_takesE_167 (by decide) ?_
          refine aw_aload_n (npc := 173) rfl dX8_takesE_172 rfl ?_
          obtain ⟨o3u, a3u, F3u, ⟨vk3, m19_3, m20_3, m22_3, mc3, mw3, mq3⟩, ho3, ha3⟩ := id Hq
          refine aw_callV (npc := 176) (N := mX8_notsOpen) (b := 69) (mc := 0) (ms := 0) (A := []) (S := []) (L0 := [some (.ref 69), none, none]) dX8_takesE_173 rfl km_X8_notsOpen kk_X8_243 F3u.1 ⟨by decide, rfl⟩ rfl ⟨rfl, by decide⟩ rfl (Nat.le_of_ble_eq_true rfl) (Nat.zero_add _) (Nat.zero_add _) rfl ?_
          refine m_nots Hq (by have z := stl_len (r := 6) ws (cs ++ [c]); rw [List.length_append, List.length_singleton] at z; show (stl 6 (cs ++ [c]) ws).2.length ≤ 96; omega) ?_
          refine aw_re (S' := [.int (nI (nO ((stl 6 (cs ++ [c]) ws).2)))]) rfl ?_
          refine aw_istore_n (npc := 177) (L' := [some (.ref 69), some (.int (nI p)), some (.int (nI (nO ((stl 6 (cs ++ [c]) ws).2)))), some (.int 0), v4]) dX8_takesE_176 rfl (by decide) rfl rfl ?_
          refine aw_goto (npc := 28) dX8_takesE_177 (by decide) ?_
          exact kpt (fun z => hc3 z.2.1) (fun z => hc5 z.2.1) _ hpt _ _ Hq (am_fpT (fun k (hk : k < 69 ∨ 92 ≤ k) => fyfz k (by omega)) am_fp0)
        · refine aw_re (S' := [.int 0]) rfl ?_
          refine aw_if_eq (npc := 165) (tgt := 170) dX8_takesE_162 rfl (by decide) (fun _ => ?_) (fun hc => absurd (by decide) hc)
          refine aw_iconst (npc := 171) (v := 0) (by decide) dX8_takesE_170 rfl ?_
          refine aw_zret rfl rfl dX8_takesE_171 ?_
          exact kno (fun z => hc3 z.2.1) (fun z => hc5 z.2.1) hpt
      · refine aw_iload_n (npc := 115) rfl dX8_takesE_114 rfl ?_
        refine aw_bipush (npc := 117) (v := 8) (by decide) dX8_takesE_115 rfl ?_
        refine aw_icmp_ge (npc := 120) (tgt := 158) dX8_takesE_117 rfl (by decide) (fun hc6 => ?_) (fun hc6 => ?_)
        · have hc6N := (nI_leI (a := 8) (b := p) (by omega) (by omega)).mp hc6
          refine aw_aload_n (npc := 159) rfl dX8_takesE_158 rfl ?_
          refine aw_callV (npc := 162) (N := mX8_takesPart) (b := 69) (mc := 0) (ms := 0) (A := []) (S := []) (L0 := [some (.ref 69), none]) dX8_takesE_159 rfl km_X8_takesPart kk_X8_240 F1u.1 ⟨by decide, rfl⟩ rfl ⟨rfl, by decide⟩ rfl (Nat.le_of_ble_eq_true rfl) (Nat.zero_add _) (Nat.zero_add _) rfl ?_
          refine m_part H hL wk h9 (by omega) (by omega) (fun c hpt hp Hq fz => ?_) (fun hpt => ?_)
          · have fyfz : ∀ k, (k < 69 ∨ 92 ≤ k) → hp k = _ := fun k hk => fz k hk
            refine aw_re (S' := [.int 1]) rfl ?_
            refine aw_if_eq (npc := 165) (tgt := 170) dX8_takesE_162 rfl (by decide) (fun hc => absurd hc (by decide)) (fun _ => ?_)
            refine aw_iconst (npc := 166) (v := 0) (by decide) dX8_takesE_165 rfl ?_
            refine aw_istore_n (npc := 167) (L' := [some (.ref 69), some (.int (nI p)), some (.int (nI (nO ws))), some (.int 0), v4]) dX8_takesE_166 rfl (by decide) rfl rfl ?_
            refine aw_goto (npc := 172) dX8_takesE_167 (by decide) ?_
            refine aw_aload_n (npc := 173) rfl dX8_takesE_172 rfl ?_
            obtain ⟨o4u, a4u, F4u, ⟨vk4, m19_4, m20_4, m22_4, mc4, mw4, mq4⟩, ho4, ha4⟩ := id Hq
            refine aw_callV (npc := 176) (N := mX8_notsOpen) (b := 69) (mc := 0) (ms := 0) (A := []) (S := []) (L0 := [some (.ref 69), none, none]) dX8_takesE_173 rfl km_X8_notsOpen kk_X8_243 F4u.1 ⟨by decide, rfl⟩ rfl ⟨rfl, by decide⟩ rfl (Nat.le_of_ble_eq_true rfl) (Nat.zero_add _) (Nat.zero_add _) rfl ?_
            refine m_nots Hq (by have z := stl_len (r := 6) ws (cs ++ [c]); rw [List.length_append, List.length_singleton] at z; show (stl 6 (cs ++ [c]) ws).2.length ≤ 96; omega) ?_
            refine aw_re (S' := [.int (nI (nO ((stl 6 (cs ++ [c]) ws).2)))]) rfl ?_
            refine aw_istore_n (npc := 177) (L' := [some (.ref 69), some (.int (nI p)), some (.int (nI (nO ((stl 6 (cs ++ [c]) ws).2)))), some (.int 0), v4]) dX8_takesE_176 rfl (by decide) rfl rfl ?_
            refine aw_goto (npc := 28) dX8_takesE_177 (by decide) ?_
            exact kpt (fun z => hc3 z.2.1) (fun z => by have y := z.2.2; omega) _ hpt _ _ Hq (am_fpT (fun k (hk : k < 69 ∨ 92 ≤ k) => fyfz k (by omega)) am_fp0)
          · refine aw_re (S' := [.int 0]) rfl ?_
            refine aw_if_eq (npc := 165) (tgt := 170) dX8_takesE_162 rfl (by decide) (fun _ => ?_) (fun hc => absurd (by decide) hc)
            refine aw_iconst (npc := 171) (v := 0) (by decide) dX8_takesE_170 rfl ?_
            refine aw_zret rfl rfl dX8_takesE_171 ?_
            exact kno (fun z => hc3 z.2.1) (fun z => by have y := z.2.2; omega) hpt
        · have hc6N : ¬ 8 ≤ p := fun z9q => hc6 ((nI_leI (a := 8) (b := p) (by omega) (by omega)).mpr z9q)
          refine aw_aload_n (npc := 121) rfl dX8_takesE_120 rfl ?_
          refine aw_get (npc := 124) dX8_takesE_121 rfl kf_X8_42 F1u.1 rfl ?_
          refine aw_aload_n (npc := 125) rfl dX8_takesE_124 rfl ?_
          refine aw_get (npc := 128) dX8_takesE_125 rfl kf_X8_222 F1u.1 rfl ?_
          refine aw_top (y := nI ws.length) (m22_1) ?_
          refine aw_bipush (npc := 130) (v := -11) (by decide) dX8_takesE_128 rfl ?_
          refine aw_iast (npc := 131) (j := ws.length) dX8_takesE_130 rfl F1u.2.2.2.2.2.2.2.2.2.2.1 (am_ix_nI (by omega)) (by rw [tl_len]; omega) rfl ?_
          have F7 := mr_79 (j := ws.length) (v := (-11)) F1u
          refine aw_aload_n (npc := 132) rfl dX8_takesE_131 rfl ?_
          refine aw_dup (npc := 133) rfl dX8_takesE_132 rfl ?_
          refine aw_get (npc := 136) dX8_takesE_133 rfl kf_X8_222 F7.1 rfl ?_
          refine aw_top (y := nI ws.length) (m22_1) ?_
          refine aw_iconst (npc := 137) (v := 1) (by decide) dX8_takesE_136 rfl ?_
          refine aw_iaddV (npc := 138) (v := nI (ws.length + 1)) dX8_takesE_137 rfl (nI_add _ 1) ?_
          refine aw_put (npc := 141) dX8_takesE_138 rfl kf_X8_222 F7.1 (Nat.le_of_ble_eq_true rfl) (am_ok_int _) rfl ?_
          have F8 := mr_o22 (v := nI (ws.length + 1)) F7
          refine aw_iinc (npc := 144) (v := nI (p + 1)) (L' := [some (.ref 69), some (.int (nI (p + 1))), some (.int (nI (nO ws))), some (.int 1), v4]) dX8_takesE_141 rfl rfl (nI_1 _) (by decide) rfl rfl ?_
          refine aw_aload_n (npc := 145) rfl dX8_takesE_144 rfl ?_
          refine aw_get (npc := 148) dX8_takesE_145 rfl kf_X8_45 F8.1 rfl ?_
          refine aw_iload_n (npc := 149) rfl dX8_takesE_148 rfl ?_
          refine aw_iconst (npc := 150) (v := 0) (by decide) dX8_takesE_149 rfl ?_
          refine aw_zast (npc := 151) (j := (p + 1)) dX8_takesE_150 rfl F8.2.2.2.2.2.2.2.2.2.2.2.1 (am_ix_nI (by omega)) (by rw [tl_len]; omega) (show vp_nar .boolean 0 = 0 by decide) rfl ?_
          have F9 := mr_80 (j := (p + 1)) (v := 0) F8
          have Hp10 : EX (K, cs, (-11) :: ws, at_, upd tq (p + 1) 0) L o0 N a0 _ := ⟨_, _, F9, ⟨(vk_u (by decide) vk1), (((pk_un (by omega))).trans m19_1), (((pk_un (by omega))).trans m20_1), (pk_us), (fun j hj => ((congrFun (aup_n (by decide)) j).trans (congrFun (aup_n (by decide)) j)).trans (mc1 j hj)), (fun j hj => (congrFun (aup_n (by decide)) j).trans (e_wait mw1 j hj)), (e_tst (fun k hk => (congrFun (aup_n (by decide)) k).trans (mq1 k hk)))⟩, (fun k k1 k2 k3 k4 => (pk_un k4).trans (ho1 k k1 k2 k3 k4)), (fun k k1 k2 k3 => (aup_n k3).trans ((aup_n k2).trans (ha1 k k1 k2 k3)))⟩
          refine aw_aload_n (npc := 152) rfl dX8_takesE_151 rfl ?_
          obtain ⟨o5u, a5u, F5u, ⟨vk5, m19_5, m20_5, m22_5, mc5, mw5, mq5⟩, ho5, ha5⟩ := id Hp10
          refine aw_callV (npc := 155) (N := mX8_go) (b := 69) (mc := 0) (ms := 0) (A := []) (S := []) (L0 := [some (.ref 69), none]) dX8_takesE_152 rfl km_X8_go kk_X8_219 F5u.1 ⟨by decide, rfl⟩ rfl ⟨rfl, by decide⟩ rfl (Nat.le_of_ble_eq_true rfl) (Nat.zero_add _) (Nat.zero_add _) rfl ?_
          refine m_goE Hp10 hL wk h9 (Or.inr (Or.inr hK3)) (fun hp11 Hg12 fz13 => ?_)
          have fyfz13 : ∀ k, (k < 69 ∨ 92 ≤ k) → hp11 k = _ := fun k hk => fz13 k hk
          refine aw_goto (npc := 172) dX8_takesE_155 (by decide) ?_
          refine aw_aload_n (npc := 173) rfl dX8_takesE_172 rfl ?_
          obtain ⟨o6u, a6u, F6u, ⟨vk6, m19_6, m20_6, m22_6, mc6, mw6, mq6⟩, ho6, ha6⟩ := id Hg12
          refine aw_callV (npc := 176) (N := mX8_notsOpen) (b := 69) (mc := 0) (ms := 0) (A := []) (S := []) (L0 := [some (.ref 69), none, none]) dX8_takesE_173 rfl km_X8_notsOpen kk_X8_243 F6u.1 ⟨by decide, rfl⟩ rfl ⟨rfl, by decide⟩ rfl (Nat.le_of_ble_eq_true rfl) (Nat.zero_add _) (Nat.zero_add _) rfl ?_
          refine m_nots Hg12 (by show ws.length + 1 ≤ 96; omega) ?_
          refine aw_re (S' := [.int (nI (nO ((-11) :: ws)))]) rfl ?_
          refine aw_istore_n (npc := 177) (L' := [some (.ref 69), some (.int (nI (p + 1))), some (.int (nI (nO ((-11) :: ws)))), some (.int 1), v4]) dX8_takesE_176 rfl (by decide) rfl rfl ?_
          refine aw_goto (npc := 28) dX8_takesE_177 (by decide) ?_
          exact k40 (fun z => hc3 z.2.1) ⟨hK3, hc5, by omega⟩ _ _ Hg12 (am_fpT (fun k (hk : k < 69 ∨ 92 ≤ k) => fyfz13 k (by omega)) (am_fpU (show ¬ (80 < 69 ∨ 92 ≤ 80) by omega) (am_fpU (show ¬ (69 < 69 ∨ 92 ≤ 69) by omega) (am_fpU (show ¬ (79 < 69 ∨ 92 ≤ 79) by omega) am_fp0))))
    · refine aw_iload_n (npc := 61) rfl dX8_takesE_60 rfl ?_
      refine aw_bipush (npc := 63) (v := 8) (by decide) dX8_takesE_61 rfl ?_
      refine aw_icmp_ge (npc := 66) (tgt := 97) dX8_takesE_63 rfl (by decide) (fun hc14 => ?_) (fun hc14 => ?_)
      · have hc14N := (nI_leI (a := 8) (b := (nO ws)) (by omega) (by omega)).mp hc14
        refine aw_aload_n (npc := 98) rfl dX8_takesE_97 rfl ?_
        refine aw_get (npc := 101) dX8_takesE_98 rfl kf_X8_204 F1u.1 rfl ?_
        refine aw_top (y := nI (mtk K.1)) (vk1.2.2.1) ?_
        refine aw_iconst (npc := 102) (v := 3) (by decide) dX8_takesE_101 rfl ?_
        refine aw_icmp_ne (npc := 105) (tgt := 158) dX8_takesE_102 rfl (by decide) (fun hc => absurd (hc1) hc) (fun _ => ?_)
        refine aw_aload_n (npc := 106) rfl dX8_takesE_105 rfl ?_
        refine aw_get (npc := 109) dX8_takesE_106 rfl kf_X8_210 F1u.1 rfl ?_
        refine aw_top (y := a0 75 K.2.1) (vk1.2.2.2.1 (Or.inr hK3)) ?_
        refine aw_bipush (npc := 111) (v := 40) (by decide) dX8_takesE_109 rfl ?_
        refine aw_icmp_ne (npc := 114) (tgt := 158) dX8_takesE_111 rfl (by decide) (fun _ => ?_) (fun hc => absurd hc ((fun z => absurd (hc3.symm.trans z) (by decide))))
        refine aw_aload_n (npc := 159) rfl dX8_takesE_158 rfl ?_
        refine aw_callV (npc := 162) (N := mX8_takesPart) (b := 69) (mc := 0) (ms := 0) (A := []) (S := []) (L0 := [some (.ref 69), none]) dX8_takesE_159 rfl km_X8_takesPart kk_X8_240 F1u.1 ⟨by decide, rfl⟩ rfl ⟨rfl, by decide⟩ rfl (Nat.le_of_ble_eq_true rfl) (Nat.zero_add _) (Nat.zero_add _) rfl ?_
        refine m_part H hL wk h9 (by omega) (by omega) (fun c hpt hp Hq fz => ?_) (fun hpt => ?_)
        · have fyfz : ∀ k, (k < 69 ∨ 92 ≤ k) → hp k = _ := fun k hk => fz k hk
          refine aw_re (S' := [.int 1]) rfl ?_
          refine aw_if_eq (npc := 165) (tgt := 170) dX8_takesE_162 rfl (by decide) (fun hc => absurd hc (by decide)) (fun _ => ?_)
          refine aw_iconst (npc := 166) (v := 0) (by decide) dX8_takesE_165 rfl ?_
          refine aw_istore_n (npc := 167) (L' := [some (.ref 69), some (.int (nI p)), some (.int (nI (nO ws))), some (.int 0), v4]) dX8_takesE_166 rfl (by decide) rfl rfl ?_
          refine aw_goto (npc := 172) dX8_takesE_167 (by decide) ?_
          refine aw_aload_n (npc := 173) rfl dX8_takesE_172 rfl ?_
          obtain ⟨o7u, a7u, F7u, ⟨vk7, m19_7, m20_7, m22_7, mc7, mw7, mq7⟩, ho7, ha7⟩ := id Hq
          refine aw_callV (npc := 176) (N := mX8_notsOpen) (b := 69) (mc := 0) (ms := 0) (A := []) (S := []) (L0 := [some (.ref 69), none, none]) dX8_takesE_173 rfl km_X8_notsOpen kk_X8_243 F7u.1 ⟨by decide, rfl⟩ rfl ⟨rfl, by decide⟩ rfl (Nat.le_of_ble_eq_true rfl) (Nat.zero_add _) (Nat.zero_add _) rfl ?_
          refine m_nots Hq (by have z := stl_len (r := 6) ws (cs ++ [c]); rw [List.length_append, List.length_singleton] at z; show (stl 6 (cs ++ [c]) ws).2.length ≤ 96; omega) ?_
          refine aw_re (S' := [.int (nI (nO ((stl 6 (cs ++ [c]) ws).2)))]) rfl ?_
          refine aw_istore_n (npc := 177) (L' := [some (.ref 69), some (.int (nI p)), some (.int (nI (nO ((stl 6 (cs ++ [c]) ws).2)))), some (.int 0), v4]) dX8_takesE_176 rfl (by decide) rfl rfl ?_
          refine aw_goto (npc := 28) dX8_takesE_177 (by decide) ?_
          exact kpt (fun z => by have y := z.2.2; omega) (fun z => absurd (hc3.symm.trans z.2.1) (by decide)) _ hpt _ _ Hq (am_fpT (fun k (hk : k < 69 ∨ 92 ≤ k) => fyfz k (by omega)) am_fp0)
        · refine aw_re (S' := [.int 0]) rfl ?_
          refine aw_if_eq (npc := 165) (tgt := 170) dX8_takesE_162 rfl (by decide) (fun _ => ?_) (fun hc => absurd (by decide) hc)
          refine aw_iconst (npc := 171) (v := 0) (by decide) dX8_takesE_170 rfl ?_
          refine aw_zret rfl rfl dX8_takesE_171 ?_
          exact kno (fun z => by have y := z.2.2; omega) (fun z => absurd (hc3.symm.trans z.2.1) (by decide)) hpt
      · have hc14N : ¬ 8 ≤ (nO ws) := fun z9q => hc14 ((nI_leI (a := 8) (b := (nO ws)) (by omega) (by omega)).mpr z9q)
        refine aw_aload_n (npc := 67) rfl dX8_takesE_66 rfl ?_
        refine aw_get (npc := 70) dX8_takesE_67 rfl kf_X8_42 F1u.1 rfl ?_
        refine aw_aload_n (npc := 71) rfl dX8_takesE_70 rfl ?_
        refine aw_get (npc := 74) dX8_takesE_71 rfl kf_X8_222 F1u.1 rfl ?_
        refine aw_top (y := nI ws.length) (m22_1) ?_
        refine aw_bipush (npc := 76) (v := -10) (by decide) dX8_takesE_74 rfl ?_
        refine aw_iast (npc := 77) (j := ws.length) dX8_takesE_76 rfl F1u.2.2.2.2.2.2.2.2.2.2.1 (am_ix_nI (by omega)) (by rw [tl_len]; omega) rfl ?_
        have F17 := mr_79 (j := ws.length) (v := (-10)) F1u
        refine aw_aload_n (npc := 78) rfl dX8_takesE_77 rfl ?_
        refine aw_dup (npc := 79) rfl dX8_takesE_78 rfl ?_
        refine aw_get (npc := 82) dX8_takesE_79 rfl kf_X8_222 F17.1 rfl ?_
        refine aw_top (y := nI ws.length) (m22_1) ?_
        refine aw_iconst (npc := 83) (v := 1) (by decide) dX8_takesE_82 rfl ?_
        refine aw_iaddV (npc := 84) (v := nI (ws.length + 1)) dX8_takesE_83 rfl (nI_add _ 1) ?_
        refine aw_put (npc := 87) dX8_takesE_84 rfl kf_X8_222 F17.1 (Nat.le_of_ble_eq_true rfl) (am_ok_int _) rfl ?_
        have F18 := mr_o22 (v := nI (ws.length + 1)) F17
        refine aw_iinc (npc := 90) (v := nI ((nO ws) + 1)) (L' := [some (.ref 69), some (.int (nI p)), some (.int (nI ((nO ws) + 1))), some (.int 1), v4]) dX8_takesE_87 rfl rfl (nI_1 _) (by decide) rfl rfl ?_
        have Hp19 : EX (K, cs, (-10) :: ws, at_, tq) L o0 N a0 _ := ⟨_, _, F18, ⟨(vk_u (by decide) vk1), (((pk_un (by omega))).trans m19_1), (((pk_un (by omega))).trans m20_1), (pk_us), (fun j hj => (congrFun (aup_n (by decide)) j).trans (mc1 j hj)), (e_wait mw1), (fun j hj => (congrFun (aup_n (by decide)) j).trans (mq1 j hj))⟩, (fun k k1 k2 k3 k4 => (pk_un k4).trans (ho1 k k1 k2 k3 k4)), (fun k k1 k2 k3 => (aup_n k2).trans (ha1 k k1 k2 k3))⟩
        refine aw_aload_n (npc := 91) rfl dX8_takesE_90 rfl ?_
        obtain ⟨o8u, a8u, F8u, ⟨vk8, m19_8, m20_8, m22_8, mc8, mw8, mq8⟩, ho8, ha8⟩ := id Hp19
        refine aw_callV (npc := 94) (N := mX8_go) (b := 69) (mc := 0) (ms := 0) (A := []) (S := []) (L0 := [some (.ref 69), none]) dX8_takesE_91 rfl km_X8_go kk_X8_219 F8u.1 ⟨by decide, rfl⟩ rfl ⟨rfl, by decide⟩ rfl (Nat.le_of_ble_eq_true rfl) (Nat.zero_add _) (Nat.zero_add _) rfl ?_
        refine m_goE Hp19 hL wk h9 (Or.inr (Or.inr hK3)) (fun hp20 Hg21 fz22 => ?_)
        have fyfz22 : ∀ k, (k < 69 ∨ 92 ≤ k) → hp20 k = _ := fun k hk => fz22 k hk
        refine aw_goto (npc := 172) dX8_takesE_94 (by decide) ?_
        refine aw_aload_n (npc := 173) rfl dX8_takesE_172 rfl ?_
        obtain ⟨o9u, a9u, F9u, ⟨vk9, m19_9, m20_9, m22_9, mc9, mw9, mq9⟩, ho9, ha9⟩ := id Hg21
        refine aw_callV (npc := 176) (N := mX8_notsOpen) (b := 69) (mc := 0) (ms := 0) (A := []) (S := []) (L0 := [some (.ref 69), none, none]) dX8_takesE_173 rfl km_X8_notsOpen kk_X8_243 F9u.1 ⟨by decide, rfl⟩ rfl ⟨rfl, by decide⟩ rfl (Nat.le_of_ble_eq_true rfl) (Nat.zero_add _) (Nat.zero_add _) rfl ?_
        refine m_nots Hg21 (by show ws.length + 1 ≤ 96; omega) ?_
        refine aw_re (S' := [.int (nI (nO ((-10) :: ws)))]) rfl ?_
        refine aw_istore_n (npc := 177) (L' := [some (.ref 69), some (.int (nI p)), some (.int (nI (nO ((-10) :: ws)))), some (.int 1), v4]) dX8_takesE_176 rfl (by decide) rfl rfl ?_
        refine aw_goto (npc := 28) dX8_takesE_177 (by decide) ?_
        exact k33 ⟨hK3, hc3, by omega⟩ _ _ Hg21 (am_fpT (fun k (hk : k < 69 ∨ 92 ≤ k) => fyfz22 k (by omega)) (am_fpU (show ¬ (69 < 69 ∨ 92 ≤ 69) by omega) (am_fpU (show ¬ (79 < 69 ∨ 92 ≤ 79) by omega) am_fp0)))
theorem ex_c {σ σ' : ES} {L : Nat} {o0 N : Nat → Int32} {a0 : Nat → Nat → Int32} {h : am_H} (e : σ = σ') (H : EX σ L o0 N a0 h) : EX σ' L o0 N a0 h := e ▸ H
theorem sg_c {L : Nat} {tp : Nat → Int32} {K : Nat × Nat × Nat} {o : Nat → Int32} (vk : VK L tp K o) (wk : WFK L tp K) : sgV (mtk K.1) (o 13) = sgV K.1 (tp K.2.1) := by
  by_cases e : K.1 = 3
  · rw [vk.2.2.2.1 (Or.inr e), e]; rfl
  · unfold sgV
    rw [if_neg e, if_neg (fun z => e ((mtk_eq wk.2.2.1 wk.2.2.2.1 (by omega)).mp z))]
theorem sg_3 {t : Nat} {y : Int32} (h : ¬ sgV t y = 0) : t = 3 := by
  unfold sgV at h
  split at h
  · assumption
  · exact absurd rfl h
set_option maxHeartbeats 4000000 in
set_option maxRecDepth 100000 in
theorem m_turnN {X : List Int32} {d rc rs n : Nat} {Q : am_Q} {L : Nat} {o0 N : Nat → Int32} {a0 : Nat → Nat → Int32} {h : am_H} {K : Nat × Nat × Nat} {cs ws : List Int32} {at_ p : Nat} {tq : Nat → Int32} {v4 : Option Value} (H : EX (K, cs, ws, at_, tq) L o0 N a0 h) (hL : L ≤ 96) (wk : WFK L (a0 75) K) (h9 : o0 9 = nI L) {g : Int32} (hg : sgV K.1 (a0 75 K.2.1) = g) (hb : cs.length + ws.length ≤ 96) (hb2 : K.1 ≠ 0 → cs.length + ws.length < 96) (hat : at_ ≤ 96) (hp : p ≤ 8) (hop : 0 < p → ∃ c1 w2, stl 0 cs ws = (c1, (-11) :: w2))
    (kE1 : K.1 = 0 → p = 0 → ∀ h9, EX (K, (stl 0 cs ws).1, (stl 0 cs ws).2, at_, tq) L o0 N a0 h9 → am_fp (fun k => k < 69 ∨ 92 ≤ k) h9 h → Q (some (.int 1)) n h9)
    (kE0 : K.1 = 0 → ¬ p = 0 → ∀ h9, EX (K, (stl 0 cs ws).1, (stl 0 cs ws).2, at_, tq) L o0 N a0 h9 → am_fp (fun k => k < 69 ∨ 92 ≤ k) h9 h → Q (some (.int 0)) n h9)
    (k41 : ¬ K.1 = 0 → K.1 = 3 ∧ a0 75 K.2.1 = 41 ∧ 0 < p → ∀ c1 w2, stl 0 cs ws = (c1, (-11) :: w2) → ∀ v4 h9, EX (adv L (a0 75) K, (stl 6 c1 w2).1, (stl 6 c1 w2).2, at_, tq) L o0 N a0 h9 → am_fp (fun k => k < 69 ∨ 92 ≤ k) h9 h → AW X mX8_takesE (d + 4) rc rs 28 [some (.ref 69), some (.int (nI (p - 1))), some (.int (nI (nO (stl 6 c1 w2).2))), some (.int 0), v4] [] n h9 Q)
    (ksg : ¬ K.1 = 0 → ¬ (K.1 = 3 ∧ a0 75 K.2.1 = 41 ∧ 0 < p) → ¬ g = 0 → ¬ (rkM g = 3 ∧ ¬ tq p = 0) → ∀ tv : Int32, tv = (if rkM g = 3 ∨ (3 < rkM g ∧ ¬ tq p = 0) then 1 else 0) → ∀ v4 h9, EX (adv L (a0 75) K, (stl (rkM g) cs ws).1, g :: (stl (rkM g) cs ws).2, at_, upd tq p tv) L o0 N a0 h9 → am_fp (fun k => k < 69 ∨ 92 ≤ k) h9 h → AW X mX8_takesE (d + 4) rc rs 28 [some (.ref 69), some (.int (nI p)), some (.int (nI (nO ws))), some (.int 1), v4] [] n h9 Q)
    (kno : ¬ K.1 = 0 → ¬ (K.1 = 3 ∧ a0 75 K.2.1 = 41 ∧ 0 < p) → (g = 0 ∨ (rkM g = 3 ∧ ¬ tq p = 0)) → Q (some (.int 0)) n h) : AW X mX8_takesE (d + 4) rc rs 28 [some (.ref 69), some (.int (nI p)), some (.int (nI (nO ws))), some (.int 0), v4] [] n h Q := by
  have hmt : mtk K.1 ≤ 5 := by have z := wk.2.2.1; unfold mtk; split <;> omega
  have hno := nO_le ws
  have we := wk.1
  have wf := wk.2.1
  refine aw_iload_n (npc := 29) rfl dX8_takesE_28 rfl ?_
  refine aw_if_ne (npc := 32) (tgt := 39) dX8_takesE_29 rfl (by decide) (fun hc => absurd (by decide) hc) (fun _ => ?_)
  refine aw_aload_n (npc := 33) rfl dX8_takesE_32 rfl ?_
  obtain ⟨o1u, a1u, F1u, ⟨vk1, m19_1, m20_1, m22_1, mc1, mw1, mq1⟩, ho1, ha1⟩ := id H
  refine aw_get (npc := 36) dX8_takesE_33 rfl kf_X8_204 F1u.1 rfl ?_
  refine aw_top (y := nI (mtk K.1)) (vk1.2.2.1) ?_
  refine aw_if_eq (npc := 39) (tgt := 345) dX8_takesE_36 rfl (by decide) (fun hc1 => ?_) (fun hc1 => ?_)
  · have hc1N := (nI_eq (a := (mtk K.1)) (b := 0) (by omega) (by omega)).mp hc1
    have hK0 : K.1 = 0 := (mtk_eq wk.2.2.1 wk.2.2.2.1 (by omega)).mp hc1N
    refine aw_aload_n (npc := 346) rfl dX8_takesE_345 rfl ?_
    refine aw_iconst (npc := 347) (v := 0) (by decide) dX8_takesE_346 rfl ?_
    refine aw_callV (npc := 350) (N := mX8_settle) (b := 69) (mc := 0) (ms := 0) (A := [.int 0]) (S := []) (L0 := [some (.ref 69), some (.int 0)]) dX8_takesE_347 rfl km_X8_settle kk_X8_237 F1u.1 ⟨by decide, rfl⟩ rfl ⟨rfl, by decide⟩ rfl (Nat.le_of_ble_eq_true rfl) (Nat.zero_add _) (Nat.zero_add _) rfl ?_
    refine m_settle (r := 0) ws cs _ H (by omega) (fun hp2 Hs3 fz4 => ?_)
    have fyfz4 : ∀ k, (k < 69 ∨ 92 ≤ k) → hp2 k = _ := fun k hk => fz4 k hk
    refine aw_iload_n (npc := 351) rfl dX8_takesE_350 rfl ?_
    refine aw_if_ne (npc := 354) (tgt := 358) dX8_takesE_351 rfl (by decide) (fun hc5 => ?_) (fun hc5 => ?_)
    · have hc5N : ¬ p = 0 := fun z9q => hc5 ((nI_eq (a := p) (b := 0) (by omega) (by omega)).mpr z9q)
      refine aw_iconst (npc := 359) (v := 0) (by decide) dX8_takesE_358 rfl ?_
      refine aw_zret rfl rfl dX8_takesE_359 ?_
      exact kE0 hK0 (by omega) _ Hs3 (am_fpT (fun k (hk : k < 69 ∨ 92 ≤ k) => fyfz4 k (by omega)) am_fp0)
    · have hc5N := (nI_eq (a := p) (b := 0) (by omega) (by omega)).mp hc5
      refine aw_iconst (npc := 355) (v := 1) (by decide) dX8_takesE_354 rfl ?_
      refine aw_goto (npc := 359) dX8_takesE_355 (by decide) ?_
      refine aw_zret rfl rfl dX8_takesE_359 ?_
      exact kE1 hK0 (by omega) _ Hs3 (am_fpT (fun k (hk : k < 69 ∨ 92 ≤ k) => fyfz4 k (by omega)) am_fp0)
  · have hc1N : ¬ (mtk K.1) = 0 := fun z9q => hc1 ((nI_eq (a := (mtk K.1)) (b := 0) (by omega) (by omega)).mpr z9q)
    have hK0 : ¬ K.1 = 0 := fun z => hc1N ((mtk_eq wk.2.2.1 wk.2.2.2.1 (by omega)).mpr z)
    refine aw_iload_n (npc := 40) rfl dX8_takesE_39 rfl ?_
    refine aw_if_eq (npc := 43) (tgt := 180) dX8_takesE_40 rfl (by decide) (fun _ => ?_) (fun hc => absurd (by decide) hc)
    refine aw_aload_n (npc := 181) rfl dX8_takesE_180 rfl ?_
    refine aw_get (npc := 184) dX8_takesE_181 rfl kf_X8_204 F1u.1 rfl ?_
    refine aw_top (y := nI (mtk K.1)) (vk1.2.2.1) ?_
    refine aw_iconst (npc := 185) (v := 3) (by decide) dX8_takesE_184 rfl ?_
    refine aw_icmp_ne (npc := 188) (tgt := 237) dX8_takesE_185 rfl (by decide) (fun hc6 => ?_) (fun hc6 => ?_)
    · have hc6N : ¬ (mtk K.1) = 3 := fun z9q => hc6 ((nI_eq (a := (mtk K.1)) (b := 3) (by omega) (by omega)).mpr z9q)
      refine aw_aload_n (npc := 238) rfl dX8_takesE_237 rfl ?_
      refine aw_callV (npc := 241) (N := mX8_signHere) (b := 69) (mc := 0) (ms := 0) (A := []) (S := []) (L0 := [some (.ref 69)]) dX8_takesE_238 rfl km_X8_signHere kk_X8_246 F1u.1 ⟨by decide, rfl⟩ rfl ⟨rfl, by decide⟩ rfl (Nat.le_of_ble_eq_true rfl) (Nat.zero_add _) (Nat.zero_add _) rfl ?_
      refine m_sign (L := L) (t := mtk K.1) F1u hmt vk1.2.2.1 rfl ?_
      refine aw_re (S' := [.int (sgV (mtk K.1) (o1u 13))]) rfl ?_
      refine aw_top (y := g) ((sg_c vk1 wk).trans hg) ?_
      refine aw_istore (npc := 243) (L' := [some (.ref 69), some (.int (nI p)), some (.int (nI (nO ws))), some (.int 0), some (.int g)]) dX8_takesE_241 rfl (by decide) rfl rfl ?_
      refine aw_iload (npc := 245) rfl dX8_takesE_243 rfl ?_
      refine aw_if_eq (npc := 248) (tgt := 266) dX8_takesE_245 rfl (by decide) (fun hc7 => ?_) (fun hc7 => ?_)
      · refine aw_iconst (npc := 267) (v := 0) (by decide) dX8_takesE_266 rfl ?_
        refine aw_zret rfl rfl dX8_takesE_267 ?_
        exact kno hK0 (fun z => hc6N ((mtk_eq wk.2.2.1 wk.2.2.2.1 (by omega)).mpr z.1)) (Or.inl hc7)
      · refine aw_iload (npc := 250) rfl dX8_takesE_248 rfl ?_
        refine aw_callS (npc := 253) (N := mX8_rank) (mc := 0) (ms := 0) (A := [.int g]) (S := []) (L0 := [some (.int g)]) dX8_takesE_250 rfl km_X8_rank kk_X8_225 rfl ⟨rfl, by decide⟩ rfl (Nat.le_of_ble_eq_true rfl) (Nat.zero_add _) (Nat.zero_add _) rfl ?_
        refine m_rank ?_
        refine aw_re (S' := [.int (rkM g)]) rfl ?_
        refine aw_iconst (npc := 254) (v := 3) (by decide) dX8_takesE_253 rfl ?_
        refine aw_icmp_ne (npc := 257) (tgt := 268) dX8_takesE_254 rfl (by decide) (fun hc8 => ?_) (fun hc8 => ?_)
        · refine aw_aload_n (npc := 269) rfl dX8_takesE_268 rfl ?_
          refine aw_get (npc := 272) dX8_takesE_269 rfl kf_X8_45 F1u.1 rfl ?_
          refine aw_iload_n (npc := 273) rfl dX8_takesE_272 rfl ?_
          refine aw_iload (npc := 275) rfl dX8_takesE_273 rfl ?_
          refine aw_callS (npc := 278) (N := mX8_rank) (mc := 0) (ms := 0) (A := [.int g]) (S := [.int (nI p), .ref 80]) (L0 := [some (.int g)]) dX8_takesE_275 rfl km_X8_rank kk_X8_225 rfl ⟨rfl, by decide⟩ rfl (Nat.le_of_ble_eq_true rfl) (Nat.zero_add _) (Nat.zero_add _) rfl ?_
          refine m_rank ?_
          refine aw_re (S' := [.int (rkM g), .int (nI p), .ref 80]) rfl ?_
          refine aw_iconst (npc := 279) (v := 3) (by decide) dX8_takesE_278 rfl ?_
          refine aw_icmp_eq (npc := 282) (tgt := 300) dX8_takesE_279 rfl (by decide) (fun hc => absurd hc (hc8)) (fun _ => ?_)
          refine aw_iload (npc := 284) rfl dX8_takesE_282 rfl ?_
          refine aw_callS (npc := 287) (N := mX8_rank) (mc := 0) (ms := 0) (A := [.int g]) (S := [.int (nI p), .ref 80]) (L0 := [some (.int g)]) dX8_takesE_284 rfl km_X8_rank kk_X8_225 rfl ⟨rfl, by decide⟩ rfl (Nat.le_of_ble_eq_true rfl) (Nat.zero_add _) (Nat.zero_add _) rfl ?_
          refine m_rank ?_
          refine aw_re (S' := [.int (rkM g), .int (nI p), .ref 80]) rfl ?_
          refine aw_iconst (npc := 288) (v := 3) (by decide) dX8_takesE_287 rfl ?_
          refine aw_icmp_le (npc := 291) (tgt := 304) dX8_takesE_288 rfl (by decide) (fun hc10 => ?_) (fun hc10 => ?_)
          · refine aw_iconst (npc := 305) (v := 0) (by decide) dX8_takesE_304 rfl ?_
            refine aw_zast (npc := 306) (j := p) dX8_takesE_305 rfl F1u.2.2.2.2.2.2.2.2.2.2.2.1 (am_ix_nI (by omega)) (by rw [tl_len]; omega) (show vp_nar .boolean 0 = 0 by decide) rfl ?_
            have F11 := mr_80 (j := p) (v := 0) F1u
            have hK3 : K.1 = 3 := sg_3 (y := a0 75 K.2.1) (by rw [hg]; exact hc7)
            have Hp12 : EX (K, cs, ws, at_, upd tq p 0) L o0 N a0 _ := ⟨_, _, F11, ⟨vk1, m19_1, m20_1, m22_1, (fun j hj => (congrFun (aup_n (by decide)) j).trans (mc1 j hj)), (fun j hj => (congrFun (aup_n (by decide)) j).trans (mw1 j hj)), (e_tst mq1)⟩, (fun k k1 k2 k3 k4 => ho1 k k1 k2 k3 k4), (fun k k1 k2 k3 => (aup_n k3).trans (ha1 k k1 k2 k3))⟩
            refine aw_aload_n (npc := 307) rfl dX8_takesE_306 rfl ?_
            refine aw_iload (npc := 309) rfl dX8_takesE_307 rfl ?_
            refine aw_callS (npc := 312) (N := mX8_rank) (mc := 0) (ms := 0) (A := [.int g]) (S := [.ref 69]) (L0 := [some (.int g)]) dX8_takesE_309 rfl km_X8_rank kk_X8_225 rfl ⟨rfl, by decide⟩ rfl (Nat.le_of_ble_eq_true rfl) (Nat.zero_add _) (Nat.zero_add _) rfl ?_
            refine m_rank ?_
            refine aw_re (S' := [.int (rkM g), .ref 69]) rfl ?_
            obtain ⟨o2u, a2u, F2u, ⟨vk2, m19_2, m20_2, m22_2, mc2, mw2, mq2⟩, ho2, ha2⟩ := id Hp12
            refine aw_callV (npc := 315) (N := mX8_settle) (b := 69) (mc := 0) (ms := 0) (A := [.int (rkM g)]) (S := []) (L0 := [some (.ref 69), some (.int (rkM g))]) dX8_takesE_312 rfl km_X8_settle kk_X8_237 F2u.1 ⟨by decide, rfl⟩ rfl ⟨rfl, by decide⟩ rfl (Nat.le_of_ble_eq_true rfl) (Nat.zero_add _) (Nat.zero_add _) rfl ?_
            refine m_settle (r := rkM g) ws cs _ Hp12 (by omega) (fun hp13 Hs14 fz15 => ?_)
            have fyfz15 : ∀ k, (k < 69 ∨ 92 ≤ k) → hp13 k = _ := fun k hk => fz15 k hk
            have hls := stl_len (r := rkM g) ws cs
            refine aw_aload_n (npc := 316) rfl dX8_takesE_315 rfl ?_
            obtain ⟨o3u, a3u, F3u, ⟨vk3, m19_3, m20_3, m22_3, mc3, mw3, mq3⟩, ho3, ha3⟩ := id Hs14
            refine aw_get (npc := 319) dX8_takesE_316 rfl kf_X8_42 F3u.1 rfl ?_
            refine aw_aload_n (npc := 320) rfl dX8_takesE_319 rfl ?_
            refine aw_get (npc := 323) dX8_takesE_320 rfl kf_X8_222 F3u.1 rfl ?_
            refine aw_top (y := nI ((stl (rkM g) cs ws).2).length) (m22_3) ?_
            refine aw_iload (npc := 325) rfl dX8_takesE_323 rfl ?_
            refine aw_iast (npc := 326) (j := (((stl (rkM g) cs ws).2).length)) dX8_takesE_325 rfl F3u.2.2.2.2.2.2.2.2.2.2.1 (am_ix_nI (by omega)) (by rw [tl_len]; omega) rfl ?_
            have F16 := mr_79 (j := (((stl (rkM g) cs ws).2).length)) (v := g) F3u
            refine aw_aload_n (npc := 327) rfl dX8_takesE_326 rfl ?_
            refine aw_dup (npc := 328) rfl dX8_takesE_327 rfl ?_
            refine aw_get (npc := 331) dX8_takesE_328 rfl kf_X8_222 F16.1 rfl ?_
            refine aw_top (y := nI ((stl (rkM g) cs ws).2).length) (m22_3) ?_
            refine aw_iconst (npc := 332) (v := 1) (by decide) dX8_takesE_331 rfl ?_
            refine aw_iaddV (npc := 333) (v := nI (((stl (rkM g) cs ws).2).length + 1)) dX8_takesE_332 rfl (nI_add _ 1) ?_
            refine aw_put (npc := 336) dX8_takesE_333 rfl kf_X8_222 F16.1 (Nat.le_of_ble_eq_true rfl) (am_ok_int _) rfl ?_
            have F17 := mr_o22 (v := nI (((stl (rkM g) cs ws).2).length + 1)) F16
            have Hp18 : EX (K, (stl (rkM g) cs ws).1, g :: (stl (rkM g) cs ws).2, at_, upd tq p 0) L o0 N a0 _ := ⟨_, _, F17, ⟨(vk_u (by decide) vk3), (((pk_un (by omega))).trans m19_3), (((pk_un (by omega))).trans m20_3), (pk_us), (fun j hj => (congrFun (aup_n (by decide)) j).trans (mc3 j hj)), (e_wait mw3), (fun j hj => (congrFun (aup_n (by decide)) j).trans (mq3 j hj))⟩, (fun k k1 k2 k3 k4 => (pk_un k4).trans (ho3 k k1 k2 k3 k4)), (fun k k1 k2 k3 => (aup_n k2).trans (ha3 k k1 k2 k3))⟩
            refine aw_iconst (npc := 337) (v := 1) (by decide) dX8_takesE_336 rfl ?_
            refine aw_istore_n (npc := 338) (L' := [some (.ref 69), some (.int (nI p)), some (.int (nI (nO ws))), some (.int 1), some (.int g)]) dX8_takesE_337 rfl (by decide) rfl rfl ?_
            refine aw_aload_n (npc := 339) rfl dX8_takesE_338 rfl ?_
            obtain ⟨o4u, a4u, F4u, ⟨vk4, m19_4, m20_4, m22_4, mc4, mw4, mq4⟩, ho4, ha4⟩ := id Hp18
            refine aw_callV (npc := 342) (N := mX8_go) (b := 69) (mc := 0) (ms := 0) (A := []) (S := []) (L0 := [some (.ref 69), none]) dX8_takesE_339 rfl km_X8_go kk_X8_219 F4u.1 ⟨by decide, rfl⟩ rfl ⟨rfl, by decide⟩ rfl (Nat.le_of_ble_eq_true rfl) (Nat.zero_add _) (Nat.zero_add _) rfl ?_
            refine m_goE Hp18 hL wk h9 (Or.inr (Or.inr hK3)) (fun hp19 Hg20 fz21 => ?_)
            have fyfz21 : ∀ k, (k < 69 ∨ 92 ≤ k) → hp19 k = _ := fun k hk => fz21 k hk
            refine aw_goto (npc := 28) dX8_takesE_342 (by decide) ?_
            refine ksg hK0 (fun z => hc6N ((mtk_eq wk.2.2.1 wk.2.2.2.1 (by omega)).mpr z.1)) hc7 ?_ 0 ?_ _ _ Hg20 (am_fpT (fun k (hk : k < 69 ∨ 92 ≤ k) => fyfz21 k (by omega)) (am_fpU (show ¬ (69 < 69 ∨ 92 ≤ 69) by omega) (am_fpU (show ¬ (79 < 69 ∨ 92 ≤ 79) by omega) (am_fpT (fun k (hk : k < 69 ∨ 92 ≤ k) => fyfz15 k (by omega)) (am_fpU (show ¬ (80 < 69 ∨ 92 ≤ 80) by omega) am_fp0)))))
            · exact fun z => hc8 z.1
            · exact (if_neg (fun z => z.elim hc8 (fun y => absurd y.1 (Int32.not_lt.mpr hc10)))).symm
          · refine aw_aload_n (npc := 292) rfl dX8_takesE_291 rfl ?_
            refine aw_get (npc := 295) dX8_takesE_292 rfl kf_X8_45 F1u.1 rfl ?_
            refine aw_iload_n (npc := 296) rfl dX8_takesE_295 rfl ?_
            refine aw_zald (npc := 297) (x := (a1u 80) p) (j := p) dX8_takesE_296 rfl F1u.2.2.2.2.2.2.2.2.2.2.2.1 (am_ix_nI (by omega)) (tl_at (by omega)) ?_
            refine aw_top (y := tq p) (mq1 p (by omega)) ?_
            refine aw_if_eq (npc := 300) (tgt := 304) dX8_takesE_297 rfl (by decide) (fun hc22 => ?_) (fun hc22 => ?_)
            · refine aw_iconst (npc := 305) (v := 0) (by decide) dX8_takesE_304 rfl ?_
              refine aw_zast (npc := 306) (j := p) dX8_takesE_305 rfl F1u.2.2.2.2.2.2.2.2.2.2.2.1 (am_ix_nI (by omega)) (by rw [tl_len]; omega) (show vp_nar .boolean 0 = 0 by decide) rfl ?_
              have F23 := mr_80 (j := p) (v := 0) F1u
              have hK3 : K.1 = 3 := sg_3 (y := a0 75 K.2.1) (by rw [hg]; exact hc7)
              have Hp24 : EX (K, cs, ws, at_, upd tq p 0) L o0 N a0 _ := ⟨_, _, F23, ⟨vk1, m19_1, m20_1, m22_1, (fun j hj => (congrFun (aup_n (by decide)) j).trans (mc1 j hj)), (fun j hj => (congrFun (aup_n (by decide)) j).trans (mw1 j hj)), (e_tst mq1)⟩, (fun k k1 k2 k3 k4 => ho1 k k1 k2 k3 k4), (fun k k1 k2 k3 => (aup_n k3).trans (ha1 k k1 k2 k3))⟩
              refine aw_aload_n (npc := 307) rfl dX8_takesE_306 rfl ?_
              refine aw_iload (npc := 309) rfl dX8_takesE_307 rfl ?_
              refine aw_callS (npc := 312) (N := mX8_rank) (mc := 0) (ms := 0) (A := [.int g]) (S := [.ref 69]) (L0 := [some (.int g)]) dX8_takesE_309 rfl km_X8_rank kk_X8_225 rfl ⟨rfl, by decide⟩ rfl (Nat.le_of_ble_eq_true rfl) (Nat.zero_add _) (Nat.zero_add _) rfl ?_
              refine m_rank ?_
              refine aw_re (S' := [.int (rkM g), .ref 69]) rfl ?_
              obtain ⟨o5u, a5u, F5u, ⟨vk5, m19_5, m20_5, m22_5, mc5, mw5, mq5⟩, ho5, ha5⟩ := id Hp24
              refine aw_callV (npc := 315) (N := mX8_settle) (b := 69) (mc := 0) (ms := 0) (A := [.int (rkM g)]) (S := []) (L0 := [some (.ref 69), some (.int (rkM g))]) dX8_takesE_312 rfl km_X8_settle kk_X8_237 F5u.1 ⟨by decide, rfl⟩ rfl ⟨rfl, by decide⟩ rfl (Nat.le_of_ble_eq_true rfl) (Nat.zero_add _) (Nat.zero_add _) rfl ?_
              refine m_settle (r := rkM g) ws cs _ Hp24 (by omega) (fun hp25 Hs26 fz27 => ?_)
              have fyfz27 : ∀ k, (k < 69 ∨ 92 ≤ k) → hp25 k = _ := fun k hk => fz27 k hk
              have hls := stl_len (r := rkM g) ws cs
              refine aw_aload_n (npc := 316) rfl dX8_takesE_315 rfl ?_
              obtain ⟨o6u, a6u, F6u, ⟨vk6, m19_6, m20_6, m22_6, mc6, mw6, mq6⟩, ho6, ha6⟩ := id Hs26
              refine aw_get (npc := 319) dX8_takesE_316 rfl kf_X8_42 F6u.1 rfl ?_
              refine aw_aload_n (npc := 320) rfl dX8_takesE_319 rfl ?_
              refine aw_get (npc := 323) dX8_takesE_320 rfl kf_X8_222 F6u.1 rfl ?_
              refine aw_top (y := nI ((stl (rkM g) cs ws).2).length) (m22_6) ?_
              refine aw_iload (npc := 325) rfl dX8_takesE_323 rfl ?_
              refine aw_iast (npc := 326) (j := (((stl (rkM g) cs ws).2).length)) dX8_takesE_325 rfl F6u.2.2.2.2.2.2.2.2.2.2.1 (am_ix_nI (by omega)) (by rw [tl_len]; omega) rfl ?_
              have F28 := mr_79 (j := (((stl (rkM g) cs ws).2).length)) (v := g) F6u
              refine aw_aload_n (npc := 327) rfl dX8_takesE_326 rfl ?_
              refine aw_dup (npc := 328) rfl dX8_takesE_327 rfl ?_
              refine aw_get (npc := 331) dX8_takesE_328 rfl kf_X8_222 F28.1 rfl ?_
              refine aw_top (y := nI ((stl (rkM g) cs ws).2).length) (m22_6) ?_
              refine aw_iconst (npc := 332) (v := 1) (by decide) dX8_takesE_331 rfl ?_
              refine aw_iaddV (npc := 333) (v := nI (((stl (rkM g) cs ws).2).length + 1)) dX8_takesE_332 rfl (nI_add _ 1) ?_
              refine aw_put (npc := 336) dX8_takesE_333 rfl kf_X8_222 F28.1 (Nat.le_of_ble_eq_true rfl) (am_ok_int _) rfl ?_
              have F29 := mr_o22 (v := nI (((stl (rkM g) cs ws).2).length + 1)) F28
              have Hp30 : EX (K, (stl (rkM g) cs ws).1, g :: (stl (rkM g) cs ws).2, at_, upd tq p 0) L o0 N a0 _ := ⟨_, _, F29, ⟨(vk_u (by decide) vk6), (((pk_un (by omega))).trans m19_6), (((pk_un (by omega))).trans m20_6), (pk_us), (fun j hj => (congrFun (aup_n (by decide)) j).trans (mc6 j hj)), (e_wait mw6), (fun j hj => (congrFun (aup_n (by decide)) j).trans (mq6 j hj))⟩, (fun k k1 k2 k3 k4 => (pk_un k4).trans (ho6 k k1 k2 k3 k4)), (fun k k1 k2 k3 => (aup_n k2).trans (ha6 k k1 k2 k3))⟩
              refine aw_iconst (npc := 337) (v := 1) (by decide) dX8_takesE_336 rfl ?_
              refine aw_istore_n (npc := 338) (L' := [some (.ref 69), some (.int (nI p)), some (.int (nI (nO ws))), some (.int 1), some (.int g)]) dX8_takesE_337 rfl (by decide) rfl rfl ?_
              refine aw_aload_n (npc := 339) rfl dX8_takesE_338 rfl ?_
              obtain ⟨o7u, a7u, F7u, ⟨vk7, m19_7, m20_7, m22_7, mc7, mw7, mq7⟩, ho7, ha7⟩ := id Hp30
              refine aw_callV (npc := 342) (N := mX8_go) (b := 69) (mc := 0) (ms := 0) (A := []) (S := []) (L0 := [some (.ref 69), none]) dX8_takesE_339 rfl km_X8_go kk_X8_219 F7u.1 ⟨by decide, rfl⟩ rfl ⟨rfl, by decide⟩ rfl (Nat.le_of_ble_eq_true rfl) (Nat.zero_add _) (Nat.zero_add _) rfl ?_
              refine m_goE Hp30 hL wk h9 (Or.inr (Or.inr hK3)) (fun hp31 Hg32 fz33 => ?_)
              have fyfz33 : ∀ k, (k < 69 ∨ 92 ≤ k) → hp31 k = _ := fun k hk => fz33 k hk
              refine aw_goto (npc := 28) dX8_takesE_342 (by decide) ?_
              refine ksg hK0 (fun z => hc6N ((mtk_eq wk.2.2.1 wk.2.2.2.1 (by omega)).mpr z.1)) hc7 ?_ 0 ?_ _ _ Hg32 (am_fpT (fun k (hk : k < 69 ∨ 92 ≤ k) => fyfz33 k (by omega)) (am_fpU (show ¬ (69 < 69 ∨ 92 ≤ 69) by omega) (am_fpU (show ¬ (79 < 69 ∨ 92 ≤ 79) by omega) (am_fpT (fun k (hk : k < 69 ∨ 92 ≤ k) => fyfz27 k (by omega)) (am_fpU (show ¬ (80 < 69 ∨ 92 ≤ 80) by omega) am_fp0)))))
              · exact fun z => hc8 z.1
              · exact (if_neg (fun z => z.elim hc8 (fun y => y.2 hc22))).symm
            · refine aw_iconst (npc := 301) (v := 1) (by decide) dX8_takesE_300 rfl ?_
              refine aw_goto (npc := 305) dX8_takesE_301 (by decide) ?_
              refine aw_zast (npc := 306) (j := p) dX8_takesE_305 rfl F1u.2.2.2.2.2.2.2.2.2.2.2.1 (am_ix_nI (by omega)) (by rw [tl_len]; omega) (show vp_nar .boolean 1 = 1 by decide) rfl ?_
              have F34 := mr_80 (j := p) (v := 1) F1u
              have hK3 : K.1 = 3 := sg_3 (y := a0 75 K.2.1) (by rw [hg]; exact hc7)
              have Hp35 : EX (K, cs, ws, at_, upd tq p 1) L o0 N a0 _ := ⟨_, _, F34, ⟨vk1, m19_1, m20_1, m22_1, (fun j hj => (congrFun (aup_n (by decide)) j).trans (mc1 j hj)), (fun j hj => (congrFun (aup_n (by decide)) j).trans (mw1 j hj)), (e_tst mq1)⟩, (fun k k1 k2 k3 k4 => ho1 k k1 k2 k3 k4), (fun k k1 k2 k3 => (aup_n k3).trans (ha1 k k1 k2 k3))⟩
              refine aw_aload_n (npc := 307) rfl dX8_takesE_306 rfl ?_
              refine aw_iload (npc := 309) rfl dX8_takesE_307 rfl ?_
              refine aw_callS (npc := 312) (N := mX8_rank) (mc := 0) (ms := 0) (A := [.int g]) (S := [.ref 69]) (L0 := [some (.int g)]) dX8_takesE_309 rfl km_X8_rank kk_X8_225 rfl ⟨rfl, by decide⟩ rfl (Nat.le_of_ble_eq_true rfl) (Nat.zero_add _) (Nat.zero_add _) rfl ?_
              refine m_rank ?_
              refine aw_re (S' := [.int (rkM g), .ref 69]) rfl ?_
              obtain ⟨o8u, a8u, F8u, ⟨vk8, m19_8, m20_8, m22_8, mc8, mw8, mq8⟩, ho8, ha8⟩ := id Hp35
              refine aw_callV (npc := 315) (N := mX8_settle) (b := 69) (mc := 0) (ms := 0) (A := [.int (rkM g)]) (S := []) (L0 := [some (.ref 69), some (.int (rkM g))]) dX8_takesE_312 rfl km_X8_settle kk_X8_237 F8u.1 ⟨by decide, rfl⟩ rfl ⟨rfl, by decide⟩ rfl (Nat.le_of_ble_eq_true rfl) (Nat.zero_add _) (Nat.zero_add _) rfl ?_
              refine m_settle (r := rkM g) ws cs _ Hp35 (by omega) (fun hp36 Hs37 fz38 => ?_)
              have fyfz38 : ∀ k, (k < 69 ∨ 92 ≤ k) → hp36 k = _ := fun k hk => fz38 k hk
              have hls := stl_len (r := rkM g) ws cs
              refine aw_aload_n (npc := 316) rfl dX8_takesE_315 rfl ?_
              obtain ⟨o9u, a9u, F9u, ⟨vk9, m19_9, m20_9, m22_9, mc9, mw9, mq9⟩, ho9, ha9⟩ := id Hs37
              refine aw_get (npc := 319) dX8_takesE_316 rfl kf_X8_42 F9u.1 rfl ?_
              refine aw_aload_n (npc := 320) rfl dX8_takesE_319 rfl ?_
              refine aw_get (npc := 323) dX8_takesE_320 rfl kf_X8_222 F9u.1 rfl ?_
              refine aw_top (y := nI ((stl (rkM g) cs ws).2).length) (m22_9) ?_
              refine aw_iload (npc := 325) rfl dX8_takesE_323 rfl ?_
              refine aw_iast (npc := 326) (j := (((stl (rkM g) cs ws).2).length)) dX8_takesE_325 rfl F9u.2.2.2.2.2.2.2.2.2.2.1 (am_ix_nI (by omega)) (by rw [tl_len]; omega) rfl ?_
              have F39 := mr_79 (j := (((stl (rkM g) cs ws).2).length)) (v := g) F9u
              refine aw_aload_n (npc := 327) rfl dX8_takesE_326 rfl ?_
              refine aw_dup (npc := 328) rfl dX8_takesE_327 rfl ?_
              refine aw_get (npc := 331) dX8_takesE_328 rfl kf_X8_222 F39.1 rfl ?_
              refine aw_top (y := nI ((stl (rkM g) cs ws).2).length) (m22_9) ?_
              refine aw_iconst (npc := 332) (v := 1) (by decide) dX8_takesE_331 rfl ?_
              refine aw_iaddV (npc := 333) (v := nI (((stl (rkM g) cs ws).2).length + 1)) dX8_takesE_332 rfl (nI_add _ 1) ?_
              refine aw_put (npc := 336) dX8_takesE_333 rfl kf_X8_222 F39.1 (Nat.le_of_ble_eq_true rfl) (am_ok_int _) rfl ?_
              have F40 := mr_o22 (v := nI (((stl (rkM g) cs ws).2).length + 1)) F39
              have Hp41 : EX (K, (stl (rkM g) cs ws).1, g :: (stl (rkM g) cs ws).2, at_, upd tq p 1) L o0 N a0 _ := ⟨_, _, F40, ⟨(vk_u (by decide) vk9), (((pk_un (by omega))).trans m19_9), (((pk_un (by omega))).trans m20_9), (pk_us), (fun j hj => (congrFun (aup_n (by decide)) j).trans (mc9 j hj)), (e_wait mw9), (fun j hj => (congrFun (aup_n (by decide)) j).trans (mq9 j hj))⟩, (fun k k1 k2 k3 k4 => (pk_un k4).trans (ho9 k k1 k2 k3 k4)), (fun k k1 k2 k3 => (aup_n k2).trans (ha9 k k1 k2 k3))⟩
              refine aw_iconst (npc := 337) (v := 1) (by decide) dX8_takesE_336 rfl ?_
              refine aw_istore_n (npc := 338) (L' := [some (.ref 69), some (.int (nI p)), some (.int (nI (nO ws))), some (.int 1), some (.int g)]) dX8_takesE_337 rfl (by decide) rfl rfl ?_
              refine aw_aload_n (npc := 339) rfl dX8_takesE_338 rfl ?_
              obtain ⟨o10u, a10u, F10u, ⟨vk10, m19_10, m20_10, m22_10, mc10, mw10, mq10⟩, ho10, ha10⟩ := id Hp41
              refine aw_callV (npc := 342) (N := mX8_go) (b := 69) (mc := 0) (ms := 0) (A := []) (S := []) (L0 := [some (.ref 69), none]) dX8_takesE_339 rfl km_X8_go kk_X8_219 F10u.1 ⟨by decide, rfl⟩ rfl ⟨rfl, by decide⟩ rfl (Nat.le_of_ble_eq_true rfl) (Nat.zero_add _) (Nat.zero_add _) rfl ?_
              refine m_goE Hp41 hL wk h9 (Or.inr (Or.inr hK3)) (fun hp42 Hg43 fz44 => ?_)
              have fyfz44 : ∀ k, (k < 69 ∨ 92 ≤ k) → hp42 k = _ := fun k hk => fz44 k hk
              refine aw_goto (npc := 28) dX8_takesE_342 (by decide) ?_
              refine ksg hK0 (fun z => hc6N ((mtk_eq wk.2.2.1 wk.2.2.2.1 (by omega)).mpr z.1)) hc7 ?_ 1 ?_ _ _ Hg43 (am_fpT (fun k (hk : k < 69 ∨ 92 ≤ k) => fyfz44 k (by omega)) (am_fpU (show ¬ (69 < 69 ∨ 92 ≤ 69) by omega) (am_fpU (show ¬ (79 < 69 ∨ 92 ≤ 79) by omega) (am_fpT (fun k (hk : k < 69 ∨ 92 ≤ k) => fyfz38 k (by omega)) (am_fpU (show ¬ (80 < 69 ∨ 92 ≤ 80) by omega) am_fp0)))))
              · exact fun z => hc8 z.1
              · exact (if_pos (Or.inr ⟨Int32.not_le.mp hc10, hc22⟩)).symm
        · refine aw_aload_n (npc := 258) rfl dX8_takesE_257 rfl ?_
          refine aw_get (npc := 261) dX8_takesE_258 rfl kf_X8_45 F1u.1 rfl ?_
          refine aw_iload_n (npc := 262) rfl dX8_takesE_261 rfl ?_
          refine aw_zald (npc := 263) (x := (a1u 80) p) (j := p) dX8_takesE_262 rfl F1u.2.2.2.2.2.2.2.2.2.2.2.1 (am_ix_nI (by omega)) (tl_at (by omega)) ?_
          refine aw_top (y := tq p) (mq1 p (by omega)) ?_
          refine aw_if_eq (npc := 266) (tgt := 268) dX8_takesE_263 rfl (by decide) (fun hc45 => ?_) (fun hc45 => ?_)
          · refine aw_aload_n (npc := 269) rfl dX8_takesE_268 rfl ?_
            refine aw_get (npc := 272) dX8_takesE_269 rfl kf_X8_45 F1u.1 rfl ?_
            refine aw_iload_n (npc := 273) rfl dX8_takesE_272 rfl ?_
            refine aw_iload (npc := 275) rfl dX8_takesE_273 rfl ?_
            refine aw_callS (npc := 278) (N := mX8_rank) (mc := 0) (ms := 0) (A := [.int g]) (S := [.int (nI p), .ref 80]) (L0 := [some (.int g)]) dX8_takesE_275 rfl km_X8_rank kk_X8_225 rfl ⟨rfl, by decide⟩ rfl (Nat.le_of_ble_eq_true rfl) (Nat.zero_add _) (Nat.zero_add _) rfl ?_
            refine m_rank ?_
            refine aw_re (S' := [.int (rkM g), .int (nI p), .ref 80]) rfl ?_
            refine aw_iconst (npc := 279) (v := 3) (by decide) dX8_takesE_278 rfl ?_
            refine aw_icmp_eq (npc := 282) (tgt := 300) dX8_takesE_279 rfl (by decide) (fun _ => ?_) (fun hc => absurd (hc8) hc)
            refine aw_iconst (npc := 301) (v := 1) (by decide) dX8_takesE_300 rfl ?_
            refine aw_goto (npc := 305) dX8_takesE_301 (by decide) ?_
            refine aw_zast (npc := 306) (j := p) dX8_takesE_305 rfl F1u.2.2.2.2.2.2.2.2.2.2.2.1 (am_ix_nI (by omega)) (by rw [tl_len]; omega) (show vp_nar .boolean 1 = 1 by decide) rfl ?_
            have F47 := mr_80 (j := p) (v := 1) F1u
            have hK3 : K.1 = 3 := sg_3 (y := a0 75 K.2.1) (by rw [hg]; exact hc7)
            have Hp48 : EX (K, cs, ws, at_, upd tq p 1) L o0 N a0 _ := ⟨_, _, F47, ⟨vk1, m19_1, m20_1, m22_1, (fun j hj => (congrFun (aup_n (by decide)) j).trans (mc1 j hj)), (fun j hj => (congrFun (aup_n (by decide)) j).trans (mw1 j hj)), (e_tst mq1)⟩, (fun k k1 k2 k3 k4 => ho1 k k1 k2 k3 k4), (fun k k1 k2 k3 => (aup_n k3).trans (ha1 k k1 k2 k3))⟩
            refine aw_aload_n (npc := 307) rfl dX8_takesE_306 rfl ?_
            refine aw_iload (npc := 309) rfl dX8_takesE_307 rfl ?_
            refine aw_callS (npc := 312) (N := mX8_rank) (mc := 0) (ms := 0) (A := [.int g]) (S := [.ref 69]) (L0 := [some (.int g)]) dX8_takesE_309 rfl km_X8_rank kk_X8_225 rfl ⟨rfl, by decide⟩ rfl (Nat.le_of_ble_eq_true rfl) (Nat.zero_add _) (Nat.zero_add _) rfl ?_
            refine m_rank ?_
            refine aw_re (S' := [.int (rkM g), .ref 69]) rfl ?_
            obtain ⟨o11u, a11u, F11u, ⟨vk11, m19_11, m20_11, m22_11, mc11, mw11, mq11⟩, ho11, ha11⟩ := id Hp48
            refine aw_callV (npc := 315) (N := mX8_settle) (b := 69) (mc := 0) (ms := 0) (A := [.int (rkM g)]) (S := []) (L0 := [some (.ref 69), some (.int (rkM g))]) dX8_takesE_312 rfl km_X8_settle kk_X8_237 F11u.1 ⟨by decide, rfl⟩ rfl ⟨rfl, by decide⟩ rfl (Nat.le_of_ble_eq_true rfl) (Nat.zero_add _) (Nat.zero_add _) rfl ?_
            refine m_settle (r := rkM g) ws cs _ Hp48 (by omega) (fun hp49 Hs50 fz51 => ?_)
            have fyfz51 : ∀ k, (k < 69 ∨ 92 ≤ k) → hp49 k = _ := fun k hk => fz51 k hk
            have hls := stl_len (r := rkM g) ws cs
            refine aw_aload_n (npc := 316) rfl dX8_takesE_315 rfl ?_
            obtain ⟨o12u, a12u, F12u, ⟨vk12, m19_12, m20_12, m22_12, mc12, mw12, mq12⟩, ho12, ha12⟩ := id Hs50
            refine aw_get (npc := 319) dX8_takesE_316 rfl kf_X8_42 F12u.1 rfl ?_
            refine aw_aload_n (npc := 320) rfl dX8_takesE_319 rfl ?_
            refine aw_get (npc := 323) dX8_takesE_320 rfl kf_X8_222 F12u.1 rfl ?_
            refine aw_top (y := nI ((stl (rkM g) cs ws).2).length) (m22_12) ?_
            refine aw_iload (npc := 325) rfl dX8_takesE_323 rfl ?_
            refine aw_iast (npc := 326) (j := (((stl (rkM g) cs ws).2).length)) dX8_takesE_325 rfl F12u.2.2.2.2.2.2.2.2.2.2.1 (am_ix_nI (by omega)) (by rw [tl_len]; omega) rfl ?_
            have F52 := mr_79 (j := (((stl (rkM g) cs ws).2).length)) (v := g) F12u
            refine aw_aload_n (npc := 327) rfl dX8_takesE_326 rfl ?_
            refine aw_dup (npc := 328) rfl dX8_takesE_327 rfl ?_
            refine aw_get (npc := 331) dX8_takesE_328 rfl kf_X8_222 F52.1 rfl ?_
            refine aw_top (y := nI ((stl (rkM g) cs ws).2).length) (m22_12) ?_
            refine aw_iconst (npc := 332) (v := 1) (by decide) dX8_takesE_331 rfl ?_
            refine aw_iaddV (npc := 333) (v := nI (((stl (rkM g) cs ws).2).length + 1)) dX8_takesE_332 rfl (nI_add _ 1) ?_
            refine aw_put (npc := 336) dX8_takesE_333 rfl kf_X8_222 F52.1 (Nat.le_of_ble_eq_true rfl) (am_ok_int _) rfl ?_
            have F53 := mr_o22 (v := nI (((stl (rkM g) cs ws).2).length + 1)) F52
            have Hp54 : EX (K, (stl (rkM g) cs ws).1, g :: (stl (rkM g) cs ws).2, at_, upd tq p 1) L o0 N a0 _ := ⟨_, _, F53, ⟨(vk_u (by decide) vk12), (((pk_un (by omega))).trans m19_12), (((pk_un (by omega))).trans m20_12), (pk_us), (fun j hj => (congrFun (aup_n (by decide)) j).trans (mc12 j hj)), (e_wait mw12), (fun j hj => (congrFun (aup_n (by decide)) j).trans (mq12 j hj))⟩, (fun k k1 k2 k3 k4 => (pk_un k4).trans (ho12 k k1 k2 k3 k4)), (fun k k1 k2 k3 => (aup_n k2).trans (ha12 k k1 k2 k3))⟩
            refine aw_iconst (npc := 337) (v := 1) (by decide) dX8_takesE_336 rfl ?_
            refine aw_istore_n (npc := 338) (L' := [some (.ref 69), some (.int (nI p)), some (.int (nI (nO ws))), some (.int 1), some (.int g)]) dX8_takesE_337 rfl (by decide) rfl rfl ?_
            refine aw_aload_n (npc := 339) rfl dX8_takesE_338 rfl ?_
            obtain ⟨o13u, a13u, F13u, ⟨vk13, m19_13, m20_13, m22_13, mc13, mw13, mq13⟩, ho13, ha13⟩ := id Hp54
            refine aw_callV (npc := 342) (N := mX8_go) (b := 69) (mc := 0) (ms := 0) (A := []) (S := []) (L0 := [some (.ref 69), none]) dX8_takesE_339 rfl km_X8_go kk_X8_219 F13u.1 ⟨by decide, rfl⟩ rfl ⟨rfl, by decide⟩ rfl (Nat.le_of_ble_eq_true rfl) (Nat.zero_add _) (Nat.zero_add _) rfl ?_
            refine m_goE Hp54 hL wk h9 (Or.inr (Or.inr hK3)) (fun hp55 Hg56 fz57 => ?_)
            have fyfz57 : ∀ k, (k < 69 ∨ 92 ≤ k) → hp55 k = _ := fun k hk => fz57 k hk
            refine aw_goto (npc := 28) dX8_takesE_342 (by decide) ?_
            refine ksg hK0 (fun z => hc6N ((mtk_eq wk.2.2.1 wk.2.2.2.1 (by omega)).mpr z.1)) hc7 ?_ 1 ?_ _ _ Hg56 (am_fpT (fun k (hk : k < 69 ∨ 92 ≤ k) => fyfz57 k (by omega)) (am_fpU (show ¬ (69 < 69 ∨ 92 ≤ 69) by omega) (am_fpU (show ¬ (79 < 69 ∨ 92 ≤ 79) by omega) (am_fpT (fun k (hk : k < 69 ∨ 92 ≤ k) => fyfz51 k (by omega)) (am_fpU (show ¬ (80 < 69 ∨ 92 ≤ 80) by omega) am_fp0)))))
            · exact fun z => z.2 hc45
            · exact (if_pos (Or.inl hc8)).symm
          · refine aw_iconst (npc := 267) (v := 0) (by decide) dX8_takesE_266 rfl ?_
            refine aw_zret rfl rfl dX8_takesE_267 ?_
            exact kno hK0 (fun z => hc6N ((mtk_eq wk.2.2.1 wk.2.2.2.1 (by omega)).mpr z.1)) (Or.inr ⟨hc8, hc45⟩)
    · have hc6N := (nI_eq (a := (mtk K.1)) (b := 3) (by omega) (by omega)).mp hc6
      have hK3 : K.1 = 3 := (mtk_eq wk.2.2.1 wk.2.2.2.1 (by omega)).mp hc6N
      refine aw_aload_n (npc := 189) rfl dX8_takesE_188 rfl ?_
      refine aw_get (npc := 192) dX8_takesE_189 rfl kf_X8_210 F1u.1 rfl ?_
      refine aw_top (y := a0 75 K.2.1) (vk1.2.2.2.1 (Or.inr hK3)) ?_
      refine aw_bipush (npc := 194) (v := 41) (by decide) dX8_takesE_192 rfl ?_
      refine aw_icmp_ne (npc := 197) (tgt := 237) dX8_takesE_194 rfl (by decide) (fun hc58 => ?_) (fun hc58 => ?_)
      · refine aw_aload_n (npc := 238) rfl dX8_takesE_237 rfl ?_
        refine aw_callV (npc := 241) (N := mX8_signHere) (b := 69) (mc := 0) (ms := 0) (A := []) (S := []) (L0 := [some (.ref 69)]) dX8_takesE_238 rfl km_X8_signHere kk_X8_246 F1u.1 ⟨by decide, rfl⟩ rfl ⟨rfl, by decide⟩ rfl (Nat.le_of_ble_eq_true rfl) (Nat.zero_add _) (Nat.zero_add _) rfl ?_
        refine m_sign (L := L) (t := mtk K.1) F1u hmt vk1.2.2.1 rfl ?_
        refine aw_re (S' := [.int (sgV (mtk K.1) (o1u 13))]) rfl ?_
        refine aw_top (y := g) ((sg_c vk1 wk).trans hg) ?_
        refine aw_istore (npc := 243) (L' := [some (.ref 69), some (.int (nI p)), some (.int (nI (nO ws))), some (.int 0), some (.int g)]) dX8_takesE_241 rfl (by decide) rfl rfl ?_
        refine aw_iload (npc := 245) rfl dX8_takesE_243 rfl ?_
        refine aw_if_eq (npc := 248) (tgt := 266) dX8_takesE_245 rfl (by decide) (fun hc59 => ?_) (fun hc59 => ?_)
        · refine aw_iconst (npc := 267) (v := 0) (by decide) dX8_takesE_266 rfl ?_
          refine aw_zret rfl rfl dX8_takesE_267 ?_
          exact kno hK0 (fun z => hc58 z.2.1) (Or.inl hc59)
        · refine aw_iload (npc := 250) rfl dX8_takesE_248 rfl ?_
          refine aw_callS (npc := 253) (N := mX8_rank) (mc := 0) (ms := 0) (A := [.int g]) (S := []) (L0 := [some (.int g)]) dX8_takesE_250 rfl km_X8_rank kk_X8_225 rfl ⟨rfl, by decide⟩ rfl (Nat.le_of_ble_eq_true rfl) (Nat.zero_add _) (Nat.zero_add _) rfl ?_
          refine m_rank ?_
          refine aw_re (S' := [.int (rkM g)]) rfl ?_
          refine aw_iconst (npc := 254) (v := 3) (by decide) dX8_takesE_253 rfl ?_
          refine aw_icmp_ne (npc := 257) (tgt := 268) dX8_takesE_254 rfl (by decide) (fun hc60 => ?_) (fun hc60 => ?_)
          · refine aw_aload_n (npc := 269) rfl dX8_takesE_268 rfl ?_
            refine aw_get (npc := 272) dX8_takesE_269 rfl kf_X8_45 F1u.1 rfl ?_
            refine aw_iload_n (npc := 273) rfl dX8_takesE_272 rfl ?_
            refine aw_iload (npc := 275) rfl dX8_takesE_273 rfl ?_
            refine aw_callS (npc := 278) (N := mX8_rank) (mc := 0) (ms := 0) (A := [.int g]) (S := [.int (nI p), .ref 80]) (L0 := [some (.int g)]) dX8_takesE_275 rfl km_X8_rank kk_X8_225 rfl ⟨rfl, by decide⟩ rfl (Nat.le_of_ble_eq_true rfl) (Nat.zero_add _) (Nat.zero_add _) rfl ?_
            refine m_rank ?_
            refine aw_re (S' := [.int (rkM g), .int (nI p), .ref 80]) rfl ?_
            refine aw_iconst (npc := 279) (v := 3) (by decide) dX8_takesE_278 rfl ?_
            refine aw_icmp_eq (npc := 282) (tgt := 300) dX8_takesE_279 rfl (by decide) (fun hc => absurd hc (hc60)) (fun _ => ?_)
            refine aw_iload (npc := 284) rfl dX8_takesE_282 rfl ?_
            refine aw_callS (npc := 287) (N := mX8_rank) (mc := 0) (ms := 0) (A := [.int g]) (S := [.int (nI p), .ref 80]) (L0 := [some (.int g)]) dX8_takesE_284 rfl km_X8_rank kk_X8_225 rfl ⟨rfl, by decide⟩ rfl (Nat.le_of_ble_eq_true rfl) (Nat.zero_add _) (Nat.zero_add _) rfl ?_
            refine m_rank ?_
            refine aw_re (S' := [.int (rkM g), .int (nI p), .ref 80]) rfl ?_
            refine aw_iconst (npc := 288) (v := 3) (by decide) dX8_takesE_287 rfl ?_
            refine aw_icmp_le (npc := 291) (tgt := 304) dX8_takesE_288 rfl (by decide) (fun hc62 => ?_) (fun hc62 => ?_)
            · refine aw_iconst (npc := 305) (v := 0) (by decide) dX8_takesE_304 rfl ?_
              refine aw_zast (npc := 306) (j := p) dX8_takesE_305 rfl F1u.2.2.2.2.2.2.2.2.2.2.2.1 (am_ix_nI (by omega)) (by rw [tl_len]; omega) (show vp_nar .boolean 0 = 0 by decide) rfl ?_
              have F63 := mr_80 (j := p) (v := 0) F1u
              have hK3 : K.1 = 3 := sg_3 (y := a0 75 K.2.1) (by rw [hg]; exact hc59)
              have Hp64 : EX (K, cs, ws, at_, upd tq p 0) L o0 N a0 _ := ⟨_, _, F63, ⟨vk1, m19_1, m20_1, m22_1, (fun j hj => (congrFun (aup_n (by decide)) j).trans (mc1 j hj)), (fun j hj => (congrFun (aup_n (by decide)) j).trans (mw1 j hj)), (e_tst mq1)⟩, (fun k k1 k2 k3 k4 => ho1 k k1 k2 k3 k4), (fun k k1 k2 k3 => (aup_n k3).trans (ha1 k k1 k2 k3))⟩
              refine aw_aload_n (npc := 307) rfl dX8_takesE_306 rfl ?_
              refine aw_iload (npc := 309) rfl dX8_takesE_307 rfl ?_
              refine aw_callS (npc := 312) (N := mX8_rank) (mc := 0) (ms := 0) (A := [.int g]) (S := [.ref 69]) (L0 := [some (.int g)]) dX8_takesE_309 rfl km_X8_rank kk_X8_225 rfl ⟨rfl, by decide⟩ rfl (Nat.le_of_ble_eq_true rfl) (Nat.zero_add _) (Nat.zero_add _) rfl ?_
              refine m_rank ?_
              refine aw_re (S' := [.int (rkM g), .ref 69]) rfl ?_
              obtain ⟨o14u, a14u, F14u, ⟨vk14, m19_14, m20_14, m22_14, mc14, mw14, mq14⟩, ho14, ha14⟩ := id Hp64
              refine aw_callV (npc := 315) (N := mX8_settle) (b := 69) (mc := 0) (ms := 0) (A := [.int (rkM g)]) (S := []) (L0 := [some (.ref 69), some (.int (rkM g))]) dX8_takesE_312 rfl km_X8_settle kk_X8_237 F14u.1 ⟨by decide, rfl⟩ rfl ⟨rfl, by decide⟩ rfl (Nat.le_of_ble_eq_true rfl) (Nat.zero_add _) (Nat.zero_add _) rfl ?_
              refine m_settle (r := rkM g) ws cs _ Hp64 (by omega) (fun hp65 Hs66 fz67 => ?_)
              have fyfz67 : ∀ k, (k < 69 ∨ 92 ≤ k) → hp65 k = _ := fun k hk => fz67 k hk
              have hls := stl_len (r := rkM g) ws cs
              refine aw_aload_n (npc := 316) rfl dX8_takesE_315 rfl ?_
              obtain ⟨o15u, a15u, F15u, ⟨vk15, m19_15, m20_15, m22_15, mc15, mw15, mq15⟩, ho15, ha15⟩ := id Hs66
              refine aw_get (npc := 319) dX8_takesE_316 rfl kf_X8_42 F15u.1 rfl ?_
              refine aw_aload_n (npc := 320) rfl dX8_takesE_319 rfl ?_
              refine aw_get (npc := 323) dX8_takesE_320 rfl kf_X8_222 F15u.1 rfl ?_
              refine aw_top (y := nI ((stl (rkM g) cs ws).2).length) (m22_15) ?_
              refine aw_iload (npc := 325) rfl dX8_takesE_323 rfl ?_
              refine aw_iast (npc := 326) (j := (((stl (rkM g) cs ws).2).length)) dX8_takesE_325 rfl F15u.2.2.2.2.2.2.2.2.2.2.1 (am_ix_nI (by omega)) (by rw [tl_len]; omega) rfl ?_
              have F68 := mr_79 (j := (((stl (rkM g) cs ws).2).length)) (v := g) F15u
              refine aw_aload_n (npc := 327) rfl dX8_takesE_326 rfl ?_
              refine aw_dup (npc := 328) rfl dX8_takesE_327 rfl ?_
              refine aw_get (npc := 331) dX8_takesE_328 rfl kf_X8_222 F68.1 rfl ?_
              refine aw_top (y := nI ((stl (rkM g) cs ws).2).length) (m22_15) ?_
              refine aw_iconst (npc := 332) (v := 1) (by decide) dX8_takesE_331 rfl ?_
              refine aw_iaddV (npc := 333) (v := nI (((stl (rkM g) cs ws).2).length + 1)) dX8_takesE_332 rfl (nI_add _ 1) ?_
              refine aw_put (npc := 336) dX8_takesE_333 rfl kf_X8_222 F68.1 (Nat.le_of_ble_eq_true rfl) (am_ok_int _) rfl ?_
              have F69 := mr_o22 (v := nI (((stl (rkM g) cs ws).2).length + 1)) F68
              have Hp70 : EX (K, (stl (rkM g) cs ws).1, g :: (stl (rkM g) cs ws).2, at_, upd tq p 0) L o0 N a0 _ := ⟨_, _, F69, ⟨(vk_u (by decide) vk15), (((pk_un (by omega))).trans m19_15), (((pk_un (by omega))).trans m20_15), (pk_us), (fun j hj => (congrFun (aup_n (by decide)) j).trans (mc15 j hj)), (e_wait mw15), (fun j hj => (congrFun (aup_n (by decide)) j).trans (mq15 j hj))⟩, (fun k k1 k2 k3 k4 => (pk_un k4).trans (ho15 k k1 k2 k3 k4)), (fun k k1 k2 k3 => (aup_n k2).trans (ha15 k k1 k2 k3))⟩
              refine aw_iconst (npc := 337) (v := 1) (by decide) dX8_takesE_336 rfl ?_
              refine aw_istore_n (npc := 338) (L' := [some (.ref 69), some (.int (nI p)), some (.int (nI (nO ws))), some (.int 1), some (.int g)]) dX8_takesE_337 rfl (by decide) rfl rfl ?_
              refine aw_aload_n (npc := 339) rfl dX8_takesE_338 rfl ?_
              obtain ⟨o16u, a16u, F16u, ⟨vk16, m19_16, m20_16, m22_16, mc16, mw16, mq16⟩, ho16, ha16⟩ := id Hp70
              refine aw_callV (npc := 342) (N := mX8_go) (b := 69) (mc := 0) (ms := 0) (A := []) (S := []) (L0 := [some (.ref 69), none]) dX8_takesE_339 rfl km_X8_go kk_X8_219 F16u.1 ⟨by decide, rfl⟩ rfl ⟨rfl, by decide⟩ rfl (Nat.le_of_ble_eq_true rfl) (Nat.zero_add _) (Nat.zero_add _) rfl ?_
              refine m_goE Hp70 hL wk h9 (Or.inr (Or.inr hK3)) (fun hp71 Hg72 fz73 => ?_)
              have fyfz73 : ∀ k, (k < 69 ∨ 92 ≤ k) → hp71 k = _ := fun k hk => fz73 k hk
              refine aw_goto (npc := 28) dX8_takesE_342 (by decide) ?_
              refine ksg hK0 (fun z => hc58 z.2.1) hc59 ?_ 0 ?_ _ _ Hg72 (am_fpT (fun k (hk : k < 69 ∨ 92 ≤ k) => fyfz73 k (by omega)) (am_fpU (show ¬ (69 < 69 ∨ 92 ≤ 69) by omega) (am_fpU (show ¬ (79 < 69 ∨ 92 ≤ 79) by omega) (am_fpT (fun k (hk : k < 69 ∨ 92 ≤ k) => fyfz67 k (by omega)) (am_fpU (show ¬ (80 < 69 ∨ 92 ≤ 80) by omega) am_fp0)))))
              · exact fun z => hc60 z.1
              · exact (if_neg (fun z => z.elim hc60 (fun y => absurd y.1 (Int32.not_lt.mpr hc62)))).symm
            · refine aw_aload_n (npc := 292) rfl dX8_takesE_291 rfl ?_
              refine aw_get (npc := 295) dX8_takesE_292 rfl kf_X8_45 F1u.1 rfl ?_
              refine aw_iload_n (npc := 296) rfl dX8_takesE_295 rfl ?_
              refine aw_zald (npc := 297) (x := (a1u 80) p) (j := p) dX8_takesE_296 rfl F1u.2.2.2.2.2.2.2.2.2.2.2.1 (am_ix_nI (by omega)) (tl_at (by omega)) ?_
              refine aw_top (y := tq p) (mq1 p (by omega)) ?_
              refine aw_if_eq (npc := 300) (tgt := 304) dX8_takesE_297 rfl (by decide) (fun hc74 => ?_) (fun hc74 => ?_)
              · refine aw_iconst (npc := 305) (v := 0) (by decide) dX8_takesE_304 rfl ?_
                refine aw_zast (npc := 306) (j := p) dX8_takesE_305 rfl F1u.2.2.2.2.2.2.2.2.2.2.2.1 (am_ix_nI (by omega)) (by rw [tl_len]; omega) (show vp_nar .boolean 0 = 0 by decide) rfl ?_
                have F75 := mr_80 (j := p) (v := 0) F1u
                have hK3 : K.1 = 3 := sg_3 (y := a0 75 K.2.1) (by rw [hg]; exact hc59)
                have Hp76 : EX (K, cs, ws, at_, upd tq p 0) L o0 N a0 _ := ⟨_, _, F75, ⟨vk1, m19_1, m20_1, m22_1, (fun j hj => (congrFun (aup_n (by decide)) j).trans (mc1 j hj)), (fun j hj => (congrFun (aup_n (by decide)) j).trans (mw1 j hj)), (e_tst mq1)⟩, (fun k k1 k2 k3 k4 => ho1 k k1 k2 k3 k4), (fun k k1 k2 k3 => (aup_n k3).trans (ha1 k k1 k2 k3))⟩
                refine aw_aload_n (npc := 307) rfl dX8_takesE_306 rfl ?_
                refine aw_iload (npc := 309) rfl dX8_takesE_307 rfl ?_
                refine aw_callS (npc := 312) (N := mX8_rank) (mc := 0) (ms := 0) (A := [.int g]) (S := [.ref 69]) (L0 := [some (.int g)]) dX8_takesE_309 rfl km_X8_rank kk_X8_225 rfl ⟨rfl, by decide⟩ rfl (Nat.le_of_ble_eq_true rfl) (Nat.zero_add _) (Nat.zero_add _) rfl ?_
                refine m_rank ?_
                refine aw_re (S' := [.int (rkM g), .ref 69]) rfl ?_
                obtain ⟨o17u, a17u, F17u, ⟨vk17, m19_17, m20_17, m22_17, mc17, mw17, mq17⟩, ho17, ha17⟩ := id Hp76
                refine aw_callV (npc := 315) (N := mX8_settle) (b := 69) (mc := 0) (ms := 0) (A := [.int (rkM g)]) (S := []) (L0 := [some (.ref 69), some (.int (rkM g))]) dX8_takesE_312 rfl km_X8_settle kk_X8_237 F17u.1 ⟨by decide, rfl⟩ rfl ⟨rfl, by decide⟩ rfl (Nat.le_of_ble_eq_true rfl) (Nat.zero_add _) (Nat.zero_add _) rfl ?_
                refine m_settle (r := rkM g) ws cs _ Hp76 (by omega) (fun hp77 Hs78 fz79 => ?_)
                have fyfz79 : ∀ k, (k < 69 ∨ 92 ≤ k) → hp77 k = _ := fun k hk => fz79 k hk
                have hls := stl_len (r := rkM g) ws cs
                refine aw_aload_n (npc := 316) rfl dX8_takesE_315 rfl ?_
                obtain ⟨o18u, a18u, F18u, ⟨vk18, m19_18, m20_18, m22_18, mc18, mw18, mq18⟩, ho18, ha18⟩ := id Hs78
                refine aw_get (npc := 319) dX8_takesE_316 rfl kf_X8_42 F18u.1 rfl ?_
                refine aw_aload_n (npc := 320) rfl dX8_takesE_319 rfl ?_
                refine aw_get (npc := 323) dX8_takesE_320 rfl kf_X8_222 F18u.1 rfl ?_
                refine aw_top (y := nI ((stl (rkM g) cs ws).2).length) (m22_18) ?_
                refine aw_iload (npc := 325) rfl dX8_takesE_323 rfl ?_
                refine aw_iast (npc := 326) (j := (((stl (rkM g) cs ws).2).length)) dX8_takesE_325 rfl F18u.2.2.2.2.2.2.2.2.2.2.1 (am_ix_nI (by omega)) (by rw [tl_len]; omega) rfl ?_
                have F80 := mr_79 (j := (((stl (rkM g) cs ws).2).length)) (v := g) F18u
                refine aw_aload_n (npc := 327) rfl dX8_takesE_326 rfl ?_
                refine aw_dup (npc := 328) rfl dX8_takesE_327 rfl ?_
                refine aw_get (npc := 331) dX8_takesE_328 rfl kf_X8_222 F80.1 rfl ?_
                refine aw_top (y := nI ((stl (rkM g) cs ws).2).length) (m22_18) ?_
                refine aw_iconst (npc := 332) (v := 1) (by decide) dX8_takesE_331 rfl ?_
                refine aw_iaddV (npc := 333) (v := nI (((stl (rkM g) cs ws).2).length + 1)) dX8_takesE_332 rfl (nI_add _ 1) ?_
                refine aw_put (npc := 336) dX8_takesE_333 rfl kf_X8_222 F80.1 (Nat.le_of_ble_eq_true rfl) (am_ok_int _) rfl ?_
                have F81 := mr_o22 (v := nI (((stl (rkM g) cs ws).2).length + 1)) F80
                have Hp82 : EX (K, (stl (rkM g) cs ws).1, g :: (stl (rkM g) cs ws).2, at_, upd tq p 0) L o0 N a0 _ := ⟨_, _, F81, ⟨(vk_u (by decide) vk18), (((pk_un (by omega))).trans m19_18), (((pk_un (by omega))).trans m20_18), (pk_us), (fun j hj => (congrFun (aup_n (by decide)) j).trans (mc18 j hj)), (e_wait mw18), (fun j hj => (congrFun (aup_n (by decide)) j).trans (mq18 j hj))⟩, (fun k k1 k2 k3 k4 => (pk_un k4).trans (ho18 k k1 k2 k3 k4)), (fun k k1 k2 k3 => (aup_n k2).trans (ha18 k k1 k2 k3))⟩
                refine aw_iconst (npc := 337) (v := 1) (by decide) dX8_takesE_336 rfl ?_
                refine aw_istore_n (npc := 338) (L' := [some (.ref 69), some (.int (nI p)), some (.int (nI (nO ws))), some (.int 1), some (.int g)]) dX8_takesE_337 rfl (by decide) rfl rfl ?_
                refine aw_aload_n (npc := 339) rfl dX8_takesE_338 rfl ?_
                obtain ⟨o19u, a19u, F19u, ⟨vk19, m19_19, m20_19, m22_19, mc19, mw19, mq19⟩, ho19, ha19⟩ := id Hp82
                refine aw_callV (npc := 342) (N := mX8_go) (b := 69) (mc := 0) (ms := 0) (A := []) (S := []) (L0 := [some (.ref 69), none]) dX8_takesE_339 rfl km_X8_go kk_X8_219 F19u.1 ⟨by decide, rfl⟩ rfl ⟨rfl, by decide⟩ rfl (Nat.le_of_ble_eq_true rfl) (Nat.zero_add _) (Nat.zero_add _) rfl ?_
                refine m_goE Hp82 hL wk h9 (Or.inr (Or.inr hK3)) (fun hp83 Hg84 fz85 => ?_)
                have fyfz85 : ∀ k, (k < 69 ∨ 92 ≤ k) → hp83 k = _ := fun k hk => fz85 k hk
                refine aw_goto (npc := 28) dX8_takesE_342 (by decide) ?_
                refine ksg hK0 (fun z => hc58 z.2.1) hc59 ?_ 0 ?_ _ _ Hg84 (am_fpT (fun k (hk : k < 69 ∨ 92 ≤ k) => fyfz85 k (by omega)) (am_fpU (show ¬ (69 < 69 ∨ 92 ≤ 69) by omega) (am_fpU (show ¬ (79 < 69 ∨ 92 ≤ 79) by omega) (am_fpT (fun k (hk : k < 69 ∨ 92 ≤ k) => fyfz79 k (by omega)) (am_fpU (show ¬ (80 < 69 ∨ 92 ≤ 80) by omega) am_fp0)))))
                · exact fun z => hc60 z.1
                · exact (if_neg (fun z => z.elim hc60 (fun y => y.2 hc74))).symm
              · refine aw_iconst (npc := 301) (v := 1) (by decide) dX8_takesE_300 rfl ?_
                refine aw_goto (npc := 305) dX8_takesE_301 (by decide) ?_
                refine aw_zast (npc := 306) (j := p) dX8_takesE_305 rfl F1u.2.2.2.2.2.2.2.2.2.2.2.1 (am_ix_nI (by omega)) (by rw [tl_len]; omega) (show vp_nar .boolean 1 = 1 by decide) rfl ?_
                have F86 := mr_80 (j := p) (v := 1) F1u
                have hK3 : K.1 = 3 := sg_3 (y := a0 75 K.2.1) (by rw [hg]; exact hc59)
                have Hp87 : EX (K, cs, ws, at_, upd tq p 1) L o0 N a0 _ := ⟨_, _, F86, ⟨vk1, m19_1, m20_1, m22_1, (fun j hj => (congrFun (aup_n (by decide)) j).trans (mc1 j hj)), (fun j hj => (congrFun (aup_n (by decide)) j).trans (mw1 j hj)), (e_tst mq1)⟩, (fun k k1 k2 k3 k4 => ho1 k k1 k2 k3 k4), (fun k k1 k2 k3 => (aup_n k3).trans (ha1 k k1 k2 k3))⟩
                refine aw_aload_n (npc := 307) rfl dX8_takesE_306 rfl ?_
                refine aw_iload (npc := 309) rfl dX8_takesE_307 rfl ?_
                refine aw_callS (npc := 312) (N := mX8_rank) (mc := 0) (ms := 0) (A := [.int g]) (S := [.ref 69]) (L0 := [some (.int g)]) dX8_takesE_309 rfl km_X8_rank kk_X8_225 rfl ⟨rfl, by decide⟩ rfl (Nat.le_of_ble_eq_true rfl) (Nat.zero_add _) (Nat.zero_add _) rfl ?_
                refine m_rank ?_
                refine aw_re (S' := [.int (rkM g), .ref 69]) rfl ?_
                obtain ⟨o20u, a20u, F20u, ⟨vk20, m19_20, m20_20, m22_20, mc20, mw20, mq20⟩, ho20, ha20⟩ := id Hp87
                refine aw_callV (npc := 315) (N := mX8_settle) (b := 69) (mc := 0) (ms := 0) (A := [.int (rkM g)]) (S := []) (L0 := [some (.ref 69), some (.int (rkM g))]) dX8_takesE_312 rfl km_X8_settle kk_X8_237 F20u.1 ⟨by decide, rfl⟩ rfl ⟨rfl, by decide⟩ rfl (Nat.le_of_ble_eq_true rfl) (Nat.zero_add _) (Nat.zero_add _) rfl ?_
                refine m_settle (r := rkM g) ws cs _ Hp87 (by omega) (fun hp88 Hs89 fz90 => ?_)
                have fyfz90 : ∀ k, (k < 69 ∨ 92 ≤ k) → hp88 k = _ := fun k hk => fz90 k hk
                have hls := stl_len (r := rkM g) ws cs
                refine aw_aload_n (npc := 316) rfl dX8_takesE_315 rfl ?_
                obtain ⟨o21u, a21u, F21u, ⟨vk21, m19_21, m20_21, m22_21, mc21, mw21, mq21⟩, ho21, ha21⟩ := id Hs89
                refine aw_get (npc := 319) dX8_takesE_316 rfl kf_X8_42 F21u.1 rfl ?_
                refine aw_aload_n (npc := 320) rfl dX8_takesE_319 rfl ?_
                refine aw_get (npc := 323) dX8_takesE_320 rfl kf_X8_222 F21u.1 rfl ?_
                refine aw_top (y := nI ((stl (rkM g) cs ws).2).length) (m22_21) ?_
                refine aw_iload (npc := 325) rfl dX8_takesE_323 rfl ?_
                refine aw_iast (npc := 326) (j := (((stl (rkM g) cs ws).2).length)) dX8_takesE_325 rfl F21u.2.2.2.2.2.2.2.2.2.2.1 (am_ix_nI (by omega)) (by rw [tl_len]; omega) rfl ?_
                have F91 := mr_79 (j := (((stl (rkM g) cs ws).2).length)) (v := g) F21u
                refine aw_aload_n (npc := 327) rfl dX8_takesE_326 rfl ?_
                refine aw_dup (npc := 328) rfl dX8_takesE_327 rfl ?_
                refine aw_get (npc := 331) dX8_takesE_328 rfl kf_X8_222 F91.1 rfl ?_
                refine aw_top (y := nI ((stl (rkM g) cs ws).2).length) (m22_21) ?_
                refine aw_iconst (npc := 332) (v := 1) (by decide) dX8_takesE_331 rfl ?_
                refine aw_iaddV (npc := 333) (v := nI (((stl (rkM g) cs ws).2).length + 1)) dX8_takesE_332 rfl (nI_add _ 1) ?_
                refine aw_put (npc := 336) dX8_takesE_333 rfl kf_X8_222 F91.1 (Nat.le_of_ble_eq_true rfl) (am_ok_int _) rfl ?_
                have F92 := mr_o22 (v := nI (((stl (rkM g) cs ws).2).length + 1)) F91
                have Hp93 : EX (K, (stl (rkM g) cs ws).1, g :: (stl (rkM g) cs ws).2, at_, upd tq p 1) L o0 N a0 _ := ⟨_, _, F92, ⟨(vk_u (by decide) vk21), (((pk_un (by omega))).trans m19_21), (((pk_un (by omega))).trans m20_21), (pk_us), (fun j hj => (congrFun (aup_n (by decide)) j).trans (mc21 j hj)), (e_wait mw21), (fun j hj => (congrFun (aup_n (by decide)) j).trans (mq21 j hj))⟩, (fun k k1 k2 k3 k4 => (pk_un k4).trans (ho21 k k1 k2 k3 k4)), (fun k k1 k2 k3 => (aup_n k2).trans (ha21 k k1 k2 k3))⟩
                refine aw_iconst (npc := 337) (v := 1) (by decide) dX8_takesE_336 rfl ?_
                refine aw_istore_n (npc := 338) (L' := [some (.ref 69), some (.int (nI p)), some (.int (nI (nO ws))), some (.int 1), some (.int g)]) dX8_takesE_337 rfl (by decide) rfl rfl ?_
                refine aw_aload_n (npc := 339) rfl dX8_takesE_338 rfl ?_
                obtain ⟨o22u, a22u, F22u, ⟨vk22, m19_22, m20_22, m22_22, mc22, mw22, mq22⟩, ho22, ha22⟩ := id Hp93
                refine aw_callV (npc := 342) (N := mX8_go) (b := 69) (mc := 0) (ms := 0) (A := []) (S := []) (L0 := [some (.ref 69), none]) dX8_takesE_339 rfl km_X8_go kk_X8_219 F22u.1 ⟨by decide, rfl⟩ rfl ⟨rfl, by decide⟩ rfl (Nat.le_of_ble_eq_true rfl) (Nat.zero_add _) (Nat.zero_add _) rfl ?_
                refine m_goE Hp93 hL wk h9 (Or.inr (Or.inr hK3)) (fun hp94 Hg95 fz96 => ?_)
                have fyfz96 : ∀ k, (k < 69 ∨ 92 ≤ k) → hp94 k = _ := fun k hk => fz96 k hk
                refine aw_goto (npc := 28) dX8_takesE_342 (by decide) ?_
                refine ksg hK0 (fun z => hc58 z.2.1) hc59 ?_ 1 ?_ _ _ Hg95 (am_fpT (fun k (hk : k < 69 ∨ 92 ≤ k) => fyfz96 k (by omega)) (am_fpU (show ¬ (69 < 69 ∨ 92 ≤ 69) by omega) (am_fpU (show ¬ (79 < 69 ∨ 92 ≤ 79) by omega) (am_fpT (fun k (hk : k < 69 ∨ 92 ≤ k) => fyfz90 k (by omega)) (am_fpU (show ¬ (80 < 69 ∨ 92 ≤ 80) by omega) am_fp0)))))
                · exact fun z => hc60 z.1
                · exact (if_pos (Or.inr ⟨Int32.not_le.mp hc62, hc74⟩)).symm
          · refine aw_aload_n (npc := 258) rfl dX8_takesE_257 rfl ?_
            refine aw_get (npc := 261) dX8_takesE_258 rfl kf_X8_45 F1u.1 rfl ?_
            refine aw_iload_n (npc := 262) rfl dX8_takesE_261 rfl ?_
            refine aw_zald (npc := 263) (x := (a1u 80) p) (j := p) dX8_takesE_262 rfl F1u.2.2.2.2.2.2.2.2.2.2.2.1 (am_ix_nI (by omega)) (tl_at (by omega)) ?_
            refine aw_top (y := tq p) (mq1 p (by omega)) ?_
            refine aw_if_eq (npc := 266) (tgt := 268) dX8_takesE_263 rfl (by decide) (fun hc97 => ?_) (fun hc97 => ?_)
            · refine aw_aload_n (npc := 269) rfl dX8_takesE_268 rfl ?_
              refine aw_get (npc := 272) dX8_takesE_269 rfl kf_X8_45 F1u.1 rfl ?_
              refine aw_iload_n (npc := 273) rfl dX8_takesE_272 rfl ?_
              refine aw_iload (npc := 275) rfl dX8_takesE_273 rfl ?_
              refine aw_callS (npc := 278) (N := mX8_rank) (mc := 0) (ms := 0) (A := [.int g]) (S := [.int (nI p), .ref 80]) (L0 := [some (.int g)]) dX8_takesE_275 rfl km_X8_rank kk_X8_225 rfl ⟨rfl, by decide⟩ rfl (Nat.le_of_ble_eq_true rfl) (Nat.zero_add _) (Nat.zero_add _) rfl ?_
              refine m_rank ?_
              refine aw_re (S' := [.int (rkM g), .int (nI p), .ref 80]) rfl ?_
              refine aw_iconst (npc := 279) (v := 3) (by decide) dX8_takesE_278 rfl ?_
              refine aw_icmp_eq (npc := 282) (tgt := 300) dX8_takesE_279 rfl (by decide) (fun _ => ?_) (fun hc => absurd (hc60) hc)
              refine aw_iconst (npc := 301) (v := 1) (by decide) dX8_takesE_300 rfl ?_
              refine aw_goto (npc := 305) dX8_takesE_301 (by decide) ?_
              refine aw_zast (npc := 306) (j := p) dX8_takesE_305 rfl F1u.2.2.2.2.2.2.2.2.2.2.2.1 (am_ix_nI (by omega)) (by rw [tl_len]; omega) (show vp_nar .boolean 1 = 1 by decide) rfl ?_
              have F99 := mr_80 (j := p) (v := 1) F1u
              have hK3 : K.1 = 3 := sg_3 (y := a0 75 K.2.1) (by rw [hg]; exact hc59)
              have Hp100 : EX (K, cs, ws, at_, upd tq p 1) L o0 N a0 _ := ⟨_, _, F99, ⟨vk1, m19_1, m20_1, m22_1, (fun j hj => (congrFun (aup_n (by decide)) j).trans (mc1 j hj)), (fun j hj => (congrFun (aup_n (by decide)) j).trans (mw1 j hj)), (e_tst mq1)⟩, (fun k k1 k2 k3 k4 => ho1 k k1 k2 k3 k4), (fun k k1 k2 k3 => (aup_n k3).trans (ha1 k k1 k2 k3))⟩
              refine aw_aload_n (npc := 307) rfl dX8_takesE_306 rfl ?_
              refine aw_iload (npc := 309) rfl dX8_takesE_307 rfl ?_
              refine aw_callS (npc := 312) (N := mX8_rank) (mc := 0) (ms := 0) (A := [.int g]) (S := [.ref 69]) (L0 := [some (.int g)]) dX8_takesE_309 rfl km_X8_rank kk_X8_225 rfl ⟨rfl, by decide⟩ rfl (Nat.le_of_ble_eq_true rfl) (Nat.zero_add _) (Nat.zero_add _) rfl ?_
              refine m_rank ?_
              refine aw_re (S' := [.int (rkM g), .ref 69]) rfl ?_
              obtain ⟨o23u, a23u, F23u, ⟨vk23, m19_23, m20_23, m22_23, mc23, mw23, mq23⟩, ho23, ha23⟩ := id Hp100
              refine aw_callV (npc := 315) (N := mX8_settle) (b := 69) (mc := 0) (ms := 0) (A := [.int (rkM g)]) (S := []) (L0 := [some (.ref 69), some (.int (rkM g))]) dX8_takesE_312 rfl km_X8_settle kk_X8_237 F23u.1 ⟨by decide, rfl⟩ rfl ⟨rfl, by decide⟩ rfl (Nat.le_of_ble_eq_true rfl) (Nat.zero_add _) (Nat.zero_add _) rfl ?_
              refine m_settle (r := rkM g) ws cs _ Hp100 (by omega) (fun hp101 Hs102 fz103 => ?_)
              have fyfz103 : ∀ k, (k < 69 ∨ 92 ≤ k) → hp101 k = _ := fun k hk => fz103 k hk
              have hls := stl_len (r := rkM g) ws cs
              refine aw_aload_n (npc := 316) rfl dX8_takesE_315 rfl ?_
              obtain ⟨o24u, a24u, F24u, ⟨vk24, m19_24, m20_24, m22_24, mc24, mw24, mq24⟩, ho24, ha24⟩ := id Hs102
              refine aw_get (npc := 319) dX8_takesE_316 rfl kf_X8_42 F24u.1 rfl ?_
              refine aw_aload_n (npc := 320) rfl dX8_takesE_319 rfl ?_
              refine aw_get (npc := 323) dX8_takesE_320 rfl kf_X8_222 F24u.1 rfl ?_
              refine aw_top (y := nI ((stl (rkM g) cs ws).2).length) (m22_24) ?_
              refine aw_iload (npc := 325) rfl dX8_takesE_323 rfl ?_
              refine aw_iast (npc := 326) (j := (((stl (rkM g) cs ws).2).length)) dX8_takesE_325 rfl F24u.2.2.2.2.2.2.2.2.2.2.1 (am_ix_nI (by omega)) (by rw [tl_len]; omega) rfl ?_
              have F104 := mr_79 (j := (((stl (rkM g) cs ws).2).length)) (v := g) F24u
              refine aw_aload_n (npc := 327) rfl dX8_takesE_326 rfl ?_
              refine aw_dup (npc := 328) rfl dX8_takesE_327 rfl ?_
              refine aw_get (npc := 331) dX8_takesE_328 rfl kf_X8_222 F104.1 rfl ?_
              refine aw_top (y := nI ((stl (rkM g) cs ws).2).length) (m22_24) ?_
              refine aw_iconst (npc := 332) (v := 1) (by decide) dX8_takesE_331 rfl ?_
              refine aw_iaddV (npc := 333) (v := nI (((stl (rkM g) cs ws).2).length + 1)) dX8_takesE_332 rfl (nI_add _ 1) ?_
              refine aw_put (npc := 336) dX8_takesE_333 rfl kf_X8_222 F104.1 (Nat.le_of_ble_eq_true rfl) (am_ok_int _) rfl ?_
              have F105 := mr_o22 (v := nI (((stl (rkM g) cs ws).2).length + 1)) F104
              have Hp106 : EX (K, (stl (rkM g) cs ws).1, g :: (stl (rkM g) cs ws).2, at_, upd tq p 1) L o0 N a0 _ := ⟨_, _, F105, ⟨(vk_u (by decide) vk24), (((pk_un (by omega))).trans m19_24), (((pk_un (by omega))).trans m20_24), (pk_us), (fun j hj => (congrFun (aup_n (by decide)) j).trans (mc24 j hj)), (e_wait mw24), (fun j hj => (congrFun (aup_n (by decide)) j).trans (mq24 j hj))⟩, (fun k k1 k2 k3 k4 => (pk_un k4).trans (ho24 k k1 k2 k3 k4)), (fun k k1 k2 k3 => (aup_n k2).trans (ha24 k k1 k2 k3))⟩
              refine aw_iconst (npc := 337) (v := 1) (by decide) dX8_takesE_336 rfl ?_
              refine aw_istore_n (npc := 338) (L' := [some (.ref 69), some (.int (nI p)), some (.int (nI (nO ws))), some (.int 1), some (.int g)]) dX8_takesE_337 rfl (by decide) rfl rfl ?_
              refine aw_aload_n (npc := 339) rfl dX8_takesE_338 rfl ?_
              obtain ⟨o25u, a25u, F25u, ⟨vk25, m19_25, m20_25, m22_25, mc25, mw25, mq25⟩, ho25, ha25⟩ := id Hp106
              refine aw_callV (npc := 342) (N := mX8_go) (b := 69) (mc := 0) (ms := 0) (A := []) (S := []) (L0 := [some (.ref 69), none]) dX8_takesE_339 rfl km_X8_go kk_X8_219 F25u.1 ⟨by decide, rfl⟩ rfl ⟨rfl, by decide⟩ rfl (Nat.le_of_ble_eq_true rfl) (Nat.zero_add _) (Nat.zero_add _) rfl ?_
              refine m_goE Hp106 hL wk h9 (Or.inr (Or.inr hK3)) (fun hp107 Hg108 fz109 => ?_)
              have fyfz109 : ∀ k, (k < 69 ∨ 92 ≤ k) → hp107 k = _ := fun k hk => fz109 k hk
              refine aw_goto (npc := 28) dX8_takesE_342 (by decide) ?_
              refine ksg hK0 (fun z => hc58 z.2.1) hc59 ?_ 1 ?_ _ _ Hg108 (am_fpT (fun k (hk : k < 69 ∨ 92 ≤ k) => fyfz109 k (by omega)) (am_fpU (show ¬ (69 < 69 ∨ 92 ≤ 69) by omega) (am_fpU (show ¬ (79 < 69 ∨ 92 ≤ 79) by omega) (am_fpT (fun k (hk : k < 69 ∨ 92 ≤ k) => fyfz103 k (by omega)) (am_fpU (show ¬ (80 < 69 ∨ 92 ≤ 80) by omega) am_fp0)))))
              · exact fun z => z.2 hc97
              · exact (if_pos (Or.inl hc60)).symm
            · refine aw_iconst (npc := 267) (v := 0) (by decide) dX8_takesE_266 rfl ?_
              refine aw_zret rfl rfl dX8_takesE_267 ?_
              exact kno hK0 (fun z => hc58 z.2.1) (Or.inr ⟨hc60, hc97⟩)
      · refine aw_iload_n (npc := 198) rfl dX8_takesE_197 rfl ?_
        refine aw_if_le (npc := 201) (tgt := 237) dX8_takesE_198 rfl (by decide) (fun hc110 => ?_) (fun hc110 => ?_)
        · have hc110N := (nI_leI (a := p) (b := 0) (by omega) (by omega)).mp hc110
          refine aw_aload_n (npc := 238) rfl dX8_takesE_237 rfl ?_
          refine aw_callV (npc := 241) (N := mX8_signHere) (b := 69) (mc := 0) (ms := 0) (A := []) (S := []) (L0 := [some (.ref 69)]) dX8_takesE_238 rfl km_X8_signHere kk_X8_246 F1u.1 ⟨by decide, rfl⟩ rfl ⟨rfl, by decide⟩ rfl (Nat.le_of_ble_eq_true rfl) (Nat.zero_add _) (Nat.zero_add _) rfl ?_
          refine m_sign (L := L) (t := mtk K.1) F1u hmt vk1.2.2.1 rfl ?_
          refine aw_re (S' := [.int (sgV (mtk K.1) (o1u 13))]) rfl ?_
          refine aw_top (y := g) ((sg_c vk1 wk).trans hg) ?_
          refine aw_istore (npc := 243) (L' := [some (.ref 69), some (.int (nI p)), some (.int (nI (nO ws))), some (.int 0), some (.int g)]) dX8_takesE_241 rfl (by decide) rfl rfl ?_
          refine aw_iload (npc := 245) rfl dX8_takesE_243 rfl ?_
          refine aw_if_eq (npc := 248) (tgt := 266) dX8_takesE_245 rfl (by decide) (fun hc111 => ?_) (fun hc111 => ?_)
          · refine aw_iconst (npc := 267) (v := 0) (by decide) dX8_takesE_266 rfl ?_
            refine aw_zret rfl rfl dX8_takesE_267 ?_
            exact kno hK0 (fun z => absurd ((nI_leI (a := p) (b := 0) (by omega) (by omega)).mp hc110) (by have y := z.2.2; omega)) (Or.inl hc111)
          · refine aw_iload (npc := 250) rfl dX8_takesE_248 rfl ?_
            refine aw_callS (npc := 253) (N := mX8_rank) (mc := 0) (ms := 0) (A := [.int g]) (S := []) (L0 := [some (.int g)]) dX8_takesE_250 rfl km_X8_rank kk_X8_225 rfl ⟨rfl, by decide⟩ rfl (Nat.le_of_ble_eq_true rfl) (Nat.zero_add _) (Nat.zero_add _) rfl ?_
            refine m_rank ?_
            refine aw_re (S' := [.int (rkM g)]) rfl ?_
            refine aw_iconst (npc := 254) (v := 3) (by decide) dX8_takesE_253 rfl ?_
            refine aw_icmp_ne (npc := 257) (tgt := 268) dX8_takesE_254 rfl (by decide) (fun hc112 => ?_) (fun hc112 => ?_)
            · refine aw_aload_n (npc := 269) rfl dX8_takesE_268 rfl ?_
              refine aw_get (npc := 272) dX8_takesE_269 rfl kf_X8_45 F1u.1 rfl ?_
              refine aw_iload_n (npc := 273) rfl dX8_takesE_272 rfl ?_
              refine aw_iload (npc := 275) rfl dX8_takesE_273 rfl ?_
              refine aw_callS (npc := 278) (N := mX8_rank) (mc := 0) (ms := 0) (A := [.int g]) (S := [.int (nI p), .ref 80]) (L0 := [some (.int g)]) dX8_takesE_275 rfl km_X8_rank kk_X8_225 rfl ⟨rfl, by decide⟩ rfl (Nat.le_of_ble_eq_true rfl) (Nat.zero_add _) (Nat.zero_add _) rfl ?_
              refine m_rank ?_
              refine aw_re (S' := [.int (rkM g), .int (nI p), .ref 80]) rfl ?_
              refine aw_iconst (npc := 279) (v := 3) (by decide) dX8_takesE_278 rfl ?_
              refine aw_icmp_eq (npc := 282) (tgt := 300) dX8_takesE_279 rfl (by decide) (fun hc => absurd hc (hc112)) (fun _ => ?_)
              refine aw_iload (npc := 284) rfl dX8_takesE_282 rfl ?_
              refine aw_callS (npc := 287) (N := mX8_rank) (mc := 0) (ms := 0) (A := [.int g]) (S := [.int (nI p), .ref 80]) (L0 := [some (.int g)]) dX8_takesE_284 rfl km_X8_rank kk_X8_225 rfl ⟨rfl, by decide⟩ rfl (Nat.le_of_ble_eq_true rfl) (Nat.zero_add _) (Nat.zero_add _) rfl ?_
              refine m_rank ?_
              refine aw_re (S' := [.int (rkM g), .int (nI p), .ref 80]) rfl ?_
              refine aw_iconst (npc := 288) (v := 3) (by decide) dX8_takesE_287 rfl ?_
              refine aw_icmp_le (npc := 291) (tgt := 304) dX8_takesE_288 rfl (by decide) (fun hc114 => ?_) (fun hc114 => ?_)
              · refine aw_iconst (npc := 305) (v := 0) (by decide) dX8_takesE_304 rfl ?_
                refine aw_zast (npc := 306) (j := p) dX8_takesE_305 rfl F1u.2.2.2.2.2.2.2.2.2.2.2.1 (am_ix_nI (by omega)) (by rw [tl_len]; omega) (show vp_nar .boolean 0 = 0 by decide) rfl ?_
                have F115 := mr_80 (j := p) (v := 0) F1u
                have hK3 : K.1 = 3 := sg_3 (y := a0 75 K.2.1) (by rw [hg]; exact hc111)
                have Hp116 : EX (K, cs, ws, at_, upd tq p 0) L o0 N a0 _ := ⟨_, _, F115, ⟨vk1, m19_1, m20_1, m22_1, (fun j hj => (congrFun (aup_n (by decide)) j).trans (mc1 j hj)), (fun j hj => (congrFun (aup_n (by decide)) j).trans (mw1 j hj)), (e_tst mq1)⟩, (fun k k1 k2 k3 k4 => ho1 k k1 k2 k3 k4), (fun k k1 k2 k3 => (aup_n k3).trans (ha1 k k1 k2 k3))⟩
                refine aw_aload_n (npc := 307) rfl dX8_takesE_306 rfl ?_
                refine aw_iload (npc := 309) rfl dX8_takesE_307 rfl ?_
                refine aw_callS (npc := 312) (N := mX8_rank) (mc := 0) (ms := 0) (A := [.int g]) (S := [.ref 69]) (L0 := [some (.int g)]) dX8_takesE_309 rfl km_X8_rank kk_X8_225 rfl ⟨rfl, by decide⟩ rfl (Nat.le_of_ble_eq_true rfl) (Nat.zero_add _) (Nat.zero_add _) rfl ?_
                refine m_rank ?_
                refine aw_re (S' := [.int (rkM g), .ref 69]) rfl ?_
                obtain ⟨o26u, a26u, F26u, ⟨vk26, m19_26, m20_26, m22_26, mc26, mw26, mq26⟩, ho26, ha26⟩ := id Hp116
                refine aw_callV (npc := 315) (N := mX8_settle) (b := 69) (mc := 0) (ms := 0) (A := [.int (rkM g)]) (S := []) (L0 := [some (.ref 69), some (.int (rkM g))]) dX8_takesE_312 rfl km_X8_settle kk_X8_237 F26u.1 ⟨by decide, rfl⟩ rfl ⟨rfl, by decide⟩ rfl (Nat.le_of_ble_eq_true rfl) (Nat.zero_add _) (Nat.zero_add _) rfl ?_
                refine m_settle (r := rkM g) ws cs _ Hp116 (by omega) (fun hp117 Hs118 fz119 => ?_)
                have fyfz119 : ∀ k, (k < 69 ∨ 92 ≤ k) → hp117 k = _ := fun k hk => fz119 k hk
                have hls := stl_len (r := rkM g) ws cs
                refine aw_aload_n (npc := 316) rfl dX8_takesE_315 rfl ?_
                obtain ⟨o27u, a27u, F27u, ⟨vk27, m19_27, m20_27, m22_27, mc27, mw27, mq27⟩, ho27, ha27⟩ := id Hs118
                refine aw_get (npc := 319) dX8_takesE_316 rfl kf_X8_42 F27u.1 rfl ?_
                refine aw_aload_n (npc := 320) rfl dX8_takesE_319 rfl ?_
                refine aw_get (npc := 323) dX8_takesE_320 rfl kf_X8_222 F27u.1 rfl ?_
                refine aw_top (y := nI ((stl (rkM g) cs ws).2).length) (m22_27) ?_
                refine aw_iload (npc := 325) rfl dX8_takesE_323 rfl ?_
                refine aw_iast (npc := 326) (j := (((stl (rkM g) cs ws).2).length)) dX8_takesE_325 rfl F27u.2.2.2.2.2.2.2.2.2.2.1 (am_ix_nI (by omega)) (by rw [tl_len]; omega) rfl ?_
                have F120 := mr_79 (j := (((stl (rkM g) cs ws).2).length)) (v := g) F27u
                refine aw_aload_n (npc := 327) rfl dX8_takesE_326 rfl ?_
                refine aw_dup (npc := 328) rfl dX8_takesE_327 rfl ?_
                refine aw_get (npc := 331) dX8_takesE_328 rfl kf_X8_222 F120.1 rfl ?_
                refine aw_top (y := nI ((stl (rkM g) cs ws).2).length) (m22_27) ?_
                refine aw_iconst (npc := 332) (v := 1) (by decide) dX8_takesE_331 rfl ?_
                refine aw_iaddV (npc := 333) (v := nI (((stl (rkM g) cs ws).2).length + 1)) dX8_takesE_332 rfl (nI_add _ 1) ?_
                refine aw_put (npc := 336) dX8_takesE_333 rfl kf_X8_222 F120.1 (Nat.le_of_ble_eq_true rfl) (am_ok_int _) rfl ?_
                have F121 := mr_o22 (v := nI (((stl (rkM g) cs ws).2).length + 1)) F120
                have Hp122 : EX (K, (stl (rkM g) cs ws).1, g :: (stl (rkM g) cs ws).2, at_, upd tq p 0) L o0 N a0 _ := ⟨_, _, F121, ⟨(vk_u (by decide) vk27), (((pk_un (by omega))).trans m19_27), (((pk_un (by omega))).trans m20_27), (pk_us), (fun j hj => (congrFun (aup_n (by decide)) j).trans (mc27 j hj)), (e_wait mw27), (fun j hj => (congrFun (aup_n (by decide)) j).trans (mq27 j hj))⟩, (fun k k1 k2 k3 k4 => (pk_un k4).trans (ho27 k k1 k2 k3 k4)), (fun k k1 k2 k3 => (aup_n k2).trans (ha27 k k1 k2 k3))⟩
                refine aw_iconst (npc := 337) (v := 1) (by decide) dX8_takesE_336 rfl ?_
                refine aw_istore_n (npc := 338) (L' := [some (.ref 69), some (.int (nI p)), some (.int (nI (nO ws))), some (.int 1), some (.int g)]) dX8_takesE_337 rfl (by decide) rfl rfl ?_
                refine aw_aload_n (npc := 339) rfl dX8_takesE_338 rfl ?_
                obtain ⟨o28u, a28u, F28u, ⟨vk28, m19_28, m20_28, m22_28, mc28, mw28, mq28⟩, ho28, ha28⟩ := id Hp122
                refine aw_callV (npc := 342) (N := mX8_go) (b := 69) (mc := 0) (ms := 0) (A := []) (S := []) (L0 := [some (.ref 69), none]) dX8_takesE_339 rfl km_X8_go kk_X8_219 F28u.1 ⟨by decide, rfl⟩ rfl ⟨rfl, by decide⟩ rfl (Nat.le_of_ble_eq_true rfl) (Nat.zero_add _) (Nat.zero_add _) rfl ?_
                refine m_goE Hp122 hL wk h9 (Or.inr (Or.inr hK3)) (fun hp123 Hg124 fz125 => ?_)
                have fyfz125 : ∀ k, (k < 69 ∨ 92 ≤ k) → hp123 k = _ := fun k hk => fz125 k hk
                refine aw_goto (npc := 28) dX8_takesE_342 (by decide) ?_
                refine ksg hK0 (fun z => absurd ((nI_leI (a := p) (b := 0) (by omega) (by omega)).mp hc110) (by have y := z.2.2; omega)) hc111 ?_ 0 ?_ _ _ Hg124 (am_fpT (fun k (hk : k < 69 ∨ 92 ≤ k) => fyfz125 k (by omega)) (am_fpU (show ¬ (69 < 69 ∨ 92 ≤ 69) by omega) (am_fpU (show ¬ (79 < 69 ∨ 92 ≤ 79) by omega) (am_fpT (fun k (hk : k < 69 ∨ 92 ≤ k) => fyfz119 k (by omega)) (am_fpU (show ¬ (80 < 69 ∨ 92 ≤ 80) by omega) am_fp0)))))
                · exact fun z => hc112 z.1
                · exact (if_neg (fun z => z.elim hc112 (fun y => absurd y.1 (Int32.not_lt.mpr hc114)))).symm
              · refine aw_aload_n (npc := 292) rfl dX8_takesE_291 rfl ?_
                refine aw_get (npc := 295) dX8_takesE_292 rfl kf_X8_45 F1u.1 rfl ?_
                refine aw_iload_n (npc := 296) rfl dX8_takesE_295 rfl ?_
                refine aw_zald (npc := 297) (x := (a1u 80) p) (j := p) dX8_takesE_296 rfl F1u.2.2.2.2.2.2.2.2.2.2.2.1 (am_ix_nI (by omega)) (tl_at (by omega)) ?_
                refine aw_top (y := tq p) (mq1 p (by omega)) ?_
                refine aw_if_eq (npc := 300) (tgt := 304) dX8_takesE_297 rfl (by decide) (fun hc126 => ?_) (fun hc126 => ?_)
                · refine aw_iconst (npc := 305) (v := 0) (by decide) dX8_takesE_304 rfl ?_
                  refine aw_zast (npc := 306) (j := p) dX8_takesE_305 rfl F1u.2.2.2.2.2.2.2.2.2.2.2.1 (am_ix_nI (by omega)) (by rw [tl_len]; omega) (show vp_nar .boolean 0 = 0 by decide) rfl ?_
                  have F127 := mr_80 (j := p) (v := 0) F1u
                  have hK3 : K.1 = 3 := sg_3 (y := a0 75 K.2.1) (by rw [hg]; exact hc111)
                  have Hp128 : EX (K, cs, ws, at_, upd tq p 0) L o0 N a0 _ := ⟨_, _, F127, ⟨vk1, m19_1, m20_1, m22_1, (fun j hj => (congrFun (aup_n (by decide)) j).trans (mc1 j hj)), (fun j hj => (congrFun (aup_n (by decide)) j).trans (mw1 j hj)), (e_tst mq1)⟩, (fun k k1 k2 k3 k4 => ho1 k k1 k2 k3 k4), (fun k k1 k2 k3 => (aup_n k3).trans (ha1 k k1 k2 k3))⟩
                  refine aw_aload_n (npc := 307) rfl dX8_takesE_306 rfl ?_
                  refine aw_iload (npc := 309) rfl dX8_takesE_307 rfl ?_
                  refine aw_callS (npc := 312) (N := mX8_rank) (mc := 0) (ms := 0) (A := [.int g]) (S := [.ref 69]) (L0 := [some (.int g)]) dX8_takesE_309 rfl km_X8_rank kk_X8_225 rfl ⟨rfl, by decide⟩ rfl (Nat.le_of_ble_eq_true rfl) (Nat.zero_add _) (Nat.zero_add _) rfl ?_
                  refine m_rank ?_
                  refine aw_re (S' := [.int (rkM g), .ref 69]) rfl ?_
                  obtain ⟨o29u, a29u, F29u, ⟨vk29, m19_29, m20_29, m22_29, mc29, mw29, mq29⟩, ho29, ha29⟩ := id Hp128
                  refine aw_callV (npc := 315) (N := mX8_settle) (b := 69) (mc := 0) (ms := 0) (A := [.int (rkM g)]) (S := []) (L0 := [some (.ref 69), some (.int (rkM g))]) dX8_takesE_312 rfl km_X8_settle kk_X8_237 F29u.1 ⟨by decide, rfl⟩ rfl ⟨rfl, by decide⟩ rfl (Nat.le_of_ble_eq_true rfl) (Nat.zero_add _) (Nat.zero_add _) rfl ?_
                  refine m_settle (r := rkM g) ws cs _ Hp128 (by omega) (fun hp129 Hs130 fz131 => ?_)
                  have fyfz131 : ∀ k, (k < 69 ∨ 92 ≤ k) → hp129 k = _ := fun k hk => fz131 k hk
                  have hls := stl_len (r := rkM g) ws cs
                  refine aw_aload_n (npc := 316) rfl dX8_takesE_315 rfl ?_
                  obtain ⟨o30u, a30u, F30u, ⟨vk30, m19_30, m20_30, m22_30, mc30, mw30, mq30⟩, ho30, ha30⟩ := id Hs130
                  refine aw_get (npc := 319) dX8_takesE_316 rfl kf_X8_42 F30u.1 rfl ?_
                  refine aw_aload_n (npc := 320) rfl dX8_takesE_319 rfl ?_
                  refine aw_get (npc := 323) dX8_takesE_320 rfl kf_X8_222 F30u.1 rfl ?_
                  refine aw_top (y := nI ((stl (rkM g) cs ws).2).length) (m22_30) ?_
                  refine aw_iload (npc := 325) rfl dX8_takesE_323 rfl ?_
                  refine aw_iast (npc := 326) (j := (((stl (rkM g) cs ws).2).length)) dX8_takesE_325 rfl F30u.2.2.2.2.2.2.2.2.2.2.1 (am_ix_nI (by omega)) (by rw [tl_len]; omega) rfl ?_
                  have F132 := mr_79 (j := (((stl (rkM g) cs ws).2).length)) (v := g) F30u
                  refine aw_aload_n (npc := 327) rfl dX8_takesE_326 rfl ?_
                  refine aw_dup (npc := 328) rfl dX8_takesE_327 rfl ?_
                  refine aw_get (npc := 331) dX8_takesE_328 rfl kf_X8_222 F132.1 rfl ?_
                  refine aw_top (y := nI ((stl (rkM g) cs ws).2).length) (m22_30) ?_
                  refine aw_iconst (npc := 332) (v := 1) (by decide) dX8_takesE_331 rfl ?_
                  refine aw_iaddV (npc := 333) (v := nI (((stl (rkM g) cs ws).2).length + 1)) dX8_takesE_332 rfl (nI_add _ 1) ?_
                  refine aw_put (npc := 336) dX8_takesE_333 rfl kf_X8_222 F132.1 (Nat.le_of_ble_eq_true rfl) (am_ok_int _) rfl ?_
                  have F133 := mr_o22 (v := nI (((stl (rkM g) cs ws).2).length + 1)) F132
                  have Hp134 : EX (K, (stl (rkM g) cs ws).1, g :: (stl (rkM g) cs ws).2, at_, upd tq p 0) L o0 N a0 _ := ⟨_, _, F133, ⟨(vk_u (by decide) vk30), (((pk_un (by omega))).trans m19_30), (((pk_un (by omega))).trans m20_30), (pk_us), (fun j hj => (congrFun (aup_n (by decide)) j).trans (mc30 j hj)), (e_wait mw30), (fun j hj => (congrFun (aup_n (by decide)) j).trans (mq30 j hj))⟩, (fun k k1 k2 k3 k4 => (pk_un k4).trans (ho30 k k1 k2 k3 k4)), (fun k k1 k2 k3 => (aup_n k2).trans (ha30 k k1 k2 k3))⟩
                  refine aw_iconst (npc := 337) (v := 1) (by decide) dX8_takesE_336 rfl ?_
                  refine aw_istore_n (npc := 338) (L' := [some (.ref 69), some (.int (nI p)), some (.int (nI (nO ws))), some (.int 1), some (.int g)]) dX8_takesE_337 rfl (by decide) rfl rfl ?_
                  refine aw_aload_n (npc := 339) rfl dX8_takesE_338 rfl ?_
                  obtain ⟨o31u, a31u, F31u, ⟨vk31, m19_31, m20_31, m22_31, mc31, mw31, mq31⟩, ho31, ha31⟩ := id Hp134
                  refine aw_callV (npc := 342) (N := mX8_go) (b := 69) (mc := 0) (ms := 0) (A := []) (S := []) (L0 := [some (.ref 69), none]) dX8_takesE_339 rfl km_X8_go kk_X8_219 F31u.1 ⟨by decide, rfl⟩ rfl ⟨rfl, by decide⟩ rfl (Nat.le_of_ble_eq_true rfl) (Nat.zero_add _) (Nat.zero_add _) rfl ?_
                  refine m_goE Hp134 hL wk h9 (Or.inr (Or.inr hK3)) (fun hp135 Hg136 fz137 => ?_)
                  have fyfz137 : ∀ k, (k < 69 ∨ 92 ≤ k) → hp135 k = _ := fun k hk => fz137 k hk
                  refine aw_goto (npc := 28) dX8_takesE_342 (by decide) ?_
                  refine ksg hK0 (fun z => absurd ((nI_leI (a := p) (b := 0) (by omega) (by omega)).mp hc110) (by have y := z.2.2; omega)) hc111 ?_ 0 ?_ _ _ Hg136 (am_fpT (fun k (hk : k < 69 ∨ 92 ≤ k) => fyfz137 k (by omega)) (am_fpU (show ¬ (69 < 69 ∨ 92 ≤ 69) by omega) (am_fpU (show ¬ (79 < 69 ∨ 92 ≤ 79) by omega) (am_fpT (fun k (hk : k < 69 ∨ 92 ≤ k) => fyfz131 k (by omega)) (am_fpU (show ¬ (80 < 69 ∨ 92 ≤ 80) by omega) am_fp0)))))
                  · exact fun z => hc112 z.1
                  · exact (if_neg (fun z => z.elim hc112 (fun y => y.2 hc126))).symm
                · refine aw_iconst (npc := 301) (v := 1) (by decide) dX8_takesE_300 rfl ?_
                  refine aw_goto (npc := 305) dX8_takesE_301 (by decide) ?_
                  refine aw_zast (npc := 306) (j := p) dX8_takesE_305 rfl F1u.2.2.2.2.2.2.2.2.2.2.2.1 (am_ix_nI (by omega)) (by rw [tl_len]; omega) (show vp_nar .boolean 1 = 1 by decide) rfl ?_
                  have F138 := mr_80 (j := p) (v := 1) F1u
                  have hK3 : K.1 = 3 := sg_3 (y := a0 75 K.2.1) (by rw [hg]; exact hc111)
                  have Hp139 : EX (K, cs, ws, at_, upd tq p 1) L o0 N a0 _ := ⟨_, _, F138, ⟨vk1, m19_1, m20_1, m22_1, (fun j hj => (congrFun (aup_n (by decide)) j).trans (mc1 j hj)), (fun j hj => (congrFun (aup_n (by decide)) j).trans (mw1 j hj)), (e_tst mq1)⟩, (fun k k1 k2 k3 k4 => ho1 k k1 k2 k3 k4), (fun k k1 k2 k3 => (aup_n k3).trans (ha1 k k1 k2 k3))⟩
                  refine aw_aload_n (npc := 307) rfl dX8_takesE_306 rfl ?_
                  refine aw_iload (npc := 309) rfl dX8_takesE_307 rfl ?_
                  refine aw_callS (npc := 312) (N := mX8_rank) (mc := 0) (ms := 0) (A := [.int g]) (S := [.ref 69]) (L0 := [some (.int g)]) dX8_takesE_309 rfl km_X8_rank kk_X8_225 rfl ⟨rfl, by decide⟩ rfl (Nat.le_of_ble_eq_true rfl) (Nat.zero_add _) (Nat.zero_add _) rfl ?_
                  refine m_rank ?_
                  refine aw_re (S' := [.int (rkM g), .ref 69]) rfl ?_
                  obtain ⟨o32u, a32u, F32u, ⟨vk32, m19_32, m20_32, m22_32, mc32, mw32, mq32⟩, ho32, ha32⟩ := id Hp139
                  refine aw_callV (npc := 315) (N := mX8_settle) (b := 69) (mc := 0) (ms := 0) (A := [.int (rkM g)]) (S := []) (L0 := [some (.ref 69), some (.int (rkM g))]) dX8_takesE_312 rfl km_X8_settle kk_X8_237 F32u.1 ⟨by decide, rfl⟩ rfl ⟨rfl, by decide⟩ rfl (Nat.le_of_ble_eq_true rfl) (Nat.zero_add _) (Nat.zero_add _) rfl ?_
                  refine m_settle (r := rkM g) ws cs _ Hp139 (by omega) (fun hp140 Hs141 fz142 => ?_)
                  have fyfz142 : ∀ k, (k < 69 ∨ 92 ≤ k) → hp140 k = _ := fun k hk => fz142 k hk
                  have hls := stl_len (r := rkM g) ws cs
                  refine aw_aload_n (npc := 316) rfl dX8_takesE_315 rfl ?_
                  obtain ⟨o33u, a33u, F33u, ⟨vk33, m19_33, m20_33, m22_33, mc33, mw33, mq33⟩, ho33, ha33⟩ := id Hs141
                  refine aw_get (npc := 319) dX8_takesE_316 rfl kf_X8_42 F33u.1 rfl ?_
                  refine aw_aload_n (npc := 320) rfl dX8_takesE_319 rfl ?_
                  refine aw_get (npc := 323) dX8_takesE_320 rfl kf_X8_222 F33u.1 rfl ?_
                  refine aw_top (y := nI ((stl (rkM g) cs ws).2).length) (m22_33) ?_
                  refine aw_iload (npc := 325) rfl dX8_takesE_323 rfl ?_
                  refine aw_iast (npc := 326) (j := (((stl (rkM g) cs ws).2).length)) dX8_takesE_325 rfl F33u.2.2.2.2.2.2.2.2.2.2.1 (am_ix_nI (by omega)) (by rw [tl_len]; omega) rfl ?_
                  have F143 := mr_79 (j := (((stl (rkM g) cs ws).2).length)) (v := g) F33u
                  refine aw_aload_n (npc := 327) rfl dX8_takesE_326 rfl ?_
                  refine aw_dup (npc := 328) rfl dX8_takesE_327 rfl ?_
                  refine aw_get (npc := 331) dX8_takesE_328 rfl kf_X8_222 F143.1 rfl ?_
                  refine aw_top (y := nI ((stl (rkM g) cs ws).2).length) (m22_33) ?_
                  refine aw_iconst (npc := 332) (v := 1) (by decide) dX8_takesE_331 rfl ?_
                  refine aw_iaddV (npc := 333) (v := nI (((stl (rkM g) cs ws).2).length + 1)) dX8_takesE_332 rfl (nI_add _ 1) ?_
                  refine aw_put (npc := 336) dX8_takesE_333 rfl kf_X8_222 F143.1 (Nat.le_of_ble_eq_true rfl) (am_ok_int _) rfl ?_
                  have F144 := mr_o22 (v := nI (((stl (rkM g) cs ws).2).length + 1)) F143
                  have Hp145 : EX (K, (stl (rkM g) cs ws).1, g :: (stl (rkM g) cs ws).2, at_, upd tq p 1) L o0 N a0 _ := ⟨_, _, F144, ⟨(vk_u (by decide) vk33), (((pk_un (by omega))).trans m19_33), (((pk_un (by omega))).trans m20_33), (pk_us), (fun j hj => (congrFun (aup_n (by decide)) j).trans (mc33 j hj)), (e_wait mw33), (fun j hj => (congrFun (aup_n (by decide)) j).trans (mq33 j hj))⟩, (fun k k1 k2 k3 k4 => (pk_un k4).trans (ho33 k k1 k2 k3 k4)), (fun k k1 k2 k3 => (aup_n k2).trans (ha33 k k1 k2 k3))⟩
                  refine aw_iconst (npc := 337) (v := 1) (by decide) dX8_takesE_336 rfl ?_
                  refine aw_istore_n (npc := 338) (L' := [some (.ref 69), some (.int (nI p)), some (.int (nI (nO ws))), some (.int 1), some (.int g)]) dX8_takesE_337 rfl (by decide) rfl rfl ?_
                  refine aw_aload_n (npc := 339) rfl dX8_takesE_338 rfl ?_
                  obtain ⟨o34u, a34u, F34u, ⟨vk34, m19_34, m20_34, m22_34, mc34, mw34, mq34⟩, ho34, ha34⟩ := id Hp145
                  refine aw_callV (npc := 342) (N := mX8_go) (b := 69) (mc := 0) (ms := 0) (A := []) (S := []) (L0 := [some (.ref 69), none]) dX8_takesE_339 rfl km_X8_go kk_X8_219 F34u.1 ⟨by decide, rfl⟩ rfl ⟨rfl, by decide⟩ rfl (Nat.le_of_ble_eq_true rfl) (Nat.zero_add _) (Nat.zero_add _) rfl ?_
                  refine m_goE Hp145 hL wk h9 (Or.inr (Or.inr hK3)) (fun hp146 Hg147 fz148 => ?_)
                  have fyfz148 : ∀ k, (k < 69 ∨ 92 ≤ k) → hp146 k = _ := fun k hk => fz148 k hk
                  refine aw_goto (npc := 28) dX8_takesE_342 (by decide) ?_
                  refine ksg hK0 (fun z => absurd ((nI_leI (a := p) (b := 0) (by omega) (by omega)).mp hc110) (by have y := z.2.2; omega)) hc111 ?_ 1 ?_ _ _ Hg147 (am_fpT (fun k (hk : k < 69 ∨ 92 ≤ k) => fyfz148 k (by omega)) (am_fpU (show ¬ (69 < 69 ∨ 92 ≤ 69) by omega) (am_fpU (show ¬ (79 < 69 ∨ 92 ≤ 79) by omega) (am_fpT (fun k (hk : k < 69 ∨ 92 ≤ k) => fyfz142 k (by omega)) (am_fpU (show ¬ (80 < 69 ∨ 92 ≤ 80) by omega) am_fp0)))))
                  · exact fun z => hc112 z.1
                  · exact (if_pos (Or.inr ⟨Int32.not_le.mp hc114, hc126⟩)).symm
            · refine aw_aload_n (npc := 258) rfl dX8_takesE_257 rfl ?_
              refine aw_get (npc := 261) dX8_takesE_258 rfl kf_X8_45 F1u.1 rfl ?_
              refine aw_iload_n (npc := 262) rfl dX8_takesE_261 rfl ?_
              refine aw_zald (npc := 263) (x := (a1u 80) p) (j := p) dX8_takesE_262 rfl F1u.2.2.2.2.2.2.2.2.2.2.2.1 (am_ix_nI (by omega)) (tl_at (by omega)) ?_
              refine aw_top (y := tq p) (mq1 p (by omega)) ?_
              refine aw_if_eq (npc := 266) (tgt := 268) dX8_takesE_263 rfl (by decide) (fun hc149 => ?_) (fun hc149 => ?_)
              · refine aw_aload_n (npc := 269) rfl dX8_takesE_268 rfl ?_
                refine aw_get (npc := 272) dX8_takesE_269 rfl kf_X8_45 F1u.1 rfl ?_
                refine aw_iload_n (npc := 273) rfl dX8_takesE_272 rfl ?_
                refine aw_iload (npc := 275) rfl dX8_takesE_273 rfl ?_
                refine aw_callS (npc := 278) (N := mX8_rank) (mc := 0) (ms := 0) (A := [.int g]) (S := [.int (nI p), .ref 80]) (L0 := [some (.int g)]) dX8_takesE_275 rfl km_X8_rank kk_X8_225 rfl ⟨rfl, by decide⟩ rfl (Nat.le_of_ble_eq_true rfl) (Nat.zero_add _) (Nat.zero_add _) rfl ?_
                refine m_rank ?_
                refine aw_re (S' := [.int (rkM g), .int (nI p), .ref 80]) rfl ?_
                refine aw_iconst (npc := 279) (v := 3) (by decide) dX8_takesE_278 rfl ?_
                refine aw_icmp_eq (npc := 282) (tgt := 300) dX8_takesE_279 rfl (by decide) (fun _ => ?_) (fun hc => absurd (hc112) hc)
                refine aw_iconst (npc := 301) (v := 1) (by decide) dX8_takesE_300 rfl ?_
                refine aw_goto (npc := 305) dX8_takesE_301 (by decide) ?_
                refine aw_zast (npc := 306) (j := p) dX8_takesE_305 rfl F1u.2.2.2.2.2.2.2.2.2.2.2.1 (am_ix_nI (by omega)) (by rw [tl_len]; omega) (show vp_nar .boolean 1 = 1 by decide) rfl ?_
                have F151 := mr_80 (j := p) (v := 1) F1u
                have hK3 : K.1 = 3 := sg_3 (y := a0 75 K.2.1) (by rw [hg]; exact hc111)
                have Hp152 : EX (K, cs, ws, at_, upd tq p 1) L o0 N a0 _ := ⟨_, _, F151, ⟨vk1, m19_1, m20_1, m22_1, (fun j hj => (congrFun (aup_n (by decide)) j).trans (mc1 j hj)), (fun j hj => (congrFun (aup_n (by decide)) j).trans (mw1 j hj)), (e_tst mq1)⟩, (fun k k1 k2 k3 k4 => ho1 k k1 k2 k3 k4), (fun k k1 k2 k3 => (aup_n k3).trans (ha1 k k1 k2 k3))⟩
                refine aw_aload_n (npc := 307) rfl dX8_takesE_306 rfl ?_
                refine aw_iload (npc := 309) rfl dX8_takesE_307 rfl ?_
                refine aw_callS (npc := 312) (N := mX8_rank) (mc := 0) (ms := 0) (A := [.int g]) (S := [.ref 69]) (L0 := [some (.int g)]) dX8_takesE_309 rfl km_X8_rank kk_X8_225 rfl ⟨rfl, by decide⟩ rfl (Nat.le_of_ble_eq_true rfl) (Nat.zero_add _) (Nat.zero_add _) rfl ?_
                refine m_rank ?_
                refine aw_re (S' := [.int (rkM g), .ref 69]) rfl ?_
                obtain ⟨o35u, a35u, F35u, ⟨vk35, m19_35, m20_35, m22_35, mc35, mw35, mq35⟩, ho35, ha35⟩ := id Hp152
                refine aw_callV (npc := 315) (N := mX8_settle) (b := 69) (mc := 0) (ms := 0) (A := [.int (rkM g)]) (S := []) (L0 := [some (.ref 69), some (.int (rkM g))]) dX8_takesE_312 rfl km_X8_settle kk_X8_237 F35u.1 ⟨by decide, rfl⟩ rfl ⟨rfl, by decide⟩ rfl (Nat.le_of_ble_eq_true rfl) (Nat.zero_add _) (Nat.zero_add _) rfl ?_
                refine m_settle (r := rkM g) ws cs _ Hp152 (by omega) (fun hp153 Hs154 fz155 => ?_)
                have fyfz155 : ∀ k, (k < 69 ∨ 92 ≤ k) → hp153 k = _ := fun k hk => fz155 k hk
                have hls := stl_len (r := rkM g) ws cs
                refine aw_aload_n (npc := 316) rfl dX8_takesE_315 rfl ?_
                obtain ⟨o36u, a36u, F36u, ⟨vk36, m19_36, m20_36, m22_36, mc36, mw36, mq36⟩, ho36, ha36⟩ := id Hs154
                refine aw_get (npc := 319) dX8_takesE_316 rfl kf_X8_42 F36u.1 rfl ?_
                refine aw_aload_n (npc := 320) rfl dX8_takesE_319 rfl ?_
                refine aw_get (npc := 323) dX8_takesE_320 rfl kf_X8_222 F36u.1 rfl ?_
                refine aw_top (y := nI ((stl (rkM g) cs ws).2).length) (m22_36) ?_
                refine aw_iload (npc := 325) rfl dX8_takesE_323 rfl ?_
                refine aw_iast (npc := 326) (j := (((stl (rkM g) cs ws).2).length)) dX8_takesE_325 rfl F36u.2.2.2.2.2.2.2.2.2.2.1 (am_ix_nI (by omega)) (by rw [tl_len]; omega) rfl ?_
                have F156 := mr_79 (j := (((stl (rkM g) cs ws).2).length)) (v := g) F36u
                refine aw_aload_n (npc := 327) rfl dX8_takesE_326 rfl ?_
                refine aw_dup (npc := 328) rfl dX8_takesE_327 rfl ?_
                refine aw_get (npc := 331) dX8_takesE_328 rfl kf_X8_222 F156.1 rfl ?_
                refine aw_top (y := nI ((stl (rkM g) cs ws).2).length) (m22_36) ?_
                refine aw_iconst (npc := 332) (v := 1) (by decide) dX8_takesE_331 rfl ?_
                refine aw_iaddV (npc := 333) (v := nI (((stl (rkM g) cs ws).2).length + 1)) dX8_takesE_332 rfl (nI_add _ 1) ?_
                refine aw_put (npc := 336) dX8_takesE_333 rfl kf_X8_222 F156.1 (Nat.le_of_ble_eq_true rfl) (am_ok_int _) rfl ?_
                have F157 := mr_o22 (v := nI (((stl (rkM g) cs ws).2).length + 1)) F156
                have Hp158 : EX (K, (stl (rkM g) cs ws).1, g :: (stl (rkM g) cs ws).2, at_, upd tq p 1) L o0 N a0 _ := ⟨_, _, F157, ⟨(vk_u (by decide) vk36), (((pk_un (by omega))).trans m19_36), (((pk_un (by omega))).trans m20_36), (pk_us), (fun j hj => (congrFun (aup_n (by decide)) j).trans (mc36 j hj)), (e_wait mw36), (fun j hj => (congrFun (aup_n (by decide)) j).trans (mq36 j hj))⟩, (fun k k1 k2 k3 k4 => (pk_un k4).trans (ho36 k k1 k2 k3 k4)), (fun k k1 k2 k3 => (aup_n k2).trans (ha36 k k1 k2 k3))⟩
                refine aw_iconst (npc := 337) (v := 1) (by decide) dX8_takesE_336 rfl ?_
                refine aw_istore_n (npc := 338) (L' := [some (.ref 69), some (.int (nI p)), some (.int (nI (nO ws))), some (.int 1), some (.int g)]) dX8_takesE_337 rfl (by decide) rfl rfl ?_
                refine aw_aload_n (npc := 339) rfl dX8_takesE_338 rfl ?_
                obtain ⟨o37u, a37u, F37u, ⟨vk37, m19_37, m20_37, m22_37, mc37, mw37, mq37⟩, ho37, ha37⟩ := id Hp158
                refine aw_callV (npc := 342) (N := mX8_go) (b := 69) (mc := 0) (ms := 0) (A := []) (S := []) (L0 := [some (.ref 69), none]) dX8_takesE_339 rfl km_X8_go kk_X8_219 F37u.1 ⟨by decide, rfl⟩ rfl ⟨rfl, by decide⟩ rfl (Nat.le_of_ble_eq_true rfl) (Nat.zero_add _) (Nat.zero_add _) rfl ?_
                refine m_goE Hp158 hL wk h9 (Or.inr (Or.inr hK3)) (fun hp159 Hg160 fz161 => ?_)
                have fyfz161 : ∀ k, (k < 69 ∨ 92 ≤ k) → hp159 k = _ := fun k hk => fz161 k hk
                refine aw_goto (npc := 28) dX8_takesE_342 (by decide) ?_
                refine ksg hK0 (fun z => absurd ((nI_leI (a := p) (b := 0) (by omega) (by omega)).mp hc110) (by have y := z.2.2; omega)) hc111 ?_ 1 ?_ _ _ Hg160 (am_fpT (fun k (hk : k < 69 ∨ 92 ≤ k) => fyfz161 k (by omega)) (am_fpU (show ¬ (69 < 69 ∨ 92 ≤ 69) by omega) (am_fpU (show ¬ (79 < 69 ∨ 92 ≤ 79) by omega) (am_fpT (fun k (hk : k < 69 ∨ 92 ≤ k) => fyfz155 k (by omega)) (am_fpU (show ¬ (80 < 69 ∨ 92 ≤ 80) by omega) am_fp0)))))
                · exact fun z => z.2 hc149
                · exact (if_pos (Or.inl hc112)).symm
              · refine aw_iconst (npc := 267) (v := 0) (by decide) dX8_takesE_266 rfl ?_
                refine aw_zret rfl rfl dX8_takesE_267 ?_
                exact kno hK0 (fun z => absurd ((nI_leI (a := p) (b := 0) (by omega) (by omega)).mp hc110) (by have y := z.2.2; omega)) (Or.inr ⟨hc112, hc149⟩)
        · have hc110N : ¬ p ≤ 0 := fun z9q => hc110 ((nI_leI (a := p) (b := 0) (by omega) (by omega)).mpr z9q)
          have hp0 : 0 < p := by
            rcases Nat.eq_zero_or_pos p with z | z
            · exact absurd (by rw [z]; decide) hc110
            · exact z
          refine aw_aload_n (npc := 202) rfl dX8_takesE_201 rfl ?_
          refine aw_iconst (npc := 203) (v := 0) (by decide) dX8_takesE_202 rfl ?_
          refine aw_callV (npc := 206) (N := mX8_settle) (b := 69) (mc := 0) (ms := 0) (A := [.int 0]) (S := []) (L0 := [some (.ref 69), some (.int 0)]) dX8_takesE_203 rfl km_X8_settle kk_X8_237 F1u.1 ⟨by decide, rfl⟩ rfl ⟨rfl, by decide⟩ rfl (Nat.le_of_ble_eq_true rfl) (Nat.zero_add _) (Nat.zero_add _) rfl ?_
          refine m_settle (r := 0) ws cs _ H (by omega) (fun hp162 Hs163 fz164 => ?_)
          have fyfz164 : ∀ k, (k < 69 ∨ 92 ≤ k) → hp162 k = _ := fun k hk => fz164 k hk
          obtain ⟨c1, w2, e0⟩ := hop hp0
          have Hs2 := ex_c (σ' := (K, c1, (-11) :: w2, at_, tq)) (by rw [e0]) Hs163
          have hl0 := stl_len (r := 0) ws cs
          rw [e0] at hl0
          have hl1 : c1.length + (w2.length + 1) = cs.length + ws.length := hl0
          obtain ⟨o38u, a38u, F38u, ⟨vk38, m19_38, m20_38, m22_38, mc38, mw38, mq38⟩, ho38, ha38⟩ := id Hs2
          refine aw_aload_n (npc := 207) rfl dX8_takesE_206 rfl ?_
          refine aw_dup (npc := 208) rfl dX8_takesE_207 rfl ?_
          refine aw_get (npc := 211) dX8_takesE_208 rfl kf_X8_222 F38u.1 rfl ?_
          refine aw_top (y := nI (w2.length + 1)) (m22_38) ?_
          refine aw_iconst (npc := 212) (v := 1) (by decide) dX8_takesE_211 rfl ?_
          refine aw_isubV (npc := 213) (v := nI w2.length) dX8_takesE_212 rfl (pk_sub (a := w2.length + 1) (b := 1) (by omega)) ?_
          refine aw_put (npc := 216) dX8_takesE_213 rfl kf_X8_222 F38u.1 (Nat.le_of_ble_eq_true rfl) (am_ok_int _) rfl ?_
          have F165 := mr_o22 (v := nI w2.length) F38u
          refine aw_iinc (npc := 219) (v := nI (p - 1)) (L' := [some (.ref 69), some (.int (nI (p - 1))), some (.int (nI (nO ws))), some (.int 0), v4]) dX8_takesE_216 rfl rfl (sb_m1 (by omega)) (by decide) rfl rfl ?_
          have Hp166 : EX (K, c1, w2, at_, tq) L o0 N a0 _ := ⟨_, _, F165, ⟨(vk_u (by decide) vk38), (((pk_un (by omega))).trans m19_38), (((pk_un (by omega))).trans m20_38), (pk_us), mc38, (fun j hj => (mw38 j (by have z : j < w2.length := hj; show j < w2.length + 1; omega)).trans (rev_low hj)), mq38⟩, (fun k k1 k2 k3 k4 => (pk_un k4).trans (ho38 k k1 k2 k3 k4)), (fun k k1 k2 k3 => ha38 k k1 k2 k3)⟩
          refine aw_aload_n (npc := 220) rfl dX8_takesE_219 rfl ?_
          refine aw_bipush (npc := 222) (v := 6) (by decide) dX8_takesE_220 rfl ?_
          obtain ⟨o39u, a39u, F39u, ⟨vk39, m19_39, m20_39, m22_39, mc39, mw39, mq39⟩, ho39, ha39⟩ := id Hp166
          refine aw_callV (npc := 225) (N := mX8_settle) (b := 69) (mc := 0) (ms := 0) (A := [.int 6]) (S := []) (L0 := [some (.ref 69), some (.int 6)]) dX8_takesE_222 rfl km_X8_settle kk_X8_237 F39u.1 ⟨by decide, rfl⟩ rfl ⟨rfl, by decide⟩ rfl (Nat.le_of_ble_eq_true rfl) (Nat.zero_add _) (Nat.zero_add _) rfl ?_
          refine m_settle (r := 6) w2 c1 _ Hp166 (by omega) (fun hp167 Hs168 fz169 => ?_)
          have fyfz169 : ∀ k, (k < 69 ∨ 92 ≤ k) → hp167 k = _ := fun k hk => fz169 k hk
          refine aw_aload_n (npc := 226) rfl dX8_takesE_225 rfl ?_
          obtain ⟨o40u, a40u, F40u, ⟨vk40, m19_40, m20_40, m22_40, mc40, mw40, mq40⟩, ho40, ha40⟩ := id Hs168
          refine aw_callV (npc := 229) (N := mX8_notsOpen) (b := 69) (mc := 0) (ms := 0) (A := []) (S := []) (L0 := [some (.ref 69), none, none]) dX8_takesE_226 rfl km_X8_notsOpen kk_X8_243 F40u.1 ⟨by decide, rfl⟩ rfl ⟨rfl, by decide⟩ rfl (Nat.le_of_ble_eq_true rfl) (Nat.zero_add _) (Nat.zero_add _) rfl ?_
          refine m_nots Hs168 (by have z := stl_len (r := 6) w2 c1; show (stl 6 c1 w2).2.length ≤ 96; omega) ?_
          refine aw_re (S' := [.int (nI (nO ((stl 6 c1 w2).2)))]) rfl ?_
          refine aw_istore_n (npc := 230) (L' := [some (.ref 69), some (.int (nI (p - 1))), some (.int (nI (nO ((stl 6 c1 w2).2)))), some (.int 0), v4]) dX8_takesE_229 rfl (by decide) rfl rfl ?_
          refine aw_aload_n (npc := 231) rfl dX8_takesE_230 rfl ?_
          refine aw_callV (npc := 234) (N := mX8_go) (b := 69) (mc := 0) (ms := 0) (A := []) (S := []) (L0 := [some (.ref 69), none]) dX8_takesE_231 rfl km_X8_go kk_X8_219 F40u.1 ⟨by decide, rfl⟩ rfl ⟨rfl, by decide⟩ rfl (Nat.le_of_ble_eq_true rfl) (Nat.zero_add _) (Nat.zero_add _) rfl ?_
          refine m_goE Hs168 hL wk h9 (Or.inr (Or.inr hK3)) (fun hp170 Hg171 fz172 => ?_)
          have fyfz172 : ∀ k, (k < 69 ∨ 92 ≤ k) → hp170 k = _ := fun k hk => fz172 k hk
          refine aw_goto (npc := 28) dX8_takesE_234 (by decide) ?_
          exact k41 hK0 ⟨hK3, hc58, hp0⟩ c1 w2 e0 _ _ Hg171 (am_fpT (fun k (hk : k < 69 ∨ 92 ≤ k) => fyfz172 k (by omega)) (am_fpT (fun k (hk : k < 69 ∨ 92 ≤ k) => fyfz169 k (by omega)) (am_fpU (show ¬ (69 < 69 ∨ 92 ≤ 69) by omega) (am_fpT (fun k (hk : k < 69 ∨ 92 ≤ k) => fyfz164 k (by omega)) am_fp0))))
