def mt (t : Nat) : Nat := if t = 5 then 4 else t
set_option maxHeartbeats 4000000 in
set_option maxRecDepth 100000 in
theorem m_isLetter {X : List Int32} {d rc rs n : Nat} {Q : am_Q} {L : Nat} {N : Nat → Int32} {a : Nat → Nat → Int32} {o : Nat → Int32} {h : am_H} (F : MR o N a h) (h9 : o 9 = nI L) (hL : L ≤ 96) {i : Nat} (hi : i ≤ L) (k1 : i < L ∧ so (a 75 i) = 1 → Q (some (.int 1)) n h) (k0 : ¬ (i < L ∧ so (a 75 i) = 1) → Q (some (.int 0)) n h) : AW X mX8_isLetter d rc rs 0 [some (.ref 69), some (.int (nI i))] [] n h Q := by
  refine aw_iload_n (npc := 1) rfl dX8_isLetter_0 rfl ?_
  refine aw_aload_n (npc := 2) rfl dX8_isLetter_1 rfl ?_
  refine aw_get (npc := 5) dX8_isLetter_2 rfl kf_X8_192 F.1 rfl ?_
  refine aw_top (y := nI L) (h9) ?_
  refine aw_icmp_ge (npc := 8) (tgt := 34) dX8_isLetter_5 rfl (by decide) (fun hc1 => ?_) (fun hc1 => ?_)
  · have hc1N := (nI_leI (a := L) (b := i) (by omega) (by omega)).mp hc1
    refine aw_iconst (npc := 35) (v := 0) (by decide) dX8_isLetter_34 rfl ?_
    refine aw_zret rfl rfl dX8_isLetter_35 ?_
    exact k0 (fun z => by have z1 := z.1; omega)
  · have hc1N : ¬ L ≤ i := fun z9q => hc1 ((nI_leI (a := L) (b := i) (by omega) (by omega)).mpr z9q)
    refine aw_aload_n (npc := 9) rfl dX8_isLetter_8 rfl ?_
    refine aw_get (npc := 12) dX8_isLetter_9 rfl kf_X8_29 F.1 rfl ?_
    refine aw_iload_n (npc := 13) rfl dX8_isLetter_12 rfl ?_
    refine aw_iald (npc := 14) (x := (a 75) i) (j := i) dX8_isLetter_13 rfl F.2.2.2.2.2.2.1 (am_ix_nI (by omega)) (tl_at (by omega)) ?_
    refine aw_bipush (npc := 16) (v := 97) (by decide) dX8_isLetter_14 rfl ?_
    refine aw_icmp_lt (npc := 19) (tgt := 34) dX8_isLetter_16 rfl (by decide) (fun hc2 => ?_) (fun hc2 => ?_)
    · refine aw_iconst (npc := 35) (v := 0) (by decide) dX8_isLetter_34 rfl ?_
      refine aw_zret rfl rfl dX8_isLetter_35 ?_
      exact k0 (fun z => absurd hc2 (Int32.not_lt.mpr (so_1.mp z.2).1))
    · refine aw_aload_n (npc := 20) rfl dX8_isLetter_19 rfl ?_
      refine aw_get (npc := 23) dX8_isLetter_20 rfl kf_X8_29 F.1 rfl ?_
      refine aw_iload_n (npc := 24) rfl dX8_isLetter_23 rfl ?_
      refine aw_iald (npc := 25) (x := (a 75) i) (j := i) dX8_isLetter_24 rfl F.2.2.2.2.2.2.1 (am_ix_nI (by omega)) (tl_at (by omega)) ?_
      refine aw_bipush (npc := 27) (v := 122) (by decide) dX8_isLetter_25 rfl ?_
      refine aw_icmp_gt (npc := 30) (tgt := 34) dX8_isLetter_27 rfl (by decide) (fun hc3 => ?_) (fun hc3 => ?_)
      · refine aw_iconst (npc := 35) (v := 0) (by decide) dX8_isLetter_34 rfl ?_
        refine aw_zret rfl rfl dX8_isLetter_35 ?_
        exact k0 (fun z => absurd hc3 (Int32.not_lt.mpr (so_1.mp z.2).2))
      · refine aw_iconst (npc := 31) (v := 1) (by decide) dX8_isLetter_30 rfl ?_
        refine aw_goto (npc := 35) dX8_isLetter_31 (by decide) ?_
        refine aw_zret rfl rfl dX8_isLetter_35 ?_
        exact k1 ⟨by omega, so_1.mpr ⟨Int32.not_lt.mp hc2, Int32.not_lt.mp hc3⟩⟩
theorem so_f2 {b : Int32} (h1 : 48 ≤ b) (h2 : b ≤ 57) : so b = 2 := by
  have h3 : ¬ (97 ≤ b ∧ b ≤ 122) := fun q => absurd (Int32.le_trans q.1 h2) (by decide)
  exact (so_2 h3).mpr ⟨h1, h2⟩
set_option maxHeartbeats 4000000 in
set_option maxRecDepth 100000 in
theorem m_isFigure {X : List Int32} {d rc rs n : Nat} {Q : am_Q} {L : Nat} {N : Nat → Int32} {a : Nat → Nat → Int32} {o : Nat → Int32} {h : am_H} (F : MR o N a h) (h9 : o 9 = nI L) (hL : L ≤ 96) {i : Nat} (hi : i ≤ L) (k1 : i < L ∧ so (a 75 i) = 2 → Q (some (.int 1)) n h) (k0 : ¬ (i < L ∧ so (a 75 i) = 2) → Q (some (.int 0)) n h) : AW X mX8_isFigure d rc rs 0 [some (.ref 69), some (.int (nI i))] [] n h Q := by
  refine aw_iload_n (npc := 1) rfl dX8_isFigure_0 rfl ?_
  refine aw_aload_n (npc := 2) rfl dX8_isFigure_1 rfl ?_
  refine aw_get (npc := 5) dX8_isFigure_2 rfl kf_X8_192 F.1 rfl ?_
  refine aw_top (y := nI L) (h9) ?_
  refine aw_icmp_ge (npc := 8) (tgt := 34) dX8_isFigure_5 rfl (by decide) (fun hc1 => ?_) (fun hc1 => ?_)
  · have hc1N := (nI_leI (a := L) (b := i) (by omega) (by omega)).mp hc1
    refine aw_iconst (npc := 35) (v := 0) (by decide) dX8_isFigure_34 rfl ?_
    refine aw_zret rfl rfl dX8_isFigure_35 ?_
    exact k0 (fun z => by have z1 := z.1; omega)
  · have hc1N : ¬ L ≤ i := fun z9q => hc1 ((nI_leI (a := L) (b := i) (by omega) (by omega)).mpr z9q)
    refine aw_aload_n (npc := 9) rfl dX8_isFigure_8 rfl ?_
    refine aw_get (npc := 12) dX8_isFigure_9 rfl kf_X8_29 F.1 rfl ?_
    refine aw_iload_n (npc := 13) rfl dX8_isFigure_12 rfl ?_
    refine aw_iald (npc := 14) (x := (a 75) i) (j := i) dX8_isFigure_13 rfl F.2.2.2.2.2.2.1 (am_ix_nI (by omega)) (tl_at (by omega)) ?_
    refine aw_bipush (npc := 16) (v := 48) (by decide) dX8_isFigure_14 rfl ?_
    refine aw_icmp_lt (npc := 19) (tgt := 34) dX8_isFigure_16 rfl (by decide) (fun hc2 => ?_) (fun hc2 => ?_)
    · refine aw_iconst (npc := 35) (v := 0) (by decide) dX8_isFigure_34 rfl ?_
      refine aw_zret rfl rfl dX8_isFigure_35 ?_
      exact k0 (fun z => absurd hc2 (Int32.not_lt.mpr (so_2d z.2).1))
    · refine aw_aload_n (npc := 20) rfl dX8_isFigure_19 rfl ?_
      refine aw_get (npc := 23) dX8_isFigure_20 rfl kf_X8_29 F.1 rfl ?_
      refine aw_iload_n (npc := 24) rfl dX8_isFigure_23 rfl ?_
      refine aw_iald (npc := 25) (x := (a 75) i) (j := i) dX8_isFigure_24 rfl F.2.2.2.2.2.2.1 (am_ix_nI (by omega)) (tl_at (by omega)) ?_
      refine aw_bipush (npc := 27) (v := 57) (by decide) dX8_isFigure_25 rfl ?_
      refine aw_icmp_gt (npc := 30) (tgt := 34) dX8_isFigure_27 rfl (by decide) (fun hc3 => ?_) (fun hc3 => ?_)
      · refine aw_iconst (npc := 35) (v := 0) (by decide) dX8_isFigure_34 rfl ?_
        refine aw_zret rfl rfl dX8_isFigure_35 ?_
        exact k0 (fun z => absurd hc3 (Int32.not_lt.mpr (so_2d z.2).2))
      · refine aw_iconst (npc := 31) (v := 1) (by decide) dX8_isFigure_30 rfl ?_
        refine aw_goto (npc := 35) dX8_isFigure_31 (by decide) ?_
        refine aw_zret rfl rfl dX8_isFigure_35 ?_
        exact k1 ⟨by omega, so_f2 (Int32.not_lt.mp hc2) (Int32.not_lt.mp hc3)⟩
set_option maxHeartbeats 4000000 in
set_option maxRecDepth 100000 in
theorem m_bl {X : List Int32} {d rc rs n : Nat} {Q : am_Q} {L : Nat} {N : Nat → Int32} {a : Nat → Nat → Int32} (hL : L ≤ 96) {v1 : Option Value} : ∀ (m i : Nat), i + m = L → ∀ (o : Nat → Int32) (h : am_H), MR o N a h → o 9 = nI L → o 10 = nI i → (∀ o9 h9x, o9 10 = nI (sk L (a 75) i) → (∀ k, k ≠ 10 → o9 k = o k) → MR o9 N a h9x → am_fp (fun k => k < 69 ∨ 92 ≤ k) h9x h → AW X mX8_go (d + 2) rc rs 38 [some (.ref 69), v1] [] n h9x Q) → AW X mX8_go (d + 2) rc rs 0 [some (.ref 69), v1] [] n h Q := by
  intro m
  induction m with
  | zero =>
    intro i hi o h F h9 h10 hq
    refine aw_aload_n (npc := 1) rfl dX8_go_0 rfl ?_
    refine aw_get (npc := 4) dX8_go_1 rfl kf_X8_195 F.1 rfl ?_
    refine aw_top (y := nI i) (h10) ?_
    refine aw_aload_n (npc := 5) rfl dX8_go_4 rfl ?_
    refine aw_get (npc := 8) dX8_go_5 rfl kf_X8_192 F.1 rfl ?_
    refine aw_top (y := nI L) (h9) ?_
    refine aw_icmp_ge (npc := 11) (tgt := 38) dX8_go_8 rfl (by decide) (fun _ => ?_) (fun hc => absurd (nI_le (a := L) (b := i) (by omega) (by omega)) hc)
    exact hq o h (h10.trans (congrArg nI (sk_e (Or.inl (by omega))).symm)) (fun _ _ => rfl) F am_fp0
  | succ m ih =>
    intro i hi o h F h9 h10 hq
    refine aw_aload_n (npc := 1) rfl dX8_go_0 rfl ?_
    refine aw_get (npc := 4) dX8_go_1 rfl kf_X8_195 F.1 rfl ?_
    refine aw_top (y := nI i) (h10) ?_
    refine aw_aload_n (npc := 5) rfl dX8_go_4 rfl ?_
    refine aw_get (npc := 8) dX8_go_5 rfl kf_X8_192 F.1 rfl ?_
    refine aw_top (y := nI L) (h9) ?_
    refine aw_icmp_ge (npc := 11) (tgt := 38) dX8_go_8 rfl (by decide) (fun hc => absurd hc (nI_ge (a := i) (b := L) (by omega) (by omega))) (fun _ => ?_)
    refine aw_aload_n (npc := 12) rfl dX8_go_11 rfl ?_
    refine aw_get (npc := 15) dX8_go_12 rfl kf_X8_29 F.1 rfl ?_
    refine aw_aload_n (npc := 16) rfl dX8_go_15 rfl ?_
    refine aw_get (npc := 19) dX8_go_16 rfl kf_X8_195 F.1 rfl ?_
    refine aw_top (y := nI i) (h10) ?_
    refine aw_iald (npc := 20) (x := (a 75) i) (j := i) dX8_go_19 rfl F.2.2.2.2.2.2.1 (am_ix_nI (by omega)) (tl_at (by omega)) ?_
    refine aw_bipush (npc := 22) (v := 32) (by decide) dX8_go_20 rfl ?_
    refine aw_icmp_ne (npc := 25) (tgt := 38) dX8_go_22 rfl (by decide) (fun hc2 => ?_) (fun hc2 => ?_)
    · exact hq o h (h10.trans (congrArg nI (sk_e (Or.inr hc2)).symm)) (fun _ _ => rfl) F am_fp0
    · refine aw_aload_n (npc := 26) rfl dX8_go_25 rfl ?_
      refine aw_dup (npc := 27) rfl dX8_go_26 rfl ?_
      refine aw_get (npc := 30) dX8_go_27 rfl kf_X8_195 F.1 rfl ?_
      refine aw_top (y := nI i) (h10) ?_
      refine aw_iconst (npc := 31) (v := 1) (by decide) dX8_go_30 rfl ?_
      refine aw_iaddV (npc := 32) (v := nI (i + 1)) dX8_go_31 rfl (nI_add _ 1) ?_
      refine aw_put (npc := 35) dX8_go_32 rfl kf_X8_195 F.1 (Nat.le_of_ble_eq_true rfl) (am_ok_int _) rfl ?_
      have F3 := mr_o10 (v := nI (i + 1)) F
      refine aw_goto (npc := 0) dX8_go_35 (by decide) ?_
      refine ih (i + 1) (by omega) _ _ F3 ((pk_un (by decide)).trans h9) pk_us (fun o9 h9x q1 q2 F9 f9 => hq o9 h9x (q1.trans ?_) (fun k hk => (q2 k hk).trans (pk_un hk)) F9 (am_fpT f9 (am_fpU (show ¬ (69 < 69 ∨ 92 ≤ 69) by omega) am_fp0)))
      exact congrArg nI (sk_s (by omega) hc2).symm
set_option maxHeartbeats 4000000 in
set_option maxRecDepth 100000 in
theorem m_wl {X : List Int32} {d rc rs n : Nat} {Q : am_Q} {L : Nat} {N : Nat → Int32} {a : Nat → Nat → Int32} (hL : L ≤ 96) {w1 : Int32} : ∀ (m i : Nat), i + m = L → ∀ (o : Nat → Int32) (h : am_H), MR o N a h → o 9 = nI L → o 10 = nI i → (∀ o9 h9x, o9 10 = nI (rn L (a 75) 1 i) → (∀ k, k ≠ 10 → o9 k = o k) → MR o9 N a h9x → am_fp (fun k => k < 69 ∨ 92 ≤ k) h9x h → AW X mX8_go (d + 2) rc rs 117 [some (.ref 69), some (.int w1)] [] n h9x Q) → AW X mX8_go (d + 2) rc rs 93 [some (.ref 69), some (.int w1)] [] n h Q := by
  intro m
  induction m with
  | zero =>
    intro i hi o h F h9 h10 hq
    refine aw_aload_n (npc := 94) rfl dX8_go_93 rfl ?_
    refine aw_aload_n (npc := 95) rfl dX8_go_94 rfl ?_
    refine aw_get (npc := 98) dX8_go_95 rfl kf_X8_195 F.1 rfl ?_
    refine aw_top (y := nI i) (h10) ?_
    refine aw_callV (npc := 101) (N := mX8_isLetter) (b := 69) (mc := 0) (ms := 0) (A := [.int (nI i)]) (S := []) (L0 := [some (.ref 69), some (.int (nI i))]) dX8_go_98 rfl km_X8_isLetter kk_X8_207 F.1 ⟨by decide, rfl⟩ rfl ⟨rfl, by decide⟩ rfl (Nat.le_of_ble_eq_true rfl) (Nat.zero_add _) (Nat.zero_add _) rfl ?_
    refine m_isLetter (L := L) (i := i) F h9 hL (by omega) (fun hs1 => ?_) (fun hs1 => ?_)
    · refine aw_re (S' := [.int 1]) rfl ?_
      refine aw_if_eq (npc := 104) (tgt := 117) dX8_go_101 rfl (by decide) (fun hc => absurd hc (by decide)) (fun _ => ?_)
      refine aw_aload_n (npc := 105) rfl dX8_go_104 rfl ?_
      refine aw_dup (npc := 106) rfl dX8_go_105 rfl ?_
      refine aw_get (npc := 109) dX8_go_106 rfl kf_X8_195 F.1 rfl ?_
      refine aw_top (y := nI i) (h10) ?_
      refine aw_iconst (npc := 110) (v := 1) (by decide) dX8_go_109 rfl ?_
      refine aw_iaddV (npc := 111) (v := nI (i + 1)) dX8_go_110 rfl (nI_add _ 1) ?_
      refine aw_put (npc := 114) dX8_go_111 rfl kf_X8_195 F.1 (Nat.le_of_ble_eq_true rfl) (am_ok_int _) rfl ?_
      have F2 := mr_o10 (v := nI (i + 1)) F
      refine aw_goto (npc := 93) dX8_go_114 (by decide) ?_
      refine ih (i + 1) (by omega) _ _ F2 ((pk_un (by decide)).trans h9) pk_us (fun o9 h9x q1 q2 F9 f9 => hq o9 h9x (q1.trans ?_) (fun k hk => (q2 k hk).trans (pk_un hk)) F9 (am_fpT f9 (am_fpU (show ¬ (69 < 69 ∨ 92 ≤ 69) by omega) am_fp0)))
      exact congrArg nI (rn_s hs1.1 hs1.2).symm
    · refine aw_re (S' := [.int 0]) rfl ?_
      refine aw_if_eq (npc := 104) (tgt := 117) dX8_go_101 rfl (by decide) (fun _ => ?_) (fun hc => absurd (by decide) hc)
      exact hq o h (h10.trans (congrArg nI (rn_e (t := 1) (by have z := hs1; omega)).symm)) (fun _ _ => rfl) F am_fp0
  | succ m ih =>
    intro i hi o h F h9 h10 hq
    refine aw_aload_n (npc := 94) rfl dX8_go_93 rfl ?_
    refine aw_aload_n (npc := 95) rfl dX8_go_94 rfl ?_
    refine aw_get (npc := 98) dX8_go_95 rfl kf_X8_195 F.1 rfl ?_
    refine aw_top (y := nI i) (h10) ?_
    refine aw_callV (npc := 101) (N := mX8_isLetter) (b := 69) (mc := 0) (ms := 0) (A := [.int (nI i)]) (S := []) (L0 := [some (.ref 69), some (.int (nI i))]) dX8_go_98 rfl km_X8_isLetter kk_X8_207 F.1 ⟨by decide, rfl⟩ rfl ⟨rfl, by decide⟩ rfl (Nat.le_of_ble_eq_true rfl) (Nat.zero_add _) (Nat.zero_add _) rfl ?_
    refine m_isLetter (L := L) (i := i) F h9 hL (by omega) (fun hs1 => ?_) (fun hs1 => ?_)
    · refine aw_re (S' := [.int 1]) rfl ?_
      refine aw_if_eq (npc := 104) (tgt := 117) dX8_go_101 rfl (by decide) (fun hc => absurd hc (by decide)) (fun _ => ?_)
      refine aw_aload_n (npc := 105) rfl dX8_go_104 rfl ?_
      refine aw_dup (npc := 106) rfl dX8_go_105 rfl ?_
      refine aw_get (npc := 109) dX8_go_106 rfl kf_X8_195 F.1 rfl ?_
      refine aw_top (y := nI i) (h10) ?_
      refine aw_iconst (npc := 110) (v := 1) (by decide) dX8_go_109 rfl ?_
      refine aw_iaddV (npc := 111) (v := nI (i + 1)) dX8_go_110 rfl (nI_add _ 1) ?_
      refine aw_put (npc := 114) dX8_go_111 rfl kf_X8_195 F.1 (Nat.le_of_ble_eq_true rfl) (am_ok_int _) rfl ?_
      have F2 := mr_o10 (v := nI (i + 1)) F
      refine aw_goto (npc := 93) dX8_go_114 (by decide) ?_
      refine ih (i + 1) (by omega) _ _ F2 ((pk_un (by decide)).trans h9) pk_us (fun o9 h9x q1 q2 F9 f9 => hq o9 h9x (q1.trans ?_) (fun k hk => (q2 k hk).trans (pk_un hk)) F9 (am_fpT f9 (am_fpU (show ¬ (69 < 69 ∨ 92 ≤ 69) by omega) am_fp0)))
      exact congrArg nI (rn_s hs1.1 hs1.2).symm
    · refine aw_re (S' := [.int 0]) rfl ?_
      refine aw_if_eq (npc := 104) (tgt := 117) dX8_go_101 rfl (by decide) (fun _ => ?_) (fun hc => absurd (by decide) hc)
      exact hq o h (h10.trans (congrArg nI (rn_e (t := 1) (by have z := hs1; omega)).symm)) (fun _ _ => rfl) F am_fp0
theorem nu_s {tp : Nat → Int32} : ∀ (m i : Nat) (s : Int32), nuV tp (m + 1) i s = nuV tp m i s * 10 + tp (i + m) - 48 := by
  intro m
  induction m with
  | zero => intro i s; rfl
  | succ m ih =>
    intro i s
    show nuV tp (m + 1) (i + 1) _ = nuV tp m (i + 1) _ * 10 + tp (i + (m + 1)) - 48
    rw [ih, show i + 1 + m = i + (m + 1) by omega]
theorem nu_a {tp : Nat → Int32} {f i : Nat} {v : Int32} (hf : f ≤ i) (h : v = nuV tp (i - f) f 0) : 10 * v + tp i - 48 = nuV tp (i + 1 - f) f 0 := by
  rw [show i + 1 - f = (i - f) + 1 by omega, nu_s, ← h, show f + (i - f) = i by omega, Int32.mul_comm]
def nfV (tp : Nat → Int32) (f i : Nat) (v : Int32) : Prop := i ≤ f + 4 → v = nuV tp (i - f) f 0
set_option maxHeartbeats 4000000 in
set_option maxRecDepth 100000 in
theorem m_fl {X : List Int32} {d rc rs n : Nat} {Q : am_Q} {L : Nat} {N : Nat → Int32} {a : Nat → Nat → Int32} (hL : L ≤ 96) {w1 : Int32} {f : Nat} : ∀ (m i : Nat), i + m = L → ∀ (o : Nat → Int32) (h : am_H), MR o N a h → o 9 = nI L → o 10 = nI i → o 11 = nI f → nfV (a 75) f i (o 13) → f ≤ i → (∀ o9 h9x, o9 10 = nI (rn L (a 75) 2 i) → (∀ k, k ≠ 10 → k ≠ 13 → o9 k = o k) → MR o9 N a h9x → am_fp (fun k => k < 69 ∨ 92 ≤ k) h9x h → nfV (a 75) f (rn L (a 75) 2 i) (o9 13) → AW X mX8_go (d + 2) rc rs 238 [some (.ref 69), some (.int w1)] [] n h9x Q) → AW X mX8_go (d + 2) rc rs 170 [some (.ref 69), some (.int w1)] [] n h Q := by
  intro m
  induction m with
  | zero =>
    intro i hi o h F h9 h10 h11 hv hfi hq
    refine aw_aload_n (npc := 171) rfl dX8_go_170 rfl ?_
    refine aw_aload_n (npc := 172) rfl dX8_go_171 rfl ?_
    refine aw_get (npc := 175) dX8_go_172 rfl kf_X8_195 F.1 rfl ?_
    refine aw_top (y := nI i) (h10) ?_
    refine aw_callV (npc := 178) (N := mX8_isFigure) (b := 69) (mc := 0) (ms := 0) (A := [.int (nI i)]) (S := []) (L0 := [some (.ref 69), some (.int (nI i))]) dX8_go_175 rfl km_X8_isFigure kk_X8_213 F.1 ⟨by decide, rfl⟩ rfl ⟨rfl, by decide⟩ rfl (Nat.le_of_ble_eq_true rfl) (Nat.zero_add _) (Nat.zero_add _) rfl ?_
    refine m_isFigure (L := L) (i := i) F h9 hL (by omega) (fun hs1 => ?_) (fun hs1 => ?_)
    · refine aw_re (S' := [.int 1]) rfl ?_
      refine aw_if_eq (npc := 181) (tgt := 238) dX8_go_178 rfl (by decide) (fun hc => absurd hc (by decide)) (fun _ => ?_)
      refine aw_aload_n (npc := 182) rfl dX8_go_181 rfl ?_
      refine aw_aload_n (npc := 183) rfl dX8_go_182 rfl ?_
      refine aw_get (npc := 186) dX8_go_183 rfl kf_X8_195 F.1 rfl ?_
      refine aw_top (y := nI i) (h10) ?_
      refine aw_aload_n (npc := 187) rfl dX8_go_186 rfl ?_
      refine aw_get (npc := 190) dX8_go_187 rfl kf_X8_198 F.1 rfl ?_
      refine aw_top (y := nI f) (h11) ?_
      refine aw_isubV (npc := 191) (v := nI (i - f)) dX8_go_190 rfl (pk_sub (by omega)) ?_
      refine aw_iconst (npc := 192) (v := 4) (by decide) dX8_go_191 rfl ?_
      refine aw_icmp_ge (npc := 195) (tgt := 218) dX8_go_192 rfl (by decide) (fun hc2 => ?_) (fun hc2 => ?_)
      · have hc2N := (nI_leI (a := 4) (b := (i - f)) (by omega) (by omega)).mp hc2
        refine aw_aload_n (npc := 219) rfl dX8_go_218 rfl ?_
        refine aw_get (npc := 222) dX8_go_219 rfl kf_X8_210 F.1 rfl ?_
        refine aw_put (npc := 225) dX8_go_222 rfl kf_X8_210 F.1 (Nat.le_of_ble_eq_true rfl) (am_ok_int _) rfl ?_
        have F3 := mr_o13 (v := o 13) F
        refine aw_aload_n (npc := 226) rfl dX8_go_225 rfl ?_
        refine aw_dup (npc := 227) rfl dX8_go_226 rfl ?_
        refine aw_get (npc := 230) dX8_go_227 rfl kf_X8_195 F3.1 rfl ?_
        refine aw_top (y := o 10) ((pk_un (by omega))) ?_
        refine aw_top (y := nI i) (h10) ?_
        refine aw_iconst (npc := 231) (v := 1) (by decide) dX8_go_230 rfl ?_
        refine aw_iaddV (npc := 232) (v := nI (i + 1)) dX8_go_231 rfl (nI_add _ 1) ?_
        refine aw_put (npc := 235) dX8_go_232 rfl kf_X8_195 F3.1 (Nat.le_of_ble_eq_true rfl) (am_ok_int _) rfl ?_
        have F4 := mr_o10 (v := nI (i + 1)) F3
        refine aw_goto (npc := 170) dX8_go_235 (by decide) ?_
        refine ih (i + 1) (by omega) _ _ F4 ((pk_un (by decide)).trans ((pk_un (by decide)).trans h9)) pk_us ((pk_un (by decide)).trans ((pk_un (by decide)).trans h11)) (fun z => absurd z (by omega)) (by omega) (fun o9 h9x q1 q2 F9 f9 v9 => hq o9 h9x (q1.trans ?_) (fun k hk hk3 => (q2 k hk hk3).trans ((pk_un hk).trans (pk_un hk3))) F9 (am_fpT f9 (am_fpU (show ¬ (69 < 69 ∨ 92 ≤ 69) by omega) (am_fpU (show ¬ (69 < 69 ∨ 92 ≤ 69) by omega) am_fp0))) ?_)
        · exact congrArg nI (rn_s hs1.1 hs1.2).symm
        · exact ((rn_s hs1.1 hs1.2).symm) ▸ v9
      · have hc2N : ¬ 4 ≤ (i - f) := fun z9q => hc2 ((nI_leI (a := 4) (b := (i - f)) (by omega) (by omega)).mpr z9q)
        refine aw_bipush (npc := 197) (v := 10) (by decide) dX8_go_195 rfl ?_
        refine aw_aload_n (npc := 198) rfl dX8_go_197 rfl ?_
        refine aw_get (npc := 201) dX8_go_198 rfl kf_X8_210 F.1 rfl ?_
        refine aw_imul (npc := 202) dX8_go_201 rfl ?_
        refine aw_aload_n (npc := 203) rfl dX8_go_202 rfl ?_
        refine aw_get (npc := 206) dX8_go_203 rfl kf_X8_29 F.1 rfl ?_
        refine aw_aload_n (npc := 207) rfl dX8_go_206 rfl ?_
        refine aw_get (npc := 210) dX8_go_207 rfl kf_X8_195 F.1 rfl ?_
        refine aw_top (y := nI i) (h10) ?_
        refine aw_iald (npc := 211) (x := (a 75) i) (j := i) dX8_go_210 rfl F.2.2.2.2.2.2.1 (am_ix_nI (by omega)) (tl_at (by omega)) ?_
        refine aw_iadd (npc := 212) dX8_go_211 rfl ?_
        refine aw_bipush (npc := 214) (v := 48) (by decide) dX8_go_212 rfl ?_
        refine aw_isub (npc := 215) dX8_go_214 rfl ?_
        refine aw_goto (npc := 222) dX8_go_215 (by decide) ?_
        refine aw_put (npc := 225) dX8_go_222 rfl kf_X8_210 F.1 (Nat.le_of_ble_eq_true rfl) (am_ok_int _) rfl ?_
        have F5 := mr_o13 (v := ((10 * (o 13)) + ((a 75) i)) - 48) F
        refine aw_aload_n (npc := 226) rfl dX8_go_225 rfl ?_
        refine aw_dup (npc := 227) rfl dX8_go_226 rfl ?_
        refine aw_get (npc := 230) dX8_go_227 rfl kf_X8_195 F5.1 rfl ?_
        refine aw_top (y := o 10) ((pk_un (by omega))) ?_
        refine aw_top (y := nI i) (h10) ?_
        refine aw_iconst (npc := 231) (v := 1) (by decide) dX8_go_230 rfl ?_
        refine aw_iaddV (npc := 232) (v := nI (i + 1)) dX8_go_231 rfl (nI_add _ 1) ?_
        refine aw_put (npc := 235) dX8_go_232 rfl kf_X8_195 F5.1 (Nat.le_of_ble_eq_true rfl) (am_ok_int _) rfl ?_
        have F6 := mr_o10 (v := nI (i + 1)) F5
        refine aw_goto (npc := 170) dX8_go_235 (by decide) ?_
        refine ih (i + 1) (by omega) _ _ F6 ((pk_un (by decide)).trans ((pk_un (by decide)).trans h9)) pk_us ((pk_un (by decide)).trans ((pk_un (by decide)).trans h11)) (fun z => ((pk_un (by decide)).trans pk_us).trans (nu_a hfi (hv (by omega)))) (by omega) (fun o9 h9x q1 q2 F9 f9 v9 => hq o9 h9x (q1.trans ?_) (fun k hk hk3 => (q2 k hk hk3).trans ((pk_un hk).trans (pk_un hk3))) F9 (am_fpT f9 (am_fpU (show ¬ (69 < 69 ∨ 92 ≤ 69) by omega) (am_fpU (show ¬ (69 < 69 ∨ 92 ≤ 69) by omega) am_fp0))) ?_)
        · exact congrArg nI (rn_s hs1.1 hs1.2).symm
        · exact ((rn_s hs1.1 hs1.2).symm) ▸ v9
    · refine aw_re (S' := [.int 0]) rfl ?_
      refine aw_if_eq (npc := 181) (tgt := 238) dX8_go_178 rfl (by decide) (fun _ => ?_) (fun hc => absurd (by decide) hc)
      exact hq o h (h10.trans (congrArg nI (rn_e (t := 2) (by have z := hs1; omega)).symm)) (fun _ _ _ => rfl) F am_fp0 ((rn_e (t := 2) (by have z := hs1; omega)).symm ▸ hv)
  | succ m ih =>
    intro i hi o h F h9 h10 h11 hv hfi hq
    refine aw_aload_n (npc := 171) rfl dX8_go_170 rfl ?_
    refine aw_aload_n (npc := 172) rfl dX8_go_171 rfl ?_
    refine aw_get (npc := 175) dX8_go_172 rfl kf_X8_195 F.1 rfl ?_
    refine aw_top (y := nI i) (h10) ?_
    refine aw_callV (npc := 178) (N := mX8_isFigure) (b := 69) (mc := 0) (ms := 0) (A := [.int (nI i)]) (S := []) (L0 := [some (.ref 69), some (.int (nI i))]) dX8_go_175 rfl km_X8_isFigure kk_X8_213 F.1 ⟨by decide, rfl⟩ rfl ⟨rfl, by decide⟩ rfl (Nat.le_of_ble_eq_true rfl) (Nat.zero_add _) (Nat.zero_add _) rfl ?_
    refine m_isFigure (L := L) (i := i) F h9 hL (by omega) (fun hs1 => ?_) (fun hs1 => ?_)
    · refine aw_re (S' := [.int 1]) rfl ?_
      refine aw_if_eq (npc := 181) (tgt := 238) dX8_go_178 rfl (by decide) (fun hc => absurd hc (by decide)) (fun _ => ?_)
      refine aw_aload_n (npc := 182) rfl dX8_go_181 rfl ?_
      refine aw_aload_n (npc := 183) rfl dX8_go_182 rfl ?_
      refine aw_get (npc := 186) dX8_go_183 rfl kf_X8_195 F.1 rfl ?_
      refine aw_top (y := nI i) (h10) ?_
      refine aw_aload_n (npc := 187) rfl dX8_go_186 rfl ?_
      refine aw_get (npc := 190) dX8_go_187 rfl kf_X8_198 F.1 rfl ?_
      refine aw_top (y := nI f) (h11) ?_
      refine aw_isubV (npc := 191) (v := nI (i - f)) dX8_go_190 rfl (pk_sub (by omega)) ?_
      refine aw_iconst (npc := 192) (v := 4) (by decide) dX8_go_191 rfl ?_
      refine aw_icmp_ge (npc := 195) (tgt := 218) dX8_go_192 rfl (by decide) (fun hc2 => ?_) (fun hc2 => ?_)
      · have hc2N := (nI_leI (a := 4) (b := (i - f)) (by omega) (by omega)).mp hc2
        refine aw_aload_n (npc := 219) rfl dX8_go_218 rfl ?_
        refine aw_get (npc := 222) dX8_go_219 rfl kf_X8_210 F.1 rfl ?_
        refine aw_put (npc := 225) dX8_go_222 rfl kf_X8_210 F.1 (Nat.le_of_ble_eq_true rfl) (am_ok_int _) rfl ?_
        have F3 := mr_o13 (v := o 13) F
        refine aw_aload_n (npc := 226) rfl dX8_go_225 rfl ?_
        refine aw_dup (npc := 227) rfl dX8_go_226 rfl ?_
        refine aw_get (npc := 230) dX8_go_227 rfl kf_X8_195 F3.1 rfl ?_
        refine aw_top (y := o 10) ((pk_un (by omega))) ?_
        refine aw_top (y := nI i) (h10) ?_
        refine aw_iconst (npc := 231) (v := 1) (by decide) dX8_go_230 rfl ?_
        refine aw_iaddV (npc := 232) (v := nI (i + 1)) dX8_go_231 rfl (nI_add _ 1) ?_
        refine aw_put (npc := 235) dX8_go_232 rfl kf_X8_195 F3.1 (Nat.le_of_ble_eq_true rfl) (am_ok_int _) rfl ?_
        have F4 := mr_o10 (v := nI (i + 1)) F3
        refine aw_goto (npc := 170) dX8_go_235 (by decide) ?_
        refine ih (i + 1) (by omega) _ _ F4 ((pk_un (by decide)).trans ((pk_un (by decide)).trans h9)) pk_us ((pk_un (by decide)).trans ((pk_un (by decide)).trans h11)) (fun z => absurd z (by omega)) (by omega) (fun o9 h9x q1 q2 F9 f9 v9 => hq o9 h9x (q1.trans ?_) (fun k hk hk3 => (q2 k hk hk3).trans ((pk_un hk).trans (pk_un hk3))) F9 (am_fpT f9 (am_fpU (show ¬ (69 < 69 ∨ 92 ≤ 69) by omega) (am_fpU (show ¬ (69 < 69 ∨ 92 ≤ 69) by omega) am_fp0))) ?_)
        · exact congrArg nI (rn_s hs1.1 hs1.2).symm
        · exact ((rn_s hs1.1 hs1.2).symm) ▸ v9
      · have hc2N : ¬ 4 ≤ (i - f) := fun z9q => hc2 ((nI_leI (a := 4) (b := (i - f)) (by omega) (by omega)).mpr z9q)
        refine aw_bipush (npc := 197) (v := 10) (by decide) dX8_go_195 rfl ?_
        refine aw_aload_n (npc := 198) rfl dX8_go_197 rfl ?_
        refine aw_get (npc := 201) dX8_go_198 rfl kf_X8_210 F.1 rfl ?_
        refine aw_imul (npc := 202) dX8_go_201 rfl ?_
        refine aw_aload_n (npc := 203) rfl dX8_go_202 rfl ?_
        refine aw_get (npc := 206) dX8_go_203 rfl kf_X8_29 F.1 rfl ?_
        refine aw_aload_n (npc := 207) rfl dX8_go_206 rfl ?_
        refine aw_get (npc := 210) dX8_go_207 rfl kf_X8_195 F.1 rfl ?_
        refine aw_top (y := nI i) (h10) ?_
        refine aw_iald (npc := 211) (x := (a 75) i) (j := i) dX8_go_210 rfl F.2.2.2.2.2.2.1 (am_ix_nI (by omega)) (tl_at (by omega)) ?_
        refine aw_iadd (npc := 212) dX8_go_211 rfl ?_
        refine aw_bipush (npc := 214) (v := 48) (by decide) dX8_go_212 rfl ?_
        refine aw_isub (npc := 215) dX8_go_214 rfl ?_
        refine aw_goto (npc := 222) dX8_go_215 (by decide) ?_
        refine aw_put (npc := 225) dX8_go_222 rfl kf_X8_210 F.1 (Nat.le_of_ble_eq_true rfl) (am_ok_int _) rfl ?_
        have F5 := mr_o13 (v := ((10 * (o 13)) + ((a 75) i)) - 48) F
        refine aw_aload_n (npc := 226) rfl dX8_go_225 rfl ?_
        refine aw_dup (npc := 227) rfl dX8_go_226 rfl ?_
        refine aw_get (npc := 230) dX8_go_227 rfl kf_X8_195 F5.1 rfl ?_
        refine aw_top (y := o 10) ((pk_un (by omega))) ?_
        refine aw_top (y := nI i) (h10) ?_
        refine aw_iconst (npc := 231) (v := 1) (by decide) dX8_go_230 rfl ?_
        refine aw_iaddV (npc := 232) (v := nI (i + 1)) dX8_go_231 rfl (nI_add _ 1) ?_
        refine aw_put (npc := 235) dX8_go_232 rfl kf_X8_195 F5.1 (Nat.le_of_ble_eq_true rfl) (am_ok_int _) rfl ?_
        have F6 := mr_o10 (v := nI (i + 1)) F5
        refine aw_goto (npc := 170) dX8_go_235 (by decide) ?_
        refine ih (i + 1) (by omega) _ _ F6 ((pk_un (by decide)).trans ((pk_un (by decide)).trans h9)) pk_us ((pk_un (by decide)).trans ((pk_un (by decide)).trans h11)) (fun z => ((pk_un (by decide)).trans pk_us).trans (nu_a hfi (hv (by omega)))) (by omega) (fun o9 h9x q1 q2 F9 f9 v9 => hq o9 h9x (q1.trans ?_) (fun k hk hk3 => (q2 k hk hk3).trans ((pk_un hk).trans (pk_un hk3))) F9 (am_fpT f9 (am_fpU (show ¬ (69 < 69 ∨ 92 ≤ 69) by omega) (am_fpU (show ¬ (69 < 69 ∨ 92 ≤ 69) by omega) am_fp0))) ?_)
        · exact congrArg nI (rn_s hs1.1 hs1.2).symm
        · exact ((rn_s hs1.1 hs1.2).symm) ▸ v9
    · refine aw_re (S' := [.int 0]) rfl ?_
      refine aw_if_eq (npc := 181) (tgt := 238) dX8_go_178 rfl (by decide) (fun _ => ?_) (fun hc => absurd (by decide) hc)
      exact hq o h (h10.trans (congrArg nI (rn_e (t := 2) (by have z := hs1; omega)).symm)) (fun _ _ _ => rfl) F am_fp0 ((rn_e (t := 2) (by have z := hs1; omega)).symm ▸ hv)
