def cntM (key : Int32) (N : Nat → Int32) : Nat → Option Nat
  | 0 => none
  | t + 1 => if N (62 + 2 * t) / 1000 = key then some t else cntM key N t
theorem cntM_lt {key : Int32} {N : Nat → Int32} : ∀ {c t : Nat}, cntM key N c = some t → t < c ∧ N (62 + 2 * t) / 1000 = key := by
  intro c
  induction c with
  | zero => intro t h; cases h
  | succ c ih =>
    intro t h
    simp only [cntM] at h
    split at h
    · rename_i e
      injection h with z
      subst z
      exact ⟨by omega, e⟩
    · exact ⟨by have z := (ih h).1; omega, (ih h).2⟩
theorem m1_m1 (x : Int32) : x + -1 = x - 1 := (Int32.sub_eq_add_neg x 1).symm
theorem nIs1 (m : Nat) (h : m < 1000) : nI (m + 1) - 1 = nI m := pk_sub (a := m + 1) (b := 1) (by omega)
set_option maxHeartbeats 4000000 in
set_option maxRecDepth 100000 in
theorem m_countsL {X : List Int32} {d rc rs n : Nat} {Q : am_Q} {o N : Nat → Int32} {a : Nat → Nat → Int32} {h : am_H} {key : Int32} (F : MR o N a h) : ∀ (m : Nat), m ≤ 14 → Q (some (.int (bI (cntM key N m)))) n h → AW X mX8_counts d rc rs 10 [some (.ref 69), some (.int key), some (.int (nI m - 1))] [] n h Q := by
  intro m
  induction m with
  | zero =>
    intro hm hq
    rw [show nI 0 - 1 = (-1 : Int32) by decide]
    refine aw_iload_n (npc := 11) rfl dX8_counts_10 rfl ?_
    refine aw_if_lt (npc := 14) (tgt := 41) dX8_counts_11 rfl (by decide) (fun _ => ?_) (fun hc => absurd (by decide) hc)
    refine aw_iconst (npc := 42) (v := -1) (by decide) dX8_counts_41 rfl ?_
    refine aw_iret rfl dX8_counts_42 ?_
    exact hq
  | succ m ih =>
    intro hm hq
    rw [nIs1 m (by omega)]
    refine aw_iload_n (npc := 11) rfl dX8_counts_10 rfl ?_
    refine aw_if_lt (npc := 14) (tgt := 41) dX8_counts_11 rfl (by decide) (fun hc => absurd hc (nI_pos (by omega))) (fun _ => ?_)
    refine aw_aload_n (npc := 15) rfl dX8_counts_14 rfl ?_
    refine aw_get (npc := 18) dX8_counts_15 rfl kf_X8_9 F.1 rfl ?_
    refine aw_bipush (npc := 20) (v := 62) (by decide) dX8_counts_18 rfl ?_
    refine aw_iconst (npc := 21) (v := 2) (by decide) dX8_counts_20 rfl ?_
    refine aw_iload_n (npc := 22) rfl dX8_counts_21 rfl ?_
    refine aw_imulV (npc := 23) (v := nI (2 * m)) dX8_counts_22 rfl (pk_mul 2 _) ?_
    refine aw_iaddV (npc := 24) (v := nI (62 + (2 * m))) dX8_counts_23 rfl (nI_add 62 _) ?_
    refine aw_iald (npc := 25) (x := N (62 + (2 * m))) (j := (62 + (2 * m))) dX8_counts_24 rfl F.2.1 (am_ix_nI (by omega)) (tl_at (by omega)) ?_
    refine aw_sipush (npc := 28) (v := 1000) (by decide) dX8_counts_25 rfl ?_
    refine aw_idiv (npc := 29) (by decide) dX8_counts_28 rfl ?_
    refine aw_iload_n (npc := 30) rfl dX8_counts_29 rfl ?_
    refine aw_icmp_ne (npc := 33) (tgt := 35) dX8_counts_30 rfl (by decide) (fun hc2 => ?_) (fun hc2 => ?_)
    · refine aw_iinc (npc := 38) (v := nI m - 1) (L' := [some (.ref 69), some (.int key), some (.int (nI m - 1))]) dX8_counts_35 rfl rfl (m1_m1 _) (by decide) rfl rfl ?_
      refine aw_goto (npc := 10) dX8_counts_38 (by decide) ?_
      exact ih (by omega) ((show cntM key N (m + 1) = cntM key N m by simp [cntM, hc2]) ▸ hq)
    · refine aw_iload_n (npc := 34) rfl dX8_counts_33 rfl ?_
      refine aw_iret rfl dX8_counts_34 ?_
      exact (congrArg (fun z9 => Q (some (.int (bI z9))) n h) (show cntM key N (m + 1) = some m by simp [cntM, hc2])).mp hq
set_option maxHeartbeats 4000000 in
set_option maxRecDepth 100000 in
theorem m_counts {X : List Int32} {d rc rs n : Nat} {Q : am_Q} {o N : Nat → Int32} {a : Nat → Nat → Int32} {h : am_H} {key : Int32} {c : Nat} (F : MR o N a h) (hc : N 7 = nI c) (hc14 : c ≤ 14) (hq : Q (some (.int (bI (cntM key N c)))) n h) : AW X mX8_counts (d + 0) rc rs 0 [some (.ref 69), some (.int key), none] [] n h Q := by
  refine aw_aload_n (npc := 1) rfl dX8_counts_0 rfl ?_
  refine aw_get (npc := 4) dX8_counts_1 rfl kf_X8_9 F.1 rfl ?_
  refine aw_bipush (npc := 6) (v := 7) (by decide) dX8_counts_4 rfl ?_
  refine aw_iald (npc := 7) (x := N 7) (j := 7) dX8_counts_6 rfl F.2.1 ⟨by decide, by decide⟩ (tl_at (by omega)) ?_
  refine aw_top (y := nI c) (hc) ?_
  refine aw_iconst (npc := 8) (v := 1) (by decide) dX8_counts_7 rfl ?_
  refine aw_isub (npc := 9) dX8_counts_8 rfl ?_
  refine aw_istore_n (npc := 10) (L' := [some (.ref 69), some (.int key), some (.int ((nI c) - 1))]) dX8_counts_9 rfl (by decide) rfl rfl ?_
  exact m_countsL F c hc14 hq
