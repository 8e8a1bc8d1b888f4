def nO : List Int32 → Nat
  | [] => 0
  | w :: ws => (if w = -10 then 1 else 0) + nO ws
def cntW (f : Nat → Int32) : Nat → Nat
  | 0 => 0
  | i + 1 => cntW f i + (if f i = -10 then 1 else 0)
theorem cntW_c {f g : Nat → Int32} : ∀ (n : Nat), (∀ j, j < n → f j = g j) → cntW f n = cntW g n := by
  intro n
  induction n with
  | zero => intro _; rfl
  | succ n ih => intro h; show cntW f n + _ = cntW g n + _; rw [ih (fun j hj => h j (by omega)), h n (by omega)]
theorem cntW_r : ∀ (ws : List Int32), cntW (fun j => ws.reverse.getD j 0) ws.length = nO ws := by
  intro ws
  induction ws with
  | nil => rfl
  | cons w ws ih =>
    show cntW (fun j => (w :: ws).reverse.getD j 0) ws.length + (if (w :: ws).reverse.getD ws.length 0 = -10 then 1 else 0) = (if w = -10 then 1 else 0) + nO ws
    rw [rev_top, cntW_c ws.length (g := fun j => ws.reverse.getD j 0) (fun j hj => rev_low hj), ih]; omega
theorem cntW_le {f : Nat → Int32} : ∀ (n : Nat), cntW f n ≤ n := by
  intro n
  induction n with
  | zero => exact Nat.le_refl _
  | succ n ih => show cntW f n + (if f n = -10 then 1 else 0) ≤ n + 1; split <;> omega
set_option maxHeartbeats 4000000 in
set_option maxRecDepth 100000 in
theorem m_notsL {X : List Int32} {d rc rs n : Nat} {Q : am_Q} {L : Nat} {N : Nat → Int32} {a : Nat → Nat → Int32} {o : Nat → Int32} {h : am_H} {w : Nat} (F : MR o N a h) (hw : w ≤ 96) (m22 : o 22 = nI w) (hq : Q (some (.int (nI (cntW (a 79) w)))) n h) : ∀ (m i : Nat), i + m = w → AW X mX8_notsOpen d rc rs 4 [some (.ref 69), some (.int (nI (cntW (a 79) i))), some (.int (nI i))] [] n h Q := by
  intro m
  induction m with
  | zero =>
    intro i hi
    have hiw : i = w := by omega
    rw [hiw]
    refine aw_iload_n (npc := 5) rfl dX8_notsOpen_4 rfl ?_
    refine aw_aload_n (npc := 6) rfl dX8_notsOpen_5 rfl ?_
    refine aw_get (npc := 9) dX8_notsOpen_6 rfl kf_X8_222 F.1 rfl ?_
    refine aw_top (y := nI w) (m22) ?_
    refine aw_icmp_ge (npc := 12) (tgt := 37) dX8_notsOpen_9 rfl (by decide) (fun _ => ?_) (fun hc => absurd (nI_le (a := w) (b := w) (by omega) (by omega)) hc)
    refine aw_iload_n (npc := 38) rfl dX8_notsOpen_37 rfl ?_
    refine aw_iret rfl dX8_notsOpen_38 ?_
    exact hq
  | succ m ih =>
    intro i hi
    have hci := cntW_le (f := a 79) i
    refine aw_iload_n (npc := 5) rfl dX8_notsOpen_4 rfl ?_
    refine aw_aload_n (npc := 6) rfl dX8_notsOpen_5 rfl ?_
    refine aw_get (npc := 9) dX8_notsOpen_6 rfl kf_X8_222 F.1 rfl ?_
    refine aw_top (y := nI w) (m22) ?_
    refine aw_icmp_ge (npc := 12) (tgt := 37) dX8_notsOpen_9 rfl (by decide) (fun hc => absurd hc (nI_ge (a := i) (b := w) (by omega) (by omega))) (fun _ => ?_)
    refine aw_iload_n (npc := 13) rfl dX8_notsOpen_12 rfl ?_
    refine aw_aload_n (npc := 14) rfl dX8_notsOpen_13 rfl ?_
    refine aw_get (npc := 17) dX8_notsOpen_14 rfl kf_X8_42 F.1 rfl ?_
    refine aw_iload_n (npc := 18) rfl dX8_notsOpen_17 rfl ?_
    refine aw_iald (npc := 19) (x := (a 79) i) (j := i) dX8_notsOpen_18 rfl F.2.2.2.2.2.2.2.2.2.2.1 (am_ix_nI (by omega)) (tl_at (by omega)) ?_
    refine aw_bipush (npc := 21) (v := -10) (by decide) dX8_notsOpen_19 rfl ?_
    refine aw_icmp_ne (npc := 24) (tgt := 28) dX8_notsOpen_21 rfl (by decide) (fun hc2 => ?_) (fun hc2 => ?_)
    · refine aw_iconst (npc := 29) (v := 0) (by decide) dX8_notsOpen_28 rfl ?_
      refine aw_iaddV (npc := 30) (v := nI ((cntW (a 79) i) + 0)) dX8_notsOpen_29 rfl (nI_add _ 0) ?_
      refine aw_istore_n (npc := 31) (L' := [some (.ref 69), some (.int (nI ((cntW (a 79) i) + 0))), some (.int (nI i))]) dX8_notsOpen_30 rfl (by decide) rfl rfl ?_
      refine aw_iinc (npc := 34) (v := nI (i + 1)) (L' := [some (.ref 69), some (.int (nI ((cntW (a 79) i) + 0))), some (.int (nI (i + 1)))]) dX8_notsOpen_31 rfl rfl (nI_1 _) (by decide) rfl rfl ?_
      refine aw_goto (npc := 4) dX8_notsOpen_34 (by decide) ?_
      have ec : cntW (a 79) (i + 1) = cntW (a 79) i + 0 := by show cntW (a 79) i + (if a 79 i = -10 then 1 else 0) = _; rw [if_neg hc2]
      refine aw_locs (L' := [some (.ref 69), some (.int (nI (cntW (a 79) (i + 1)))), some (.int (nI (i + 1)))]) (by rw [ec]) ?_
      exact ih (i + 1) (by omega)
    · refine aw_iconst (npc := 25) (v := 1) (by decide) dX8_notsOpen_24 rfl ?_
      refine aw_goto (npc := 29) dX8_notsOpen_25 (by decide) ?_
      refine aw_iaddV (npc := 30) (v := nI ((cntW (a 79) i) + 1)) dX8_notsOpen_29 rfl (nI_add _ 1) ?_
      refine aw_istore_n (npc := 31) (L' := [some (.ref 69), some (.int (nI ((cntW (a 79) i) + 1))), some (.int (nI i))]) dX8_notsOpen_30 rfl (by decide) rfl rfl ?_
      refine aw_iinc (npc := 34) (v := nI (i + 1)) (L' := [some (.ref 69), some (.int (nI ((cntW (a 79) i) + 1))), some (.int (nI (i + 1)))]) dX8_notsOpen_31 rfl rfl (nI_1 _) (by decide) rfl rfl ?_
      refine aw_goto (npc := 4) dX8_notsOpen_34 (by decide) ?_
      have ec : cntW (a 79) (i + 1) = cntW (a 79) i + 1 := by show cntW (a 79) i + (if a 79 i = -10 then 1 else 0) = _; rw [if_pos hc2]
      refine aw_locs (L' := [some (.ref 69), some (.int (nI (cntW (a 79) (i + 1)))), some (.int (nI (i + 1)))]) (by rw [ec]) ?_
      exact ih (i + 1) (by omega)
set_option maxHeartbeats 4000000 in
set_option maxRecDepth 100000 in
theorem m_nots {X : List Int32} {d rc rs n : Nat} {Q : am_Q} {L : Nat} {o0 N : Nat → Int32} {a0 : Nat → Nat → Int32} {σ : ES} {h : am_H} (H : EX σ L o0 N a0 h) (hb : σ.2.2.1.length ≤ 96) (hq : Q (some (.int (nI (nO σ.2.2.1)))) n h) : AW X mX8_notsOpen d rc rs 0 [some (.ref 69), none, none] [] n h Q := by
  obtain ⟨o, a, F, ⟨vk, m19, m20, m22, mc, mw, mq⟩, ho, ha⟩ := H
  refine aw_iconst (npc := 1) (v := 0) (by decide) dX8_notsOpen_0 rfl ?_
  refine aw_istore_n (npc := 2) (L' := [some (.ref 69), some (.int 0), none]) dX8_notsOpen_1 rfl (by decide) rfl rfl ?_
  refine aw_iconst (npc := 3) (v := 0) (by decide) dX8_notsOpen_2 rfl ?_
  refine aw_istore_n (npc := 4) (L' := [some (.ref 69), some (.int 0), some (.int 0)]) dX8_notsOpen_3 rfl (by decide) rfl rfl ?_
  exact m_notsL (L := L) F (by omega) m22 (by rw [cntW_c _ mw, cntW_r]; exact hq) σ.2.2.1.length 0 (by omega)
