abbrev RS : Type := (Nat × Nat × Nat) × Option Nat × Int32 × List Int32 × Nat × Nat × Nat
def fI : Option Nat → Int32
  | none => -1
  | some q => nI q
def RM (ρ : RS) (r cd : Nat → Int32) : Prop := r 1 = nI ρ.1.2.2 ∧ r 2 = nI ρ.1.1 ∧ r 3 = nI ρ.1.2.1 ∧ r 4 = fI ρ.2.1 ∧ r 5 = ρ.2.2.1 ∧ r 7 = nI ρ.2.2.2.1.length ∧ r 8 = nI ρ.2.2.2.2.1 ∧ r 9 = nI ρ.2.2.2.2.2.1 ∧ r 10 = nI ρ.2.2.2.2.2.2 ∧ (∀ j, j < ρ.2.2.2.1.length → cd j = ρ.2.2.2.1.getD j 0)
def RX (ρ : RS) (L : Nat) (tp : Nat → Int32) (h : am_H) : Prop := ∃ r cd, RD r (nI L) tp cd h ∧ RM ρ r cd
def WR (L : Nat) (tp : Nat → Int32) (ρ : RS) : Prop := WFK L tp ρ.1 ∧ L ≤ 96 ∧ ρ.2.2.2.1.length ≤ 96 ∧ ρ.2.2.2.2.2.1 ≤ 8 ∧ ρ.2.2.2.2.2.2 ≤ 8 ∧ ∀ q, ρ.2.1 = some q → q ≤ 96
def flO (x : Option Nat) (f : Nat) : Option Nat := match x with
  | none => some f
  | some q => some q
def flF (ρ : RS) : RS := (ρ.1, flO ρ.2.1 ρ.1.2.1, ρ.2.2)
def emL (cs : List Int32) (c : Int32) : List Int32 := if cs.length < 96 then cs ++ [c] else cs
def emF (c : Int32) (ρ : RS) : RS := (ρ.1, ρ.2.1, ρ.2.2.1, emL ρ.2.2.2.1 c, ρ.2.2.2.2)
def eoF (c : Int32) (ρ : RS) : RS := (ρ.1, ρ.2.1, ρ.2.2.1, emL ρ.2.2.2.1 c, ρ.2.2.2.2.1 + 1, ρ.2.2.2.2.2)
def avF (L : Nat) (tp : Nat → Int32) (ρ : RS) : RS := (adv L tp ρ.1, ρ.2)
def obF (ρ : RS) (b : Nat) : RS := (ρ.1, ρ.2.1, ρ.2.2.1, ρ.2.2.2.1, ρ.2.2.2.2.1, b, ρ.2.2.2.2.2.2)
def ogF (ρ : RS) (g : Nat) : RS := (ρ.1, ρ.2.1, ρ.2.2.1, ρ.2.2.2.1, ρ.2.2.2.2.1, ρ.2.2.2.2.2.1, g)
def isSg (tp : Nat → Int32) (ρ : RS) (c : Int32) : Prop := ρ.2.1 = none ∧ ρ.1.1 = 3 ∧ tp ρ.1.2.1 = c
theorem em_cd {cs : List Int32} {cd : Nat → Int32} {c : Int32} (h : ∀ j, j < cs.length → cd j = cs.getD j 0) : ∀ j, j < (cs ++ [c]).length → upd cd cs.length c j = (cs ++ [c]).getD j 0 := fun j hj => by
  rw [List.length_append, List.length_singleton] at hj
  by_cases e : j = cs.length
  · subst e
    rw [pk_us, List.getD_eq_getElem?_getD, List.getElem?_append_right (Nat.le_refl _), Nat.sub_self]; rfl
  · rw [pk_un e, h j (by omega), List.getD_eq_getElem?_getD, List.getD_eq_getElem?_getD, List.getElem?_append_left (by omega)]
theorem fI_neg {x : Option Nat} (hx : ∀ q, x = some q → q ≤ 96) : (fI x < 0 ↔ x = none) := by
  cases x with
  | none => exact ⟨fun _ => rfl, fun _ => by decide⟩
  | some q => exact ⟨fun h => absurd h (nI_pos (by have z := hx q rfl; omega)), fun h => by cases h⟩
set_option maxHeartbeats 4000000 in
set_option maxRecDepth 100000 in
theorem r_fail {X : List Int32} {d rc rs n : Nat} {Q : am_Q} {h : am_H} {L : Nat} {tp : Nat → Int32} {ρ : RS} (H : RX ρ L tp h) (Wf : WR L tp ρ) (hq : ∀ h9, RX (flF ρ) L tp h9 → am_fp (fun k => k < 39 ∨ 43 ≤ k) h9 h → Q none n h9) : AW X mX1_fail (d + 2) rc rs 0 [some (.ref 39)] [] n h Q := by
  obtain ⟨r, cd, Rd, m1, m2, m3, m4, m5, m7, m8, m9, m10, mc⟩ := H
  obtain ⟨wk, w96, wcl, wob, wog, wft⟩ := id Wf
  have we := wk.1
  have wf := wk.2.1
  refine aw_aload_n (npc := 1) rfl dX1_fail_0 rfl ?_
  refine aw_get (npc := 4) dX1_fail_1 rfl kf_X1_28 Rd.1 rfl ?_
  refine aw_top (y := fI ρ.2.1) (m4) ?_
  refine aw_if_ge (npc := 7) (tgt := 15) dX1_fail_4 rfl (by decide) (fun hc1 => ?_) (fun hc1 => ?_)
  · refine aw_vret rfl dX1_fail_15 ?_
    have ef := (fI_neg wft)
    cases eft : ρ.2.1 with
    | none => exact absurd hc1 (by rw [eft]; decide)
    | some q9 => exact hq _ ⟨_, _, Rd, m1, m2, m3, m4.trans (by show fI ρ.2.1 = fI (flO ρ.2.1 ρ.1.2.1); rw [eft]; rfl), m5, m7, m8, m9, m10, mc⟩ am_fp0
  · refine aw_aload_n (npc := 8) rfl dX1_fail_7 rfl ?_
    refine aw_aload_n (npc := 9) rfl dX1_fail_8 rfl ?_
    refine aw_get (npc := 12) dX1_fail_9 rfl kf_X1_25 Rd.1 rfl ?_
    refine aw_top (y := nI ρ.1.2.1) (m3) ?_
    refine aw_put (npc := 15) dX1_fail_12 rfl kf_X1_28 Rd.1 (Nat.le_of_ble_eq_true rfl) (am_ok_int _) rfl ?_
    have Rd2 := rd_r4 (v := nI ρ.1.2.1) Rd
    refine aw_vret rfl dX1_fail_15 ?_
    have ef := (fI_neg wft)
    have en := ef.mp (Int32.not_le.mp hc1)
    exact hq _ ⟨_, _, Rd2, (((pk_un (by omega))).trans m1), (((pk_un (by omega))).trans m2), (((pk_un (by omega))).trans m3), ((pk_us).trans (show nI ρ.1.2.1 = fI (flO ρ.2.1 ρ.1.2.1) by rw [en]; rfl)), (((pk_un (by omega))).trans m5), (((pk_un (by omega))).trans m7), (((pk_un (by omega))).trans m8), (((pk_un (by omega))).trans m9), (((pk_un (by omega))).trans m10), mc⟩ (am_fpU (show ¬ (39 < 39 ∨ 43 ≤ 39) by omega) am_fp0)
set_option maxHeartbeats 4000000 in
set_option maxRecDepth 100000 in
theorem r_emit {X : List Int32} {d rc rs n : Nat} {Q : am_Q} {h : am_H} {L : Nat} {tp : Nat → Int32} {ρ : RS} {c : Int32} (H : RX ρ L tp h) (Wf : WR L tp ρ) (hq : ∀ h9, RX (emF c ρ) L tp h9 → am_fp (fun k => k < 39 ∨ 43 ≤ k) h9 h → Q none n h9) : AW X mX1_emit (d + 2) rc rs 0 [some (.ref 39), some (.int c)] [] n h Q := by
  obtain ⟨r, cd, Rd, m1, m2, m3, m4, m5, m7, m8, m9, m10, mc⟩ := H
  obtain ⟨wk, w96, wcl, wob, wog, wft⟩ := id Wf
  have we := wk.1
  have wf := wk.2.1
  refine aw_aload_n (npc := 1) rfl dX1_emit_0 rfl ?_
  refine aw_get (npc := 4) dX1_emit_1 rfl kf_X1_38 Rd.1 rfl ?_
  refine aw_top (y := nI ρ.2.2.2.1.length) (m7) ?_
  refine aw_bipush (npc := 6) (v := 96) (by decide) dX1_emit_4 rfl ?_
  refine aw_icmp_ge (npc := 9) (tgt := 29) dX1_emit_6 rfl (by decide) (fun hc1 => ?_) (fun hc1 => ?_)
  · have hc1N := (nI_leI (a := 96) (b := ρ.2.2.2.1.length) (by omega) (by omega)).mp hc1
    refine aw_vret rfl dX1_emit_29 ?_
    have e9 : emL ρ.2.2.2.1 c = ρ.2.2.2.1 := if_neg (by omega)
    exact hq _ ⟨_, _, Rd, m1, m2, m3, m4, m5, m7.trans (by rw [← e9]; rfl), m8, m9, m10, fun j hj => by have hj2 : j < (emL ρ.2.2.2.1 c).length := hj; rw [e9] at hj2; exact (mc j hj2).trans (congrArg (fun z : List Int32 => z.getD j 0) e9.symm)⟩ am_fp0
  · have hc1N : ¬ 96 ≤ ρ.2.2.2.1.length := fun z9q => hc1 ((nI_leI (a := 96) (b := ρ.2.2.2.1.length) (by omega) (by omega)).mpr z9q)
    refine aw_aload_n (npc := 10) rfl dX1_emit_9 rfl ?_
    refine aw_get (npc := 13) dX1_emit_10 rfl kf_X1_34 Rd.1 rfl ?_
    refine aw_aload_n (npc := 14) rfl dX1_emit_13 rfl ?_
    refine aw_get (npc := 17) dX1_emit_14 rfl kf_X1_38 Rd.1 rfl ?_
    refine aw_top (y := nI ρ.2.2.2.1.length) (m7) ?_
    refine aw_iload_n (npc := 18) rfl dX1_emit_17 rfl ?_
    refine aw_iast (npc := 19) (j := ρ.2.2.2.1.length) dX1_emit_18 rfl Rd.2.2.2 (am_ix_nI (by omega)) (by rw [tl_len]; omega) rfl ?_
    have Rd2 := rd_code (j := ρ.2.2.2.1.length) (v := c) Rd
    refine aw_aload_n (npc := 20) rfl dX1_emit_19 rfl ?_
    refine aw_dup (npc := 21) rfl dX1_emit_20 rfl ?_
    refine aw_get (npc := 24) dX1_emit_21 rfl kf_X1_38 Rd2.1 rfl ?_
    refine aw_top (y := nI ρ.2.2.2.1.length) (m7) ?_
    refine aw_iconst (npc := 25) (v := 1) (by decide) dX1_emit_24 rfl ?_
    refine aw_iaddV (npc := 26) (v := nI (ρ.2.2.2.1.length + 1)) dX1_emit_25 rfl (nI_add _ 1) ?_
    refine aw_put (npc := 29) dX1_emit_26 rfl kf_X1_38 Rd2.1 (Nat.le_of_ble_eq_true rfl) (am_ok_int _) rfl ?_
    have Rd3 := rd_r7 (v := nI (ρ.2.2.2.1.length + 1)) Rd2
    refine aw_vret rfl dX1_emit_29 ?_
    have e9 : emL ρ.2.2.2.1 c = ρ.2.2.2.1 ++ [c] := if_pos (by omega)
    exact hq _ ⟨_, _, Rd3, (((pk_un (by omega))).trans m1), (((pk_un (by omega))).trans m2), (((pk_un (by omega))).trans m3), (((pk_un (by omega))).trans m4), (((pk_un (by omega))).trans m5), ((pk_us).trans (show nI (ρ.2.2.2.1.length + 1) = nI (emL ρ.2.2.2.1 c).length by rw [e9, List.length_append, List.length_singleton])), (((pk_un (by omega))).trans m8), (((pk_un (by omega))).trans m9), (((pk_un (by omega))).trans m10), (fun j hj => by have hj2 : j < (emL ρ.2.2.2.1 c).length := hj; rw [e9] at hj2; exact (em_cd mc j hj2).trans (congrArg (fun z : List Int32 => z.getD j 0) e9.symm))⟩ (am_fpU (show ¬ (39 < 39 ∨ 43 ≤ 39) by omega) (am_fpU (show ¬ (42 < 39 ∨ 43 ≤ 42) by omega) am_fp0))
theorem so_le (b : Int32) : so b ≤ 4 := by
  rcases so_c b with h | h | h | h <;> omega
set_option maxHeartbeats 4000000 in
set_option maxRecDepth 100000 in
theorem r_sort {X : List Int32} {d rc rs n : Nat} {Q : am_Q} {h : am_H} {b : Int32} (hq : Q (some (.int (nI (so b)))) n h) : AW X mX1_sortOf d rc rs 0 [some (.int b)] [] n h Q := by
  refine aw_iload_n (npc := 1) rfl dX1_sortOf_0 rfl ?_
  refine aw_bipush (npc := 3) (v := 97) (by decide) dX1_sortOf_1 rfl ?_
  refine aw_icmp_lt (npc := 6) (tgt := 14) dX1_sortOf_3 rfl (by decide) (fun hc1 => ?_) (fun hc1 => ?_)
  · refine aw_iload_n (npc := 15) rfl dX1_sortOf_14 rfl ?_
    refine aw_bipush (npc := 17) (v := 48) (by decide) dX1_sortOf_15 rfl ?_
    refine aw_icmp_lt (npc := 20) (tgt := 28) dX1_sortOf_17 rfl (by decide) (fun hc2 => ?_) (fun hc2 => ?_)
    · refine aw_iload_n (npc := 29) rfl dX1_sortOf_28 rfl ?_
      refine aw_bipush (npc := 31) (v := 32) (by decide) dX1_sortOf_29 rfl ?_
      refine aw_icmp_ne (npc := 34) (tgt := 38) dX1_sortOf_31 rfl (by decide) (fun hc3 => ?_) (fun hc3 => ?_)
      · refine aw_iconst (npc := 39) (v := 3) (by decide) dX1_sortOf_38 rfl ?_
        refine aw_iret rfl dX1_sortOf_39 ?_
        exact (show nI (so b) = 3 by
          have e : so b = 3 := by
            unfold so
            rw [if_neg (fun z => absurd hc1 (Int32.not_lt.mpr z.1)), if_neg (fun z => absurd hc2 (Int32.not_lt.mpr z.1)), if_neg hc3]
          rw [e]; rfl) ▸ hq
      · refine aw_iconst (npc := 35) (v := 4) (by decide) dX1_sortOf_34 rfl ?_
        refine aw_goto (npc := 39) dX1_sortOf_35 (by decide) ?_
        refine aw_iret rfl dX1_sortOf_39 ?_
        exact (show nI (so b) = 4 by
          have e : so b = 4 := by
            unfold so
            rw [if_neg (fun z => absurd hc1 (Int32.not_lt.mpr z.1)), if_neg (fun z => absurd hc2 (Int32.not_lt.mpr z.1)), if_pos hc3]
          rw [e]; rfl) ▸ hq
    · refine aw_iload_n (npc := 21) rfl dX1_sortOf_20 rfl ?_
      refine aw_bipush (npc := 23) (v := 57) (by decide) dX1_sortOf_21 rfl ?_
      refine aw_icmp_gt (npc := 26) (tgt := 28) dX1_sortOf_23 rfl (by decide) (fun hc4 => ?_) (fun hc4 => ?_)
      · refine aw_iload_n (npc := 29) rfl dX1_sortOf_28 rfl ?_
        refine aw_bipush (npc := 31) (v := 32) (by decide) dX1_sortOf_29 rfl ?_
        refine aw_icmp_ne (npc := 34) (tgt := 38) dX1_sortOf_31 rfl (by decide) (fun hc5 => ?_) (fun hc5 => ?_)
        · refine aw_iconst (npc := 39) (v := 3) (by decide) dX1_sortOf_38 rfl ?_
          refine aw_iret rfl dX1_sortOf_39 ?_
          exact (show nI (so b) = 3 by
            have e : so b = 3 := by
              unfold so
              rw [if_neg (fun z => absurd hc1 (Int32.not_lt.mpr z.1)), if_neg (fun z => absurd hc4 (Int32.not_lt.mpr z.2)), if_neg hc5]
            rw [e]; rfl) ▸ hq
        · refine aw_iconst (npc := 35) (v := 4) (by decide) dX1_sortOf_34 rfl ?_
          refine aw_goto (npc := 39) dX1_sortOf_35 (by decide) ?_
          refine aw_iret rfl dX1_sortOf_39 ?_
          exact (show nI (so b) = 4 by
            have e : so b = 4 := by
              unfold so
              rw [if_neg (fun z => absurd hc1 (Int32.not_lt.mpr z.1)), if_neg (fun z => absurd hc4 (Int32.not_lt.mpr z.2)), if_pos hc5]
            rw [e]; rfl) ▸ hq
      · refine aw_iconst (npc := 27) (v := 2) (by decide) dX1_sortOf_26 rfl ?_
        refine aw_iret rfl dX1_sortOf_27 ?_
        exact (show nI (so b) = 2 by
          have e : so b = 2 := by
            unfold so
            rw [if_neg (fun z => absurd hc1 (Int32.not_lt.mpr z.1)), if_pos ⟨Int32.not_lt.mp hc2, Int32.not_lt.mp hc4⟩]
          rw [e]; rfl) ▸ hq
  · refine aw_iload_n (npc := 7) rfl dX1_sortOf_6 rfl ?_
    refine aw_bipush (npc := 9) (v := 122) (by decide) dX1_sortOf_7 rfl ?_
    refine aw_icmp_gt (npc := 12) (tgt := 14) dX1_sortOf_9 rfl (by decide) (fun hc6 => ?_) (fun hc6 => ?_)
    · refine aw_iload_n (npc := 15) rfl dX1_sortOf_14 rfl ?_
      refine aw_bipush (npc := 17) (v := 48) (by decide) dX1_sortOf_15 rfl ?_
      refine aw_icmp_lt (npc := 20) (tgt := 28) dX1_sortOf_17 rfl (by decide) (fun hc7 => ?_) (fun hc7 => ?_)
      · refine aw_iload_n (npc := 29) rfl dX1_sortOf_28 rfl ?_
        refine aw_bipush (npc := 31) (v := 32) (by decide) dX1_sortOf_29 rfl ?_
        refine aw_icmp_ne (npc := 34) (tgt := 38) dX1_sortOf_31 rfl (by decide) (fun hc8 => ?_) (fun hc8 => ?_)
        · refine aw_iconst (npc := 39) (v := 3) (by decide) dX1_sortOf_38 rfl ?_
          refine aw_iret rfl dX1_sortOf_39 ?_
          exact (show nI (so b) = 3 by
            have e : so b = 3 := by
              unfold so
              rw [if_neg (fun z => absurd hc6 (Int32.not_lt.mpr z.2)), if_neg (fun z => absurd hc7 (Int32.not_lt.mpr z.1)), if_neg hc8]
            rw [e]; rfl) ▸ hq
        · refine aw_iconst (npc := 35) (v := 4) (by decide) dX1_sortOf_34 rfl ?_
          refine aw_goto (npc := 39) dX1_sortOf_35 (by decide) ?_
          refine aw_iret rfl dX1_sortOf_39 ?_
          exact (show nI (so b) = 4 by
            have e : so b = 4 := by
              unfold so
              rw [if_neg (fun z => absurd hc6 (Int32.not_lt.mpr z.2)), if_neg (fun z => absurd hc7 (Int32.not_lt.mpr z.1)), if_pos hc8]
            rw [e]; rfl) ▸ hq
      · refine aw_iload_n (npc := 21) rfl dX1_sortOf_20 rfl ?_
        refine aw_bipush (npc := 23) (v := 57) (by decide) dX1_sortOf_21 rfl ?_
        refine aw_icmp_gt (npc := 26) (tgt := 28) dX1_sortOf_23 rfl (by decide) (fun hc9 => ?_) (fun hc9 => ?_)
        · refine aw_iload_n (npc := 29) rfl dX1_sortOf_28 rfl ?_
          refine aw_bipush (npc := 31) (v := 32) (by decide) dX1_sortOf_29 rfl ?_
          refine aw_icmp_ne (npc := 34) (tgt := 38) dX1_sortOf_31 rfl (by decide) (fun hc10 => ?_) (fun hc10 => ?_)
          · refine aw_iconst (npc := 39) (v := 3) (by decide) dX1_sortOf_38 rfl ?_
            refine aw_iret rfl dX1_sortOf_39 ?_
            exact (show nI (so b) = 3 by
              have e : so b = 3 := by
                unfold so
                rw [if_neg (fun z => absurd hc6 (Int32.not_lt.mpr z.2)), if_neg (fun z => absurd hc9 (Int32.not_lt.mpr z.2)), if_neg hc10]
              rw [e]; rfl) ▸ hq
          · refine aw_iconst (npc := 35) (v := 4) (by decide) dX1_sortOf_34 rfl ?_
            refine aw_goto (npc := 39) dX1_sortOf_35 (by decide) ?_
            refine aw_iret rfl dX1_sortOf_39 ?_
            exact (show nI (so b) = 4 by
              have e : so b = 4 := by
                unfold so
                rw [if_neg (fun z => absurd hc6 (Int32.not_lt.mpr z.2)), if_neg (fun z => absurd hc9 (Int32.not_lt.mpr z.2)), if_pos hc10]
              rw [e]; rfl) ▸ hq
        · refine aw_iconst (npc := 27) (v := 2) (by decide) dX1_sortOf_26 rfl ?_
          refine aw_iret rfl dX1_sortOf_27 ?_
          exact (show nI (so b) = 2 by
            have e : so b = 2 := by
              unfold so
              rw [if_neg (fun z => absurd hc6 (Int32.not_lt.mpr z.2)), if_pos ⟨Int32.not_lt.mp hc7, Int32.not_lt.mp hc9⟩]
            rw [e]; rfl) ▸ hq
    · refine aw_iconst (npc := 13) (v := 1) (by decide) dX1_sortOf_12 rfl ?_
      refine aw_iret rfl dX1_sortOf_13 ?_
      exact (show nI (so b) = 1 by
        have e : so b = 1 := by
          unfold so
          rw [if_pos ⟨Int32.not_lt.mp hc1, Int32.not_lt.mp hc6⟩]
        rw [e]; rfl) ▸ hq
set_option maxHeartbeats 4000000 in
set_option maxRecDepth 100000 in
theorem r_bl {X : List Int32} {d rc rs n : Nat} {Q : am_Q} {L : Nat} {tp cd : Nat → Int32} {v1 v2 : Int32} {v3 : Option Value} (hL : L ≤ 96) : ∀ (m i : Nat), i + m = L → ∀ (r : Nat → Int32) (h : am_H), RD r (nI L) tp cd h → r 1 = nI i → (∀ r9 h9, r9 1 = nI (sk L tp i) → (∀ k, k ≠ 1 → r9 k = r k) → RD r9 (nI L) tp cd h9 → am_fp (fun k => k < 39 ∨ 43 ≤ k) h9 h → AW X mX1_advance (d + 4) rc rs 71 [some (.ref 39), some (.int v1), some (.int v2), v3] [] n h9 Q) → AW X mX1_advance (d + 4) rc rs 27 [some (.ref 39), some (.int v1), some (.int v2), v3] [] n h Q := by
  intro m
  induction m with
  | zero =>
    intro i hi r h Rd h1 hq
    obtain rfl : i = L := by omega
    refine aw_aload_n (npc := 28) rfl dX1_advance_27 rfl ?_
    refine aw_get (npc := 31) dX1_advance_28 rfl kf_X1_18 Rd.1 rfl ?_
    refine aw_top (y := nI i) (h1) ?_
    refine aw_aload_n (npc := 32) rfl dX1_advance_31 rfl ?_
    refine aw_get (npc := 35) dX1_advance_32 rfl kf_X1_12 Rd.1 rfl ?_
    refine aw_get (npc := 38) dX1_advance_35 rfl kf_X1_73 Rd.2.1 rfl ?_
    refine aw_icmp_ge (npc := 41) (tgt := 71) dX1_advance_38 rfl (by decide) (fun _ => ?_) (fun hc => absurd (nI_le (a := i) (b := i) (by omega) (by omega)) hc)
    exact hq r h (h1.trans (congrArg nI (sk_e (Or.inl (by omega))).symm)) (fun _ _ => rfl) Rd am_fp0
  | succ m ih =>
    intro i hi r h Rd h1 hq
    refine aw_aload_n (npc := 28) rfl dX1_advance_27 rfl ?_
    refine aw_get (npc := 31) dX1_advance_28 rfl kf_X1_18 Rd.1 rfl ?_
    refine aw_top (y := nI i) (h1) ?_
    refine aw_aload_n (npc := 32) rfl dX1_advance_31 rfl ?_
    refine aw_get (npc := 35) dX1_advance_32 rfl kf_X1_12 Rd.1 rfl ?_
    refine aw_get (npc := 38) dX1_advance_35 rfl kf_X1_73 Rd.2.1 rfl ?_
    refine aw_icmp_ge (npc := 41) (tgt := 71) dX1_advance_38 rfl (by decide) (fun hc => absurd hc (nI_ge (a := i) (b := L) (by omega) (by omega))) (fun _ => ?_)
    refine aw_aload_n (npc := 42) rfl dX1_advance_41 rfl ?_
    refine aw_get (npc := 45) dX1_advance_42 rfl kf_X1_12 Rd.1 rfl ?_
    refine aw_get (npc := 48) dX1_advance_45 rfl kf_X1_76 Rd.2.1 rfl ?_
    refine aw_aload_n (npc := 49) rfl dX1_advance_48 rfl ?_
    refine aw_get (npc := 52) dX1_advance_49 rfl kf_X1_18 Rd.1 rfl ?_
    refine aw_top (y := nI i) (h1) ?_
    refine aw_iald (npc := 53) (x := tp i) (j := i) dX1_advance_52 rfl Rd.2.2.1 (am_ix_nI (by omega)) (tl_at (by omega)) ?_
    refine aw_bipush (npc := 55) (v := 32) (by decide) dX1_advance_53 rfl ?_
    refine aw_icmp_ne (npc := 58) (tgt := 71) dX1_advance_55 rfl (by decide) (fun hc2 => ?_) (fun hc2 => ?_)
    · exact hq r h (h1.trans (congrArg nI (sk_e (Or.inr hc2)).symm)) (fun _ _ => rfl) Rd am_fp0
    · refine aw_aload_n (npc := 59) rfl dX1_advance_58 rfl ?_
      refine aw_dup (npc := 60) rfl dX1_advance_59 rfl ?_
      refine aw_get (npc := 63) dX1_advance_60 rfl kf_X1_18 Rd.1 rfl ?_
      refine aw_top (y := nI i) (h1) ?_
      refine aw_iconst (npc := 64) (v := 1) (by decide) dX1_advance_63 rfl ?_
      refine aw_iaddV (npc := 65) (v := nI (i + 1)) dX1_advance_64 rfl (nI_add _ 1) ?_
      refine aw_put (npc := 68) dX1_advance_65 rfl kf_X1_18 Rd.1 (Nat.le_of_ble_eq_true rfl) (am_ok_int _) rfl ?_
      have Rd3 := rd_r1 (v := nI (i + 1)) Rd
      refine aw_goto (npc := 27) dX1_advance_68 (by decide) ?_
      refine ih (i + 1) (by omega) _ _ Rd3 pk_us (fun r9 h9 q1 q2 F9 f9 => hq r9 h9 (q1.trans ?_) (fun k hk => (q2 k hk).trans (pk_un hk)) F9 (am_fpT f9 (am_fpU (show ¬ (39 < 39 ∨ 43 ≤ 39) by omega) am_fp0)))
      exact congrArg nI (sk_s (by omega) hc2).symm
set_option maxHeartbeats 4000000 in
set_option maxRecDepth 100000 in
theorem r_wl {X : List Int32} {d rc rs n : Nat} {Q : am_Q} {L : Nat} {tp cd : Nat → Int32} {v1 v2 : Int32} {v3 : Option Value} (hL : L ≤ 96) {t : Nat} (ht6 : t ≤ 5) : ∀ (m i : Nat), i + m = L → ∀ (r : Nat → Int32) (h : am_H), RD r (nI L) tp cd h → r 1 = nI i → r 2 = nI t → (∀ r9 h9, r9 1 = nI (rn L tp t i) → (∀ k, k ≠ 1 → r9 k = r k) → RD r9 (nI L) tp cd h9 → am_fp (fun k => k < 39 ∨ 43 ≤ k) h9 h → AW X mX1_advance (d + 4) rc rs 186 [some (.ref 39), some (.int v1), some (.int v2), v3] [] n h9 Q) → AW X mX1_advance (d + 4) rc rs 137 [some (.ref 39), some (.int v1), some (.int v2), v3] [] n h Q := by
  intro m
  induction m with
  | zero =>
    intro i hi r h Rd h1 h2 hq
    obtain rfl : i = L := by omega
    refine aw_aload_n (npc := 138) rfl dX1_advance_137 rfl ?_
    refine aw_get (npc := 141) dX1_advance_138 rfl kf_X1_18 Rd.1 rfl ?_
    refine aw_top (y := nI i) (h1) ?_
    refine aw_aload_n (npc := 142) rfl dX1_advance_141 rfl ?_
    refine aw_get (npc := 145) dX1_advance_142 rfl kf_X1_12 Rd.1 rfl ?_
    refine aw_get (npc := 148) dX1_advance_145 rfl kf_X1_73 Rd.2.1 rfl ?_
    refine aw_icmp_ge (npc := 151) (tgt := 186) dX1_advance_148 rfl (by decide) (fun _ => ?_) (fun hc => absurd (nI_le (a := i) (b := i) (by omega) (by omega)) hc)
    exact hq r h (h1.trans (congrArg nI (rn_e (Or.inl (by omega))).symm)) (fun _ _ => rfl) Rd am_fp0
  | succ m ih =>
    intro i hi r h Rd h1 h2 hq
    refine aw_aload_n (npc := 138) rfl dX1_advance_137 rfl ?_
    refine aw_get (npc := 141) dX1_advance_138 rfl kf_X1_18 Rd.1 rfl ?_
    refine aw_top (y := nI i) (h1) ?_
    refine aw_aload_n (npc := 142) rfl dX1_advance_141 rfl ?_
    refine aw_get (npc := 145) dX1_advance_142 rfl kf_X1_12 Rd.1 rfl ?_
    refine aw_get (npc := 148) dX1_advance_145 rfl kf_X1_73 Rd.2.1 rfl ?_
    refine aw_icmp_ge (npc := 151) (tgt := 186) dX1_advance_148 rfl (by decide) (fun hc => absurd hc (nI_ge (a := i) (b := L) (by omega) (by omega))) (fun _ => ?_)
    refine aw_aload_n (npc := 152) rfl dX1_advance_151 rfl ?_
    refine aw_get (npc := 155) dX1_advance_152 rfl kf_X1_12 Rd.1 rfl ?_
    refine aw_get (npc := 158) dX1_advance_155 rfl kf_X1_76 Rd.2.1 rfl ?_
    refine aw_aload_n (npc := 159) rfl dX1_advance_158 rfl ?_
    refine aw_get (npc := 162) dX1_advance_159 rfl kf_X1_18 Rd.1 rfl ?_
    refine aw_top (y := nI i) (h1) ?_
    refine aw_iald (npc := 163) (x := tp i) (j := i) dX1_advance_162 rfl Rd.2.2.1 (am_ix_nI (by omega)) (tl_at (by omega)) ?_
    refine aw_callS (npc := 166) (N := mX1_sortOf) (mc := 0) (ms := 0) (A := [.int (tp i)]) (S := []) (L0 := [some (.int (tp i))]) dX1_advance_163 rfl km_X1_sortOf kk_X1_79 rfl ⟨rfl, by decide⟩ rfl (Nat.le_of_ble_eq_true rfl) (Nat.zero_add _) (Nat.zero_add _) rfl ?_
    refine r_sort ?_
    have hso2 := so_le (tp i)
    refine aw_re (S' := [.int (nI (so (tp i)))]) rfl ?_
    refine aw_aload_n (npc := 167) rfl dX1_advance_166 rfl ?_
    refine aw_get (npc := 170) dX1_advance_167 rfl kf_X1_22 Rd.1 rfl ?_
    refine aw_top (y := nI t) (h2) ?_
    refine aw_icmp_ne (npc := 173) (tgt := 186) dX1_advance_170 rfl (by decide) (fun hc3 => ?_) (fun hc3 => ?_)
    · have hc3N : ¬ (so (tp i)) = t := fun z9q => hc3 ((nI_eq (a := (so (tp i))) (b := t) (by omega) (by omega)).mpr z9q)
      exact hq r h (h1.trans (congrArg nI (rn_e (Or.inr hc3N)).symm)) (fun _ _ => rfl) Rd am_fp0
    · have hc3N := (nI_eq (a := (so (tp i))) (b := t) (by omega) (by omega)).mp hc3
      refine aw_aload_n (npc := 174) rfl dX1_advance_173 rfl ?_
      refine aw_dup (npc := 175) rfl dX1_advance_174 rfl ?_
      refine aw_get (npc := 178) dX1_advance_175 rfl kf_X1_18 Rd.1 rfl ?_
      refine aw_top (y := nI i) (h1) ?_
      refine aw_iconst (npc := 179) (v := 1) (by decide) dX1_advance_178 rfl ?_
      refine aw_iaddV (npc := 180) (v := nI (i + 1)) dX1_advance_179 rfl (nI_add _ 1) ?_
      refine aw_put (npc := 183) dX1_advance_180 rfl kf_X1_18 Rd.1 (Nat.le_of_ble_eq_true rfl) (am_ok_int _) rfl ?_
      have Rd4 := rd_r1 (v := nI (i + 1)) Rd
      refine aw_goto (npc := 137) dX1_advance_183 (by decide) ?_
      refine ih (i + 1) (by omega) _ _ Rd4 pk_us ((pk_un (by decide)).trans h2) (fun r9 h9 q1 q2 F9 f9 => hq r9 h9 (q1.trans ?_) (fun k hk => (q2 k hk).trans (pk_un hk)) F9 (am_fpT f9 (am_fpU (show ¬ (39 < 39 ∨ 43 ≤ 39) by omega) am_fp0)))
      exact congrArg nI (rn_s (by omega) hc3N).symm
set_option maxHeartbeats 4000000 in
set_option maxRecDepth 100000 in
theorem r_adv {X : List Int32} {d rc rs n : Nat} {Q : am_Q} {h : am_H} {L : Nat} {tp : Nat → Int32} {ρ : RS} (H : RX ρ L tp h) (Wf : WR L tp ρ) (hq : ∀ h9, RX (avF L tp ρ) L tp h9 → am_fp (fun k => k < 39 ∨ 43 ≤ k) h9 h → Q none n h9) : AW X mX1_advance (d + 4) rc rs 0 [some (.ref 39), none, none, none] [] n h Q := by
  obtain ⟨r, cd, Rd, m1, m2, m3, m4, m5, m7, m8, m9, m10, mc⟩ := H
  obtain ⟨wk, w96, wcl, wob, wog, wft⟩ := id Wf
  have we := wk.1
  have wf := wk.2.1
  have wt := wk.2.2.1
  refine aw_aload_n (npc := 1) rfl dX1_advance_0 rfl ?_
  refine aw_get (npc := 4) dX1_advance_1 rfl kf_X1_18 Rd.1 rfl ?_
  refine aw_top (y := nI ρ.1.2.2) (m1) ?_
  refine aw_istore_n (npc := 5) (L' := [some (.ref 39), some (.int (nI ρ.1.2.2)), none, none]) dX1_advance_4 rfl (by decide) rfl rfl ?_
  refine aw_aload_n (npc := 6) rfl dX1_advance_5 rfl ?_
  refine aw_get (npc := 9) dX1_advance_6 rfl kf_X1_22 Rd.1 rfl ?_
  refine aw_top (y := nI ρ.1.1) (m2) ?_
  refine aw_iconst (npc := 10) (v := 1) (by decide) dX1_advance_9 rfl ?_
  refine aw_icmp_eq (npc := 13) (tgt := 21) dX1_advance_10 rfl (by decide) (fun hc1 => ?_) (fun hc1 => ?_)
  · have hc1N := (nI_eq (a := ρ.1.1) (b := 1) (by omega) (by omega)).mp hc1
    refine aw_iconst (npc := 22) (v := 1) (by decide) dX1_advance_21 rfl ?_
    refine aw_goto (npc := 26) dX1_advance_22 (by decide) ?_
    refine aw_istore_n (npc := 27) (L' := [some (.ref 39), some (.int (nI ρ.1.2.2)), some (.int 1), none]) dX1_advance_26 rfl (by decide) rfl rfl ?_
    have hwd : wd ρ.1 = true := decide_eq_true (Or.inl hc1N)
    refine r_bl w96 (L - ρ.1.2.2) ρ.1.2.2 (by omega) _ _ Rd m1 (fun r1 h1 q1 q2 Rd1 f1 => ?_)
    have hsk := skB_p (tp := tp) (L - ρ.1.2.2) ρ.1.2.2
    have hsk1 : ρ.1.2.2 ≤ sk L tp ρ.1.2.2 := hsk.1
    have hsk2 : sk L tp ρ.1.2.2 ≤ L := by have z := hsk.2.1; show skB tp (L - ρ.1.2.2) ρ.1.2.2 ≤ L; omega
    refine aw_aload_n (npc := 72) rfl dX1_advance_71 rfl ?_
    refine aw_aload_n (npc := 73) rfl dX1_advance_72 rfl ?_
    refine aw_get (npc := 76) dX1_advance_73 rfl kf_X1_18 Rd1.1 rfl ?_
    refine aw_top (y := nI (sk L tp ρ.1.2.2)) (q1) ?_
    refine aw_put (npc := 79) dX1_advance_76 rfl kf_X1_25 Rd1.1 (Nat.le_of_ble_eq_true rfl) (am_ok_int _) rfl ?_
    have Rd2 := rd_r3 (v := nI (sk L tp ρ.1.2.2)) Rd1
    refine aw_aload_n (npc := 80) rfl dX1_advance_79 rfl ?_
    refine aw_get (npc := 83) dX1_advance_80 rfl kf_X1_18 Rd2.1 rfl ?_
    refine aw_top (y := r1 1) ((pk_un (by omega))) ?_
    refine aw_top (y := nI (sk L tp ρ.1.2.2)) (q1) ?_
    refine aw_aload_n (npc := 84) rfl dX1_advance_83 rfl ?_
    refine aw_get (npc := 87) dX1_advance_84 rfl kf_X1_12 Rd2.1 rfl ?_
    refine aw_get (npc := 90) dX1_advance_87 rfl kf_X1_73 Rd2.2.1 rfl ?_
    refine aw_icmp_lt (npc := 93) (tgt := 99) dX1_advance_90 rfl (by decide) (fun hc3 => ?_) (fun hc3 => ?_)
    · have hc3N := (nI_ltI (a := (sk L tp ρ.1.2.2)) (b := L) (by omega) (by omega)).mp hc3
      refine aw_aload_n (npc := 100) rfl dX1_advance_99 rfl ?_
      refine aw_aload_n (npc := 101) rfl dX1_advance_100 rfl ?_
      refine aw_get (npc := 104) dX1_advance_101 rfl kf_X1_12 Rd2.1 rfl ?_
      refine aw_get (npc := 107) dX1_advance_104 rfl kf_X1_76 Rd2.2.1 rfl ?_
      refine aw_aload_n (npc := 108) rfl dX1_advance_107 rfl ?_
      refine aw_get (npc := 111) dX1_advance_108 rfl kf_X1_18 Rd2.1 rfl ?_
      refine aw_top (y := r1 1) ((pk_un (by omega))) ?_
      refine aw_top (y := nI (sk L tp ρ.1.2.2)) (q1) ?_
      refine aw_iald (npc := 112) (x := tp (sk L tp ρ.1.2.2)) (j := (sk L tp ρ.1.2.2)) dX1_advance_111 rfl Rd2.2.2.1 (am_ix_nI (by omega)) (tl_at (by omega)) ?_
      refine aw_callS (npc := 115) (N := mX1_sortOf) (mc := 0) (ms := 0) (A := [.int (tp (sk L tp ρ.1.2.2))]) (S := [.ref 39]) (L0 := [some (.int (tp (sk L tp ρ.1.2.2)))]) dX1_advance_112 rfl km_X1_sortOf kk_X1_79 rfl ⟨rfl, by decide⟩ rfl (Nat.le_of_ble_eq_true rfl) (Nat.zero_add _) (Nat.zero_add _) rfl ?_
      refine r_sort ?_
      have hso4 := so_le (tp (sk L tp ρ.1.2.2))
      refine aw_re (S' := [.int (nI (so (tp (sk L tp ρ.1.2.2)))), .ref 39]) rfl ?_
      refine aw_put (npc := 118) dX1_advance_115 rfl kf_X1_22 Rd2.1 (Nat.le_of_ble_eq_true rfl) (am_ok_int _) rfl ?_
      have Rd5 := rd_r2 (v := nI (so (tp (sk L tp ρ.1.2.2)))) Rd2
      refine aw_aload_n (npc := 119) rfl dX1_advance_118 rfl ?_
      refine aw_dup (npc := 120) rfl dX1_advance_119 rfl ?_
      refine aw_get (npc := 123) dX1_advance_120 rfl kf_X1_18 Rd5.1 rfl ?_
      refine aw_top (y := r1 1) (((pk_un (by omega))).trans (pk_un (by omega))) ?_
      refine aw_top (y := nI (sk L tp ρ.1.2.2)) (q1) ?_
      refine aw_iconst (npc := 124) (v := 1) (by decide) dX1_advance_123 rfl ?_
      refine aw_iaddV (npc := 125) (v := nI ((sk L tp ρ.1.2.2) + 1)) dX1_advance_124 rfl (nI_add _ 1) ?_
      refine aw_put (npc := 128) dX1_advance_125 rfl kf_X1_18 Rd5.1 (Nat.le_of_ble_eq_true rfl) (am_ok_int _) rfl ?_
      have Rd6 := rd_r1 (v := nI ((sk L tp ρ.1.2.2) + 1)) Rd5
      refine aw_aload_n (npc := 129) rfl dX1_advance_128 rfl ?_
      refine aw_get (npc := 132) dX1_advance_129 rfl kf_X1_22 Rd6.1 rfl ?_
      refine aw_top (y := nI (so (tp (sk L tp ρ.1.2.2)))) (((pk_un (by omega))).trans pk_us) ?_
      refine aw_iconst (npc := 133) (v := 3) (by decide) dX1_advance_132 rfl ?_
      refine aw_icmp_ne (npc := 136) (tgt := 137) dX1_advance_133 rfl (by decide) (fun hc7 => ?_) (fun hc7 => ?_)
      · have hc7N : ¬ (so (tp (sk L tp ρ.1.2.2))) = 3 := fun z9q => hc7 ((nI_eq (a := (so (tp (sk L tp ρ.1.2.2)))) (b := 3) (by omega) (by omega)).mpr z9q)
        have hso2 : so (tp (sk L tp ρ.1.2.2)) ≤ 4 := so_le _
        refine r_wl (t := so (tp (sk L tp ρ.1.2.2))) w96 (by omega) (L - (sk L tp ρ.1.2.2 + 1)) (sk L tp ρ.1.2.2 + 1) (by omega) _ _ Rd6 pk_us (((pk_un (by decide)).trans pk_us)) (fun r2 h2 p1 p2 Rd2 f2 => ?_)
        have hrn := rnB_p (tp := tp) (t := so (tp (sk L tp ρ.1.2.2))) (L - (sk L tp ρ.1.2.2 + 1)) (sk L tp ρ.1.2.2 + 1)
        have hrn1 : sk L tp ρ.1.2.2 + 1 ≤ rn L tp (so (tp (sk L tp ρ.1.2.2))) (sk L tp ρ.1.2.2 + 1) := hrn.1
        have hrn2 : rn L tp (so (tp (sk L tp ρ.1.2.2))) (sk L tp ρ.1.2.2 + 1) ≤ L := by have z := hrn.2.1; show rnB tp _ (L - (sk L tp ρ.1.2.2 + 1)) (sk L tp ρ.1.2.2 + 1) ≤ L; omega
        have p22 : r2 2 = nI (so (tp (sk L tp ρ.1.2.2))) := (p2 2 (by decide)).trans ((pk_un (by decide)).trans pk_us)
        have p23 : r2 3 = nI (sk L tp ρ.1.2.2) := (p2 3 (by decide)).trans ((pk_un (by decide)).trans ((pk_un (by decide)).trans pk_us))
        refine aw_iload_n (npc := 187) rfl dX1_advance_186 rfl ?_
        refine aw_if_eq (npc := 190) (tgt := 202) dX1_advance_187 rfl (by decide) (fun hc => absurd hc (by decide)) (fun _ => ?_)
        refine aw_aload_n (npc := 191) rfl dX1_advance_190 rfl ?_
        refine aw_get (npc := 194) dX1_advance_191 rfl kf_X1_25 Rd2.1 rfl ?_
        refine aw_top (y := nI (sk L tp ρ.1.2.2)) (p23) ?_
        refine aw_iload_n (npc := 195) rfl dX1_advance_194 rfl ?_
        refine aw_icmp_ne (npc := 198) (tgt := 202) dX1_advance_195 rfl (by decide) (fun hc8 => ?_) (fun hc8 => ?_)
        · have hc8N : ¬ (sk L tp ρ.1.2.2) = ρ.1.2.2 := fun z9q => hc8 ((nI_eq (a := (sk L tp ρ.1.2.2)) (b := ρ.1.2.2) (by omega) (by omega)).mpr z9q)
          refine aw_iconst (npc := 203) (v := 0) (by decide) dX1_advance_202 rfl ?_
          refine aw_istore_n (npc := 204) (L' := [some (.ref 39), some (.int (nI ρ.1.2.2)), some (.int 1), some (.int 0)]) dX1_advance_203 rfl (by decide) rfl rfl ?_
          refine aw_iload_n (npc := 205) rfl dX1_advance_204 rfl ?_
          refine aw_if_ne (npc := 208) (tgt := 229) dX1_advance_205 rfl (by decide) (fun hc => absurd (by decide) hc) (fun _ => ?_)
          refine aw_aload_n (npc := 209) rfl dX1_advance_208 rfl ?_
          refine aw_get (npc := 212) dX1_advance_209 rfl kf_X1_22 Rd2.1 rfl ?_
          refine aw_top (y := nI (so (tp (sk L tp ρ.1.2.2)))) (p22) ?_
          refine aw_iconst (npc := 213) (v := 2) (by decide) dX1_advance_212 rfl ?_
          refine aw_icmp_ne (npc := 216) (tgt := 234) dX1_advance_213 rfl (by decide) (fun hc9 => ?_) (fun hc9 => ?_)
          · have hc9N : ¬ (so (tp (sk L tp ρ.1.2.2))) = 2 := fun z9q => hc9 ((nI_eq (a := (so (tp (sk L tp ρ.1.2.2)))) (b := 2) (by omega) (by omega)).mpr z9q)
            refine aw_vret rfl dX1_advance_234 ?_
            have ea : adv L tp ρ.1 = (so (tp (sk L tp ρ.1.2.2)), sk L tp ρ.1.2.2, rn L tp (so (tp (sk L tp ρ.1.2.2))) (sk L tp ρ.1.2.2 + 1)) := by
              unfold adv nx
              rw [hwd, if_neg (show ¬ L ≤ sk L tp ρ.1.2.2 by omega), if_neg hc7N]
              exact if_neg (fun z => z.elim (fun z => hc8N z.2) (fun y => hc9N y.1))
            exact hq _ ⟨_, _, Rd2, ((p1).trans (show nI (rn L tp (so (tp (sk L tp ρ.1.2.2))) (sk L tp ρ.1.2.2 + 1)) = nI (adv L tp ρ.1).2.2 by rw [ea])), ((p22).trans (show nI (so (tp (sk L tp ρ.1.2.2))) = nI (adv L tp ρ.1).1 by rw [ea])), ((p23).trans (show nI (sk L tp ρ.1.2.2) = nI (adv L tp ρ.1).2.1 by rw [ea])), (((p2 4 (by decide)).trans ((pk_un (by decide)).trans ((pk_un (by decide)).trans ((pk_un (by decide)).trans (q2 4 (by decide)))))).trans m4), (((p2 5 (by decide)).trans ((pk_un (by decide)).trans ((pk_un (by decide)).trans ((pk_un (by decide)).trans (q2 5 (by decide)))))).trans m5), (((p2 7 (by decide)).trans ((pk_un (by decide)).trans ((pk_un (by decide)).trans ((pk_un (by decide)).trans (q2 7 (by decide)))))).trans m7), (((p2 8 (by decide)).trans ((pk_un (by decide)).trans ((pk_un (by decide)).trans ((pk_un (by decide)).trans (q2 8 (by decide)))))).trans m8), (((p2 9 (by decide)).trans ((pk_un (by decide)).trans ((pk_un (by decide)).trans ((pk_un (by decide)).trans (q2 9 (by decide)))))).trans m9), (((p2 10 (by decide)).trans ((pk_un (by decide)).trans ((pk_un (by decide)).trans ((pk_un (by decide)).trans (q2 10 (by decide)))))).trans m10), mc⟩ (am_fpT f2 (am_fpU (show ¬ (39 < 39 ∨ 43 ≤ 39) by omega) (am_fpU (show ¬ (39 < 39 ∨ 43 ≤ 39) by omega) (am_fpU (show ¬ (39 < 39 ∨ 43 ≤ 39) by omega) f1))))
          · have hc9N := (nI_eq (a := (so (tp (sk L tp ρ.1.2.2)))) (b := 2) (by omega) (by omega)).mp hc9
            refine aw_aload_n (npc := 217) rfl dX1_advance_216 rfl ?_
            refine aw_get (npc := 220) dX1_advance_217 rfl kf_X1_18 Rd2.1 rfl ?_
            refine aw_top (y := nI (rn L tp (so (tp (sk L tp ρ.1.2.2))) (sk L tp ρ.1.2.2 + 1))) (p1) ?_
            refine aw_aload_n (npc := 221) rfl dX1_advance_220 rfl ?_
            refine aw_get (npc := 224) dX1_advance_221 rfl kf_X1_25 Rd2.1 rfl ?_
            refine aw_top (y := nI (sk L tp ρ.1.2.2)) (p23) ?_
            refine aw_isubV (npc := 225) (v := nI ((rn L tp (so (tp (sk L tp ρ.1.2.2))) (sk L tp ρ.1.2.2 + 1)) - (sk L tp ρ.1.2.2))) dX1_advance_224 rfl (pk_sub (by omega)) ?_
            refine aw_iconst (npc := 226) (v := 4) (by decide) dX1_advance_225 rfl ?_
            refine aw_icmp_le (npc := 229) (tgt := 234) dX1_advance_226 rfl (by decide) (fun hc10 => ?_) (fun hc10 => ?_)
            · have hc10N := (nI_leI (a := ((rn L tp (so (tp (sk L tp ρ.1.2.2))) (sk L tp ρ.1.2.2 + 1)) - (sk L tp ρ.1.2.2))) (b := 4) (by omega) (by omega)).mp hc10
              refine aw_vret rfl dX1_advance_234 ?_
              have ea : adv L tp ρ.1 = (so (tp (sk L tp ρ.1.2.2)), sk L tp ρ.1.2.2, rn L tp (so (tp (sk L tp ρ.1.2.2))) (sk L tp ρ.1.2.2 + 1)) := by
                unfold adv nx
                rw [hwd, if_neg (show ¬ L ≤ sk L tp ρ.1.2.2 by omega), if_neg hc7N]
                exact if_neg (fun z => z.elim (fun z => hc8N z.2) (fun y => by have z9 := hc10N; have y9 := y.2; omega))
              exact hq _ ⟨_, _, Rd2, ((p1).trans (show nI (rn L tp (so (tp (sk L tp ρ.1.2.2))) (sk L tp ρ.1.2.2 + 1)) = nI (adv L tp ρ.1).2.2 by rw [ea])), ((p22).trans (show nI (so (tp (sk L tp ρ.1.2.2))) = nI (adv L tp ρ.1).1 by rw [ea])), ((p23).trans (show nI (sk L tp ρ.1.2.2) = nI (adv L tp ρ.1).2.1 by rw [ea])), (((p2 4 (by decide)).trans ((pk_un (by decide)).trans ((pk_un (by decide)).trans ((pk_un (by decide)).trans (q2 4 (by decide)))))).trans m4), (((p2 5 (by decide)).trans ((pk_un (by decide)).trans ((pk_un (by decide)).trans ((pk_un (by decide)).trans (q2 5 (by decide)))))).trans m5), (((p2 7 (by decide)).trans ((pk_un (by decide)).trans ((pk_un (by decide)).trans ((pk_un (by decide)).trans (q2 7 (by decide)))))).trans m7), (((p2 8 (by decide)).trans ((pk_un (by decide)).trans ((pk_un (by decide)).trans ((pk_un (by decide)).trans (q2 8 (by decide)))))).trans m8), (((p2 9 (by decide)).trans ((pk_un (by decide)).trans ((pk_un (by decide)).trans ((pk_un (by decide)).trans (q2 9 (by decide)))))).trans m9), (((p2 10 (by decide)).trans ((pk_un (by decide)).trans ((pk_un (by decide)).trans ((pk_un (by decide)).trans (q2 10 (by decide)))))).trans m10), mc⟩ (am_fpT f2 (am_fpU (show ¬ (39 < 39 ∨ 43 ≤ 39) by omega) (am_fpU (show ¬ (39 < 39 ∨ 43 ≤ 39) by omega) (am_fpU (show ¬ (39 < 39 ∨ 43 ≤ 39) by omega) f1))))
            · have hc10N : ¬ ((rn L tp (so (tp (sk L tp ρ.1.2.2))) (sk L tp ρ.1.2.2 + 1)) - (sk L tp ρ.1.2.2)) ≤ 4 := fun z9q => hc10 ((nI_leI (a := ((rn L tp (so (tp (sk L tp ρ.1.2.2))) (sk L tp ρ.1.2.2 + 1)) - (sk L tp ρ.1.2.2))) (b := 4) (by omega) (by omega)).mpr z9q)
              refine aw_aload_n (npc := 230) rfl dX1_advance_229 rfl ?_
              refine aw_iconst (npc := 231) (v := 5) (by decide) dX1_advance_230 rfl ?_
              refine aw_put (npc := 234) dX1_advance_231 rfl kf_X1_22 Rd2.1 (Nat.le_of_ble_eq_true rfl) (am_ok_int _) rfl ?_
              have Rd11 := rd_r2 (v := 5) Rd2
              refine aw_vret rfl dX1_advance_234 ?_
              have ea : adv L tp ρ.1 = (5, sk L tp ρ.1.2.2, rn L tp (so (tp (sk L tp ρ.1.2.2))) (sk L tp ρ.1.2.2 + 1)) := by
                unfold adv nx
                rw [hwd, if_neg (show ¬ L ≤ sk L tp ρ.1.2.2 by omega), if_neg hc7N]
                exact if_pos (Or.inr ⟨hc9N, by have z9 := hc10N; omega⟩)
              exact hq _ ⟨_, _, Rd11, ((((pk_un (by omega))).trans p1).trans (show nI (rn L tp (so (tp (sk L tp ρ.1.2.2))) (sk L tp ρ.1.2.2 + 1)) = nI (adv L tp ρ.1).2.2 by rw [ea])), ((pk_us).trans (show nI (5) = nI (adv L tp ρ.1).1 by rw [ea])), ((((pk_un (by omega))).trans p23).trans (show nI (sk L tp ρ.1.2.2) = nI (adv L tp ρ.1).2.1 by rw [ea])), (((pk_un (by decide)).trans ((p2 4 (by decide)).trans ((pk_un (by decide)).trans ((pk_un (by decide)).trans ((pk_un (by decide)).trans (q2 4 (by decide))))))).trans m4), (((pk_un (by decide)).trans ((p2 5 (by decide)).trans ((pk_un (by decide)).trans ((pk_un (by decide)).trans ((pk_un (by decide)).trans (q2 5 (by decide))))))).trans m5), (((pk_un (by decide)).trans ((p2 7 (by decide)).trans ((pk_un (by decide)).trans ((pk_un (by decide)).trans ((pk_un (by decide)).trans (q2 7 (by decide))))))).trans m7), (((pk_un (by decide)).trans ((p2 8 (by decide)).trans ((pk_un (by decide)).trans ((pk_un (by decide)).trans ((pk_un (by decide)).trans (q2 8 (by decide))))))).trans m8), (((pk_un (by decide)).trans ((p2 9 (by decide)).trans ((pk_un (by decide)).trans ((pk_un (by decide)).trans ((pk_un (by decide)).trans (q2 9 (by decide))))))).trans m9), (((pk_un (by decide)).trans ((p2 10 (by decide)).trans ((pk_un (by decide)).trans ((pk_un (by decide)).trans ((pk_un (by decide)).trans (q2 10 (by decide))))))).trans m10), mc⟩ (am_fpU (show ¬ (39 < 39 ∨ 43 ≤ 39) by omega) (am_fpT f2 (am_fpU (show ¬ (39 < 39 ∨ 43 ≤ 39) by omega) (am_fpU (show ¬ (39 < 39 ∨ 43 ≤ 39) by omega) (am_fpU (show ¬ (39 < 39 ∨ 43 ≤ 39) by omega) f1)))))
        · have hc8N := (nI_eq (a := (sk L tp ρ.1.2.2)) (b := ρ.1.2.2) (by omega) (by omega)).mp hc8
          refine aw_iconst (npc := 199) (v := 1) (by decide) dX1_advance_198 rfl ?_
          refine aw_goto (npc := 203) dX1_advance_199 (by decide) ?_
          refine aw_istore_n (npc := 204) (L' := [some (.ref 39), some (.int (nI ρ.1.2.2)), some (.int 1), some (.int 1)]) dX1_advance_203 rfl (by decide) rfl rfl ?_
          refine aw_iload_n (npc := 205) rfl dX1_advance_204 rfl ?_
          refine aw_if_ne (npc := 208) (tgt := 229) dX1_advance_205 rfl (by decide) (fun _ => ?_) (fun hc => absurd hc (by decide))
          refine aw_aload_n (npc := 230) rfl dX1_advance_229 rfl ?_
          refine aw_iconst (npc := 231) (v := 5) (by decide) dX1_advance_230 rfl ?_
          refine aw_put (npc := 234) dX1_advance_231 rfl kf_X1_22 Rd2.1 (Nat.le_of_ble_eq_true rfl) (am_ok_int _) rfl ?_
          have Rd12 := rd_r2 (v := 5) Rd2
          refine aw_vret rfl dX1_advance_234 ?_
          have ea : adv L tp ρ.1 = (5, sk L tp ρ.1.2.2, rn L tp (so (tp (sk L tp ρ.1.2.2))) (sk L tp ρ.1.2.2 + 1)) := by
            unfold adv nx
            rw [hwd, if_neg (show ¬ L ≤ sk L tp ρ.1.2.2 by omega), if_neg hc7N]
            exact if_pos (Or.inl ⟨rfl, hc8N⟩)
          exact hq _ ⟨_, _, Rd12, ((((pk_un (by omega))).trans p1).trans (show nI (rn L tp (so (tp (sk L tp ρ.1.2.2))) (sk L tp ρ.1.2.2 + 1)) = nI (adv L tp ρ.1).2.2 by rw [ea])), ((pk_us).trans (show nI (5) = nI (adv L tp ρ.1).1 by rw [ea])), ((((pk_un (by omega))).trans p23).trans (show nI (sk L tp ρ.1.2.2) = nI (adv L tp ρ.1).2.1 by rw [ea])), (((pk_un (by decide)).trans ((p2 4 (by decide)).trans ((pk_un (by decide)).trans ((pk_un (by decide)).trans ((pk_un (by decide)).trans (q2 4 (by decide))))))).trans m4), (((pk_un (by decide)).trans ((p2 5 (by decide)).trans ((pk_un (by decide)).trans ((pk_un (by decide)).trans ((pk_un (by decide)).trans (q2 5 (by decide))))))).trans m5), (((pk_un (by decide)).trans ((p2 7 (by decide)).trans ((pk_un (by decide)).trans ((pk_un (by decide)).trans ((pk_un (by decide)).trans (q2 7 (by decide))))))).trans m7), (((pk_un (by decide)).trans ((p2 8 (by decide)).trans ((pk_un (by decide)).trans ((pk_un (by decide)).trans ((pk_un (by decide)).trans (q2 8 (by decide))))))).trans m8), (((pk_un (by decide)).trans ((p2 9 (by decide)).trans ((pk_un (by decide)).trans ((pk_un (by decide)).trans ((pk_un (by decide)).trans (q2 9 (by decide))))))).trans m9), (((pk_un (by decide)).trans ((p2 10 (by decide)).trans ((pk_un (by decide)).trans ((pk_un (by decide)).trans ((pk_un (by decide)).trans (q2 10 (by decide))))))).trans m10), mc⟩ (am_fpU (show ¬ (39 < 39 ∨ 43 ≤ 39) by omega) (am_fpT f2 (am_fpU (show ¬ (39 < 39 ∨ 43 ≤ 39) by omega) (am_fpU (show ¬ (39 < 39 ∨ 43 ≤ 39) by omega) (am_fpU (show ¬ (39 < 39 ∨ 43 ≤ 39) by omega) f1)))))
      · have hc7N := (nI_eq (a := (so (tp (sk L tp ρ.1.2.2)))) (b := 3) (by omega) (by omega)).mp hc7
        refine aw_vret rfl dX1_advance_136 ?_
        have ea : adv L tp ρ.1 = (3, sk L tp ρ.1.2.2, sk L tp ρ.1.2.2 + 1) := (if_neg (by omega)).trans (if_pos hc7N)
        exact hq _ ⟨_, _, Rd6, ((pk_us).trans (show nI (sk L tp ρ.1.2.2 + 1) = nI (adv L tp ρ.1).2.2 by rw [ea])), ((((pk_un (by omega))).trans pk_us).trans (show nI (so (tp (sk L tp ρ.1.2.2))) = nI (adv L tp ρ.1).1 by rw [ea]; exact congrArg nI hc7N)), (((((pk_un (by omega))).trans (pk_un (by omega))).trans pk_us).trans (show nI (sk L tp ρ.1.2.2) = nI (adv L tp ρ.1).2.1 by rw [ea])), (((pk_un (by decide)).trans ((pk_un (by decide)).trans ((pk_un (by decide)).trans (q2 4 (by decide))))).trans m4), (((pk_un (by decide)).trans ((pk_un (by decide)).trans ((pk_un (by decide)).trans (q2 5 (by decide))))).trans m5), (((pk_un (by decide)).trans ((pk_un (by decide)).trans ((pk_un (by decide)).trans (q2 7 (by decide))))).trans m7), (((pk_un (by decide)).trans ((pk_un (by decide)).trans ((pk_un (by decide)).trans (q2 8 (by decide))))).trans m8), (((pk_un (by decide)).trans ((pk_un (by decide)).trans ((pk_un (by decide)).trans (q2 9 (by decide))))).trans m9), (((pk_un (by decide)).trans ((pk_un (by decide)).trans ((pk_un (by decide)).trans (q2 10 (by decide))))).trans m10), mc⟩ (am_fpU (show ¬ (39 < 39 ∨ 43 ≤ 39) by omega) (am_fpU (show ¬ (39 < 39 ∨ 43 ≤ 39) by omega) (am_fpU (show ¬ (39 < 39 ∨ 43 ≤ 39) by omega) f1)))
    · have hc3N : ¬ (sk L tp ρ.1.2.2) < L := fun z9q => hc3 ((nI_ltI (a := (sk L tp ρ.1.2.2)) (b := L) (by omega) (by omega)).mpr z9q)
      refine aw_aload_n (npc := 94) rfl dX1_advance_93 rfl ?_
      refine aw_iconst (npc := 95) (v := 0) (by decide) dX1_advance_94 rfl ?_
      refine aw_put (npc := 98) dX1_advance_95 rfl kf_X1_22 Rd2.1 (Nat.le_of_ble_eq_true rfl) (am_ok_int _) rfl ?_
      have Rd13 := rd_r2 (v := 0) Rd2
      refine aw_vret rfl dX1_advance_98 ?_
      have ea : adv L tp ρ.1 = (0, sk L tp ρ.1.2.2, sk L tp ρ.1.2.2) := if_pos (by omega)
      exact hq _ ⟨_, _, Rd13, (((((pk_un (by omega))).trans (pk_un (by omega))).trans q1).trans (show nI (sk L tp ρ.1.2.2) = nI (adv L tp ρ.1).2.2 by rw [ea])), ((pk_us).trans (show nI (0) = nI (adv L tp ρ.1).1 by rw [ea])), ((((pk_un (by omega))).trans pk_us).trans (show nI (sk L tp ρ.1.2.2) = nI (adv L tp ρ.1).2.1 by rw [ea])), (((pk_un (by decide)).trans ((pk_un (by decide)).trans (q2 4 (by decide)))).trans m4), (((pk_un (by decide)).trans ((pk_un (by decide)).trans (q2 5 (by decide)))).trans m5), (((pk_un (by decide)).trans ((pk_un (by decide)).trans (q2 7 (by decide)))).trans m7), (((pk_un (by decide)).trans ((pk_un (by decide)).trans (q2 8 (by decide)))).trans m8), (((pk_un (by decide)).trans ((pk_un (by decide)).trans (q2 9 (by decide)))).trans m9), (((pk_un (by decide)).trans ((pk_un (by decide)).trans (q2 10 (by decide)))).trans m10), mc⟩ (am_fpU (show ¬ (39 < 39 ∨ 43 ≤ 39) by omega) (am_fpU (show ¬ (39 < 39 ∨ 43 ≤ 39) by omega) f1))
  · have hc1N : ¬ ρ.1.1 = 1 := fun z9q => hc1 ((nI_eq (a := ρ.1.1) (b := 1) (by omega) (by omega)).mpr z9q)
    refine aw_aload_n (npc := 14) rfl dX1_advance_13 rfl ?_
    refine aw_get (npc := 17) dX1_advance_14 rfl kf_X1_22 Rd.1 rfl ?_
    refine aw_top (y := nI ρ.1.1) (m2) ?_
    refine aw_iconst (npc := 18) (v := 2) (by decide) dX1_advance_17 rfl ?_
    refine aw_icmp_ne (npc := 21) (tgt := 25) dX1_advance_18 rfl (by decide) (fun hc14 => ?_) (fun hc14 => ?_)
    · have hc14N : ¬ ρ.1.1 = 2 := fun z9q => hc14 ((nI_eq (a := ρ.1.1) (b := 2) (by omega) (by omega)).mpr z9q)
      refine aw_iconst (npc := 26) (v := 0) (by decide) dX1_advance_25 rfl ?_
      refine aw_istore_n (npc := 27) (L' := [some (.ref 39), some (.int (nI ρ.1.2.2)), some (.int 0), none]) dX1_advance_26 rfl (by decide) rfl rfl ?_
      have hwd : wd ρ.1 = false := decide_eq_false (fun z => z.elim hc1N hc14N)
      refine r_bl w96 (L - ρ.1.2.2) ρ.1.2.2 (by omega) _ _ Rd m1 (fun r1 h1 q1 q2 Rd1 f1 => ?_)
      have hsk := skB_p (tp := tp) (L - ρ.1.2.2) ρ.1.2.2
      have hsk1 : ρ.1.2.2 ≤ sk L tp ρ.1.2.2 := hsk.1
      have hsk2 : sk L tp ρ.1.2.2 ≤ L := by have z := hsk.2.1; show skB tp (L - ρ.1.2.2) ρ.1.2.2 ≤ L; omega
      refine aw_aload_n (npc := 72) rfl dX1_advance_71 rfl ?_
      refine aw_aload_n (npc := 73) rfl dX1_advance_72 rfl ?_
      refine aw_get (npc := 76) dX1_advance_73 rfl kf_X1_18 Rd1.1 rfl ?_
      refine aw_top (y := nI (sk L tp ρ.1.2.2)) (q1) ?_
      refine aw_put (npc := 79) dX1_advance_76 rfl kf_X1_25 Rd1.1 (Nat.le_of_ble_eq_true rfl) (am_ok_int _) rfl ?_
      have Rd15 := rd_r3 (v := nI (sk L tp ρ.1.2.2)) Rd1
      refine aw_aload_n (npc := 80) rfl dX1_advance_79 rfl ?_
      refine aw_get (npc := 83) dX1_advance_80 rfl kf_X1_18 Rd15.1 rfl ?_
      refine aw_top (y := r1 1) ((pk_un (by omega))) ?_
      refine aw_top (y := nI (sk L tp ρ.1.2.2)) (q1) ?_
      refine aw_aload_n (npc := 84) rfl dX1_advance_83 rfl ?_
      refine aw_get (npc := 87) dX1_advance_84 rfl kf_X1_12 Rd15.1 rfl ?_
      refine aw_get (npc := 90) dX1_advance_87 rfl kf_X1_73 Rd15.2.1 rfl ?_
      refine aw_icmp_lt (npc := 93) (tgt := 99) dX1_advance_90 rfl (by decide) (fun hc16 => ?_) (fun hc16 => ?_)
      · have hc16N := (nI_ltI (a := (sk L tp ρ.1.2.2)) (b := L) (by omega) (by omega)).mp hc16
        refine aw_aload_n (npc := 100) rfl dX1_advance_99 rfl ?_
        refine aw_aload_n (npc := 101) rfl dX1_advance_100 rfl ?_
        refine aw_get (npc := 104) dX1_advance_101 rfl kf_X1_12 Rd15.1 rfl ?_
        refine aw_get (npc := 107) dX1_advance_104 rfl kf_X1_76 Rd15.2.1 rfl ?_
        refine aw_aload_n (npc := 108) rfl dX1_advance_107 rfl ?_
        refine aw_get (npc := 111) dX1_advance_108 rfl kf_X1_18 Rd15.1 rfl ?_
        refine aw_top (y := r1 1) ((pk_un (by omega))) ?_
        refine aw_top (y := nI (sk L tp ρ.1.2.2)) (q1) ?_
        refine aw_iald (npc := 112) (x := tp (sk L tp ρ.1.2.2)) (j := (sk L tp ρ.1.2.2)) dX1_advance_111 rfl Rd15.2.2.1 (am_ix_nI (by omega)) (tl_at (by omega)) ?_
        refine aw_callS (npc := 115) (N := mX1_sortOf) (mc := 0) (ms := 0) (A := [.int (tp (sk L tp ρ.1.2.2))]) (S := [.ref 39]) (L0 := [some (.int (tp (sk L tp ρ.1.2.2)))]) dX1_advance_112 rfl km_X1_sortOf kk_X1_79 rfl ⟨rfl, by decide⟩ rfl (Nat.le_of_ble_eq_true rfl) (Nat.zero_add _) (Nat.zero_add _) rfl ?_
        refine r_sort ?_
        have hso17 := so_le (tp (sk L tp ρ.1.2.2))
        refine aw_re (S' := [.int (nI (so (tp (sk L tp ρ.1.2.2)))), .ref 39]) rfl ?_
        refine aw_put (npc := 118) dX1_advance_115 rfl kf_X1_22 Rd15.1 (Nat.le_of_ble_eq_true rfl) (am_ok_int _) rfl ?_
        have Rd18 := rd_r2 (v := nI (so (tp (sk L tp ρ.1.2.2)))) Rd15
        refine aw_aload_n (npc := 119) rfl dX1_advance_118 rfl ?_
        refine aw_dup (npc := 120) rfl dX1_advance_119 rfl ?_
        refine aw_get (npc := 123) dX1_advance_120 rfl kf_X1_18 Rd18.1 rfl ?_
        refine aw_top (y := r1 1) (((pk_un (by omega))).trans (pk_un (by omega))) ?_
        refine aw_top (y := nI (sk L tp ρ.1.2.2)) (q1) ?_
        refine aw_iconst (npc := 124) (v := 1) (by decide) dX1_advance_123 rfl ?_
        refine aw_iaddV (npc := 125) (v := nI ((sk L tp ρ.1.2.2) + 1)) dX1_advance_124 rfl (nI_add _ 1) ?_
        refine aw_put (npc := 128) dX1_advance_125 rfl kf_X1_18 Rd18.1 (Nat.le_of_ble_eq_true rfl) (am_ok_int _) rfl ?_
        have Rd19 := rd_r1 (v := nI ((sk L tp ρ.1.2.2) + 1)) Rd18
        refine aw_aload_n (npc := 129) rfl dX1_advance_128 rfl ?_
        refine aw_get (npc := 132) dX1_advance_129 rfl kf_X1_22 Rd19.1 rfl ?_
        refine aw_top (y := nI (so (tp (sk L tp ρ.1.2.2)))) (((pk_un (by omega))).trans pk_us) ?_
        refine aw_iconst (npc := 133) (v := 3) (by decide) dX1_advance_132 rfl ?_
        refine aw_icmp_ne (npc := 136) (tgt := 137) dX1_advance_133 rfl (by decide) (fun hc20 => ?_) (fun hc20 => ?_)
        · have hc20N : ¬ (so (tp (sk L tp ρ.1.2.2))) = 3 := fun z9q => hc20 ((nI_eq (a := (so (tp (sk L tp ρ.1.2.2)))) (b := 3) (by omega) (by omega)).mpr z9q)
          have hso2 : so (tp (sk L tp ρ.1.2.2)) ≤ 4 := so_le _
          refine r_wl (t := so (tp (sk L tp ρ.1.2.2))) w96 (by omega) (L - (sk L tp ρ.1.2.2 + 1)) (sk L tp ρ.1.2.2 + 1) (by omega) _ _ Rd19 pk_us (((pk_un (by decide)).trans pk_us)) (fun r2 h2 p1 p2 Rd2 f2 => ?_)
          have hrn := rnB_p (tp := tp) (t := so (tp (sk L tp ρ.1.2.2))) (L - (sk L tp ρ.1.2.2 + 1)) (sk L tp ρ.1.2.2 + 1)
          have hrn1 : sk L tp ρ.1.2.2 + 1 ≤ rn L tp (so (tp (sk L tp ρ.1.2.2))) (sk L tp ρ.1.2.2 + 1) := hrn.1
          have hrn2 : rn L tp (so (tp (sk L tp ρ.1.2.2))) (sk L tp ρ.1.2.2 + 1) ≤ L := by have z := hrn.2.1; show rnB tp _ (L - (sk L tp ρ.1.2.2 + 1)) (sk L tp ρ.1.2.2 + 1) ≤ L; omega
          have p22 : r2 2 = nI (so (tp (sk L tp ρ.1.2.2))) := (p2 2 (by decide)).trans ((pk_un (by decide)).trans pk_us)
          have p23 : r2 3 = nI (sk L tp ρ.1.2.2) := (p2 3 (by decide)).trans ((pk_un (by decide)).trans ((pk_un (by decide)).trans pk_us))
          refine aw_iload_n (npc := 187) rfl dX1_advance_186 rfl ?_
          refine aw_if_eq (npc := 190) (tgt := 202) dX1_advance_187 rfl (by decide) (fun _ => ?_) (fun hc => absurd (by decide) hc)
          refine aw_iconst (npc := 203) (v := 0) (by decide) dX1_advance_202 rfl ?_
          refine aw_istore_n (npc := 204) (L' := [some (.ref 39), some (.int (nI ρ.1.2.2)), some (.int 0), some (.int 0)]) dX1_advance_203 rfl (by decide) rfl rfl ?_
          refine aw_iload_n (npc := 205) rfl dX1_advance_204 rfl ?_
          refine aw_if_ne (npc := 208) (tgt := 229) dX1_advance_205 rfl (by decide) (fun hc => absurd (by decide) hc) (fun _ => ?_)
          refine aw_aload_n (npc := 209) rfl dX1_advance_208 rfl ?_
          refine aw_get (npc := 212) dX1_advance_209 rfl kf_X1_22 Rd2.1 rfl ?_
          refine aw_top (y := nI (so (tp (sk L tp ρ.1.2.2)))) (p22) ?_
          refine aw_iconst (npc := 213) (v := 2) (by decide) dX1_advance_212 rfl ?_
          refine aw_icmp_ne (npc := 216) (tgt := 234) dX1_advance_213 rfl (by decide) (fun hc21 => ?_) (fun hc21 => ?_)
          · have hc21N : ¬ (so (tp (sk L tp ρ.1.2.2))) = 2 := fun z9q => hc21 ((nI_eq (a := (so (tp (sk L tp ρ.1.2.2)))) (b := 2) (by omega) (by omega)).mpr z9q)
            refine aw_vret rfl dX1_advance_234 ?_
            have ea : adv L tp ρ.1 = (so (tp (sk L tp ρ.1.2.2)), sk L tp ρ.1.2.2, rn L tp (so (tp (sk L tp ρ.1.2.2))) (sk L tp ρ.1.2.2 + 1)) := by
              unfold adv nx
              rw [hwd, if_neg (show ¬ L ≤ sk L tp ρ.1.2.2 by omega), if_neg hc20N]
              exact if_neg (fun z => z.elim (fun z => absurd z.1 (by decide)) (fun y => hc21N y.1))
            exact hq _ ⟨_, _, Rd2, ((p1).trans (show nI (rn L tp (so (tp (sk L tp ρ.1.2.2))) (sk L tp ρ.1.2.2 + 1)) = nI (adv L tp ρ.1).2.2 by rw [ea])), ((p22).trans (show nI (so (tp (sk L tp ρ.1.2.2))) = nI (adv L tp ρ.1).1 by rw [ea])), ((p23).trans (show nI (sk L tp ρ.1.2.2) = nI (adv L tp ρ.1).2.1 by rw [ea])), (((p2 4 (by decide)).trans ((pk_un (by decide)).trans ((pk_un (by decide)).trans ((pk_un (by decide)).trans (q2 4 (by decide)))))).trans m4), (((p2 5 (by decide)).trans ((pk_un (by decide)).trans ((pk_un (by decide)).trans ((pk_un (by decide)).trans (q2 5 (by decide)))))).trans m5), (((p2 7 (by decide)).trans ((pk_un (by decide)).trans ((pk_un (by decide)).trans ((pk_un (by decide)).trans (q2 7 (by decide)))))).trans m7), (((p2 8 (by decide)).trans ((pk_un (by decide)).trans ((pk_un (by decide)).trans ((pk_un (by decide)).trans (q2 8 (by decide)))))).trans m8), (((p2 9 (by decide)).trans ((pk_un (by decide)).trans ((pk_un (by decide)).trans ((pk_un (by decide)).trans (q2 9 (by decide)))))).trans m9), (((p2 10 (by decide)).trans ((pk_un (by decide)).trans ((pk_un (by decide)).trans ((pk_un (by decide)).trans (q2 10 (by decide)))))).trans m10), mc⟩ (am_fpT f2 (am_fpU (show ¬ (39 < 39 ∨ 43 ≤ 39) by omega) (am_fpU (show ¬ (39 < 39 ∨ 43 ≤ 39) by omega) (am_fpU (show ¬ (39 < 39 ∨ 43 ≤ 39) by omega) f1))))
          · have hc21N := (nI_eq (a := (so (tp (sk L tp ρ.1.2.2)))) (b := 2) (by omega) (by omega)).mp hc21
            refine aw_aload_n (npc := 217) rfl dX1_advance_216 rfl ?_
            refine aw_get (npc := 220) dX1_advance_217 rfl kf_X1_18 Rd2.1 rfl ?_
            refine aw_top (y := nI (rn L tp (so (tp (sk L tp ρ.1.2.2))) (sk L tp ρ.1.2.2 + 1))) (p1) ?_
            refine aw_aload_n (npc := 221) rfl dX1_advance_220 rfl ?_
            refine aw_get (npc := 224) dX1_advance_221 rfl kf_X1_25 Rd2.1 rfl ?_
            refine aw_top (y := nI (sk L tp ρ.1.2.2)) (p23) ?_
            refine aw_isubV (npc := 225) (v := nI ((rn L tp (so (tp (sk L tp ρ.1.2.2))) (sk L tp ρ.1.2.2 + 1)) - (sk L tp ρ.1.2.2))) dX1_advance_224 rfl (pk_sub (by omega)) ?_
            refine aw_iconst (npc := 226) (v := 4) (by decide) dX1_advance_225 rfl ?_
            refine aw_icmp_le (npc := 229) (tgt := 234) dX1_advance_226 rfl (by decide) (fun hc22 => ?_) (fun hc22 => ?_)
            · have hc22N := (nI_leI (a := ((rn L tp (so (tp (sk L tp ρ.1.2.2))) (sk L tp ρ.1.2.2 + 1)) - (sk L tp ρ.1.2.2))) (b := 4) (by omega) (by omega)).mp hc22
              refine aw_vret rfl dX1_advance_234 ?_
              have ea : adv L tp ρ.1 = (so (tp (sk L tp ρ.1.2.2)), sk L tp ρ.1.2.2, rn L tp (so (tp (sk L tp ρ.1.2.2))) (sk L tp ρ.1.2.2 + 1)) := by
                unfold adv nx
                rw [hwd, if_neg (show ¬ L ≤ sk L tp ρ.1.2.2 by omega), if_neg hc20N]
                exact if_neg (fun z => z.elim (fun z => absurd z.1 (by decide)) (fun y => by have z9 := hc22N; have y9 := y.2; omega))
              exact hq _ ⟨_, _, Rd2, ((p1).trans (show nI (rn L tp (so (tp (sk L tp ρ.1.2.2))) (sk L tp ρ.1.2.2 + 1)) = nI (adv L tp ρ.1).2.2 by rw [ea])), ((p22).trans (show nI (so (tp (sk L tp ρ.1.2.2))) = nI (adv L tp ρ.1).1 by rw [ea])), ((p23).trans (show nI (sk L tp ρ.1.2.2) = nI (adv L tp ρ.1).2.1 by rw [ea])), (((p2 4 (by decide)).trans ((pk_un (by decide)).trans ((pk_un (by decide)).trans ((pk_un (by decide)).trans (q2 4 (by decide)))))).trans m4), (((p2 5 (by decide)).trans ((pk_un (by decide)).trans ((pk_un (by decide)).trans ((pk_un (by decide)).trans (q2 5 (by decide)))))).trans m5), (((p2 7 (by decide)).trans ((pk_un (by decide)).trans ((pk_un (by decide)).trans ((pk_un (by decide)).trans (q2 7 (by decide)))))).trans m7), (((p2 8 (by decide)).trans ((pk_un (by decide)).trans ((pk_un (by decide)).trans ((pk_un (by decide)).trans (q2 8 (by decide)))))).trans m8), (((p2 9 (by decide)).trans ((pk_un (by decide)).trans ((pk_un (by decide)).trans ((pk_un (by decide)).trans (q2 9 (by decide)))))).trans m9), (((p2 10 (by decide)).trans ((pk_un (by decide)).trans ((pk_un (by decide)).trans ((pk_un (by decide)).trans (q2 10 (by decide)))))).trans m10), mc⟩ (am_fpT f2 (am_fpU (show ¬ (39 < 39 ∨ 43 ≤ 39) by omega) (am_fpU (show ¬ (39 < 39 ∨ 43 ≤ 39) by omega) (am_fpU (show ¬ (39 < 39 ∨ 43 ≤ 39) by omega) f1))))
            · have hc22N : ¬ ((rn L tp (so (tp (sk L tp ρ.1.2.2))) (sk L tp ρ.1.2.2 + 1)) - (sk L tp ρ.1.2.2)) ≤ 4 := fun z9q => hc22 ((nI_leI (a := ((rn L tp (so (tp (sk L tp ρ.1.2.2))) (sk L tp ρ.1.2.2 + 1)) - (sk L tp ρ.1.2.2))) (b := 4) (by omega) (by omega)).mpr z9q)
              refine aw_aload_n (npc := 230) rfl dX1_advance_229 rfl ?_
              refine aw_iconst (npc := 231) (v := 5) (by decide) dX1_advance_230 rfl ?_
              refine aw_put (npc := 234) dX1_advance_231 rfl kf_X1_22 Rd2.1 (Nat.le_of_ble_eq_true rfl) (am_ok_int _) rfl ?_
              have Rd23 := rd_r2 (v := 5) Rd2
              refine aw_vret rfl dX1_advance_234 ?_
              have ea : adv L tp ρ.1 = (5, sk L tp ρ.1.2.2, rn L tp (so (tp (sk L tp ρ.1.2.2))) (sk L tp ρ.1.2.2 + 1)) := by
                unfold adv nx
                rw [hwd, if_neg (show ¬ L ≤ sk L tp ρ.1.2.2 by omega), if_neg hc20N]
                exact if_pos (Or.inr ⟨hc21N, by have z9 := hc22N; omega⟩)
              exact hq _ ⟨_, _, Rd23, ((((pk_un (by omega))).trans p1).trans (show nI (rn L tp (so (tp (sk L tp ρ.1.2.2))) (sk L tp ρ.1.2.2 + 1)) = nI (adv L tp ρ.1).2.2 by rw [ea])), ((pk_us).trans (show nI (5) = nI (adv L tp ρ.1).1 by rw [ea])), ((((pk_un (by omega))).trans p23).trans (show nI (sk L tp ρ.1.2.2) = nI (adv L tp ρ.1).2.1 by rw [ea])), (((pk_un (by decide)).trans ((p2 4 (by decide)).trans ((pk_un (by decide)).trans ((pk_un (by decide)).trans ((pk_un (by decide)).trans (q2 4 (by decide))))))).trans m4), (((pk_un (by decide)).trans ((p2 5 (by decide)).trans ((pk_un (by decide)).trans ((pk_un (by decide)).trans ((pk_un (by decide)).trans (q2 5 (by decide))))))).trans m5), (((pk_un (by decide)).trans ((p2 7 (by decide)).trans ((pk_un (by decide)).trans ((pk_un (by decide)).trans ((pk_un (by decide)).trans (q2 7 (by decide))))))).trans m7), (((pk_un (by decide)).trans ((p2 8 (by decide)).trans ((pk_un (by decide)).trans ((pk_un (by decide)).trans ((pk_un (by decide)).trans (q2 8 (by decide))))))).trans m8), (((pk_un (by decide)).trans ((p2 9 (by decide)).trans ((pk_un (by decide)).trans ((pk_un (by decide)).trans ((pk_un (by decide)).trans (q2 9 (by decide))))))).trans m9), (((pk_un (by decide)).trans ((p2 10 (by decide)).trans ((pk_un (by decide)).trans ((pk_un (by decide)).trans ((pk_un (by decide)).trans (q2 10 (by decide))))))).trans m10), mc⟩ (am_fpU (show ¬ (39 < 39 ∨ 43 ≤ 39) by omega) (am_fpT f2 (am_fpU (show ¬ (39 < 39 ∨ 43 ≤ 39) by omega) (am_fpU (show ¬ (39 < 39 ∨ 43 ≤ 39) by omega) (am_fpU (show ¬ (39 < 39 ∨ 43 ≤ 39) by omega) f1)))))
        · have hc20N := (nI_eq (a := (so (tp (sk L tp ρ.1.2.2)))) (b := 3) (by omega) (by omega)).mp hc20
          refine aw_vret rfl dX1_advance_136 ?_
          have ea : adv L tp ρ.1 = (3, sk L tp ρ.1.2.2, sk L tp ρ.1.2.2 + 1) := (if_neg (by omega)).trans (if_pos hc20N)
          exact hq _ ⟨_, _, Rd19, ((pk_us).trans (show nI (sk L tp ρ.1.2.2 + 1) = nI (adv L tp ρ.1).2.2 by rw [ea])), ((((pk_un (by omega))).trans pk_us).trans (show nI (so (tp (sk L tp ρ.1.2.2))) = nI (adv L tp ρ.1).1 by rw [ea]; exact congrArg nI hc20N)), (((((pk_un (by omega))).trans (pk_un (by omega))).trans pk_us).trans (show nI (sk L tp ρ.1.2.2) = nI (adv L tp ρ.1).2.1 by rw [ea])), (((pk_un (by decide)).trans ((pk_un (by decide)).trans ((pk_un (by decide)).trans (q2 4 (by decide))))).trans m4), (((pk_un (by decide)).trans ((pk_un (by decide)).trans ((pk_un (by decide)).trans (q2 5 (by decide))))).trans m5), (((pk_un (by decide)).trans ((pk_un (by decide)).trans ((pk_un (by decide)).trans (q2 7 (by decide))))).trans m7), (((pk_un (by decide)).trans ((pk_un (by decide)).trans ((pk_un (by decide)).trans (q2 8 (by decide))))).trans m8), (((pk_un (by decide)).trans ((pk_un (by decide)).trans ((pk_un (by decide)).trans (q2 9 (by decide))))).trans m9), (((pk_un (by decide)).trans ((pk_un (by decide)).trans ((pk_un (by decide)).trans (q2 10 (by decide))))).trans m10), mc⟩ (am_fpU (show ¬ (39 < 39 ∨ 43 ≤ 39) by omega) (am_fpU (show ¬ (39 < 39 ∨ 43 ≤ 39) by omega) (am_fpU (show ¬ (39 < 39 ∨ 43 ≤ 39) by omega) f1)))
      · have hc16N : ¬ (sk L tp ρ.1.2.2) < L := fun z9q => hc16 ((nI_ltI (a := (sk L tp ρ.1.2.2)) (b := L) (by omega) (by omega)).mpr z9q)
        refine aw_aload_n (npc := 94) rfl dX1_advance_93 rfl ?_
        refine aw_iconst (npc := 95) (v := 0) (by decide) dX1_advance_94 rfl ?_
        refine aw_put (npc := 98) dX1_advance_95 rfl kf_X1_22 Rd15.1 (Nat.le_of_ble_eq_true rfl) (am_ok_int _) rfl ?_
        have Rd24 := rd_r2 (v := 0) Rd15
        refine aw_vret rfl dX1_advance_98 ?_
        have ea : adv L tp ρ.1 = (0, sk L tp ρ.1.2.2, sk L tp ρ.1.2.2) := if_pos (by omega)
        exact hq _ ⟨_, _, Rd24, (((((pk_un (by omega))).trans (pk_un (by omega))).trans q1).trans (show nI (sk L tp ρ.1.2.2) = nI (adv L tp ρ.1).2.2 by rw [ea])), ((pk_us).trans (show nI (0) = nI (adv L tp ρ.1).1 by rw [ea])), ((((pk_un (by omega))).trans pk_us).trans (show nI (sk L tp ρ.1.2.2) = nI (adv L tp ρ.1).2.1 by rw [ea])), (((pk_un (by decide)).trans ((pk_un (by decide)).trans (q2 4 (by decide)))).trans m4), (((pk_un (by decide)).trans ((pk_un (by decide)).trans (q2 5 (by decide)))).trans m5), (((pk_un (by decide)).trans ((pk_un (by decide)).trans (q2 7 (by decide)))).trans m7), (((pk_un (by decide)).trans ((pk_un (by decide)).trans (q2 8 (by decide)))).trans m8), (((pk_un (by decide)).trans ((pk_un (by decide)).trans (q2 9 (by decide)))).trans m9), (((pk_un (by decide)).trans ((pk_un (by decide)).trans (q2 10 (by decide)))).trans m10), mc⟩ (am_fpU (show ¬ (39 < 39 ∨ 43 ≤ 39) by omega) (am_fpU (show ¬ (39 < 39 ∨ 43 ≤ 39) by omega) f1))
    · have hc14N := (nI_eq (a := ρ.1.1) (b := 2) (by omega) (by omega)).mp hc14
      refine aw_iconst (npc := 22) (v := 1) (by decide) dX1_advance_21 rfl ?_
      refine aw_goto (npc := 26) dX1_advance_22 (by decide) ?_
      refine aw_istore_n (npc := 27) (L' := [some (.ref 39), some (.int (nI ρ.1.2.2)), some (.int 1), none]) dX1_advance_26 rfl (by decide) rfl rfl ?_
      have hwd : wd ρ.1 = true := decide_eq_true (Or.inr hc14N)
      refine r_bl w96 (L - ρ.1.2.2) ρ.1.2.2 (by omega) _ _ Rd m1 (fun r1 h1 q1 q2 Rd1 f1 => ?_)
      have hsk := skB_p (tp := tp) (L - ρ.1.2.2) ρ.1.2.2
      have hsk1 : ρ.1.2.2 ≤ sk L tp ρ.1.2.2 := hsk.1
      have hsk2 : sk L tp ρ.1.2.2 ≤ L := by have z := hsk.2.1; show skB tp (L - ρ.1.2.2) ρ.1.2.2 ≤ L; omega
      refine aw_aload_n (npc := 72) rfl dX1_advance_71 rfl ?_
      refine aw_aload_n (npc := 73) rfl dX1_advance_72 rfl ?_
      refine aw_get (npc := 76) dX1_advance_73 rfl kf_X1_18 Rd1.1 rfl ?_
      refine aw_top (y := nI (sk L tp ρ.1.2.2)) (q1) ?_
      refine aw_put (npc := 79) dX1_advance_76 rfl kf_X1_25 Rd1.1 (Nat.le_of_ble_eq_true rfl) (am_ok_int _) rfl ?_
      have Rd25 := rd_r3 (v := nI (sk L tp ρ.1.2.2)) Rd1
      refine aw_aload_n (npc := 80) rfl dX1_advance_79 rfl ?_
      refine aw_get (npc := 83) dX1_advance_80 rfl kf_X1_18 Rd25.1 rfl ?_
      refine aw_top (y := r1 1) ((pk_un (by omega))) ?_
      refine aw_top (y := nI (sk L tp ρ.1.2.2)) (q1) ?_
      refine aw_aload_n (npc := 84) rfl dX1_advance_83 rfl ?_
      refine aw_get (npc := 87) dX1_advance_84 rfl kf_X1_12 Rd25.1 rfl ?_
      refine aw_get (npc := 90) dX1_advance_87 rfl kf_X1_73 Rd25.2.1 rfl ?_
      refine aw_icmp_lt (npc := 93) (tgt := 99) dX1_advance_90 rfl (by decide) (fun hc26 => ?_) (fun hc26 => ?_)
      · have hc26N := (nI_ltI (a := (sk L tp ρ.1.2.2)) (b := L) (by omega) (by omega)).mp hc26
        refine aw_aload_n (npc := 100) rfl dX1_advance_99 rfl ?_
        refine aw_aload_n (npc := 101) rfl dX1_advance_100 rfl ?_
        refine aw_get (npc := 104) dX1_advance_101 rfl kf_X1_12 Rd25.1 rfl ?_
        refine aw_get (npc := 107) dX1_advance_104 rfl kf_X1_76 Rd25.2.1 rfl ?_
        refine aw_aload_n (npc := 108) rfl dX1_advance_107 rfl ?_
        refine aw_get (npc := 111) dX1_advance_108 rfl kf_X1_18 Rd25.1 rfl ?_
        refine aw_top (y := r1 1) ((pk_un (by omega))) ?_
        refine aw_top (y := nI (sk L tp ρ.1.2.2)) (q1) ?_
        refine aw_iald (npc := 112) (x := tp (sk L tp ρ.1.2.2)) (j := (sk L tp ρ.1.2.2)) dX1_advance_111 rfl Rd25.2.2.1 (am_ix_nI (by omega)) (tl_at (by omega)) ?_
        refine aw_callS (npc := 115) (N := mX1_sortOf) (mc := 0) (ms := 0) (A := [.int (tp (sk L tp ρ.1.2.2))]) (S := [.ref 39]) (L0 := [some (.int (tp (sk L tp ρ.1.2.2)))]) dX1_advance_112 rfl km_X1_sortOf kk_X1_79 rfl ⟨rfl, by decide⟩ rfl (Nat.le_of_ble_eq_true rfl) (Nat.zero_add _) (Nat.zero_add _) rfl ?_
        refine r_sort ?_
        have hso27 := so_le (tp (sk L tp ρ.1.2.2))
        refine aw_re (S' := [.int (nI (so (tp (sk L tp ρ.1.2.2)))), .ref 39]) rfl ?_
        refine aw_put (npc := 118) dX1_advance_115 rfl kf_X1_22 Rd25.1 (Nat.le_of_ble_eq_true rfl) (am_ok_int _) rfl ?_
        have Rd28 := rd_r2 (v := nI (so (tp (sk L tp ρ.1.2.2)))) Rd25
        refine aw_aload_n (npc := 119) rfl dX1_advance_118 rfl ?_
        refine aw_dup (npc := 120) rfl dX1_advance_119 rfl ?_
        refine aw_get (npc := 123) dX1_advance_120 rfl kf_X1_18 Rd28.1 rfl ?_
        refine aw_top (y := r1 1) (((pk_un (by omega))).trans (pk_un (by omega))) ?_
        refine aw_top (y := nI (sk L tp ρ.1.2.2)) (q1) ?_
        refine aw_iconst (npc := 124) (v := 1) (by decide) dX1_advance_123 rfl ?_
        refine aw_iaddV (npc := 125) (v := nI ((sk L tp ρ.1.2.2) + 1)) dX1_advance_124 rfl (nI_add _ 1) ?_
        refine aw_put (npc := 128) dX1_advance_125 rfl kf_X1_18 Rd28.1 (Nat.le_of_ble_eq_true rfl) (am_ok_int _) rfl ?_
        have Rd29 := rd_r1 (v := nI ((sk L tp ρ.1.2.2) + 1)) Rd28
        refine aw_aload_n (npc := 129) rfl dX1_advance_128 rfl ?_
        refine aw_get (npc := 132) dX1_advance_129 rfl kf_X1_22 Rd29.1 rfl ?_
        refine aw_top (y := nI (so (tp (sk L tp ρ.1.2.2)))) (((pk_un (by omega))).trans pk_us) ?_
        refine aw_iconst (npc := 133) (v := 3) (by decide) dX1_advance_132 rfl ?_
        refine aw_icmp_ne (npc := 136) (tgt := 137) dX1_advance_133 rfl (by decide) (fun hc30 => ?_) (fun hc30 => ?_)
        · have hc30N : ¬ (so (tp (sk L tp ρ.1.2.2))) = 3 := fun z9q => hc30 ((nI_eq (a := (so (tp (sk L tp ρ.1.2.2)))) (b := 3) (by omega) (by omega)).mpr z9q)
          have hso2 : so (tp (sk L tp ρ.1.2.2)) ≤ 4 := so_le _
          refine r_wl (t := so (tp (sk L tp ρ.1.2.2))) w96 (by omega) (L - (sk L tp ρ.1.2.2 + 1)) (sk L tp ρ.1.2.2 + 1) (by omega) _ _ Rd29 pk_us (((pk_un (by decide)).trans pk_us)) (fun r2 h2 p1 p2 Rd2 f2 => ?_)
          have hrn := rnB_p (tp := tp) (t := so (tp (sk L tp ρ.1.2.2))) (L - (sk L tp ρ.1.2.2 + 1)) (sk L tp ρ.1.2.2 + 1)
          have hrn1 : sk L tp ρ.1.2.2 + 1 ≤ rn L tp (so (tp (sk L tp ρ.1.2.2))) (sk L tp ρ.1.2.2 + 1) := hrn.1
          have hrn2 : rn L tp (so (tp (sk L tp ρ.1.2.2))) (sk L tp ρ.1.2.2 + 1) ≤ L := by have z := hrn.2.1; show rnB tp _ (L - (sk L tp ρ.1.2.2 + 1)) (sk L tp ρ.1.2.2 + 1) ≤ L; omega
          have p22 : r2 2 = nI (so (tp (sk L tp ρ.1.2.2))) := (p2 2 (by decide)).trans ((pk_un (by decide)).trans pk_us)
          have p23 : r2 3 = nI (sk L tp ρ.1.2.2) := (p2 3 (by decide)).trans ((pk_un (by decide)).trans ((pk_un (by decide)).trans pk_us))
          refine aw_iload_n (npc := 187) rfl dX1_advance_186 rfl ?_
          refine aw_if_eq (npc := 190) (tgt := 202) dX1_advance_187 rfl (by decide) (fun hc => absurd hc (by decide)) (fun _ => ?_)
          refine aw_aload_n (npc := 191) rfl dX1_advance_190 rfl ?_
          refine aw_get (npc := 194) dX1_advance_191 rfl kf_X1_25 Rd2.1 rfl ?_
          refine aw_top (y := nI (sk L tp ρ.1.2.2)) (p23) ?_
          refine aw_iload_n (npc := 195) rfl dX1_advance_194 rfl ?_
          refine aw_icmp_ne (npc := 198) (tgt := 202) dX1_advance_195 rfl (by decide) (fun hc31 => ?_) (fun hc31 => ?_)
          · have hc31N : ¬ (sk L tp ρ.1.2.2) = ρ.1.2.2 := fun z9q => hc31 ((nI_eq (a := (sk L tp ρ.1.2.2)) (b := ρ.1.2.2) (by omega) (by omega)).mpr z9q)
            refine aw_iconst (npc := 203) (v := 0) (by decide) dX1_advance_202 rfl ?_
            refine aw_istore_n (npc := 204) (L' := [some (.ref 39), some (.int (nI ρ.1.2.2)), some (.int 1), some (.int 0)]) dX1_advance_203 rfl (by decide) rfl rfl ?_
            refine aw_iload_n (npc := 205) rfl dX1_advance_204 rfl ?_
            refine aw_if_ne (npc := 208) (tgt := 229) dX1_advance_205 rfl (by decide) (fun hc => absurd (by decide) hc) (fun _ => ?_)
            refine aw_aload_n (npc := 209) rfl dX1_advance_208 rfl ?_
            refine aw_get (npc := 212) dX1_advance_209 rfl kf_X1_22 Rd2.1 rfl ?_
            refine aw_top (y := nI (so (tp (sk L tp ρ.1.2.2)))) (p22) ?_
            refine aw_iconst (npc := 213) (v := 2) (by decide) dX1_advance_212 rfl ?_
            refine aw_icmp_ne (npc := 216) (tgt := 234) dX1_advance_213 rfl (by decide) (fun hc32 => ?_) (fun hc32 => ?_)
            · have hc32N : ¬ (so (tp (sk L tp ρ.1.2.2))) = 2 := fun z9q => hc32 ((nI_eq (a := (so (tp (sk L tp ρ.1.2.2)))) (b := 2) (by omega) (by omega)).mpr z9q)
              refine aw_vret rfl dX1_advance_234 ?_
              have ea : adv L tp ρ.1 = (so (tp (sk L tp ρ.1.2.2)), sk L tp ρ.1.2.2, rn L tp (so (tp (sk L tp ρ.1.2.2))) (sk L tp ρ.1.2.2 + 1)) := by
                unfold adv nx
                rw [hwd, if_neg (show ¬ L ≤ sk L tp ρ.1.2.2 by omega), if_neg hc30N]
                exact if_neg (fun z => z.elim (fun z => hc31N z.2) (fun y => hc32N y.1))
              exact hq _ ⟨_, _, Rd2, ((p1).trans (show nI (rn L tp (so (tp (sk L tp ρ.1.2.2))) (sk L tp ρ.1.2.2 + 1)) = nI (adv L tp ρ.1).2.2 by rw [ea])), ((p22).trans (show nI (so (tp (sk L tp ρ.1.2.2))) = nI (adv L tp ρ.1).1 by rw [ea])), ((p23).trans (show nI (sk L tp ρ.1.2.2) = nI (adv L tp ρ.1).2.1 by rw [ea])), (((p2 4 (by decide)).trans ((pk_un (by decide)).trans ((pk_un (by decide)).trans ((pk_un (by decide)).trans (q2 4 (by decide)))))).trans m4), (((p2 5 (by decide)).trans ((pk_un (by decide)).trans ((pk_un (by decide)).trans ((pk_un (by decide)).trans (q2 5 (by decide)))))).trans m5), (((p2 7 (by decide)).trans ((pk_un (by decide)).trans ((pk_un (by decide)).trans ((pk_un (by decide)).trans (q2 7 (by decide)))))).trans m7), (((p2 8 (by decide)).trans ((pk_un (by decide)).trans ((pk_un (by decide)).trans ((pk_un (by decide)).trans (q2 8 (by decide)))))).trans m8), (((p2 9 (by decide)).trans ((pk_un (by decide)).trans ((pk_un (by decide)).trans ((pk_un (by decide)).trans (q2 9 (by decide)))))).trans m9), (((p2 10 (by decide)).trans ((pk_un (by decide)).trans ((pk_un (by decide)).trans ((pk_un (by decide)).trans (q2 10 (by decide)))))).trans m10), mc⟩ (am_fpT f2 (am_fpU (show ¬ (39 < 39 ∨ 43 ≤ 39) by omega) (am_fpU (show ¬ (39 < 39 ∨ 43 ≤ 39) by omega) (am_fpU (show ¬ (39 < 39 ∨ 43 ≤ 39) by omega) f1))))
            · have hc32N := (nI_eq (a := (so (tp (sk L tp ρ.1.2.2)))) (b := 2) (by omega) (by omega)).mp hc32
              refine aw_aload_n (npc := 217) rfl dX1_advance_216 rfl ?_
              refine aw_get (npc := 220) dX1_advance_217 rfl kf_X1_18 Rd2.1 rfl ?_
              refine aw_top (y := nI (rn L tp (so (tp (sk L tp ρ.1.2.2))) (sk L tp ρ.1.2.2 + 1))) (p1) ?_
              refine aw_aload_n (npc := 221) rfl dX1_advance_220 rfl ?_
              refine aw_get (npc := 224) dX1_advance_221 rfl kf_X1_25 Rd2.1 rfl ?_
              refine aw_top (y := nI (sk L tp ρ.1.2.2)) (p23) ?_
              refine aw_isubV (npc := 225) (v := nI ((rn L tp (so (tp (sk L tp ρ.1.2.2))) (sk L tp ρ.1.2.2 + 1)) - (sk L tp ρ.1.2.2))) dX1_advance_224 rfl (pk_sub (by omega)) ?_
              refine aw_iconst (npc := 226) (v := 4) (by decide) dX1_advance_225 rfl ?_
              refine aw_icmp_le (npc := 229) (tgt := 234) dX1_advance_226 rfl (by decide) (fun hc33 => ?_) (fun hc33 => ?_)
              · have hc33N := (nI_leI (a := ((rn L tp (so (tp (sk L tp ρ.1.2.2))) (sk L tp ρ.1.2.2 + 1)) - (sk L tp ρ.1.2.2))) (b := 4) (by omega) (by omega)).mp hc33
                refine aw_vret rfl dX1_advance_234 ?_
                have ea : adv L tp ρ.1 = (so (tp (sk L tp ρ.1.2.2)), sk L tp ρ.1.2.2, rn L tp (so (tp (sk L tp ρ.1.2.2))) (sk L tp ρ.1.2.2 + 1)) := by
                  unfold adv nx
                  rw [hwd, if_neg (show ¬ L ≤ sk L tp ρ.1.2.2 by omega), if_neg hc30N]
                  exact if_neg (fun z => z.elim (fun z => hc31N z.2) (fun y => by have z9 := hc33N; have y9 := y.2; omega))
                exact hq _ ⟨_, _, Rd2, ((p1).trans (show nI (rn L tp (so (tp (sk L tp ρ.1.2.2))) (sk L tp ρ.1.2.2 + 1)) = nI (adv L tp ρ.1).2.2 by rw [ea])), ((p22).trans (show nI (so (tp (sk L tp ρ.1.2.2))) = nI (adv L tp ρ.1).1 by rw [ea])), ((p23).trans (show nI (sk L tp ρ.1.2.2) = nI (adv L tp ρ.1).2.1 by rw [ea])), (((p2 4 (by decide)).trans ((pk_un (by decide)).trans ((pk_un (by decide)).trans ((pk_un (by decide)).trans (q2 4 (by decide)))))).trans m4), (((p2 5 (by decide)).trans ((pk_un (by decide)).trans ((pk_un (by decide)).trans ((pk_un (by decide)).trans (q2 5 (by decide)))))).trans m5), (((p2 7 (by decide)).trans ((pk_un (by decide)).trans ((pk_un (by decide)).trans ((pk_un (by decide)).trans (q2 7 (by decide)))))).trans m7), (((p2 8 (by decide)).trans ((pk_un (by decide)).trans ((pk_un (by decide)).trans ((pk_un (by decide)).trans (q2 8 (by decide)))))).trans m8), (((p2 9 (by decide)).trans ((pk_un (by decide)).trans ((pk_un (by decide)).trans ((pk_un (by decide)).trans (q2 9 (by decide)))))).trans m9), (((p2 10 (by decide)).trans ((pk_un (by decide)).trans ((pk_un (by decide)).trans ((pk_un (by decide)).trans (q2 10 (by decide)))))).trans m10), mc⟩ (am_fpT f2 (am_fpU (show ¬ (39 < 39 ∨ 43 ≤ 39) by omega) (am_fpU (show ¬ (39 < 39 ∨ 43 ≤ 39) by omega) (am_fpU (show ¬ (39 < 39 ∨ 43 ≤ 39) by omega) f1))))
              · have hc33N : ¬ ((rn L tp (so (tp (sk L tp ρ.1.2.2))) (sk L tp ρ.1.2.2 + 1)) - (sk L tp ρ.1.2.2)) ≤ 4 := fun z9q => hc33 ((nI_leI (a := ((rn L tp (so (tp (sk L tp ρ.1.2.2))) (sk L tp ρ.1.2.2 + 1)) - (sk L tp ρ.1.2.2))) (b := 4) (by omega) (by omega)).mpr z9q)
                refine aw_aload_n (npc := 230) rfl dX1_advance_229 rfl ?_
                refine aw_iconst (npc := 231) (v := 5) (by decide) dX1_advance_230 rfl ?_
                refine aw_put (npc := 234) dX1_advance_231 rfl kf_X1_22 Rd2.1 (Nat.le_of_ble_eq_true rfl) (am_ok_int _) rfl ?_
                have Rd34 := rd_r2 (v := 5) Rd2
                refine aw_vret rfl dX1_advance_234 ?_
                have ea : adv L tp ρ.1 = (5, sk L tp ρ.1.2.2, rn L tp (so (tp (sk L tp ρ.1.2.2))) (sk L tp ρ.1.2.2 + 1)) := by
                  unfold adv nx
                  rw [hwd, if_neg (show ¬ L ≤ sk L tp ρ.1.2.2 by omega), if_neg hc30N]
                  exact if_pos (Or.inr ⟨hc32N, by have z9 := hc33N; omega⟩)
                exact hq _ ⟨_, _, Rd34, ((((pk_un (by omega))).trans p1).trans (show nI (rn L tp (so (tp (sk L tp ρ.1.2.2))) (sk L tp ρ.1.2.2 + 1)) = nI (adv L tp ρ.1).2.2 by rw [ea])), ((pk_us).trans (show nI (5) = nI (adv L tp ρ.1).1 by rw [ea])), ((((pk_un (by omega))).trans p23).trans (show nI (sk L tp ρ.1.2.2) = nI (adv L tp ρ.1).2.1 by rw [ea])), (((pk_un (by decide)).trans ((p2 4 (by decide)).trans ((pk_un (by decide)).trans ((pk_un (by decide)).trans ((pk_un (by decide)).trans (q2 4 (by decide))))))).trans m4), (((pk_un (by decide)).trans ((p2 5 (by decide)).trans ((pk_un (by decide)).trans ((pk_un (by decide)).trans ((pk_un (by decide)).trans (q2 5 (by decide))))))).trans m5), (((pk_un (by decide)).trans ((p2 7 (by decide)).trans ((pk_un (by decide)).trans ((pk_un (by decide)).trans ((pk_un (by decide)).trans (q2 7 (by decide))))))).trans m7), (((pk_un (by decide)).trans ((p2 8 (by decide)).trans ((pk_un (by decide)).trans ((pk_un (by decide)).trans ((pk_un (by decide)).trans (q2 8 (by decide))))))).trans m8), (((pk_un (by decide)).trans ((p2 9 (by decide)).trans ((pk_un (by decide)).trans ((pk_un (by decide)).trans ((pk_un (by decide)).trans (q2 9 (by decide))))))).trans m9), (((pk_un (by decide)).trans ((p2 10 (by decide)).trans ((pk_un (by decide)).trans ((pk_un (by decide)).trans ((pk_un (by decide)).trans (q2 10 (by decide))))))).trans m10), mc⟩ (am_fpU (show ¬ (39 < 39 ∨ 43 ≤ 39) by omega) (am_fpT f2 (am_fpU (show ¬ (39 < 39 ∨ 43 ≤ 39) by omega) (am_fpU (show ¬ (39 < 39 ∨ 43 ≤ 39) by omega) (am_fpU (show ¬ (39 < 39 ∨ 43 ≤ 39) by omega) f1)))))
          · have hc31N := (nI_eq (a := (sk L tp ρ.1.2.2)) (b := ρ.1.2.2) (by omega) (by omega)).mp hc31
            refine aw_iconst (npc := 199) (v := 1) (by decide) dX1_advance_198 rfl ?_
            refine aw_goto (npc := 203) dX1_advance_199 (by decide) ?_
            refine aw_istore_n (npc := 204) (L' := [some (.ref 39), some (.int (nI ρ.1.2.2)), some (.int 1), some (.int 1)]) dX1_advance_203 rfl (by decide) rfl rfl ?_
            refine aw_iload_n (npc := 205) rfl dX1_advance_204 rfl ?_
            refine aw_if_ne (npc := 208) (tgt := 229) dX1_advance_205 rfl (by decide) (fun _ => ?_) (fun hc => absurd hc (by decide))
            refine aw_aload_n (npc := 230) rfl dX1_advance_229 rfl ?_
            refine aw_iconst (npc := 231) (v := 5) (by decide) dX1_advance_230 rfl ?_
            refine aw_put (npc := 234) dX1_advance_231 rfl kf_X1_22 Rd2.1 (Nat.le_of_ble_eq_true rfl) (am_ok_int _) rfl ?_
            have Rd35 := rd_r2 (v := 5) Rd2
            refine aw_vret rfl dX1_advance_234 ?_
            have ea : adv L tp ρ.1 = (5, sk L tp ρ.1.2.2, rn L tp (so (tp (sk L tp ρ.1.2.2))) (sk L tp ρ.1.2.2 + 1)) := by
              unfold adv nx
              rw [hwd, if_neg (show ¬ L ≤ sk L tp ρ.1.2.2 by omega), if_neg hc30N]
              exact if_pos (Or.inl ⟨rfl, hc31N⟩)
            exact hq _ ⟨_, _, Rd35, ((((pk_un (by omega))).trans p1).trans (show nI (rn L tp (so (tp (sk L tp ρ.1.2.2))) (sk L tp ρ.1.2.2 + 1)) = nI (adv L tp ρ.1).2.2 by rw [ea])), ((pk_us).trans (show nI (5) = nI (adv L tp ρ.1).1 by rw [ea])), ((((pk_un (by omega))).trans p23).trans (show nI (sk L tp ρ.1.2.2) = nI (adv L tp ρ.1).2.1 by rw [ea])), (((pk_un (by decide)).trans ((p2 4 (by decide)).trans ((pk_un (by decide)).trans ((pk_un (by decide)).trans ((pk_un (by decide)).trans (q2 4 (by decide))))))).trans m4), (((pk_un (by decide)).trans ((p2 5 (by decide)).trans ((pk_un (by decide)).trans ((pk_un (by decide)).trans ((pk_un (by decide)).trans (q2 5 (by decide))))))).trans m5), (((pk_un (by decide)).trans ((p2 7 (by decide)).trans ((pk_un (by decide)).trans ((pk_un (by decide)).trans ((pk_un (by decide)).trans (q2 7 (by decide))))))).trans m7), (((pk_un (by decide)).trans ((p2 8 (by decide)).trans ((pk_un (by decide)).trans ((pk_un (by decide)).trans ((pk_un (by decide)).trans (q2 8 (by decide))))))).trans m8), (((pk_un (by decide)).trans ((p2 9 (by decide)).trans ((pk_un (by decide)).trans ((pk_un (by decide)).trans ((pk_un (by decide)).trans (q2 9 (by decide))))))).trans m9), (((pk_un (by decide)).trans ((p2 10 (by decide)).trans ((pk_un (by decide)).trans ((pk_un (by decide)).trans ((pk_un (by decide)).trans (q2 10 (by decide))))))).trans m10), mc⟩ (am_fpU (show ¬ (39 < 39 ∨ 43 ≤ 39) by omega) (am_fpT f2 (am_fpU (show ¬ (39 < 39 ∨ 43 ≤ 39) by omega) (am_fpU (show ¬ (39 < 39 ∨ 43 ≤ 39) by omega) (am_fpU (show ¬ (39 < 39 ∨ 43 ≤ 39) by omega) f1)))))
        · have hc30N := (nI_eq (a := (so (tp (sk L tp ρ.1.2.2)))) (b := 3) (by omega) (by omega)).mp hc30
          refine aw_vret rfl dX1_advance_136 ?_
          have ea : adv L tp ρ.1 = (3, sk L tp ρ.1.2.2, sk L tp ρ.1.2.2 + 1) := (if_neg (by omega)).trans (if_pos hc30N)
          exact hq _ ⟨_, _, Rd29, ((pk_us).trans (show nI (sk L tp ρ.1.2.2 + 1) = nI (adv L tp ρ.1).2.2 by rw [ea])), ((((pk_un (by omega))).trans pk_us).trans (show nI (so (tp (sk L tp ρ.1.2.2))) = nI (adv L tp ρ.1).1 by rw [ea]; exact congrArg nI hc30N)), (((((pk_un (by omega))).trans (pk_un (by omega))).trans pk_us).trans (show nI (sk L tp ρ.1.2.2) = nI (adv L tp ρ.1).2.1 by rw [ea])), (((pk_un (by decide)).trans ((pk_un (by decide)).trans ((pk_un (by decide)).trans (q2 4 (by decide))))).trans m4), (((pk_un (by decide)).trans ((pk_un (by decide)).trans ((pk_un (by decide)).trans (q2 5 (by decide))))).trans m5), (((pk_un (by decide)).trans ((pk_un (by decide)).trans ((pk_un (by decide)).trans (q2 7 (by decide))))).trans m7), (((pk_un (by decide)).trans ((pk_un (by decide)).trans ((pk_un (by decide)).trans (q2 8 (by decide))))).trans m8), (((pk_un (by decide)).trans ((pk_un (by decide)).trans ((pk_un (by decide)).trans (q2 9 (by decide))))).trans m9), (((pk_un (by decide)).trans ((pk_un (by decide)).trans ((pk_un (by decide)).trans (q2 10 (by decide))))).trans m10), mc⟩ (am_fpU (show ¬ (39 < 39 ∨ 43 ≤ 39) by omega) (am_fpU (show ¬ (39 < 39 ∨ 43 ≤ 39) by omega) (am_fpU (show ¬ (39 < 39 ∨ 43 ≤ 39) by omega) f1)))
      · have hc26N : ¬ (sk L tp ρ.1.2.2) < L := fun z9q => hc26 ((nI_ltI (a := (sk L tp ρ.1.2.2)) (b := L) (by omega) (by omega)).mpr z9q)
        refine aw_aload_n (npc := 94) rfl dX1_advance_93 rfl ?_
        refine aw_iconst (npc := 95) (v := 0) (by decide) dX1_advance_94 rfl ?_
        refine aw_put (npc := 98) dX1_advance_95 rfl kf_X1_22 Rd25.1 (Nat.le_of_ble_eq_true rfl) (am_ok_int _) rfl ?_
        have Rd36 := rd_r2 (v := 0) Rd25
        refine aw_vret rfl dX1_advance_98 ?_
        have ea : adv L tp ρ.1 = (0, sk L tp ρ.1.2.2, sk L tp ρ.1.2.2) := if_pos (by omega)
        exact hq _ ⟨_, _, Rd36, (((((pk_un (by omega))).trans (pk_un (by omega))).trans q1).trans (show nI (sk L tp ρ.1.2.2) = nI (adv L tp ρ.1).2.2 by rw [ea])), ((pk_us).trans (show nI (0) = nI (adv L tp ρ.1).1 by rw [ea])), ((((pk_un (by omega))).trans pk_us).trans (show nI (sk L tp ρ.1.2.2) = nI (adv L tp ρ.1).2.1 by rw [ea])), (((pk_un (by decide)).trans ((pk_un (by decide)).trans (q2 4 (by decide)))).trans m4), (((pk_un (by decide)).trans ((pk_un (by decide)).trans (q2 5 (by decide)))).trans m5), (((pk_un (by decide)).trans ((pk_un (by decide)).trans (q2 7 (by decide)))).trans m7), (((pk_un (by decide)).trans ((pk_un (by decide)).trans (q2 8 (by decide)))).trans m8), (((pk_un (by decide)).trans ((pk_un (by decide)).trans (q2 9 (by decide)))).trans m9), (((pk_un (by decide)).trans ((pk_un (by decide)).trans (q2 10 (by decide)))).trans m10), mc⟩ (am_fpU (show ¬ (39 < 39 ∨ 43 ≤ 39) by omega) (am_fpU (show ¬ (39 < 39 ∨ 43 ≤ 39) by omega) f1))
