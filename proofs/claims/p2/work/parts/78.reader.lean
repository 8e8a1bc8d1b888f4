abbrev RS : Type := (Nat × Nat × Nat) × Option Nat × Int32 × List Int32 × Nat × Nat × Nat
def fI : Option Nat → Int32
  | none => -1
  | some q => nI q
def RM (ρ : RS) (r cd : Nat → Int32) : Prop := r 1 = nI ρ.1.2.2 ∧ r 2 = nI ρ.1.1 ∧ r 3 = nI ρ.1.2.1 ∧ r 4 = fI ρ.2.1 ∧ r 5 = ρ.2.2.1 ∧ r 7 = nI ρ.2.2.2.1.length ∧ r 8 = nI ρ.2.2.2.2.1 ∧ r 9 = nI ρ.2.2.2.2.2.1 ∧ r 10 = nI ρ.2.2.2.2.2.2 ∧ (∀ j, j < ρ.2.2.2.1.length → cd j = ρ.2.2.2.1.getD j 0)
def RX (ρ : RS) (L : Nat) (tp : Nat → Int32) (h : am_H) : Prop := ∃ r cd, RD r (nI L) tp cd h ∧ RM ρ r cd
def WR (L : Nat) (tp : Nat → Int32) (ρ : RS) : Prop := WFK L tp ρ.1 ∧ L ≤ 96 ∧ ρ.2.2.2.1.length ≤ 96 ∧ ρ.2.2.2.2.2.1 ≤ 8 ∧ ρ.2.2.2.2.2.2 ≤ 8 ∧ ∀ q, ρ.2.1 = some q → q ≤ 96
def flO (x : Option Nat) (f : Nat) : Option Nat := match x with
  | none => some f
  | some q => some q
def flF (ρ : RS) : RS := (ρ.1, flO ρ.2.1 ρ.1.2.1, ρ.2.2)
def emL (cs : List Int32) (c : Int32) : List Int32 := if cs.length < 96 then cs ++ [c] else cs
def emF (c : Int32) (ρ : RS) : RS := (ρ.1, ρ.2.1, ρ.2.2.1, emL ρ.2.2.2.1 c, ρ.2.2.2.2)
def eoF (c : Int32) (ρ : RS) : RS := (ρ.1, ρ.2.1, ρ.2.2.1, emL ρ.2.2.2.1 c, ρ.2.2.2.2.1 + 1, ρ.2.2.2.2.2)
def avF (L : Nat) (tp : Nat → Int32) (ρ : RS) : RS := (adv L tp ρ.1, ρ.2)
def obF (ρ : RS) (b : Nat) : RS := (ρ.1, ρ.2.1, ρ.2.2.1, ρ.2.2.2.1, ρ.2.2.2.2.1, b, ρ.2.2.2.2.2.2)
def ogF (ρ : RS) (g : Nat) : RS := (ρ.1, ρ.2.1, ρ.2.2.1, ρ.2.2.2.1, ρ.2.2.2.2.1, ρ.2.2.2.2.2.1, g)
def isSg (tp : Nat → Int32) (ρ : RS) (c : Int32) : Prop := ρ.2.1 = none ∧ ρ.1.1 = 3 ∧ tp ρ.1.2.1 = c
theorem em_cd {cs : List Int32} {cd : Nat → Int32} {c : Int32} (h : ∀ j, j < cs.length → cd j = cs.getD j 0) : ∀ j, j < (cs ++ [c]).length → upd cd cs.length c j = (cs ++ [c]).getD j 0 := fun j hj => by
  rw [List.length_append, List.length_singleton] at hj
  by_cases e : j = cs.length
  · subst e
    rw [pk_us, List.getD_eq_getElem?_getD, List.getElem?_append_right (Nat.le_refl _), Nat.sub_self]; rfl
  · rw [pk_un e, h j (by omega), List.getD_eq_getElem?_getD, List.getD_eq_getElem?_getD, List.getElem?_append_left (by omega)]
theorem fI_neg {x : Option Nat} (hx : ∀ q, x = some q → q ≤ 96) : (fI x < 0 ↔ x = none) := by
  cases x with
  | none => exact ⟨fun _ => rfl, fun _ => by decide⟩
  | some q => exact ⟨fun h => absurd h (nI_pos (by have z := hx q rfl; omega)), fun h => by cases h⟩
set_option maxHeartbeats 4000000 in
set_option maxRecDepth 100000 in
theorem r_fail {X : List Int32} {d rc rs n : Nat} {Q : am_Q} {h : am_H} {L : Nat} {tp : Nat → Int32} {ρ : RS} (H : RX ρ L tp h) (Wf : WR L tp ρ) (hq : ∀ h9, RX (flF ρ) L tp h9 → am_fp (fun k => k < 39 ∨ 43 ≤ k) h9 h → Q none n h9) : AW X mX1_fail (d + 2) rc rs 0 [some (.ref 39)] [] n h Q := by
  obtain ⟨r, cd, Rd, m1, m2, m3, m4, m5, m7, m8, m9, m10, mc⟩ := H
  obtain ⟨wk, w96, wcl, wob, wog, wft⟩ := id Wf
  have we := wk.1
  have wf := wk.2.1
  refine aw_aload_n (npc := 1) rfl dX1_fail_0 rfl ?_
  refine aw_get (npc := 4) dX1_fail_1 rfl kf_X1_28 Rd.1 rfl ?_
  refine aw_top (y := fI ρ.2.1) (m4) ?_
  refine aw_if_ge (npc := 7) (tgt := 15) dX1_fail_4 rfl (by decide) (fun hc1 => ?_) (fun hc1 => ?_)
  · refine aw_vret rfl dX1_fail_15 ?_
    have ef := (fI_neg wft)
    cases eft : ρ.2.1 with
    | none => exact absurd hc1 (by rw [eft]; decide)
    | some q9 => exact hq _ ⟨_, _, Rd, m1, m2, m3, m4.trans (by show fI ρ.2.1 = fI (flO ρ.2.1 ρ.1.2.1); rw [eft]; rfl), m5, m7, m8, m9, m10, mc⟩ am_fp0
  · refine aw_aload_n (npc := 8) rfl dX1_fail_7 rfl ?_
    refine aw_aload_n (npc := 9) rfl dX1_fail_8 rfl ?_
    refine aw_get (npc := 12) dX1_fail_9 rfl kf_X1_25 Rd.1 rfl ?_
    refine aw_top (y := nI ρ.1.2.1) (m3) ?_
    refine aw_put (npc := 15) dX1_fail_12 rfl kf_X1_28 Rd.1 (Nat.le_of_ble_eq_true rfl) (am_ok_int _) rfl ?_
    have Rd2 := rd_r4 (v := nI ρ.1.2.1) Rd
    refine aw_vret rfl dX1_fail_15 ?_
    have ef := (fI_neg wft)
    have en := ef.mp (Int32.not_le.mp hc1)
    exact hq _ ⟨_, _, Rd2, (((pk_un (by omega))).trans m1), (((pk_un (by omega))).trans m2), (((pk_un (by omega))).trans m3), ((pk_us).trans (show nI ρ.1.2.1 = fI (flO ρ.2.1 ρ.1.2.1) by rw [en]; rfl)), (((pk_un (by omega))).trans m5), (((pk_un (by omega))).trans m7), (((pk_un (by omega))).trans m8), (((pk_un (by omega))).trans m9), (((pk_un (by omega))).trans m10), mc⟩ (am_fpU (show ¬ (39 < 39 ∨ 43 ≤ 39) by omega) am_fp0)
set_option maxHeartbeats 4000000 in
set_option maxRecDepth 100000 in
theorem r_emit {X : List Int32} {d rc rs n : Nat} {Q : am_Q} {h : am_H} {L : Nat} {tp : Nat → Int32} {ρ : RS} {c : Int32} (H : RX ρ L tp h) (Wf : WR L tp ρ) (hq : ∀ h9, RX (emF c ρ) L tp h9 → am_fp (fun k => k < 39 ∨ 43 ≤ k) h9 h → Q none n h9) : AW X mX1_emit (d + 2) rc rs 0 [some (.ref 39), some (.int c)] [] n h Q := by
  obtain ⟨r, cd, Rd, m1, m2, m3, m4, m5, m7, m8, m9, m10, mc⟩ := H
  obtain ⟨wk, w96, wcl, wob, wog, wft⟩ := id Wf
  have we := wk.1
  have wf := wk.2.1
  refine aw_aload_n (npc := 1) rfl dX1_emit_0 rfl ?_
  refine aw_get (npc := 4) dX1_emit_1 rfl kf_X1_38 Rd.1 rfl ?_
  refine aw_top (y := nI ρ.2.2.2.1.length) (m7) ?_
  refine aw_bipush (npc := 6) (v := 96) (by decide) dX1_emit_4 rfl ?_
  refine aw_icmp_ge (npc := 9) (tgt := 29) dX1_emit_6 rfl (by decide) (fun hc1 => ?_) (fun hc1 => ?_)
  · have hc1N := (nI_leI (a := 96) (b := ρ.2.2.2.1.length) (by omega) (by omega)).mp hc1
    refine aw_vret rfl dX1_emit_29 ?_
    have e9 : emL ρ.2.2.2.1 c = ρ.2.2.2.1 := if_neg (by omega)
    exact hq _ ⟨_, _, Rd, m1, m2, m3, m4, m5, m7.trans (by rw [← e9]; rfl), m8, m9, m10, fun j hj => by have hj2 : j < (emL ρ.2.2.2.1 c).length := hj; rw [e9] at hj2; exact (mc j hj2).trans (congrArg (fun z : List Int32 => z.getD j 0) e9.symm)⟩ am_fp0
  · have hc1N : ¬ 96 ≤ ρ.2.2.2.1.length := fun z9q => hc1 ((nI_leI (a := 96) (b := ρ.2.2.2.1.length) (by omega) (by omega)).mpr z9q)
    refine aw_aload_n (npc := 10) rfl dX1_emit_9 rfl ?_
    refine aw_get (npc := 13) dX1_emit_10 rfl kf_X1_34 Rd.1 rfl ?_
    refine aw_aload_n (npc := 14) rfl dX1_emit_13 rfl ?_
    refine aw_get (npc := 17) dX1_emit_14 rfl kf_X1_38 Rd.1 rfl ?_
    refine aw_top (y := nI ρ.2.2.2.1.length) (m7) ?_
    refine aw_iload_n (npc := 18) rfl dX1_emit_17 rfl ?_
    refine aw_iast (npc := 19) (j := ρ.2.2.2.1.length) dX1_emit_18 rfl Rd.2.2.2 (am_ix_nI (by omega)) (by rw [tl_len]; omega) rfl ?_
    have Rd2 := rd_code (j := ρ.2.2.2.1.length) (v := c) Rd
    refine aw_aload_n (npc := 20) rfl dX1_emit_19 rfl ?_
    refine aw_dup (npc := 21) rfl dX1_emit_20 rfl ?_
    refine aw_get (npc := 24) dX1_emit_21 rfl kf_X1_38 Rd2.1 rfl ?_
    refine aw_top (y := nI ρ.2.2.2.1.length) (m7) ?_
    refine aw_iconst (npc := 25) (v := 1) (by decide) dX1_emit_24 rfl ?_
    refine aw_iaddV (npc := 26) (v := nI (ρ.2.2.2.1.length + 1)) dX1_emit_25 rfl (nI_add _ 1) ?_
    refine aw_put (npc := 29) dX1_emit_26 rfl kf_X1_38 Rd2.1 (Nat.le_of_ble_eq_true rfl) (am_ok_int _) rfl ?_
    have Rd3 := rd_r7 (v := nI (ρ.2.2.2.1.length + 1)) Rd2
    refine aw_vret rfl dX1_emit_29 ?_
    have e9 : emL ρ.2.2.2.1 c = ρ.2.2.2.1 ++ [c] := if_pos (by omega)
    exact hq _ ⟨_, _, Rd3, (((pk_un (by omega))).trans m1), (((pk_un (by omega))).trans m2), (((pk_un (by omega))).trans m3), (((pk_un (by omega))).trans m4), (((pk_un (by omega))).trans m5), ((pk_us).trans (show nI (ρ.2.2.2.1.length + 1) = nI (emL ρ.2.2.2.1 c).length by rw [e9, List.length_append, List.length_singleton])), (((pk_un (by omega))).trans m8), (((pk_un (by omega))).trans m9), (((pk_un (by omega))).trans m10), (fun j hj => by have hj2 : j < (emL ρ.2.2.2.1 c).length := hj; rw [e9] at hj2; exact (em_cd mc j hj2).trans (congrArg (fun z : List Int32 => z.getD j 0) e9.symm))⟩ (am_fpU (show ¬ (39 < 39 ∨ 43 ≤ 39) by omega) (am_fpU (show ¬ (42 < 39 ∨ 43 ≤ 42) by omega) am_fp0))
