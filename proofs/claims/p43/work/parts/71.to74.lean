def dN (N : Nat → Int32) (a b c e : Nat) : Nat → Int32 := upd (upd (upd (upd N 11 (nI e)) 10 (nI c)) 9 (nI b)) 8 (nI a)
def dD (N : Nat → Int32) (V : Nat) : Nat → Int32 := dN N (V / 1000 % 10) (V / 100 % 10) (V / 10 % 10) (V % 10)
theorem sa_d {N : Nat → Int32} {V : Nat} : saN N V = dD N V := by
  have e1 : V / 10 / 10 % 10 = V / 100 % 10 := by omega
  have e2 : V / 10 / 10 / 10 % 10 = V / 1000 % 10 := by omega
  unfold saN dD dN
  rw [e1, e2]
theorem dN_dN {N : Nat → Int32} {a b c e a' b' c' e' : Nat} : dN (dN N a b c e) a' b' c' e' = dN N a' b' c' e' := funext (fun i => by
  unfold dN
  by_cases h8 : i = 8
  · subst h8; rw [pk_us, pk_us]
  · rw [pk_un h8, pk_un h8]
    by_cases h9 : i = 9
    · subst h9; rw [pk_us, pk_us]
    · rw [pk_un h9, pk_un h9]
      by_cases h10 : i = 10
      · subst h10; rw [pk_us, pk_us]
      · rw [pk_un h10, pk_un h10]
        by_cases h11 : i = 11
        · subst h11; rw [pk_us, pk_us]
        · rw [pk_un h11, pk_un h11, pk_un h8, pk_un h9, pk_un h10, pk_un h11])
theorem sa_sa {N : Nat → Int32} {U V : Nat} : saN (dD N U) V = dD N V := by rw [sa_d]; exact dN_dN
theorem hs0_d (N : Nat → Int32) (a b c e : Nat) : hs0 (dN N a b c e) = 0 + N 12 * nI a + N 13 * nI b + N 14 * nI c + N 15 * nI e := rfl
theorem hs1_d (N : Nat → Int32) (a b c e : Nat) : hs1 (dN N a b c e) = 0 + N 16 * (9 - nI a) + N 17 * (9 - nI b) + N 18 * (9 - nI c) + N 19 * (9 - nI e) := rfl
theorem d_20 (N : Nat → Int32) (a b c e : Nat) : dN N a b c e 20 = N 20 := rfl
theorem d_21 (N : Nat → Int32) (a b c e : Nat) : dN N a b c e 21 = N 21 := rfl
theorem wy_c {a0 a1 b0 b1 : Int32} {wy : Nat → Int32} {h : am_H} (e0 : a0 = b0) (e1 : a1 = b1) (F : WY a0 a1 wy h) : WY b0 b1 wy h := by
  subst e0; subst e1; exact F
def WV (N : Nat → Int32) (V : Nat) (h : am_H) : Prop := ∃ wy, WY (hs0 (dD N V)) (hs1 (dD N V)) wy h ∧ wy 0 = nI (V / 1000 % 10) ∧ wy 1 = nI (V / 100 % 10) ∧ wy 2 = nI (V / 10 % 10) ∧ wy 3 = nI (V % 10)
def WVx (h : am_H) : Prop := ∃ a0 a1 wy, WY a0 a1 wy h
theorem nI9 : nI 9 = 9 := rfl
theorem nI0 : nI 0 = 0 := rfl
theorem st_1 (x y z w : Int32) : 0 + 9 * x + 9 * y + 9 * z + 9 * w = 0 + x * (9 - nI 0) + y * (9 - nI 0) + z * (9 - nI 0) + w * (9 - nI 0) := by rw [nI0]; grind
theorem st_0 (x y z w : Int32) : 0 = 0 + x * nI 0 + y * nI 0 + z * nI 0 + w * nI 0 := by rw [nI0]; grind
theorem stp_a0 {N : Nat → Int32} {a b c e : Nat} : hs0 (dN N a b c e) + N 15 = hs0 (dN N a b c (e + 1)) := by rw [hs0_d, hs0_d, nI_succ]; grind
theorem stp_a1 {N : Nat → Int32} {a b c e : Nat} : hs1 (dN N a b c e) - N 19 = hs1 (dN N a b c (e + 1)) := by rw [hs1_d, hs1_d, nI_succ]; grind
theorem stp_b0 {N : Nat → Int32} {a b c : Nat} : hs0 (dN N a b c 9) - 9 * N 15 + N 14 = hs0 (dN N a b (c + 1) 0) := by rw [hs0_d, hs0_d, nI9, nI0, nI_succ]; grind
theorem stp_b1 {N : Nat → Int32} {a b c : Nat} : hs1 (dN N a b c 9) + 9 * N 19 - N 18 = hs1 (dN N a b (c + 1) 0) := by rw [hs1_d, hs1_d, nI9, nI0, nI_succ]; grind
theorem stp_c0 {N : Nat → Int32} {a b : Nat} : hs0 (dN N a b 9 9) - 9 * N 15 - 9 * N 14 + N 13 = hs0 (dN N a (b + 1) 0 0) := by rw [hs0_d, hs0_d, nI9, nI0, nI_succ]; grind
theorem stp_c1 {N : Nat → Int32} {a b : Nat} : hs1 (dN N a b 9 9) + 9 * N 19 + 9 * N 18 - N 17 = hs1 (dN N a (b + 1) 0 0) := by rw [hs1_d, hs1_d, nI9, nI0, nI_succ]; grind
theorem stp_d0 {N : Nat → Int32} {a : Nat} : hs0 (dN N a 9 9 9) - 9 * N 15 - 9 * N 14 - 9 * N 13 + N 12 = hs0 (dN N (a + 1) 0 0 0) := by rw [hs0_d, hs0_d, nI9, nI0, nI_succ]; grind
theorem stp_d1 {N : Nat → Int32} {a : Nat} : hs1 (dN N a 9 9 9) + 9 * N 19 + 9 * N 18 + 9 * N 17 - N 16 = hs1 (dN N (a + 1) 0 0 0) := by rw [hs1_d, hs1_d, nI9, nI0, nI_succ]; grind
theorem stp_e0 {N : Nat → Int32} : hs0 (dN N 9 9 9 9) - 9 * N 15 - 9 * N 14 - 9 * N 13 - 9 * N 12 = hs0 (dN N 0 0 0 0) := by rw [hs0_d, hs0_d, nI0, nI9]; grind
theorem stp_e1 {N : Nat → Int32} : hs1 (dN N 9 9 9 9) + 9 * N 19 + 9 * N 18 + 9 * N 17 + 9 * N 16 = hs1 (dN N 0 0 0 0) := by rw [hs1_d, hs1_d, nI0, nI9]; grind
def spF (N X : Nat → Int32) : Int32 := if hs1 X - N 21 < hs0 X - N 20 then hs1 X - N 21 else hs0 X - N 20
theorem hs_nat {N : Nat → Int32} {fr c a b e f : Nat} (H : RG N fr c) (ha : a ≤ 9) (hb : b ≤ 9) (he : e ≤ 9) (hf : f ≤ 9) : ∃ p q u v, p ≤ 324 ∧ q ≤ 324 ∧ u ≤ 400 ∧ v ≤ 400 ∧ hs0 (dN N a b e f) = nI p ∧ hs1 (dN N a b e f) = nI q ∧ N 20 = nI u ∧ N 21 = nI v := by
  have hc := H.2.2.2.2.2.2.1
  have hh := H.2.2.2.2.2.2.2.1
  obtain ⟨x0, l0, e0⟩ := wi_nI (H := 9) (by decide) (by decide) (hc 0 (by omega))
  obtain ⟨x1, l1, e1⟩ := wi_nI (H := 9) (by decide) (by decide) (hc 1 (by omega))
  obtain ⟨x2, l2, e2⟩ := wi_nI (H := 9) (by decide) (by decide) (hc 2 (by omega))
  obtain ⟨x3, l3, e3⟩ := wi_nI (H := 9) (by decide) (by decide) (hc 3 (by omega))
  obtain ⟨x4, l4, e4⟩ := wi_nI (H := 9) (by decide) (by decide) (hc 4 (by omega))
  obtain ⟨x5, l5, e5⟩ := wi_nI (H := 9) (by decide) (by decide) (hc 5 (by omega))
  obtain ⟨x6, l6, e6⟩ := wi_nI (H := 9) (by decide) (by decide) (hc 6 (by omega))
  obtain ⟨x7, l7, e7⟩ := wi_nI (H := 9) (by decide) (by decide) (hc 7 (by omega))
  obtain ⟨u, lu, eu⟩ := wi_nI (H := 400) (by decide) (by decide) (hh 0 (by omega))
  obtain ⟨v, lv, ev⟩ := wi_nI (H := 400) (by decide) (by decide) (hh 1 (by omega))
  have m : ∀ x y : Nat, x ≤ 9 → y ≤ 9 → x * y ≤ 81 := fun x y h1 h2 => Nat.mul_le_mul h1 h2
  refine ⟨0 + x0 * a + x1 * b + x2 * e + x3 * f, 0 + x4 * (9 - a) + x5 * (9 - b) + x6 * (9 - e) + x7 * (9 - f), u, v, ?_, ?_, lu, lv, ?_, ?_, eu, ev⟩
  · have := m x0 a l0 ha; have := m x1 b l1 hb; have := m x2 e l2 he; have := m x3 f l3 hf; omega
  · have := m x4 (9 - a) l4 (by omega); have := m x5 (9 - b) l5 (by omega); have := m x6 (9 - e) l6 (by omega); have := m x7 (9 - f) l7 (by omega); omega
  · rw [hs0_d, show N 12 = nI x0 from e0, show N 13 = nI x1 from e1, show N 14 = nI x2 from e2, show N 15 = nI x3 from e3, pk_mul, pk_mul, pk_mul, pk_mul, ← nI0, nI_add, nI_add, nI_add, nI_add]
  · rw [hs1_d, show N 16 = nI x4 from e4, show N 17 = nI x5 from e5, show N 18 = nI x6 from e6, show N 19 = nI x7 from e7, ← nI9, pk_sub ha, pk_sub hb, pk_sub he, pk_sub hf, pk_mul, pk_mul, pk_mul, pk_mul, ← nI0, nI_add, nI_add, nI_add, nI_add]
theorem sp_pe {N : Nat → Int32} {fr c V : Nat} (H : RG N fr c) : (0 ≤ spF N (dD N V)) ↔ peace (dD N V) := by
  obtain ⟨p, q, u, v, lp, lq, lu, lv, e0, e1, eu, ev⟩ := hs_nat (a := V / 1000 % 10) (b := V / 100 % 10) (e := V / 10 % 10) (f := V % 10) H (by omega) (by omega) (by omega) (by omega)
  have t0 : (hs0 (dD N V) - N 20).toInt = (p : Int) - u := by rw [show hs0 (dD N V) = nI p from e0, eu]; exact pk_sub_toInt (by omega) (by omega)
  have t1 : (hs1 (dD N V) - N 21).toInt = (q : Int) - v := by rw [show hs1 (dD N V) = nI q from e1, ev]; exact pk_sub_toInt (by omega) (by omega)
  have z0 : (0 : Int32).toInt = 0 := rfl
  have pe : peace (dD N V) ↔ (u ≤ p ∧ v ≤ q) := by
    show (¬ hs0 (dD N V) < N 20 ∧ ¬ hs1 (dD N V) < N 21) ↔ _
    rw [show hs0 (dD N V) = nI p from e0, show hs1 (dD N V) = nI q from e1, eu, ev, nI_ltI (by omega) (by omega), nI_ltI (by omega) (by omega)]
    omega
  rw [pe]
  unfold spF
  by_cases r : hs1 (dD N V) - N 21 < hs0 (dD N V) - N 20
  · rw [if_pos r, Int32.le_iff_toInt_le, t1, z0]
    have r2 := Int32.lt_iff_toInt_lt.mp r
    rw [t0, t1] at r2
    omega
  · rw [if_neg r, Int32.le_iff_toInt_le, t0, z0]
    have r2 : ¬ (hs1 (dD N V) - N 21).toInt < (hs0 (dD N V) - N 20).toInt := fun z => r (Int32.lt_iff_toInt_lt.mpr z)
    rw [t0, t1] at r2
    omega
noncomputable def tkM (N : Nat → Int32) : Nat → Nat → Int32 → Int32
  | 0, _, s => s
  | m + 1, V, s => tkM N m (V + 1) (cI (peace (dD N V)) (s + 1) s)
noncomputable def frS (N : Nat → Int32) (V : Nat) (p : Option (Nat × Int32)) : Option (Nat × Int32) := cI (peace (dD N V)) (match p with
  | none => some (V, spF N (dD N V))
  | some q => if q.2 < spF N (dD N V) then some (V, spF N (dD N V)) else some q) p
noncomputable def frM (N : Nat → Int32) : Nat → Nat → Option (Nat × Int32) → Option (Nat × Int32)
  | 0, _, p => p
  | m + 1, V, p => frM N m (V + 1) (frS N V p)
def abD (x y : Int32) : Int32 := if 0 ≤ x - y then x - y else 0 - (x - y)
def diF (N X : Nat → Int32) : Int32 := 0 + abD (X 8) (N 8) + abD (X 9) (N 9) + abD (X 10) (N 10) + abD (X 11) (N 11)
noncomputable def neS (N : Nat → Int32) (V : Nat) (p : Option (Nat × Int32)) : Option (Nat × Int32) := cI (peace (dD N V)) (match p with
  | none => some (V, diF N (dD N V))
  | some q => if diF N (dD N V) < q.2 then some (V, diF N (dD N V)) else some q) p
noncomputable def neM (N : Nat → Int32) : Nat → Nat → Option (Nat × Int32) → Option (Nat × Int32)
  | 0, _, p => p
  | m + 1, V, p => neM N m (V + 1) (neS N V p)
def opN : Option (Nat × Int32) → Int32
  | none => -1
  | some p => nI p.1
noncomputable def trV (N : Nat → Int32) (w : Int32) : Int32 := cI (w = 0) (orN (opN (frM N 10000 0 none))) (cI (w = 1) (orN (opN (neM N 10000 0 none))) (-1000000001))
theorem abD_nat {x y : Int32} (hx : wi x 0 9) (hy : wi y 0 9) : ∃ k, k ≤ 9 ∧ abD x y = nI k := by
  obtain ⟨p, rfl⟩ := wi9 hx
  obtain ⟨q, rfl⟩ := wi9 hy
  clear hx hy
  revert p q
  decide
theorem diF_nat {N : Nat → Int32} {fr c V : Nat} (H : RG N fr c) : ∃ k, k ≤ 36 ∧ diF N (dD N V) = nI k := by
  have hs := H.2.2.2.2.2.1
  obtain ⟨k0, l0, e0⟩ := abD_nat (x := dD N V 8) (y := N 8) (wi_n0 (t := V / 1000 % 10) (c := 9) (by omega) (by omega)) (hs 0 (by omega))
  obtain ⟨k1, l1, e1⟩ := abD_nat (x := dD N V 9) (y := N 9) (wi_n0 (t := V / 100 % 10) (c := 9) (by omega) (by omega)) (hs 1 (by omega))
  obtain ⟨k2, l2, e2⟩ := abD_nat (x := dD N V 10) (y := N 10) (wi_n0 (t := V / 10 % 10) (c := 9) (by omega) (by omega)) (hs 2 (by omega))
  obtain ⟨k3, l3, e3⟩ := abD_nat (x := dD N V 11) (y := N 11) (wi_n0 (t := V % 10) (c := 9) (by omega) (by omega)) (hs 3 (by omega))
  refine ⟨0 + k0 + k1 + k2 + k3, by omega, ?_⟩
  unfold diF
  rw [e0, e1, e2, e3, ← nI0, nI_add, nI_add, nI_add, nI_add]
set_option maxHeartbeats 4000000 in
set_option maxRecDepth 100000 in
theorem c_start {X : List Int32} {d rc rs n : Nat} {Q : am_Q} {h : am_H} {N : Nat → Int32} {tx : List Value} {lk mv : Nat → Int32} {a0 a1 : Int32} {wy : Nat → Int32} (F : QR 1 N tx lk mv h) (Y : WY a0 a1 wy h) (hq : ∀ h9, WV N 0 h9 → am_fp (fun k => k < 37 ∨ 39 ≤ k) h9 h → Q none n h9) : AW X mX6_start (d + 3) rc rs 0 [some (.ref 37), some (.ref 1), none] [] n h Q := by
  refine aw_aload_n (npc := 1) rfl dX6_start_0 rfl ?_
  refine aw_iconst (npc := 2) (v := 0) (by decide) dX6_start_1 rfl ?_
  refine aw_put (npc := 5) dX6_start_2 rfl kf_X6_15 Y.1 (Nat.le_of_ble_eq_true rfl) (am_ok_int _) rfl ?_
  have Y1 := wy_p1 (v := 0) Y
  have F2 := qr_out (a := 37) (c := .inr (6, ([.ref 38, .int a0, .int a1] : List Value).set 1 (.int 0))) (by omega) F
  refine aw_aload_n (npc := 6) rfl dX6_start_5 rfl ?_
  refine aw_iconst (npc := 7) (v := 0) (by decide) dX6_start_6 rfl ?_
  refine aw_put (npc := 10) dX6_start_7 rfl kf_X6_19 Y1.1 (Nat.le_of_ble_eq_true rfl) (am_ok_int _) rfl ?_
  have Y3 := wy_p2 (v := 0) Y1
  have F4 := qr_out (a := 37) (c := .inr (6, ([.ref 38, .int 0, .int a1] : List Value).set 2 (.int 0))) (by omega) F2
  refine aw_iconst (npc := 11) (v := 0) (by decide) dX6_start_10 rfl ?_
  refine aw_istore_n (npc := 12) (L' := [some (.ref 37), some (.ref 1), some (.int 0)]) dX6_start_11 rfl (by decide) rfl rfl ?_
  refine aw_iload_n (npc := 13) rfl dX6_start_12 rfl ?_
  refine aw_iconst (npc := 14) (v := 4) (by decide) dX6_start_13 rfl ?_
  refine aw_icmp_ge (npc := 17) (tgt := 52) dX6_start_14 rfl (by decide) (fun hc => absurd hc (by decide)) (fun _ => ?_)
  refine aw_aload_n (npc := 18) rfl dX6_start_17 rfl ?_
  refine aw_get (npc := 21) dX6_start_18 rfl kf_X6_9 Y3.1 rfl ?_
  refine aw_iload_n (npc := 22) rfl dX6_start_21 rfl ?_
  refine aw_iconst (npc := 23) (v := 0) (by decide) dX6_start_22 rfl ?_
  refine aw_iast (npc := 24) (j := 0) dX6_start_23 rfl Y3.2 ⟨by decide, by decide⟩ (by rw [tl_len]; omega) rfl ?_
  have Y5 := wy_set (j := 0) (v := 0) Y3
  have F6 := qr_out (a := 38) (c := .inl (0, (tl 4 wy).set 0 0)) (by omega) F4
  refine aw_aload_n (npc := 25) rfl dX6_start_24 rfl ?_
  refine aw_dup (npc := 26) rfl dX6_start_25 rfl ?_
  refine aw_get (npc := 29) dX6_start_26 rfl kf_X6_19 Y5.1 rfl ?_
  refine aw_bipush (npc := 31) (v := 9) (by decide) dX6_start_29 rfl ?_
  refine aw_aload_n (npc := 32) rfl dX6_start_31 rfl ?_
  refine aw_get (npc := 35) dX6_start_32 rfl kf_X6_36 F6.1 rfl ?_
  refine aw_iconst (npc := 36) (v := 1) (by decide) dX6_start_35 rfl ?_
  refine aw_iload_n (npc := 37) rfl dX6_start_36 rfl ?_
  refine aw_callSN (npc := 40) (N := mX7_carePlace) (mc := 0) (ms := 0) (A := [.int 1, .int 0]) (S := [.ref 3, .int 9, .int 0, .ref 37]) (L0 := [some (.int 1), some (.int 0)]) dX6_start_37 rfl km_X7_carePlace kk_X6_41 rfl ⟨rfl, by decide⟩ rfl (Nat.le_of_ble_eq_true rfl) (Nat.zero_add _) (Nat.zero_add _) rfl ?_
  refine aw_iload_n (npc := 1) rfl dX7_carePlace_0 rfl ?_
  refine aw_iconst (npc := 2) (v := 4) (by decide) dX7_carePlace_1 rfl ?_
  refine aw_imulV (npc := 3) (v := 4) dX7_carePlace_2 rfl (by decide) ?_
  refine aw_iload_n (npc := 4) rfl dX7_carePlace_3 rfl ?_
  refine aw_iaddV (npc := 5) (v := 4) dX7_carePlace_4 rfl (by decide) ?_
  refine aw_iret rfl dX7_carePlace_5 ?_
  refine aw_re (S' := [.int 4, .ref 3, .int 9, .int 0, .ref 37]) rfl ?_
  refine aw_iald (npc := 41) (x := N 16) (j := 4) dX6_start_40 rfl F6.2.2.1 ⟨by decide, by decide⟩ (tl_at (by omega)) ?_
  refine aw_imul (npc := 42) dX6_start_41 rfl ?_
  refine aw_iadd (npc := 43) dX6_start_42 rfl ?_
  refine aw_put (npc := 46) dX6_start_43 rfl kf_X6_19 Y5.1 (Nat.le_of_ble_eq_true rfl) (am_ok_int _) rfl ?_
  have Y7 := wy_p2 (v := 0 + (9 * (N 16))) Y5
  have F8 := qr_out (a := 37) (c := .inr (6, ([.ref 38, .int 0, .int 0] : List Value).set 2 (.int (0 + (9 * (N 16)))))) (by omega) F6
  refine aw_iinc (npc := 49) (v := 1) (L' := [some (.ref 37), some (.ref 1), some (.int 1)]) dX6_start_46 rfl rfl (by decide) (by decide) rfl rfl ?_
  refine aw_goto (npc := 12) dX6_start_49 (by decide) ?_
  refine aw_iload_n (npc := 13) rfl dX6_start_12 rfl ?_
  refine aw_iconst (npc := 14) (v := 4) (by decide) dX6_start_13 rfl ?_
  refine aw_icmp_ge (npc := 17) (tgt := 52) dX6_start_14 rfl (by decide) (fun hc => absurd hc (by decide)) (fun _ => ?_)
  refine aw_aload_n (npc := 18) rfl dX6_start_17 rfl ?_
  refine aw_get (npc := 21) dX6_start_18 rfl kf_X6_9 Y7.1 rfl ?_
  refine aw_iload_n (npc := 22) rfl dX6_start_21 rfl ?_
  refine aw_iconst (npc := 23) (v := 0) (by decide) dX6_start_22 rfl ?_
  refine aw_iast (npc := 24) (j := 1) dX6_start_23 rfl Y7.2 ⟨by decide, by decide⟩ (by rw [tl_len]; omega) rfl ?_
  have Y9 := wy_set (j := 1) (v := 0) Y7
  have F10 := qr_out (a := 38) (c := .inl (0, (tl 4 (upd wy 0 0)).set 1 0)) (by omega) F8
  refine aw_aload_n (npc := 25) rfl dX6_start_24 rfl ?_
  refine aw_dup (npc := 26) rfl dX6_start_25 rfl ?_
  refine aw_get (npc := 29) dX6_start_26 rfl kf_X6_19 Y9.1 rfl ?_
  refine aw_bipush (npc := 31) (v := 9) (by decide) dX6_start_29 rfl ?_
  refine aw_aload_n (npc := 32) rfl dX6_start_31 rfl ?_
  refine aw_get (npc := 35) dX6_start_32 rfl kf_X6_36 F10.1 rfl ?_
  refine aw_iconst (npc := 36) (v := 1) (by decide) dX6_start_35 rfl ?_
  refine aw_iload_n (npc := 37) rfl dX6_start_36 rfl ?_
  refine aw_callSN (npc := 40) (N := mX7_carePlace) (mc := 0) (ms := 0) (A := [.int 1, .int 1]) (S := [.ref 3, .int 9, .int (0 + (9 * (N 16))), .ref 37]) (L0 := [some (.int 1), some (.int 1)]) dX6_start_37 rfl km_X7_carePlace kk_X6_41 rfl ⟨rfl, by decide⟩ rfl (Nat.le_of_ble_eq_true rfl) (Nat.zero_add _) (Nat.zero_add _) rfl ?_
  refine aw_iload_n (npc := 1) rfl dX7_carePlace_0 rfl ?_
  refine aw_iconst (npc := 2) (v := 4) (by decide) dX7_carePlace_1 rfl ?_
  refine aw_imulV (npc := 3) (v := 4) dX7_carePlace_2 rfl (by decide) ?_
  refine aw_iload_n (npc := 4) rfl dX7_carePlace_3 rfl ?_
  refine aw_iaddV (npc := 5) (v := 5) dX7_carePlace_4 rfl (by decide) ?_
  refine aw_iret rfl dX7_carePlace_5 ?_
  refine aw_re (S' := [.int 5, .ref 3, .int 9, .int (0 + (9 * (N 16))), .ref 37]) rfl ?_
  refine aw_iald (npc := 41) (x := N 17) (j := 5) dX6_start_40 rfl F10.2.2.1 ⟨by decide, by decide⟩ (tl_at (by omega)) ?_
  refine aw_imul (npc := 42) dX6_start_41 rfl ?_
  refine aw_iadd (npc := 43) dX6_start_42 rfl ?_
  refine aw_put (npc := 46) dX6_start_43 rfl kf_X6_19 Y9.1 (Nat.le_of_ble_eq_true rfl) (am_ok_int _) rfl ?_
  have Y11 := wy_p2 (v := (0 + (9 * (N 16))) + (9 * (N 17))) Y9
  have F12 := qr_out (a := 37) (c := .inr (6, ([.ref 38, .int 0, .int (0 + (9 * (N 16)))] : List Value).set 2 (.int ((0 + (9 * (N 16))) + (9 * (N 17)))))) (by omega) F10
  refine aw_iinc (npc := 49) (v := 2) (L' := [some (.ref 37), some (.ref 1), some (.int 2)]) dX6_start_46 rfl rfl (by decide) (by decide) rfl rfl ?_
  refine aw_goto (npc := 12) dX6_start_49 (by decide) ?_
  refine aw_iload_n (npc := 13) rfl dX6_start_12 rfl ?_
  refine aw_iconst (npc := 14) (v := 4) (by decide) dX6_start_13 rfl ?_
  refine aw_icmp_ge (npc := 17) (tgt := 52) dX6_start_14 rfl (by decide) (fun hc => absurd hc (by decide)) (fun _ => ?_)
  refine aw_aload_n (npc := 18) rfl dX6_start_17 rfl ?_
  refine aw_get (npc := 21) dX6_start_18 rfl kf_X6_9 Y11.1 rfl ?_
  refine aw_iload_n (npc := 22) rfl dX6_start_21 rfl ?_
  refine aw_iconst (npc := 23) (v := 0) (by decide) dX6_start_22 rfl ?_
  refine aw_iast (npc := 24) (j := 2) dX6_start_23 rfl Y11.2 ⟨by decide, by decide⟩ (by rw [tl_len]; omega) rfl ?_
  have Y13 := wy_set (j := 2) (v := 0) Y11
  have F14 := qr_out (a := 38) (c := .inl (0, (tl 4 (upd (upd wy 0 0) 1 0)).set 2 0)) (by omega) F12
  refine aw_aload_n (npc := 25) rfl dX6_start_24 rfl ?_
  refine aw_dup (npc := 26) rfl dX6_start_25 rfl ?_
  refine aw_get (npc := 29) dX6_start_26 rfl kf_X6_19 Y13.1 rfl ?_
  refine aw_bipush (npc := 31) (v := 9) (by decide) dX6_start_29 rfl ?_
  refine aw_aload_n (npc := 32) rfl dX6_start_31 rfl ?_
  refine aw_get (npc := 35) dX6_start_32 rfl kf_X6_36 F14.1 rfl ?_
  refine aw_iconst (npc := 36) (v := 1) (by decide) dX6_start_35 rfl ?_
  refine aw_iload_n (npc := 37) rfl dX6_start_36 rfl ?_
  refine aw_callSN (npc := 40) (N := mX7_carePlace) (mc := 0) (ms := 0) (A := [.int 1, .int 2]) (S := [.ref 3, .int 9, .int ((0 + (9 * (N 16))) + (9 * (N 17))), .ref 37]) (L0 := [some (.int 1), some (.int 2)]) dX6_start_37 rfl km_X7_carePlace kk_X6_41 rfl ⟨rfl, by decide⟩ rfl (Nat.le_of_ble_eq_true rfl) (Nat.zero_add _) (Nat.zero_add _) rfl ?_
  refine aw_iload_n (npc := 1) rfl dX7_carePlace_0 rfl ?_
  refine aw_iconst (npc := 2) (v := 4) (by decide) dX7_carePlace_1 rfl ?_
  refine aw_imulV (npc := 3) (v := 4) dX7_carePlace_2 rfl (by decide) ?_
  refine aw_iload_n (npc := 4) rfl dX7_carePlace_3 rfl ?_
  refine aw_iaddV (npc := 5) (v := 6) dX7_carePlace_4 rfl (by decide) ?_
  refine aw_iret rfl dX7_carePlace_5 ?_
  refine aw_re (S' := [.int 6, .ref 3, .int 9, .int ((0 + (9 * (N 16))) + (9 * (N 17))), .ref 37]) rfl ?_
  refine aw_iald (npc := 41) (x := N 18) (j := 6) dX6_start_40 rfl F14.2.2.1 ⟨by decide, by decide⟩ (tl_at (by omega)) ?_
  refine aw_imul (npc := 42) dX6_start_41 rfl ?_
  refine aw_iadd (npc := 43) dX6_start_42 rfl ?_
  refine aw_put (npc := 46) dX6_start_43 rfl kf_X6_19 Y13.1 (Nat.le_of_ble_eq_true rfl) (am_ok_int _) rfl ?_
  have Y15 := wy_p2 (v := ((0 + (9 * (N 16))) + (9 * (N 17))) + (9 * (N 18))) Y13
  have F16 := qr_out (a := 37) (c := .inr (6, ([.ref 38, .int 0, .int ((0 + (9 * (N 16))) + (9 * (N 17)))] : List Value).set 2 (.int (((0 + (9 * (N 16))) + (9 * (N 17))) + (9 * (N 18)))))) (by omega) F14
  refine aw_iinc (npc := 49) (v := 3) (L' := [some (.ref 37), some (.ref 1), some (.int 3)]) dX6_start_46 rfl rfl (by decide) (by decide) rfl rfl ?_
  refine aw_goto (npc := 12) dX6_start_49 (by decide) ?_
  refine aw_iload_n (npc := 13) rfl dX6_start_12 rfl ?_
  refine aw_iconst (npc := 14) (v := 4) (by decide) dX6_start_13 rfl ?_
  refine aw_icmp_ge (npc := 17) (tgt := 52) dX6_start_14 rfl (by decide) (fun hc => absurd hc (by decide)) (fun _ => ?_)
  refine aw_aload_n (npc := 18) rfl dX6_start_17 rfl ?_
  refine aw_get (npc := 21) dX6_start_18 rfl kf_X6_9 Y15.1 rfl ?_
  refine aw_iload_n (npc := 22) rfl dX6_start_21 rfl ?_
  refine aw_iconst (npc := 23) (v := 0) (by decide) dX6_start_22 rfl ?_
  refine aw_iast (npc := 24) (j := 3) dX6_start_23 rfl Y15.2 ⟨by decide, by decide⟩ (by rw [tl_len]; omega) rfl ?_
  have Y17 := wy_set (j := 3) (v := 0) Y15
  have F18 := qr_out (a := 38) (c := .inl (0, (tl 4 (upd (upd (upd wy 0 0) 1 0) 2 0)).set 3 0)) (by omega) F16
  refine aw_aload_n (npc := 25) rfl dX6_start_24 rfl ?_
  refine aw_dup (npc := 26) rfl dX6_start_25 rfl ?_
  refine aw_get (npc := 29) dX6_start_26 rfl kf_X6_19 Y17.1 rfl ?_
  refine aw_bipush (npc := 31) (v := 9) (by decide) dX6_start_29 rfl ?_
  refine aw_aload_n (npc := 32) rfl dX6_start_31 rfl ?_
  refine aw_get (npc := 35) dX6_start_32 rfl kf_X6_36 F18.1 rfl ?_
  refine aw_iconst (npc := 36) (v := 1) (by decide) dX6_start_35 rfl ?_
  refine aw_iload_n (npc := 37) rfl dX6_start_36 rfl ?_
  refine aw_callSN (npc := 40) (N := mX7_carePlace) (mc := 0) (ms := 0) (A := [.int 1, .int 3]) (S := [.ref 3, .int 9, .int (((0 + (9 * (N 16))) + (9 * (N 17))) + (9 * (N 18))), .ref 37]) (L0 := [some (.int 1), some (.int 3)]) dX6_start_37 rfl km_X7_carePlace kk_X6_41 rfl ⟨rfl, by decide⟩ rfl (Nat.le_of_ble_eq_true rfl) (Nat.zero_add _) (Nat.zero_add _) rfl ?_
  refine aw_iload_n (npc := 1) rfl dX7_carePlace_0 rfl ?_
  refine aw_iconst (npc := 2) (v := 4) (by decide) dX7_carePlace_1 rfl ?_
  refine aw_imulV (npc := 3) (v := 4) dX7_carePlace_2 rfl (by decide) ?_
  refine aw_iload_n (npc := 4) rfl dX7_carePlace_3 rfl ?_
  refine aw_iaddV (npc := 5) (v := 7) dX7_carePlace_4 rfl (by decide) ?_
  refine aw_iret rfl dX7_carePlace_5 ?_
  refine aw_re (S' := [.int 7, .ref 3, .int 9, .int (((0 + (9 * (N 16))) + (9 * (N 17))) + (9 * (N 18))), .ref 37]) rfl ?_
  refine aw_iald (npc := 41) (x := N 19) (j := 7) dX6_start_40 rfl F18.2.2.1 ⟨by decide, by decide⟩ (tl_at (by omega)) ?_
  refine aw_imul (npc := 42) dX6_start_41 rfl ?_
  refine aw_iadd (npc := 43) dX6_start_42 rfl ?_
  refine aw_put (npc := 46) dX6_start_43 rfl kf_X6_19 Y17.1 (Nat.le_of_ble_eq_true rfl) (am_ok_int _) rfl ?_
  have Y19 := wy_p2 (v := (((0 + (9 * (N 16))) + (9 * (N 17))) + (9 * (N 18))) + (9 * (N 19))) Y17
  have F20 := qr_out (a := 37) (c := .inr (6, ([.ref 38, .int 0, .int (((0 + (9 * (N 16))) + (9 * (N 17))) + (9 * (N 18)))] : List Value).set 2 (.int ((((0 + (9 * (N 16))) + (9 * (N 17))) + (9 * (N 18))) + (9 * (N 19)))))) (by omega) F18
  refine aw_iinc (npc := 49) (v := 4) (L' := [some (.ref 37), some (.ref 1), some (.int 4)]) dX6_start_46 rfl rfl (by decide) (by decide) rfl rfl ?_
  refine aw_goto (npc := 12) dX6_start_49 (by decide) ?_
  refine aw_iload_n (npc := 13) rfl dX6_start_12 rfl ?_
  refine aw_iconst (npc := 14) (v := 4) (by decide) dX6_start_13 rfl ?_
  refine aw_icmp_ge (npc := 17) (tgt := 52) dX6_start_14 rfl (by decide) (fun _ => ?_) (fun hc => absurd (by decide) hc)
  refine aw_vret rfl dX6_start_52 ?_
  exact hq _ ⟨_, wy_c (st_0 (N 12) (N 13) (N 14) (N 15)) (st_1 (N 16) (N 17) (N 18) (N 19)) Y19, rfl, rfl, rfl, rfl⟩ (am_fpU (show ¬ (37 < 37 ∨ 39 ≤ 37) by omega) (am_fpU (show ¬ (38 < 37 ∨ 39 ≤ 38) by omega) (am_fpU (show ¬ (37 < 37 ∨ 39 ≤ 37) by omega) (am_fpU (show ¬ (38 < 37 ∨ 39 ≤ 38) by omega) (am_fpU (show ¬ (37 < 37 ∨ 39 ≤ 37) by omega) (am_fpU (show ¬ (38 < 37 ∨ 39 ≤ 38) by omega) (am_fpU (show ¬ (37 < 37 ∨ 39 ≤ 37) by omega) (am_fpU (show ¬ (38 < 37 ∨ 39 ≤ 38) by omega) (am_fpU (show ¬ (37 < 37 ∨ 39 ≤ 37) by omega) (am_fpU (show ¬ (37 < 37 ∨ 39 ≤ 37) by omega) am_fp0))))))))))
set_option maxHeartbeats 4000000 in
set_option maxRecDepth 100000 in
theorem c_step {X : List Int32} {d rc rs n : Nat} {Q : am_Q} {h : am_H} {N : Nat → Int32} {tx : List Value} {lk mv : Nat → Int32} {V : Nat} (F : QR 1 N tx lk mv h) (Y : WV N V h) (hq : ∀ h9, WV N (V + 1) h9 → am_fp (fun k => k < 37 ∨ 39 ≤ k) h9 h → Q none n h9) : AW X mX6_step (d + 3) rc rs 0 [some (.ref 37), some (.ref 1), none, none, none] [] n h Q := by
  obtain ⟨wy, Y, w0, w1, w2, w3⟩ := Y
  refine aw_iconst (npc := 1) (v := 3) (by decide) dX6_step_0 rfl ?_
  refine aw_istore_n (npc := 2) (L' := [some (.ref 37), some (.ref 1), some (.int 3), none, none]) dX6_step_1 rfl (by decide) rfl rfl ?_
  refine aw_iload_n (npc := 3) rfl dX6_step_2 rfl ?_
  refine aw_if_lt (npc := 6) (tgt := 112) dX6_step_3 rfl (by decide) (fun hc => absurd hc (by decide)) (fun _ => ?_)
  refine aw_aload_n (npc := 7) rfl dX6_step_6 rfl ?_
  refine aw_get (npc := 10) dX6_step_7 rfl kf_X6_36 F.1 rfl ?_
  refine aw_iconst (npc := 11) (v := 0) (by decide) dX6_step_10 rfl ?_
  refine aw_iload_n (npc := 12) rfl dX6_step_11 rfl ?_
  refine aw_callSN (npc := 15) (N := mX7_carePlace) (mc := 0) (ms := 0) (A := [.int 0, .int 3]) (S := [.ref 3]) (L0 := [some (.int 0), some (.int 3)]) dX6_step_12 rfl km_X7_carePlace kk_X6_41 rfl ⟨rfl, by decide⟩ rfl (Nat.le_of_ble_eq_true rfl) (Nat.zero_add _) (Nat.zero_add _) rfl ?_
  refine aw_iload_n (npc := 1) rfl dX7_carePlace_0 rfl ?_
  refine aw_iconst (npc := 2) (v := 4) (by decide) dX7_carePlace_1 rfl ?_
  refine aw_imulV (npc := 3) (v := 0) dX7_carePlace_2 rfl (by decide) ?_
  refine aw_iload_n (npc := 4) rfl dX7_carePlace_3 rfl ?_
  refine aw_iaddV (npc := 5) (v := 3) dX7_carePlace_4 rfl (by decide) ?_
  refine aw_iret rfl dX7_carePlace_5 ?_
  refine aw_re (S' := [.int 3, .ref 3]) rfl ?_
  refine aw_iald (npc := 16) (x := N 15) (j := 3) dX6_step_15 rfl F.2.2.1 ⟨by decide, by decide⟩ (tl_at (by omega)) ?_
  refine aw_istore_n (npc := 17) (L' := [some (.ref 37), some (.ref 1), some (.int 3), some (.int (N 15)), none]) dX6_step_16 rfl (by decide) rfl rfl ?_
  refine aw_aload_n (npc := 18) rfl dX6_step_17 rfl ?_
  refine aw_get (npc := 21) dX6_step_18 rfl kf_X6_36 F.1 rfl ?_
  refine aw_iconst (npc := 22) (v := 1) (by decide) dX6_step_21 rfl ?_
  refine aw_iload_n (npc := 23) rfl dX6_step_22 rfl ?_
  refine aw_callSN (npc := 26) (N := mX7_carePlace) (mc := 0) (ms := 0) (A := [.int 1, .int 3]) (S := [.ref 3]) (L0 := [some (.int 1), some (.int 3)]) dX6_step_23 rfl km_X7_carePlace kk_X6_41 rfl ⟨rfl, by decide⟩ rfl (Nat.le_of_ble_eq_true rfl) (Nat.zero_add _) (Nat.zero_add _) rfl ?_
  refine aw_iload_n (npc := 1) rfl dX7_carePlace_0 rfl ?_
  refine aw_iconst (npc := 2) (v := 4) (by decide) dX7_carePlace_1 rfl ?_
  refine aw_imulV (npc := 3) (v := 4) dX7_carePlace_2 rfl (by decide) ?_
  refine aw_iload_n (npc := 4) rfl dX7_carePlace_3 rfl ?_
  refine aw_iaddV (npc := 5) (v := 7) dX7_carePlace_4 rfl (by decide) ?_
  refine aw_iret rfl dX7_carePlace_5 ?_
  refine aw_re (S' := [.int 7, .ref 3]) rfl ?_
  refine aw_iald (npc := 27) (x := N 19) (j := 7) dX6_step_26 rfl F.2.2.1 ⟨by decide, by decide⟩ (tl_at (by omega)) ?_
  refine aw_istore (npc := 29) (L' := [some (.ref 37), some (.ref 1), some (.int 3), some (.int (N 15)), some (.int (N 19))]) dX6_step_27 rfl (by decide) rfl rfl ?_
  refine aw_aload_n (npc := 30) rfl dX6_step_29 rfl ?_
  refine aw_get (npc := 33) dX6_step_30 rfl kf_X6_9 Y.1 rfl ?_
  refine aw_iload_n (npc := 34) rfl dX6_step_33 rfl ?_
  refine aw_iald (npc := 35) (x := wy 3) (j := 3) dX6_step_34 rfl Y.2 ⟨by decide, by decide⟩ (tl_at (by omega)) ?_
  refine aw_top (y := nI (V % 10)) (w3) ?_
  refine aw_bipush (npc := 37) (v := 9) (by decide) dX6_step_35 rfl ?_
  refine aw_icmp_ge (npc := 40) (tgt := 72) dX6_step_37 rfl (by decide) (fun hc1 => ?_) (fun hc1 => ?_)
  · have hc1N := (nI_leI (a := 9) (b := (V % 10)) (by omega) (by omega)).mp hc1
    refine aw_aload_n (npc := 73) rfl dX6_step_72 rfl ?_
    refine aw_get (npc := 76) dX6_step_73 rfl kf_X6_9 Y.1 rfl ?_
    refine aw_iload_n (npc := 77) rfl dX6_step_76 rfl ?_
    refine aw_iconst (npc := 78) (v := 0) (by decide) dX6_step_77 rfl ?_
    refine aw_iast (npc := 79) (j := 3) dX6_step_78 rfl Y.2 ⟨by decide, by decide⟩ (by rw [tl_len]; omega) rfl ?_
    have Y2 := wy_set (j := 3) (v := 0) Y
    have F3 := qr_out (a := 38) (c := .inl (0, (tl 4 wy).set 3 0)) (by omega) F
    refine aw_aload_n (npc := 80) rfl dX6_step_79 rfl ?_
    refine aw_dup (npc := 81) rfl dX6_step_80 rfl ?_
    refine aw_get (npc := 84) dX6_step_81 rfl kf_X6_15 Y2.1 rfl ?_
    refine aw_bipush (npc := 86) (v := 9) (by decide) dX6_step_84 rfl ?_
    refine aw_iload_n (npc := 87) rfl dX6_step_86 rfl ?_
    refine aw_imul (npc := 88) dX6_step_87 rfl ?_
    refine aw_isub (npc := 89) dX6_step_88 rfl ?_
    refine aw_put (npc := 92) dX6_step_89 rfl kf_X6_15 Y2.1 (Nat.le_of_ble_eq_true rfl) (am_ok_int _) rfl ?_
    have Y4 := wy_p1 (v := (hs0 (dD N V)) - (9 * (N 15))) Y2
    have F5 := qr_out (a := 37) (c := .inr (6, ([.ref 38, .int (hs0 (dD N V)), .int (hs1 (dD N V))] : List Value).set 1 (.int ((hs0 (dD N V)) - (9 * (N 15)))))) (by omega) F3
    refine aw_aload_n (npc := 93) rfl dX6_step_92 rfl ?_
    refine aw_dup (npc := 94) rfl dX6_step_93 rfl ?_
    refine aw_get (npc := 97) dX6_step_94 rfl kf_X6_19 Y4.1 rfl ?_
    refine aw_bipush (npc := 99) (v := 9) (by decide) dX6_step_97 rfl ?_
    refine aw_iload (npc := 101) rfl dX6_step_99 rfl ?_
    refine aw_imul (npc := 102) dX6_step_101 rfl ?_
    refine aw_iadd (npc := 103) dX6_step_102 rfl ?_
    refine aw_put (npc := 106) dX6_step_103 rfl kf_X6_19 Y4.1 (Nat.le_of_ble_eq_true rfl) (am_ok_int _) rfl ?_
    have Y6 := wy_p2 (v := (hs1 (dD N V)) + (9 * (N 19))) Y4
    have F7 := qr_out (a := 37) (c := .inr (6, ([.ref 38, .int ((hs0 (dD N V)) - (9 * (N 15))), .int (hs1 (dD N V))] : List Value).set 2 (.int ((hs1 (dD N V)) + (9 * (N 19)))))) (by omega) F5
    refine aw_iinc (npc := 109) (v := 2) (L' := [some (.ref 37), some (.ref 1), some (.int 2), some (.int (N 15)), some (.int (N 19))]) dX6_step_106 rfl rfl (by decide) (by decide) rfl rfl ?_
    refine aw_goto (npc := 2) dX6_step_109 (by decide) ?_
    refine aw_iload_n (npc := 3) rfl dX6_step_2 rfl ?_
    refine aw_if_lt (npc := 6) (tgt := 112) dX6_step_3 rfl (by decide) (fun hc => absurd hc (by decide)) (fun _ => ?_)
    refine aw_aload_n (npc := 7) rfl dX6_step_6 rfl ?_
    refine aw_get (npc := 10) dX6_step_7 rfl kf_X6_36 F7.1 rfl ?_
    refine aw_iconst (npc := 11) (v := 0) (by decide) dX6_step_10 rfl ?_
    refine aw_iload_n (npc := 12) rfl dX6_step_11 rfl ?_
    refine aw_callSN (npc := 15) (N := mX7_carePlace) (mc := 0) (ms := 0) (A := [.int 0, .int 2]) (S := [.ref 3]) (L0 := [some (.int 0), some (.int 2)]) dX6_step_12 rfl km_X7_carePlace kk_X6_41 rfl ⟨rfl, by decide⟩ rfl (Nat.le_of_ble_eq_true rfl) (Nat.zero_add _) (Nat.zero_add _) rfl ?_
    refine aw_iload_n (npc := 1) rfl dX7_carePlace_0 rfl ?_
    refine aw_iconst (npc := 2) (v := 4) (by decide) dX7_carePlace_1 rfl ?_
    refine aw_imulV (npc := 3) (v := 0) dX7_carePlace_2 rfl (by decide) ?_
    refine aw_iload_n (npc := 4) rfl dX7_carePlace_3 rfl ?_
    refine aw_iaddV (npc := 5) (v := 2) dX7_carePlace_4 rfl (by decide) ?_
    refine aw_iret rfl dX7_carePlace_5 ?_
    refine aw_re (S' := [.int 2, .ref 3]) rfl ?_
    refine aw_iald (npc := 16) (x := N 14) (j := 2) dX6_step_15 rfl F7.2.2.1 ⟨by decide, by decide⟩ (tl_at (by omega)) ?_
    refine aw_istore_n (npc := 17) (L' := [some (.ref 37), some (.ref 1), some (.int 2), some (.int (N 14)), some (.int (N 19))]) dX6_step_16 rfl (by decide) rfl rfl ?_
    refine aw_aload_n (npc := 18) rfl dX6_step_17 rfl ?_
    refine aw_get (npc := 21) dX6_step_18 rfl kf_X6_36 F7.1 rfl ?_
    refine aw_iconst (npc := 22) (v := 1) (by decide) dX6_step_21 rfl ?_
    refine aw_iload_n (npc := 23) rfl dX6_step_22 rfl ?_
    refine aw_callSN (npc := 26) (N := mX7_carePlace) (mc := 0) (ms := 0) (A := [.int 1, .int 2]) (S := [.ref 3]) (L0 := [some (.int 1), some (.int 2)]) dX6_step_23 rfl km_X7_carePlace kk_X6_41 rfl ⟨rfl, by decide⟩ rfl (Nat.le_of_ble_eq_true rfl) (Nat.zero_add _) (Nat.zero_add _) rfl ?_
    refine aw_iload_n (npc := 1) rfl dX7_carePlace_0 rfl ?_
    refine aw_iconst (npc := 2) (v := 4) (by decide) dX7_carePlace_1 rfl ?_
    refine aw_imulV (npc := 3) (v := 4) dX7_carePlace_2 rfl (by decide) ?_
    refine aw_iload_n (npc := 4) rfl dX7_carePlace_3 rfl ?_
    refine aw_iaddV (npc := 5) (v := 6) dX7_carePlace_4 rfl (by decide) ?_
    refine aw_iret rfl dX7_carePlace_5 ?_
    refine aw_re (S' := [.int 6, .ref 3]) rfl ?_
    refine aw_iald (npc := 27) (x := N 18) (j := 6) dX6_step_26 rfl F7.2.2.1 ⟨by decide, by decide⟩ (tl_at (by omega)) ?_
    refine aw_istore (npc := 29) (L' := [some (.ref 37), some (.ref 1), some (.int 2), some (.int (N 14)), some (.int (N 18))]) dX6_step_27 rfl (by decide) rfl rfl ?_
    refine aw_aload_n (npc := 30) rfl dX6_step_29 rfl ?_
    refine aw_get (npc := 33) dX6_step_30 rfl kf_X6_9 Y6.1 rfl ?_
    refine aw_iload_n (npc := 34) rfl dX6_step_33 rfl ?_
    refine aw_iald (npc := 35) (x := (upd wy 3 0) 2) (j := 2) dX6_step_34 rfl Y6.2 ⟨by decide, by decide⟩ (tl_at (by omega)) ?_
    refine aw_top (y := wy 2) ((pk_un (by omega))) ?_
    refine aw_top (y := nI (V / 10 % 10)) (w2) ?_
    refine aw_bipush (npc := 37) (v := 9) (by decide) dX6_step_35 rfl ?_
    refine aw_icmp_ge (npc := 40) (tgt := 72) dX6_step_37 rfl (by decide) (fun hc8 => ?_) (fun hc8 => ?_)
    · have hc8N := (nI_leI (a := 9) (b := (V / 10 % 10)) (by omega) (by omega)).mp hc8
      refine aw_aload_n (npc := 73) rfl dX6_step_72 rfl ?_
      refine aw_get (npc := 76) dX6_step_73 rfl kf_X6_9 Y6.1 rfl ?_
      refine aw_iload_n (npc := 77) rfl dX6_step_76 rfl ?_
      refine aw_iconst (npc := 78) (v := 0) (by decide) dX6_step_77 rfl ?_
      refine aw_iast (npc := 79) (j := 2) dX6_step_78 rfl Y6.2 ⟨by decide, by decide⟩ (by rw [tl_len]; omega) rfl ?_
      have Y9 := wy_set (j := 2) (v := 0) Y6
      have F10 := qr_out (a := 38) (c := .inl (0, (tl 4 (upd wy 3 0)).set 2 0)) (by omega) F7
      refine aw_aload_n (npc := 80) rfl dX6_step_79 rfl ?_
      refine aw_dup (npc := 81) rfl dX6_step_80 rfl ?_
      refine aw_get (npc := 84) dX6_step_81 rfl kf_X6_15 Y9.1 rfl ?_
      refine aw_bipush (npc := 86) (v := 9) (by decide) dX6_step_84 rfl ?_
      refine aw_iload_n (npc := 87) rfl dX6_step_86 rfl ?_
      refine aw_imul (npc := 88) dX6_step_87 rfl ?_
      refine aw_isub (npc := 89) dX6_step_88 rfl ?_
      refine aw_put (npc := 92) dX6_step_89 rfl kf_X6_15 Y9.1 (Nat.le_of_ble_eq_true rfl) (am_ok_int _) rfl ?_
      have Y11 := wy_p1 (v := ((hs0 (dD N V)) - (9 * (N 15))) - (9 * (N 14))) Y9
      have F12 := qr_out (a := 37) (c := .inr (6, ([.ref 38, .int ((hs0 (dD N V)) - (9 * (N 15))), .int ((hs1 (dD N V)) + (9 * (N 19)))] : List Value).set 1 (.int (((hs0 (dD N V)) - (9 * (N 15))) - (9 * (N 14)))))) (by omega) F10
      refine aw_aload_n (npc := 93) rfl dX6_step_92 rfl ?_
      refine aw_dup (npc := 94) rfl dX6_step_93 rfl ?_
      refine aw_get (npc := 97) dX6_step_94 rfl kf_X6_19 Y11.1 rfl ?_
      refine aw_bipush (npc := 99) (v := 9) (by decide) dX6_step_97 rfl ?_
      refine aw_iload (npc := 101) rfl dX6_step_99 rfl ?_
      refine aw_imul (npc := 102) dX6_step_101 rfl ?_
      refine aw_iadd (npc := 103) dX6_step_102 rfl ?_
      refine aw_put (npc := 106) dX6_step_103 rfl kf_X6_19 Y11.1 (Nat.le_of_ble_eq_true rfl) (am_ok_int _) rfl ?_
      have Y13 := wy_p2 (v := ((hs1 (dD N V)) + (9 * (N 19))) + (9 * (N 18))) Y11
      have F14 := qr_out (a := 37) (c := .inr (6, ([.ref 38, .int (((hs0 (dD N V)) - (9 * (N 15))) - (9 * (N 14))), .int ((hs1 (dD N V)) + (9 * (N 19)))] : List Value).set 2 (.int (((hs1 (dD N V)) + (9 * (N 19))) + (9 * (N 18)))))) (by omega) F12
      refine aw_iinc (npc := 109) (v := 1) (L' := [some (.ref 37), some (.ref 1), some (.int 1), some (.int (N 14)), some (.int (N 18))]) dX6_step_106 rfl rfl (by decide) (by decide) rfl rfl ?_
      refine aw_goto (npc := 2) dX6_step_109 (by decide) ?_
      refine aw_iload_n (npc := 3) rfl dX6_step_2 rfl ?_
      refine aw_if_lt (npc := 6) (tgt := 112) dX6_step_3 rfl (by decide) (fun hc => absurd hc (by decide)) (fun _ => ?_)
      refine aw_aload_n (npc := 7) rfl dX6_step_6 rfl ?_
      refine aw_get (npc := 10) dX6_step_7 rfl kf_X6_36 F14.1 rfl ?_
      refine aw_iconst (npc := 11) (v := 0) (by decide) dX6_step_10 rfl ?_
      refine aw_iload_n (npc := 12) rfl dX6_step_11 rfl ?_
      refine aw_callSN (npc := 15) (N := mX7_carePlace) (mc := 0) (ms := 0) (A := [.int 0, .int 1]) (S := [.ref 3]) (L0 := [some (.int 0), some (.int 1)]) dX6_step_12 rfl km_X7_carePlace kk_X6_41 rfl ⟨rfl, by decide⟩ rfl (Nat.le_of_ble_eq_true rfl) (Nat.zero_add _) (Nat.zero_add _) rfl ?_
      refine aw_iload_n (npc := 1) rfl dX7_carePlace_0 rfl ?_
      refine aw_iconst (npc := 2) (v := 4) (by decide) dX7_carePlace_1 rfl ?_
      refine aw_imulV (npc := 3) (v := 0) dX7_carePlace_2 rfl (by decide) ?_
      refine aw_iload_n (npc := 4) rfl dX7_carePlace_3 rfl ?_
      refine aw_iaddV (npc := 5) (v := 1) dX7_carePlace_4 rfl (by decide) ?_
      refine aw_iret rfl dX7_carePlace_5 ?_
      refine aw_re (S' := [.int 1, .ref 3]) rfl ?_
      refine aw_iald (npc := 16) (x := N 13) (j := 1) dX6_step_15 rfl F14.2.2.1 ⟨by decide, by decide⟩ (tl_at (by omega)) ?_
      refine aw_istore_n (npc := 17) (L' := [some (.ref 37), some (.ref 1), some (.int 1), some (.int (N 13)), some (.int (N 18))]) dX6_step_16 rfl (by decide) rfl rfl ?_
      refine aw_aload_n (npc := 18) rfl dX6_step_17 rfl ?_
      refine aw_get (npc := 21) dX6_step_18 rfl kf_X6_36 F14.1 rfl ?_
      refine aw_iconst (npc := 22) (v := 1) (by decide) dX6_step_21 rfl ?_
      refine aw_iload_n (npc := 23) rfl dX6_step_22 rfl ?_
      refine aw_callSN (npc := 26) (N := mX7_carePlace) (mc := 0) (ms := 0) (A := [.int 1, .int 1]) (S := [.ref 3]) (L0 := [some (.int 1), some (.int 1)]) dX6_step_23 rfl km_X7_carePlace kk_X6_41 rfl ⟨rfl, by decide⟩ rfl (Nat.le_of_ble_eq_true rfl) (Nat.zero_add _) (Nat.zero_add _) rfl ?_
      refine aw_iload_n (npc := 1) rfl dX7_carePlace_0 rfl ?_
      refine aw_iconst (npc := 2) (v := 4) (by decide) dX7_carePlace_1 rfl ?_
      refine aw_imulV (npc := 3) (v := 4) dX7_carePlace_2 rfl (by decide) ?_
      refine aw_iload_n (npc := 4) rfl dX7_carePlace_3 rfl ?_
      refine aw_iaddV (npc := 5) (v := 5) dX7_carePlace_4 rfl (by decide) ?_
      refine aw_iret rfl dX7_carePlace_5 ?_
      refine aw_re (S' := [.int 5, .ref 3]) rfl ?_
      refine aw_iald (npc := 27) (x := N 17) (j := 5) dX6_step_26 rfl F14.2.2.1 ⟨by decide, by decide⟩ (tl_at (by omega)) ?_
      refine aw_istore (npc := 29) (L' := [some (.ref 37), some (.ref 1), some (.int 1), some (.int (N 13)), some (.int (N 17))]) dX6_step_27 rfl (by decide) rfl rfl ?_
      refine aw_aload_n (npc := 30) rfl dX6_step_29 rfl ?_
      refine aw_get (npc := 33) dX6_step_30 rfl kf_X6_9 Y13.1 rfl ?_
      refine aw_iload_n (npc := 34) rfl dX6_step_33 rfl ?_
      refine aw_iald (npc := 35) (x := (upd (upd wy 3 0) 2 0) 1) (j := 1) dX6_step_34 rfl Y13.2 ⟨by decide, by decide⟩ (tl_at (by omega)) ?_
      refine aw_top (y := wy 1) (((pk_un (by omega))).trans (pk_un (by omega))) ?_
      refine aw_top (y := nI (V / 100 % 10)) (w1) ?_
      refine aw_bipush (npc := 37) (v := 9) (by decide) dX6_step_35 rfl ?_
      refine aw_icmp_ge (npc := 40) (tgt := 72) dX6_step_37 rfl (by decide) (fun hc15 => ?_) (fun hc15 => ?_)
      · have hc15N := (nI_leI (a := 9) (b := (V / 100 % 10)) (by omega) (by omega)).mp hc15
        refine aw_aload_n (npc := 73) rfl dX6_step_72 rfl ?_
        refine aw_get (npc := 76) dX6_step_73 rfl kf_X6_9 Y13.1 rfl ?_
        refine aw_iload_n (npc := 77) rfl dX6_step_76 rfl ?_
        refine aw_iconst (npc := 78) (v := 0) (by decide) dX6_step_77 rfl ?_
        refine aw_iast (npc := 79) (j := 1) dX6_step_78 rfl Y13.2 ⟨by decide, by decide⟩ (by rw [tl_len]; omega) rfl ?_
        have Y16 := wy_set (j := 1) (v := 0) Y13
        have F17 := qr_out (a := 38) (c := .inl (0, (tl 4 (upd (upd wy 3 0) 2 0)).set 1 0)) (by omega) F14
        refine aw_aload_n (npc := 80) rfl dX6_step_79 rfl ?_
        refine aw_dup (npc := 81) rfl dX6_step_80 rfl ?_
        refine aw_get (npc := 84) dX6_step_81 rfl kf_X6_15 Y16.1 rfl ?_
        refine aw_bipush (npc := 86) (v := 9) (by decide) dX6_step_84 rfl ?_
        refine aw_iload_n (npc := 87) rfl dX6_step_86 rfl ?_
        refine aw_imul (npc := 88) dX6_step_87 rfl ?_
        refine aw_isub (npc := 89) dX6_step_88 rfl ?_
        refine aw_put (npc := 92) dX6_step_89 rfl kf_X6_15 Y16.1 (Nat.le_of_ble_eq_true rfl) (am_ok_int _) rfl ?_
        have Y18 := wy_p1 (v := (((hs0 (dD N V)) - (9 * (N 15))) - (9 * (N 14))) - (9 * (N 13))) Y16
        have F19 := qr_out (a := 37) (c := .inr (6, ([.ref 38, .int (((hs0 (dD N V)) - (9 * (N 15))) - (9 * (N 14))), .int (((hs1 (dD N V)) + (9 * (N 19))) + (9 * (N 18)))] : List Value).set 1 (.int ((((hs0 (dD N V)) - (9 * (N 15))) - (9 * (N 14))) - (9 * (N 13)))))) (by omega) F17
        refine aw_aload_n (npc := 93) rfl dX6_step_92 rfl ?_
        refine aw_dup (npc := 94) rfl dX6_step_93 rfl ?_
        refine aw_get (npc := 97) dX6_step_94 rfl kf_X6_19 Y18.1 rfl ?_
        refine aw_bipush (npc := 99) (v := 9) (by decide) dX6_step_97 rfl ?_
        refine aw_iload (npc := 101) rfl dX6_step_99 rfl ?_
        refine aw_imul (npc := 102) dX6_step_101 rfl ?_
        refine aw_iadd (npc := 103) dX6_step_102 rfl ?_
        refine aw_put (npc := 106) dX6_step_103 rfl kf_X6_19 Y18.1 (Nat.le_of_ble_eq_true rfl) (am_ok_int _) rfl ?_
        have Y20 := wy_p2 (v := (((hs1 (dD N V)) + (9 * (N 19))) + (9 * (N 18))) + (9 * (N 17))) Y18
        have F21 := qr_out (a := 37) (c := .inr (6, ([.ref 38, .int ((((hs0 (dD N V)) - (9 * (N 15))) - (9 * (N 14))) - (9 * (N 13))), .int (((hs1 (dD N V)) + (9 * (N 19))) + (9 * (N 18)))] : List Value).set 2 (.int ((((hs1 (dD N V)) + (9 * (N 19))) + (9 * (N 18))) + (9 * (N 17)))))) (by omega) F19
        refine aw_iinc (npc := 109) (v := 0) (L' := [some (.ref 37), some (.ref 1), some (.int 0), some (.int (N 13)), some (.int (N 17))]) dX6_step_106 rfl rfl (by decide) (by decide) rfl rfl ?_
        refine aw_goto (npc := 2) dX6_step_109 (by decide) ?_
        refine aw_iload_n (npc := 3) rfl dX6_step_2 rfl ?_
        refine aw_if_lt (npc := 6) (tgt := 112) dX6_step_3 rfl (by decide) (fun hc => absurd hc (by decide)) (fun _ => ?_)
        refine aw_aload_n (npc := 7) rfl dX6_step_6 rfl ?_
        refine aw_get (npc := 10) dX6_step_7 rfl kf_X6_36 F21.1 rfl ?_
        refine aw_iconst (npc := 11) (v := 0) (by decide) dX6_step_10 rfl ?_
        refine aw_iload_n (npc := 12) rfl dX6_step_11 rfl ?_
        refine aw_callSN (npc := 15) (N := mX7_carePlace) (mc := 0) (ms := 0) (A := [.int 0, .int 0]) (S := [.ref 3]) (L0 := [some (.int 0), some (.int 0)]) dX6_step_12 rfl km_X7_carePlace kk_X6_41 rfl ⟨rfl, by decide⟩ rfl (Nat.le_of_ble_eq_true rfl) (Nat.zero_add _) (Nat.zero_add _) rfl ?_
        refine aw_iload_n (npc := 1) rfl dX7_carePlace_0 rfl ?_
        refine aw_iconst (npc := 2) (v := 4) (by decide) dX7_carePlace_1 rfl ?_
        refine aw_imulV (npc := 3) (v := 0) dX7_carePlace_2 rfl (by decide) ?_
        refine aw_iload_n (npc := 4) rfl dX7_carePlace_3 rfl ?_
        refine aw_iaddV (npc := 5) (v := 0) dX7_carePlace_4 rfl (by decide) ?_
        refine aw_iret rfl dX7_carePlace_5 ?_
        refine aw_re (S' := [.int 0, .ref 3]) rfl ?_
        refine aw_iald (npc := 16) (x := N 12) (j := 0) dX6_step_15 rfl F21.2.2.1 ⟨by decide, by decide⟩ (tl_at (by omega)) ?_
        refine aw_istore_n (npc := 17) (L' := [some (.ref 37), some (.ref 1), some (.int 0), some (.int (N 12)), some (.int (N 17))]) dX6_step_16 rfl (by decide) rfl rfl ?_
        refine aw_aload_n (npc := 18) rfl dX6_step_17 rfl ?_
        refine aw_get (npc := 21) dX6_step_18 rfl kf_X6_36 F21.1 rfl ?_
        refine aw_iconst (npc := 22) (v := 1) (by decide) dX6_step_21 rfl ?_
        refine aw_iload_n (npc := 23) rfl dX6_step_22 rfl ?_
        refine aw_callSN (npc := 26) (N := mX7_carePlace) (mc := 0) (ms := 0) (A := [.int 1, .int 0]) (S := [.ref 3]) (L0 := [some (.int 1), some (.int 0)]) dX6_step_23 rfl km_X7_carePlace kk_X6_41 rfl ⟨rfl, by decide⟩ rfl (Nat.le_of_ble_eq_true rfl) (Nat.zero_add _) (Nat.zero_add _) rfl ?_
        refine aw_iload_n (npc := 1) rfl dX7_carePlace_0 rfl ?_
        refine aw_iconst (npc := 2) (v := 4) (by decide) dX7_carePlace_1 rfl ?_
        refine aw_imulV (npc := 3) (v := 4) dX7_carePlace_2 rfl (by decide) ?_
        refine aw_iload_n (npc := 4) rfl dX7_carePlace_3 rfl ?_
        refine aw_iaddV (npc := 5) (v := 4) dX7_carePlace_4 rfl (by decide) ?_
        refine aw_iret rfl dX7_carePlace_5 ?_
        refine aw_re (S' := [.int 4, .ref 3]) rfl ?_
        refine aw_iald (npc := 27) (x := N 16) (j := 4) dX6_step_26 rfl F21.2.2.1 ⟨by decide, by decide⟩ (tl_at (by omega)) ?_
        refine aw_istore (npc := 29) (L' := [some (.ref 37), some (.ref 1), some (.int 0), some (.int (N 12)), some (.int (N 16))]) dX6_step_27 rfl (by decide) rfl rfl ?_
        refine aw_aload_n (npc := 30) rfl dX6_step_29 rfl ?_
        refine aw_get (npc := 33) dX6_step_30 rfl kf_X6_9 Y20.1 rfl ?_
        refine aw_iload_n (npc := 34) rfl dX6_step_33 rfl ?_
        refine aw_iald (npc := 35) (x := (upd (upd (upd wy 3 0) 2 0) 1 0) 0) (j := 0) dX6_step_34 rfl Y20.2 ⟨by decide, by decide⟩ (tl_at (by omega)) ?_
        refine aw_top (y := wy 0) ((((pk_un (by omega))).trans (pk_un (by omega))).trans (pk_un (by omega))) ?_
        refine aw_top (y := nI (V / 1000 % 10)) (w0) ?_
        refine aw_bipush (npc := 37) (v := 9) (by decide) dX6_step_35 rfl ?_
        refine aw_icmp_ge (npc := 40) (tgt := 72) dX6_step_37 rfl (by decide) (fun hc22 => ?_) (fun hc22 => ?_)
        · have hc22N := (nI_leI (a := 9) (b := (V / 1000 % 10)) (by omega) (by omega)).mp hc22
          refine aw_aload_n (npc := 73) rfl dX6_step_72 rfl ?_
          refine aw_get (npc := 76) dX6_step_73 rfl kf_X6_9 Y20.1 rfl ?_
          refine aw_iload_n (npc := 77) rfl dX6_step_76 rfl ?_
          refine aw_iconst (npc := 78) (v := 0) (by decide) dX6_step_77 rfl ?_
          refine aw_iast (npc := 79) (j := 0) dX6_step_78 rfl Y20.2 ⟨by decide, by decide⟩ (by rw [tl_len]; omega) rfl ?_
          have Y23 := wy_set (j := 0) (v := 0) Y20
          have F24 := qr_out (a := 38) (c := .inl (0, (tl 4 (upd (upd (upd wy 3 0) 2 0) 1 0)).set 0 0)) (by omega) F21
          refine aw_aload_n (npc := 80) rfl dX6_step_79 rfl ?_
          refine aw_dup (npc := 81) rfl dX6_step_80 rfl ?_
          refine aw_get (npc := 84) dX6_step_81 rfl kf_X6_15 Y23.1 rfl ?_
          refine aw_bipush (npc := 86) (v := 9) (by decide) dX6_step_84 rfl ?_
          refine aw_iload_n (npc := 87) rfl dX6_step_86 rfl ?_
          refine aw_imul (npc := 88) dX6_step_87 rfl ?_
          refine aw_isub (npc := 89) dX6_step_88 rfl ?_
          refine aw_put (npc := 92) dX6_step_89 rfl kf_X6_15 Y23.1 (Nat.le_of_ble_eq_true rfl) (am_ok_int _) rfl ?_
          have Y25 := wy_p1 (v := ((((hs0 (dD N V)) - (9 * (N 15))) - (9 * (N 14))) - (9 * (N 13))) - (9 * (N 12))) Y23
          have F26 := qr_out (a := 37) (c := .inr (6, ([.ref 38, .int ((((hs0 (dD N V)) - (9 * (N 15))) - (9 * (N 14))) - (9 * (N 13))), .int ((((hs1 (dD N V)) + (9 * (N 19))) + (9 * (N 18))) + (9 * (N 17)))] : List Value).set 1 (.int (((((hs0 (dD N V)) - (9 * (N 15))) - (9 * (N 14))) - (9 * (N 13))) - (9 * (N 12)))))) (by omega) F24
          refine aw_aload_n (npc := 93) rfl dX6_step_92 rfl ?_
          refine aw_dup (npc := 94) rfl dX6_step_93 rfl ?_
          refine aw_get (npc := 97) dX6_step_94 rfl kf_X6_19 Y25.1 rfl ?_
          refine aw_bipush (npc := 99) (v := 9) (by decide) dX6_step_97 rfl ?_
          refine aw_iload (npc := 101) rfl dX6_step_99 rfl ?_
          refine aw_imul (npc := 102) dX6_step_101 rfl ?_
          refine aw_iadd (npc := 103) dX6_step_102 rfl ?_
          refine aw_put (npc := 106) dX6_step_103 rfl kf_X6_19 Y25.1 (Nat.le_of_ble_eq_true rfl) (am_ok_int _) rfl ?_
          have Y27 := wy_p2 (v := ((((hs1 (dD N V)) + (9 * (N 19))) + (9 * (N 18))) + (9 * (N 17))) + (9 * (N 16))) Y25
          have F28 := qr_out (a := 37) (c := .inr (6, ([.ref 38, .int (((((hs0 (dD N V)) - (9 * (N 15))) - (9 * (N 14))) - (9 * (N 13))) - (9 * (N 12))), .int ((((hs1 (dD N V)) + (9 * (N 19))) + (9 * (N 18))) + (9 * (N 17)))] : List Value).set 2 (.int (((((hs1 (dD N V)) + (9 * (N 19))) + (9 * (N 18))) + (9 * (N 17))) + (9 * (N 16)))))) (by omega) F26
          refine aw_iinc (npc := 109) (v := (-1)) (L' := [some (.ref 37), some (.ref 1), some (.int (-1)), some (.int (N 12)), some (.int (N 16))]) dX6_step_106 rfl rfl (by decide) (by decide) rfl rfl ?_
          refine aw_goto (npc := 2) dX6_step_109 (by decide) ?_
          refine aw_iload_n (npc := 3) rfl dX6_step_2 rfl ?_
          refine aw_if_lt (npc := 6) (tgt := 112) dX6_step_3 rfl (by decide) (fun _ => ?_) (fun hc => absurd (by decide) hc)
          refine aw_vret rfl dX6_step_112 ?_
          have q0 : (V / 1000 % 10) = 9 := by omega
          have q1 : (V / 100 % 10) = 9 := by omega
          have q2 : (V / 10 % 10) = 9 := by omega
          have q3 : (V % 10) = 9 := by omega
          have g0 : ((V + 1) / 1000 % 10) = 0 := by omega
          have g1 : ((V + 1) / 100 % 10) = 0 := by omega
          have g2 : ((V + 1) / 10 % 10) = 0 := by omega
          have g3 : ((V + 1) % 10) = 0 := by omega
          have ed : dD N (V + 1) = dN N 0 0 0 0 := by unfold dD; rw [g0, g1, g2, g3]
          have eo : dD N V = dN N 9 9 9 9 := by unfold dD; rw [q0, q1, q2, q3]
          refine hq _ ⟨_, wy_c ?_ ?_ Y27, ?_, ?_, ?_, ?_⟩ (am_fpU (show ¬ (37 < 37 ∨ 39 ≤ 37) by omega) (am_fpU (show ¬ (37 < 37 ∨ 39 ≤ 37) by omega) (am_fpU (show ¬ (38 < 37 ∨ 39 ≤ 38) by omega) (am_fpU (show ¬ (37 < 37 ∨ 39 ≤ 37) by omega) (am_fpU (show ¬ (37 < 37 ∨ 39 ≤ 37) by omega) (am_fpU (show ¬ (38 < 37 ∨ 39 ≤ 38) by omega) (am_fpU (show ¬ (37 < 37 ∨ 39 ≤ 37) by omega) (am_fpU (show ¬ (37 < 37 ∨ 39 ≤ 37) by omega) (am_fpU (show ¬ (38 < 37 ∨ 39 ≤ 38) by omega) (am_fpU (show ¬ (37 < 37 ∨ 39 ≤ 37) by omega) (am_fpU (show ¬ (37 < 37 ∨ 39 ≤ 37) by omega) (am_fpU (show ¬ (38 < 37 ∨ 39 ≤ 38) by omega) am_fp0))))))))))))
          · rw [ed, eo]; exact stp_e0
          · rw [ed, eo]; exact stp_e1
          · rw [g0]; exact (pk_us)
          · rw [g1]; exact (((pk_un (by omega))).trans pk_us)
          · rw [g2]; exact ((((pk_un (by omega))).trans (pk_un (by omega))).trans pk_us)
          · rw [g3]; exact (((((pk_un (by omega))).trans (pk_un (by omega))).trans (pk_un (by omega))).trans pk_us)
        · have hc22N : ¬ 9 ≤ (V / 1000 % 10) := fun z9q => hc22 ((nI_leI (a := 9) (b := (V / 1000 % 10)) (by omega) (by omega)).mpr z9q)
          refine aw_aload_n (npc := 41) rfl dX6_step_40 rfl ?_
          refine aw_get (npc := 44) dX6_step_41 rfl kf_X6_9 Y20.1 rfl ?_
          refine aw_iload_n (npc := 45) rfl dX6_step_44 rfl ?_
          refine aw_dup2 (npc := 46) rfl rfl dX6_step_45 rfl ?_
          refine aw_iald (npc := 47) (x := (upd (upd (upd wy 3 0) 2 0) 1 0) 0) (j := 0) dX6_step_46 rfl Y20.2 ⟨by decide, by decide⟩ (tl_at (by omega)) ?_
          refine aw_top (y := wy 0) ((((pk_un (by omega))).trans (pk_un (by omega))).trans (pk_un (by omega))) ?_
          refine aw_top (y := nI (V / 1000 % 10)) (w0) ?_
          refine aw_iconst (npc := 48) (v := 1) (by decide) dX6_step_47 rfl ?_
          refine aw_iaddV (npc := 49) (v := nI ((V / 1000 % 10) + 1)) dX6_step_48 rfl (nI_add _ 1) ?_
          refine aw_iast (npc := 50) (j := 0) dX6_step_49 rfl Y20.2 ⟨by decide, by decide⟩ (by rw [tl_len]; omega) rfl ?_
          have Y29 := wy_set (j := 0) (v := nI ((V / 1000 % 10) + 1)) Y20
          have F30 := qr_out (a := 38) (c := .inl (0, (tl 4 (upd (upd (upd wy 3 0) 2 0) 1 0)).set 0 (nI ((V / 1000 % 10) + 1)))) (by omega) F21
          refine aw_aload_n (npc := 51) rfl dX6_step_50 rfl ?_
          refine aw_dup (npc := 52) rfl dX6_step_51 rfl ?_
          refine aw_get (npc := 55) dX6_step_52 rfl kf_X6_15 Y29.1 rfl ?_
          refine aw_iload_n (npc := 56) rfl dX6_step_55 rfl ?_
          refine aw_iadd (npc := 57) dX6_step_56 rfl ?_
          refine aw_put (npc := 60) dX6_step_57 rfl kf_X6_15 Y29.1 (Nat.le_of_ble_eq_true rfl) (am_ok_int _) rfl ?_
          have Y31 := wy_p1 (v := ((((hs0 (dD N V)) - (9 * (N 15))) - (9 * (N 14))) - (9 * (N 13))) + (N 12)) Y29
          have F32 := qr_out (a := 37) (c := .inr (6, ([.ref 38, .int ((((hs0 (dD N V)) - (9 * (N 15))) - (9 * (N 14))) - (9 * (N 13))), .int ((((hs1 (dD N V)) + (9 * (N 19))) + (9 * (N 18))) + (9 * (N 17)))] : List Value).set 1 (.int (((((hs0 (dD N V)) - (9 * (N 15))) - (9 * (N 14))) - (9 * (N 13))) + (N 12))))) (by omega) F30
          refine aw_aload_n (npc := 61) rfl dX6_step_60 rfl ?_
          refine aw_dup (npc := 62) rfl dX6_step_61 rfl ?_
          refine aw_get (npc := 65) dX6_step_62 rfl kf_X6_19 Y31.1 rfl ?_
          refine aw_iload (npc := 67) rfl dX6_step_65 rfl ?_
          refine aw_isub (npc := 68) dX6_step_67 rfl ?_
          refine aw_put (npc := 71) dX6_step_68 rfl kf_X6_19 Y31.1 (Nat.le_of_ble_eq_true rfl) (am_ok_int _) rfl ?_
          have Y33 := wy_p2 (v := ((((hs1 (dD N V)) + (9 * (N 19))) + (9 * (N 18))) + (9 * (N 17))) - (N 16)) Y31
          have F34 := qr_out (a := 37) (c := .inr (6, ([.ref 38, .int (((((hs0 (dD N V)) - (9 * (N 15))) - (9 * (N 14))) - (9 * (N 13))) + (N 12)), .int ((((hs1 (dD N V)) + (9 * (N 19))) + (9 * (N 18))) + (9 * (N 17)))] : List Value).set 2 (.int (((((hs1 (dD N V)) + (9 * (N 19))) + (9 * (N 18))) + (9 * (N 17))) - (N 16))))) (by omega) F32
          refine aw_vret rfl dX6_step_71 ?_
          have q1 : (V / 100 % 10) = 9 := by omega
          have q2 : (V / 10 % 10) = 9 := by omega
          have q3 : (V % 10) = 9 := by omega
          have g0 : ((V + 1) / 1000 % 10) = (V / 1000 % 10) + 1 := by omega
          have g1 : ((V + 1) / 100 % 10) = 0 := by omega
          have g2 : ((V + 1) / 10 % 10) = 0 := by omega
          have g3 : ((V + 1) % 10) = 0 := by omega
          have ed : dD N (V + 1) = dN N ((V / 1000 % 10) + 1) 0 0 0 := by unfold dD; rw [g0, g1, g2, g3]
          have eo : dD N V = dN N (V / 1000 % 10) 9 9 9 := by unfold dD; rw [q1, q2, q3]
          refine hq _ ⟨_, wy_c ?_ ?_ Y33, ?_, ?_, ?_, ?_⟩ (am_fpU (show ¬ (37 < 37 ∨ 39 ≤ 37) by omega) (am_fpU (show ¬ (37 < 37 ∨ 39 ≤ 37) by omega) (am_fpU (show ¬ (38 < 37 ∨ 39 ≤ 38) by omega) (am_fpU (show ¬ (37 < 37 ∨ 39 ≤ 37) by omega) (am_fpU (show ¬ (37 < 37 ∨ 39 ≤ 37) by omega) (am_fpU (show ¬ (38 < 37 ∨ 39 ≤ 38) by omega) (am_fpU (show ¬ (37 < 37 ∨ 39 ≤ 37) by omega) (am_fpU (show ¬ (37 < 37 ∨ 39 ≤ 37) by omega) (am_fpU (show ¬ (38 < 37 ∨ 39 ≤ 38) by omega) (am_fpU (show ¬ (37 < 37 ∨ 39 ≤ 37) by omega) (am_fpU (show ¬ (37 < 37 ∨ 39 ≤ 37) by omega) (am_fpU (show ¬ (38 < 37 ∨ 39 ≤ 38) by omega) am_fp0))))))))))))
          · rw [ed, eo]; exact stp_d0
          · rw [ed, eo]; exact stp_d1
          · rw [g0]; exact (pk_us)
          · rw [g1]; exact (((pk_un (by omega))).trans pk_us)
          · rw [g2]; exact ((((pk_un (by omega))).trans (pk_un (by omega))).trans pk_us)
          · rw [g3]; exact (((((pk_un (by omega))).trans (pk_un (by omega))).trans (pk_un (by omega))).trans pk_us)
      · have hc15N : ¬ 9 ≤ (V / 100 % 10) := fun z9q => hc15 ((nI_leI (a := 9) (b := (V / 100 % 10)) (by omega) (by omega)).mpr z9q)
        refine aw_aload_n (npc := 41) rfl dX6_step_40 rfl ?_
        refine aw_get (npc := 44) dX6_step_41 rfl kf_X6_9 Y13.1 rfl ?_
        refine aw_iload_n (npc := 45) rfl dX6_step_44 rfl ?_
        refine aw_dup2 (npc := 46) rfl rfl dX6_step_45 rfl ?_
        refine aw_iald (npc := 47) (x := (upd (upd wy 3 0) 2 0) 1) (j := 1) dX6_step_46 rfl Y13.2 ⟨by decide, by decide⟩ (tl_at (by omega)) ?_
        refine aw_top (y := wy 1) (((pk_un (by omega))).trans (pk_un (by omega))) ?_
        refine aw_top (y := nI (V / 100 % 10)) (w1) ?_
        refine aw_iconst (npc := 48) (v := 1) (by decide) dX6_step_47 rfl ?_
        refine aw_iaddV (npc := 49) (v := nI ((V / 100 % 10) + 1)) dX6_step_48 rfl (nI_add _ 1) ?_
        refine aw_iast (npc := 50) (j := 1) dX6_step_49 rfl Y13.2 ⟨by decide, by decide⟩ (by rw [tl_len]; omega) rfl ?_
        have Y35 := wy_set (j := 1) (v := nI ((V / 100 % 10) + 1)) Y13
        have F36 := qr_out (a := 38) (c := .inl (0, (tl 4 (upd (upd wy 3 0) 2 0)).set 1 (nI ((V / 100 % 10) + 1)))) (by omega) F14
        refine aw_aload_n (npc := 51) rfl dX6_step_50 rfl ?_
        refine aw_dup (npc := 52) rfl dX6_step_51 rfl ?_
        refine aw_get (npc := 55) dX6_step_52 rfl kf_X6_15 Y35.1 rfl ?_
        refine aw_iload_n (npc := 56) rfl dX6_step_55 rfl ?_
        refine aw_iadd (npc := 57) dX6_step_56 rfl ?_
        refine aw_put (npc := 60) dX6_step_57 rfl kf_X6_15 Y35.1 (Nat.le_of_ble_eq_true rfl) (am_ok_int _) rfl ?_
        have Y37 := wy_p1 (v := (((hs0 (dD N V)) - (9 * (N 15))) - (9 * (N 14))) + (N 13)) Y35
        have F38 := qr_out (a := 37) (c := .inr (6, ([.ref 38, .int (((hs0 (dD N V)) - (9 * (N 15))) - (9 * (N 14))), .int (((hs1 (dD N V)) + (9 * (N 19))) + (9 * (N 18)))] : List Value).set 1 (.int ((((hs0 (dD N V)) - (9 * (N 15))) - (9 * (N 14))) + (N 13))))) (by omega) F36
        refine aw_aload_n (npc := 61) rfl dX6_step_60 rfl ?_
        refine aw_dup (npc := 62) rfl dX6_step_61 rfl ?_
        refine aw_get (npc := 65) dX6_step_62 rfl kf_X6_19 Y37.1 rfl ?_
        refine aw_iload (npc := 67) rfl dX6_step_65 rfl ?_
        refine aw_isub (npc := 68) dX6_step_67 rfl ?_
        refine aw_put (npc := 71) dX6_step_68 rfl kf_X6_19 Y37.1 (Nat.le_of_ble_eq_true rfl) (am_ok_int _) rfl ?_
        have Y39 := wy_p2 (v := (((hs1 (dD N V)) + (9 * (N 19))) + (9 * (N 18))) - (N 17)) Y37
        have F40 := qr_out (a := 37) (c := .inr (6, ([.ref 38, .int ((((hs0 (dD N V)) - (9 * (N 15))) - (9 * (N 14))) + (N 13)), .int (((hs1 (dD N V)) + (9 * (N 19))) + (9 * (N 18)))] : List Value).set 2 (.int ((((hs1 (dD N V)) + (9 * (N 19))) + (9 * (N 18))) - (N 17))))) (by omega) F38
        refine aw_vret rfl dX6_step_71 ?_
        have q2 : (V / 10 % 10) = 9 := by omega
        have q3 : (V % 10) = 9 := by omega
        have g0 : ((V + 1) / 1000 % 10) = (V / 1000 % 10) := by omega
        have g1 : ((V + 1) / 100 % 10) = (V / 100 % 10) + 1 := by omega
        have g2 : ((V + 1) / 10 % 10) = 0 := by omega
        have g3 : ((V + 1) % 10) = 0 := by omega
        have ed : dD N (V + 1) = dN N (V / 1000 % 10) ((V / 100 % 10) + 1) 0 0 := by unfold dD; rw [g0, g1, g2, g3]
        have eo : dD N V = dN N (V / 1000 % 10) (V / 100 % 10) 9 9 := by unfold dD; rw [q2, q3]
        refine hq _ ⟨_, wy_c ?_ ?_ Y39, ?_, ?_, ?_, ?_⟩ (am_fpU (show ¬ (37 < 37 ∨ 39 ≤ 37) by omega) (am_fpU (show ¬ (37 < 37 ∨ 39 ≤ 37) by omega) (am_fpU (show ¬ (38 < 37 ∨ 39 ≤ 38) by omega) (am_fpU (show ¬ (37 < 37 ∨ 39 ≤ 37) by omega) (am_fpU (show ¬ (37 < 37 ∨ 39 ≤ 37) by omega) (am_fpU (show ¬ (38 < 37 ∨ 39 ≤ 38) by omega) (am_fpU (show ¬ (37 < 37 ∨ 39 ≤ 37) by omega) (am_fpU (show ¬ (37 < 37 ∨ 39 ≤ 37) by omega) (am_fpU (show ¬ (38 < 37 ∨ 39 ≤ 38) by omega) am_fp0)))))))))
        · rw [ed, eo]; exact stp_c0
        · rw [ed, eo]; exact stp_c1
        · rw [g0]; exact ((((pk_un (by omega))).trans (pk_un (by omega))).trans (pk_un (by omega))).trans w0
        · rw [g1]; exact (pk_us)
        · rw [g2]; exact (((pk_un (by omega))).trans pk_us)
        · rw [g3]; exact ((((pk_un (by omega))).trans (pk_un (by omega))).trans pk_us)
    · have hc8N : ¬ 9 ≤ (V / 10 % 10) := fun z9q => hc8 ((nI_leI (a := 9) (b := (V / 10 % 10)) (by omega) (by omega)).mpr z9q)
      refine aw_aload_n (npc := 41) rfl dX6_step_40 rfl ?_
      refine aw_get (npc := 44) dX6_step_41 rfl kf_X6_9 Y6.1 rfl ?_
      refine aw_iload_n (npc := 45) rfl dX6_step_44 rfl ?_
      refine aw_dup2 (npc := 46) rfl rfl dX6_step_45 rfl ?_
      refine aw_iald (npc := 47) (x := (upd wy 3 0) 2) (j := 2) dX6_step_46 rfl Y6.2 ⟨by decide, by decide⟩ (tl_at (by omega)) ?_
      refine aw_top (y := wy 2) ((pk_un (by omega))) ?_
      refine aw_top (y := nI (V / 10 % 10)) (w2) ?_
      refine aw_iconst (npc := 48) (v := 1) (by decide) dX6_step_47 rfl ?_
      refine aw_iaddV (npc := 49) (v := nI ((V / 10 % 10) + 1)) dX6_step_48 rfl (nI_add _ 1) ?_
      refine aw_iast (npc := 50) (j := 2) dX6_step_49 rfl Y6.2 ⟨by decide, by decide⟩ (by rw [tl_len]; omega) rfl ?_
      have Y41 := wy_set (j := 2) (v := nI ((V / 10 % 10) + 1)) Y6
      have F42 := qr_out (a := 38) (c := .inl (0, (tl 4 (upd wy 3 0)).set 2 (nI ((V / 10 % 10) + 1)))) (by omega) F7
      refine aw_aload_n (npc := 51) rfl dX6_step_50 rfl ?_
      refine aw_dup (npc := 52) rfl dX6_step_51 rfl ?_
      refine aw_get (npc := 55) dX6_step_52 rfl kf_X6_15 Y41.1 rfl ?_
      refine aw_iload_n (npc := 56) rfl dX6_step_55 rfl ?_
      refine aw_iadd (npc := 57) dX6_step_56 rfl ?_
      refine aw_put (npc := 60) dX6_step_57 rfl kf_X6_15 Y41.1 (Nat.le_of_ble_eq_true rfl) (am_ok_int _) rfl ?_
      have Y43 := wy_p1 (v := ((hs0 (dD N V)) - (9 * (N 15))) + (N 14)) Y41
      have F44 := qr_out (a := 37) (c := .inr (6, ([.ref 38, .int ((hs0 (dD N V)) - (9 * (N 15))), .int ((hs1 (dD N V)) + (9 * (N 19)))] : List Value).set 1 (.int (((hs0 (dD N V)) - (9 * (N 15))) + (N 14))))) (by omega) F42
      refine aw_aload_n (npc := 61) rfl dX6_step_60 rfl ?_
      refine aw_dup (npc := 62) rfl dX6_step_61 rfl ?_
      refine aw_get (npc := 65) dX6_step_62 rfl kf_X6_19 Y43.1 rfl ?_
      refine aw_iload (npc := 67) rfl dX6_step_65 rfl ?_
      refine aw_isub (npc := 68) dX6_step_67 rfl ?_
      refine aw_put (npc := 71) dX6_step_68 rfl kf_X6_19 Y43.1 (Nat.le_of_ble_eq_true rfl) (am_ok_int _) rfl ?_
      have Y45 := wy_p2 (v := ((hs1 (dD N V)) + (9 * (N 19))) - (N 18)) Y43
      have F46 := qr_out (a := 37) (c := .inr (6, ([.ref 38, .int (((hs0 (dD N V)) - (9 * (N 15))) + (N 14)), .int ((hs1 (dD N V)) + (9 * (N 19)))] : List Value).set 2 (.int (((hs1 (dD N V)) + (9 * (N 19))) - (N 18))))) (by omega) F44
      refine aw_vret rfl dX6_step_71 ?_
      have q3 : (V % 10) = 9 := by omega
      have g0 : ((V + 1) / 1000 % 10) = (V / 1000 % 10) := by omega
      have g1 : ((V + 1) / 100 % 10) = (V / 100 % 10) := by omega
      have g2 : ((V + 1) / 10 % 10) = (V / 10 % 10) + 1 := by omega
      have g3 : ((V + 1) % 10) = 0 := by omega
      have ed : dD N (V + 1) = dN N (V / 1000 % 10) (V / 100 % 10) ((V / 10 % 10) + 1) 0 := by unfold dD; rw [g0, g1, g2, g3]
      have eo : dD N V = dN N (V / 1000 % 10) (V / 100 % 10) (V / 10 % 10) 9 := by unfold dD; rw [q3]
      refine hq _ ⟨_, wy_c ?_ ?_ Y45, ?_, ?_, ?_, ?_⟩ (am_fpU (show ¬ (37 < 37 ∨ 39 ≤ 37) by omega) (am_fpU (show ¬ (37 < 37 ∨ 39 ≤ 37) by omega) (am_fpU (show ¬ (38 < 37 ∨ 39 ≤ 38) by omega) (am_fpU (show ¬ (37 < 37 ∨ 39 ≤ 37) by omega) (am_fpU (show ¬ (37 < 37 ∨ 39 ≤ 37) by omega) (am_fpU (show ¬ (38 < 37 ∨ 39 ≤ 38) by omega) am_fp0))))))
      · rw [ed, eo]; exact stp_b0
      · rw [ed, eo]; exact stp_b1
      · rw [g0]; exact (((pk_un (by omega))).trans (pk_un (by omega))).trans w0
      · rw [g1]; exact (((pk_un (by omega))).trans (pk_un (by omega))).trans w1
      · rw [g2]; exact (pk_us)
      · rw [g3]; exact (((pk_un (by omega))).trans pk_us)
  · have hc1N : ¬ 9 ≤ (V % 10) := fun z9q => hc1 ((nI_leI (a := 9) (b := (V % 10)) (by omega) (by omega)).mpr z9q)
    refine aw_aload_n (npc := 41) rfl dX6_step_40 rfl ?_
    refine aw_get (npc := 44) dX6_step_41 rfl kf_X6_9 Y.1 rfl ?_
    refine aw_iload_n (npc := 45) rfl dX6_step_44 rfl ?_
    refine aw_dup2 (npc := 46) rfl rfl dX6_step_45 rfl ?_
    refine aw_iald (npc := 47) (x := wy 3) (j := 3) dX6_step_46 rfl Y.2 ⟨by decide, by decide⟩ (tl_at (by omega)) ?_
    refine aw_top (y := nI (V % 10)) (w3) ?_
    refine aw_iconst (npc := 48) (v := 1) (by decide) dX6_step_47 rfl ?_
    refine aw_iaddV (npc := 49) (v := nI ((V % 10) + 1)) dX6_step_48 rfl (nI_add _ 1) ?_
    refine aw_iast (npc := 50) (j := 3) dX6_step_49 rfl Y.2 ⟨by decide, by decide⟩ (by rw [tl_len]; omega) rfl ?_
    have Y47 := wy_set (j := 3) (v := nI ((V % 10) + 1)) Y
    have F48 := qr_out (a := 38) (c := .inl (0, (tl 4 wy).set 3 (nI ((V % 10) + 1)))) (by omega) F
    refine aw_aload_n (npc := 51) rfl dX6_step_50 rfl ?_
    refine aw_dup (npc := 52) rfl dX6_step_51 rfl ?_
    refine aw_get (npc := 55) dX6_step_52 rfl kf_X6_15 Y47.1 rfl ?_
    refine aw_iload_n (npc := 56) rfl dX6_step_55 rfl ?_
    refine aw_iadd (npc := 57) dX6_step_56 rfl ?_
    refine aw_put (npc := 60) dX6_step_57 rfl kf_X6_15 Y47.1 (Nat.le_of_ble_eq_true rfl) (am_ok_int _) rfl ?_
    have Y49 := wy_p1 (v := (hs0 (dD N V)) + (N 15)) Y47
    have F50 := qr_out (a := 37) (c := .inr (6, ([.ref 38, .int (hs0 (dD N V)), .int (hs1 (dD N V))] : List Value).set 1 (.int ((hs0 (dD N V)) + (N 15))))) (by omega) F48
    refine aw_aload_n (npc := 61) rfl dX6_step_60 rfl ?_
    refine aw_dup (npc := 62) rfl dX6_step_61 rfl ?_
    refine aw_get (npc := 65) dX6_step_62 rfl kf_X6_19 Y49.1 rfl ?_
    refine aw_iload (npc := 67) rfl dX6_step_65 rfl ?_
    refine aw_isub (npc := 68) dX6_step_67 rfl ?_
    refine aw_put (npc := 71) dX6_step_68 rfl kf_X6_19 Y49.1 (Nat.le_of_ble_eq_true rfl) (am_ok_int _) rfl ?_
    have Y51 := wy_p2 (v := (hs1 (dD N V)) - (N 19)) Y49
    have F52 := qr_out (a := 37) (c := .inr (6, ([.ref 38, .int ((hs0 (dD N V)) + (N 15)), .int (hs1 (dD N V))] : List Value).set 2 (.int ((hs1 (dD N V)) - (N 19))))) (by omega) F50
    refine aw_vret rfl dX6_step_71 ?_
    have g0 : ((V + 1) / 1000 % 10) = (V / 1000 % 10) := by omega
    have g1 : ((V + 1) / 100 % 10) = (V / 100 % 10) := by omega
    have g2 : ((V + 1) / 10 % 10) = (V / 10 % 10) := by omega
    have g3 : ((V + 1) % 10) = (V % 10) + 1 := by omega
    have ed : dD N (V + 1) = dN N (V / 1000 % 10) (V / 100 % 10) (V / 10 % 10) ((V % 10) + 1) := by unfold dD; rw [g0, g1, g2, g3]
    have eo : dD N V = dN N (V / 1000 % 10) (V / 100 % 10) (V / 10 % 10) (V % 10) := by unfold dD; rfl
    refine hq _ ⟨_, wy_c ?_ ?_ Y51, ?_, ?_, ?_, ?_⟩ (am_fpU (show ¬ (37 < 37 ∨ 39 ≤ 37) by omega) (am_fpU (show ¬ (37 < 37 ∨ 39 ≤ 37) by omega) (am_fpU (show ¬ (38 < 37 ∨ 39 ≤ 38) by omega) am_fp0)))
    · rw [ed, eo]; exact stp_a0
    · rw [ed, eo]; exact stp_a1
    · rw [g0]; exact ((pk_un (by omega))).trans w0
    · rw [g1]; exact ((pk_un (by omega))).trans w1
    · rw [g2]; exact ((pk_un (by omega))).trans w2
    · rw [g3]; exact (pk_us)
set_option maxHeartbeats 4000000 in
set_option maxRecDepth 100000 in
theorem c_spare {X : List Int32} {d rc rs n : Nat} {Q : am_Q} {h : am_H} {N : Nat → Int32} {tx : List Value} {lk mv : Nat → Int32} {V : Nat} (F : QR 1 N tx lk mv h) (Y : WV N V h) (hq : Q (some (.int (spF N (dD N V)))) n h) : AW X mX6_spare (d + 3) rc rs 0 [some (.ref 37), some (.ref 1)] [] n h Q := by
  obtain ⟨wy, Y, w0, w1, w2, w3⟩ := Y
  refine aw_aload_n (npc := 1) rfl dX6_spare_0 rfl ?_
  refine aw_get (npc := 4) dX6_spare_1 rfl kf_X6_15 Y.1 rfl ?_
  refine aw_aload_n (npc := 5) rfl dX6_spare_4 rfl ?_
  refine aw_get (npc := 8) dX6_spare_5 rfl kf_X6_45 F.1 rfl ?_
  refine aw_iconst (npc := 9) (v := 0) (by decide) dX6_spare_8 rfl ?_
  refine aw_iald (npc := 10) (x := N 20) (j := 0) dX6_spare_9 rfl F.2.2.2.1 ⟨by decide, by decide⟩ (tl_at (by omega)) ?_
  refine aw_isub (npc := 11) dX6_spare_10 rfl ?_
  refine aw_aload_n (npc := 12) rfl dX6_spare_11 rfl ?_
  refine aw_get (npc := 15) dX6_spare_12 rfl kf_X6_19 Y.1 rfl ?_
  refine aw_aload_n (npc := 16) rfl dX6_spare_15 rfl ?_
  refine aw_get (npc := 19) dX6_spare_16 rfl kf_X6_45 F.1 rfl ?_
  refine aw_iconst (npc := 20) (v := 1) (by decide) dX6_spare_19 rfl ?_
  refine aw_iald (npc := 21) (x := N 21) (j := 1) dX6_spare_20 rfl F.2.2.2.1 ⟨by decide, by decide⟩ (tl_at (by omega)) ?_
  refine aw_isub (npc := 22) dX6_spare_21 rfl ?_
  refine aw_mmin (npc := 25) dX6_spare_22 rfl kmm_X6_48 kmx_min (Nat.le_of_ble_eq_true rfl) ?_
  refine aw_iret rfl dX6_spare_25 ?_
  exact hq
set_option maxHeartbeats 4000000 in
set_option maxRecDepth 100000 in
theorem c_dist {X : List Int32} {d rc rs n : Nat} {Q : am_Q} {h : am_H} {N : Nat → Int32} {tx : List Value} {lk mv : Nat → Int32} {V : Nat} (F : QR 1 N tx lk mv h) (Y : WV N V h) (hq : Q (some (.int (diF N (dD N V)))) n h) : AW X mX6_distanceTo (d + 3) rc rs 0 [some (.ref 37), some (.ref 1), none, none] [] n h Q := by
  obtain ⟨wy, Y, w0, w1, w2, w3⟩ := Y
  refine aw_iconst (npc := 1) (v := 0) (by decide) dX6_distanceTo_0 rfl ?_
  refine aw_istore_n (npc := 2) (L' := [some (.ref 37), some (.ref 1), some (.int 0), none]) dX6_distanceTo_1 rfl (by decide) rfl rfl ?_
  refine aw_iconst (npc := 3) (v := 0) (by decide) dX6_distanceTo_2 rfl ?_
  refine aw_istore_n (npc := 4) (L' := [some (.ref 37), some (.ref 1), some (.int 0), some (.int 0)]) dX6_distanceTo_3 rfl (by decide) rfl rfl ?_
  refine aw_iload_n (npc := 5) rfl dX6_distanceTo_4 rfl ?_
  refine aw_iconst (npc := 6) (v := 4) (by decide) dX6_distanceTo_5 rfl ?_
  refine aw_icmp_ge (npc := 9) (tgt := 34) dX6_distanceTo_6 rfl (by decide) (fun hc => absurd hc (by decide)) (fun _ => ?_)
  refine aw_iload_n (npc := 10) rfl dX6_distanceTo_9 rfl ?_
  refine aw_aload_n (npc := 11) rfl dX6_distanceTo_10 rfl ?_
  refine aw_get (npc := 14) dX6_distanceTo_11 rfl kf_X6_9 Y.1 rfl ?_
  refine aw_iload_n (npc := 15) rfl dX6_distanceTo_14 rfl ?_
  refine aw_iald (npc := 16) (x := wy 0) (j := 0) dX6_distanceTo_15 rfl Y.2 ⟨by decide, by decide⟩ (tl_at (by omega)) ?_
  refine aw_top (y := nI (V / 1000 % 10)) (w0) ?_
  refine aw_aload_n (npc := 17) rfl dX6_distanceTo_16 rfl ?_
  refine aw_get (npc := 20) dX6_distanceTo_17 rfl kf_X6_53 F.1 rfl ?_
  refine aw_iload_n (npc := 21) rfl dX6_distanceTo_20 rfl ?_
  refine aw_iald (npc := 22) (x := N 8) (j := 0) dX6_distanceTo_21 rfl F.2.1 ⟨by decide, by decide⟩ (tl_at (by omega)) ?_
  refine aw_isub (npc := 23) dX6_distanceTo_22 rfl ?_
  refine aw_mabs (npc := 26) dX6_distanceTo_23 rfl kmm_X6_56 kmx_abs (Nat.le_of_ble_eq_true rfl) ?_
  refine aw_top (y := abD (nI (V / 1000 % 10)) (N 8)) (rfl) ?_
  refine aw_iadd (npc := 27) dX6_distanceTo_26 rfl ?_
  refine aw_istore_n (npc := 28) (L' := [some (.ref 37), some (.ref 1), some (.int (0 + (abD (nI (V / 1000 % 10)) (N 8)))), some (.int 0)]) dX6_distanceTo_27 rfl (by decide) rfl rfl ?_
  refine aw_iinc (npc := 31) (v := 1) (L' := [some (.ref 37), some (.ref 1), some (.int (0 + (abD (nI (V / 1000 % 10)) (N 8)))), some (.int 1)]) dX6_distanceTo_28 rfl rfl (by decide) (by decide) rfl rfl ?_
  refine aw_goto (npc := 4) dX6_distanceTo_31 (by decide) ?_
  refine aw_iload_n (npc := 5) rfl dX6_distanceTo_4 rfl ?_
  refine aw_iconst (npc := 6) (v := 4) (by decide) dX6_distanceTo_5 rfl ?_
  refine aw_icmp_ge (npc := 9) (tgt := 34) dX6_distanceTo_6 rfl (by decide) (fun hc => absurd hc (by decide)) (fun _ => ?_)
  refine aw_iload_n (npc := 10) rfl dX6_distanceTo_9 rfl ?_
  refine aw_aload_n (npc := 11) rfl dX6_distanceTo_10 rfl ?_
  refine aw_get (npc := 14) dX6_distanceTo_11 rfl kf_X6_9 Y.1 rfl ?_
  refine aw_iload_n (npc := 15) rfl dX6_distanceTo_14 rfl ?_
  refine aw_iald (npc := 16) (x := wy 1) (j := 1) dX6_distanceTo_15 rfl Y.2 ⟨by decide, by decide⟩ (tl_at (by omega)) ?_
  refine aw_top (y := nI (V / 100 % 10)) (w1) ?_
  refine aw_aload_n (npc := 17) rfl dX6_distanceTo_16 rfl ?_
  refine aw_get (npc := 20) dX6_distanceTo_17 rfl kf_X6_53 F.1 rfl ?_
  refine aw_iload_n (npc := 21) rfl dX6_distanceTo_20 rfl ?_
  refine aw_iald (npc := 22) (x := N 9) (j := 1) dX6_distanceTo_21 rfl F.2.1 ⟨by decide, by decide⟩ (tl_at (by omega)) ?_
  refine aw_isub (npc := 23) dX6_distanceTo_22 rfl ?_
  refine aw_mabs (npc := 26) dX6_distanceTo_23 rfl kmm_X6_56 kmx_abs (Nat.le_of_ble_eq_true rfl) ?_
  refine aw_top (y := abD (nI (V / 100 % 10)) (N 9)) (rfl) ?_
  refine aw_iadd (npc := 27) dX6_distanceTo_26 rfl ?_
  refine aw_istore_n (npc := 28) (L' := [some (.ref 37), some (.ref 1), some (.int ((0 + (abD (nI (V / 1000 % 10)) (N 8))) + (abD (nI (V / 100 % 10)) (N 9)))), some (.int 1)]) dX6_distanceTo_27 rfl (by decide) rfl rfl ?_
  refine aw_iinc (npc := 31) (v := 2) (L' := [some (.ref 37), some (.ref 1), some (.int ((0 + (abD (nI (V / 1000 % 10)) (N 8))) + (abD (nI (V / 100 % 10)) (N 9)))), some (.int 2)]) dX6_distanceTo_28 rfl rfl (by decide) (by decide) rfl rfl ?_
  refine aw_goto (npc := 4) dX6_distanceTo_31 (by decide) ?_
  refine aw_iload_n (npc := 5) rfl dX6_distanceTo_4 rfl ?_
  refine aw_iconst (npc := 6) (v := 4) (by decide) dX6_distanceTo_5 rfl ?_
  refine aw_icmp_ge (npc := 9) (tgt := 34) dX6_distanceTo_6 rfl (by decide) (fun hc => absurd hc (by decide)) (fun _ => ?_)
  refine aw_iload_n (npc := 10) rfl dX6_distanceTo_9 rfl ?_
  refine aw_aload_n (npc := 11) rfl dX6_distanceTo_10 rfl ?_
  refine aw_get (npc := 14) dX6_distanceTo_11 rfl kf_X6_9 Y.1 rfl ?_
  refine aw_iload_n (npc := 15) rfl dX6_distanceTo_14 rfl ?_
  refine aw_iald (npc := 16) (x := wy 2) (j := 2) dX6_distanceTo_15 rfl Y.2 ⟨by decide, by decide⟩ (tl_at (by omega)) ?_
  refine aw_top (y := nI (V / 10 % 10)) (w2) ?_
  refine aw_aload_n (npc := 17) rfl dX6_distanceTo_16 rfl ?_
  refine aw_get (npc := 20) dX6_distanceTo_17 rfl kf_X6_53 F.1 rfl ?_
  refine aw_iload_n (npc := 21) rfl dX6_distanceTo_20 rfl ?_
  refine aw_iald (npc := 22) (x := N 10) (j := 2) dX6_distanceTo_21 rfl F.2.1 ⟨by decide, by decide⟩ (tl_at (by omega)) ?_
  refine aw_isub (npc := 23) dX6_distanceTo_22 rfl ?_
  refine aw_mabs (npc := 26) dX6_distanceTo_23 rfl kmm_X6_56 kmx_abs (Nat.le_of_ble_eq_true rfl) ?_
  refine aw_top (y := abD (nI (V / 10 % 10)) (N 10)) (rfl) ?_
  refine aw_iadd (npc := 27) dX6_distanceTo_26 rfl ?_
  refine aw_istore_n (npc := 28) (L' := [some (.ref 37), some (.ref 1), some (.int (((0 + (abD (nI (V / 1000 % 10)) (N 8))) + (abD (nI (V / 100 % 10)) (N 9))) + (abD (nI (V / 10 % 10)) (N 10)))), some (.int 2)]) dX6_distanceTo_27 rfl (by decide) rfl rfl ?_
  refine aw_iinc (npc := 31) (v := 3) (L' := [some (.ref 37), some (.ref 1), some (.int (((0 + (abD (nI (V / 1000 % 10)) (N 8))) + (abD (nI (V / 100 % 10)) (N 9))) + (abD (nI (V / 10 % 10)) (N 10)))), some (.int 3)]) dX6_distanceTo_28 rfl rfl (by decide) (by decide) rfl rfl ?_
  refine aw_goto (npc := 4) dX6_distanceTo_31 (by decide) ?_
  refine aw_iload_n (npc := 5) rfl dX6_distanceTo_4 rfl ?_
  refine aw_iconst (npc := 6) (v := 4) (by decide) dX6_distanceTo_5 rfl ?_
  refine aw_icmp_ge (npc := 9) (tgt := 34) dX6_distanceTo_6 rfl (by decide) (fun hc => absurd hc (by decide)) (fun _ => ?_)
  refine aw_iload_n (npc := 10) rfl dX6_distanceTo_9 rfl ?_
  refine aw_aload_n (npc := 11) rfl dX6_distanceTo_10 rfl ?_
  refine aw_get (npc := 14) dX6_distanceTo_11 rfl kf_X6_9 Y.1 rfl ?_
  refine aw_iload_n (npc := 15) rfl dX6_distanceTo_14 rfl ?_
  refine aw_iald (npc := 16) (x := wy 3) (j := 3) dX6_distanceTo_15 rfl Y.2 ⟨by decide, by decide⟩ (tl_at (by omega)) ?_
  refine aw_top (y := nI (V % 10)) (w3) ?_
  refine aw_aload_n (npc := 17) rfl dX6_distanceTo_16 rfl ?_
  refine aw_get (npc := 20) dX6_distanceTo_17 rfl kf_X6_53 F.1 rfl ?_
  refine aw_iload_n (npc := 21) rfl dX6_distanceTo_20 rfl ?_
  refine aw_iald (npc := 22) (x := N 11) (j := 3) dX6_distanceTo_21 rfl F.2.1 ⟨by decide, by decide⟩ (tl_at (by omega)) ?_
  refine aw_isub (npc := 23) dX6_distanceTo_22 rfl ?_
  refine aw_mabs (npc := 26) dX6_distanceTo_23 rfl kmm_X6_56 kmx_abs (Nat.le_of_ble_eq_true rfl) ?_
  refine aw_top (y := abD (nI (V % 10)) (N 11)) (rfl) ?_
  refine aw_iadd (npc := 27) dX6_distanceTo_26 rfl ?_
  refine aw_istore_n (npc := 28) (L' := [some (.ref 37), some (.ref 1), some (.int ((((0 + (abD (nI (V / 1000 % 10)) (N 8))) + (abD (nI (V / 100 % 10)) (N 9))) + (abD (nI (V / 10 % 10)) (N 10))) + (abD (nI (V % 10)) (N 11)))), some (.int 3)]) dX6_distanceTo_27 rfl (by decide) rfl rfl ?_
  refine aw_iinc (npc := 31) (v := 4) (L' := [some (.ref 37), some (.ref 1), some (.int ((((0 + (abD (nI (V / 1000 % 10)) (N 8))) + (abD (nI (V / 100 % 10)) (N 9))) + (abD (nI (V / 10 % 10)) (N 10))) + (abD (nI (V % 10)) (N 11)))), some (.int 4)]) dX6_distanceTo_28 rfl rfl (by decide) (by decide) rfl rfl ?_
  refine aw_goto (npc := 4) dX6_distanceTo_31 (by decide) ?_
  refine aw_iload_n (npc := 5) rfl dX6_distanceTo_4 rfl ?_
  refine aw_iconst (npc := 6) (v := 4) (by decide) dX6_distanceTo_5 rfl ?_
  refine aw_icmp_ge (npc := 9) (tgt := 34) dX6_distanceTo_6 rfl (by decide) (fun _ => ?_) (fun hc => absurd (by decide) hc)
  refine aw_iload_n (npc := 35) rfl dX6_distanceTo_34 rfl ?_
  refine aw_iret rfl dX6_distanceTo_35 ?_
  exact hq
theorem wv_o {N : Nat → Int32} {V : Nat} {h : am_H} (H : WV N V h) : h 37 = some (.inr (6, [.ref 38, .int (hs0 (dD N V)), .int (hs1 (dD N V))])) := by
  obtain ⟨wy, Y, -⟩ := H
  exact Y.1
theorem wv_frame {N : Nat → Int32} {V : Nat} {h h' : am_H} (H : WV N V h) (h0 : h' 37 = h 37) (h1 : h' 38 = h 38) : WV N V h' := by
  obtain ⟨wy, Y, r⟩ := H
  exact ⟨wy, wy_frame Y h0 h1, r⟩
theorem wvx_of {N : Nat → Int32} {V : Nat} {h : am_H} (H : WV N V h) : WVx h := by
  obtain ⟨wy, Y, r⟩ := H
  exact ⟨_, _, _, Y⟩
set_option maxHeartbeats 4000000 in
set_option maxRecDepth 100000 in
theorem C_takenL {X : List Int32} {d rc rs n : Nat} {Q : am_Q} {N : Nat → Int32} {tx : List Value} {lk mv : Nat → Int32} {fr c : Nat} (hR : RG N fr c) : ∀ (m V : Nat), V + m = 10000 → ∀ (s : Int32) (h : am_H), QR 1 N tx lk mv h → WV N V h → (∀ v9 h9, v9 = tkM N m V s → WVx h9 → am_fp (fun k => k < 37 ∨ 39 ≤ k) h9 h → Q (some (.int v9)) n h9) → AW X mX6_countTaken (d + 12) rc rs 9 [some (.ref 37), some (.ref 1), some (.int s), some (.int (nI V))] [] n h Q := by
  intro m
  induction m with
  | zero =>
    intro V hV s h F Y hq
    obtain rfl : V = 10000 := by omega
    refine aw_iload_n (npc := 10) rfl dX6_countTaken_9 rfl ?_
    refine aw_sipush (npc := 13) (v := 10000) (by decide) dX6_countTaken_10 rfl ?_
    refine aw_icmp_ge (npc := 16) (tgt := 38) dX6_countTaken_13 rfl (by decide) (fun _ => ?_) (fun hc => absurd (nI_le (a := 10000) (b := 10000) (by omega) (by omega)) hc)
    refine aw_iload_n (npc := 39) rfl dX6_countTaken_38 rfl ?_
    refine aw_iret rfl dX6_countTaken_39 ?_
    exact hq _ _ rfl (wvx_of Y) am_fp0
  | succ m ih =>
    intro V hV s h F Y hq
    refine aw_iload_n (npc := 10) rfl dX6_countTaken_9 rfl ?_
    refine aw_sipush (npc := 13) (v := 10000) (by decide) dX6_countTaken_10 rfl ?_
    refine aw_icmp_ge (npc := 16) (tgt := 38) dX6_countTaken_13 rfl (by decide) (fun hc => absurd hc (nI_ge (a := V) (b := 10000) (by omega) (by omega))) (fun _ => ?_)
    refine aw_aload_n (npc := 17) rfl dX6_countTaken_16 rfl ?_
    refine aw_aload_n (npc := 18) rfl dX6_countTaken_17 rfl ?_
    refine aw_callV (npc := 21) (N := mX6_spare) (b := 37) (mc := 0) (ms := 0) (A := [.ref 1]) (S := []) (L0 := [some (.ref 37), some (.ref 1)]) dX6_countTaken_18 rfl km_X6_spare kk_X6_26 (wv_o Y) ⟨by decide, rfl⟩ rfl ⟨rfl, by decide⟩ rfl (Nat.le_of_ble_eq_true rfl) (Nat.zero_add _) (Nat.zero_add _) rfl ?_
    refine c_spare F Y ?_
    refine aw_re (S' := [.int (spF N (dD N V))]) rfl ?_
    refine aw_if_lt (npc := 24) (tgt := 27) dX6_countTaken_21 rfl (by decide) (fun hc2 => ?_) (fun hc2 => ?_)
    · refine aw_aload_n (npc := 28) rfl dX6_countTaken_27 rfl ?_
      refine aw_aload_n (npc := 29) rfl dX6_countTaken_28 rfl ?_
      refine aw_callV (npc := 32) (N := mX6_step) (b := 37) (mc := 0) (ms := 0) (A := [.ref 1]) (S := []) (L0 := [some (.ref 37), some (.ref 1), none, none, none]) dX6_countTaken_29 rfl km_X6_step kk_X6_30 (wv_o Y) ⟨by decide, rfl⟩ rfl ⟨rfl, by decide⟩ rfl (Nat.le_of_ble_eq_true rfl) (Nat.zero_add _) (Nat.zero_add _) rfl ?_
      refine c_step F Y (fun hp3 Yn4 fz5 => ?_)
      have fyfz5 : ∀ k, (k < 37 ∨ 39 ≤ k) → hp3 k = _ := fun k hk => fz5 k hk
      have F6 := qr_frame F (fun k h1 h2 => fyfz5 k (by omega))
      refine aw_iinc (npc := 35) (v := nI (V + 1)) (L' := [some (.ref 37), some (.ref 1), some (.int s), some (.int (nI (V + 1)))]) dX6_countTaken_32 rfl rfl (nI_1 _) (by decide) rfl rfl ?_
      refine aw_goto (npc := 9) dX6_countTaken_35 (by decide) ?_
      have hp9 : ¬ peace (dD N V) := fun z => absurd hc2 (Int32.not_lt.mpr ((sp_pe hR).mpr z))
      refine ih (V + 1) (by omega) s _ F6 Yn4 (fun v9 h9 e9 Y9 f9 => hq v9 h9 ?_ Y9 (am_fpT f9 (am_fpT (fun k (hk : k < 37 ∨ 39 ≤ k) => fyfz5 k (by omega)) am_fp0)))
      rw [e9]; simp [tkM, cI, hp9]
    · refine aw_iinc (npc := 27) (v := s + 1) (L' := [some (.ref 37), some (.ref 1), some (.int (s + 1)), some (.int (nI V))]) dX6_countTaken_24 rfl rfl rfl (by decide) rfl rfl ?_
      refine aw_aload_n (npc := 28) rfl dX6_countTaken_27 rfl ?_
      refine aw_aload_n (npc := 29) rfl dX6_countTaken_28 rfl ?_
      refine aw_callV (npc := 32) (N := mX6_step) (b := 37) (mc := 0) (ms := 0) (A := [.ref 1]) (S := []) (L0 := [some (.ref 37), some (.ref 1), none, none, none]) dX6_countTaken_29 rfl km_X6_step kk_X6_30 (wv_o Y) ⟨by decide, rfl⟩ rfl ⟨rfl, by decide⟩ rfl (Nat.le_of_ble_eq_true rfl) (Nat.zero_add _) (Nat.zero_add _) rfl ?_
      refine c_step F Y (fun hp7 Yn8 fz9 => ?_)
      have fyfz9 : ∀ k, (k < 37 ∨ 39 ≤ k) → hp7 k = _ := fun k hk => fz9 k hk
      have F10 := qr_frame F (fun k h1 h2 => fyfz9 k (by omega))
      refine aw_iinc (npc := 35) (v := nI (V + 1)) (L' := [some (.ref 37), some (.ref 1), some (.int (s + 1)), some (.int (nI (V + 1)))]) dX6_countTaken_32 rfl rfl (nI_1 _) (by decide) rfl rfl ?_
      refine aw_goto (npc := 9) dX6_countTaken_35 (by decide) ?_
      have hp9 : peace (dD N V) := (sp_pe hR).mp (Int32.not_lt.mp hc2)
      refine ih (V + 1) (by omega) (s + 1) _ F10 Yn8 (fun v9 h9 e9 Y9 f9 => hq v9 h9 ?_ Y9 (am_fpT f9 (am_fpT (fun k (hk : k < 37 ∨ 39 ≤ k) => fyfz9 k (by omega)) am_fp0)))
      rw [e9]; simp [tkM, cI, hp9]
def f2N : Option (Nat × Int32) → Int32
  | none => -1
  | some p => p.2
theorem lt0_m1 {x : Int32} (h : x < 0) : x ≤ -1 := by
  have h1 := Int32.lt_iff_toInt_lt.mp h
  have z : (0 : Int32).toInt = 0 := rfl
  have z2 : (-1 : Int32).toInt = -1 := by decide
  exact Int32.le_iff_toInt_le.mpr (by omega)
theorem frS_ok {N : Nat → Int32} {fr c V : Nat} {p : Option (Nat × Int32)} (hR : RG N fr c) (hV : V < 10000) (hp : ∀ q, p = some q → q.1 < 10000 ∧ ¬ q.2 < 0) : ∀ q, frS N V p = some q → q.1 < 10000 ∧ ¬ q.2 < 0 := by
  intro q hq
  unfold frS at hq
  by_cases pe : peace (dD N V)
  · rw [cI_t pe] at hq
    have h0 := Int32.not_lt.mpr ((sp_pe hR).mpr pe)
    cases p with
    | none => have z := Option.some.inj hq; rw [← z]; exact ⟨hV, h0⟩
    | some r =>
      simp only at hq
      split at hq
      · have z := Option.some.inj hq; rw [← z]; exact ⟨hV, h0⟩
      · have z := Option.some.inj hq; rw [← z]; exact hp r rfl
  · rw [cI_f pe] at hq; exact hp q hq
theorem fr_stay {N : Nat → Int32} {fr c V : Nat} {p : Option (Nat × Int32)} (hR : RG N fr c) (h : spF N (dD N V) ≤ f2N p) (hp : ∀ q, p = some q → q.1 < 10000 ∧ ¬ q.2 < 0) : frS N V p = p := by
  unfold frS
  by_cases pe : peace (dD N V)
  · rw [cI_t pe]
    have h0 := (sp_pe hR).mpr pe
    cases p with
    | none => exact absurd (Int32.le_trans h0 h) (by decide)
    | some r => exact if_neg (Int32.not_lt.mpr h)
  · exact cI_f pe
theorem fr_new {N : Nat → Int32} {fr c V : Nat} {p : Option (Nat × Int32)} (hR : RG N fr c) (h : ¬ spF N (dD N V) ≤ f2N p) (hp : ∀ q, p = some q → q.1 < 10000 ∧ ¬ q.2 < 0) : frS N V p = some (V, spF N (dD N V)) := by
  have pe : peace (dD N V) := Classical.byContradiction (fun q => h (by
    have z : spF N (dD N V) < 0 := Int32.not_le.mp (fun z => q ((sp_pe hR).mp z))
    cases p with
    | none => exact lt0_m1 z
    | some r => exact Int32.le_of_lt (Int32.lt_of_lt_of_le z (Int32.not_lt.mp (hp r rfl).2))))
  unfold frS
  rw [cI_t pe]
  cases p with
  | none => rfl
  | some r => exact if_pos (Int32.not_le.mp h)
set_option maxHeartbeats 4000000 in
set_option maxRecDepth 100000 in
theorem C_fairL {X : List Int32} {d rc rs n : Nat} {Q : am_Q} {N : Nat → Int32} {tx : List Value} {lk mv : Nat → Int32} {fr c : Nat} (hR : RG N fr c) : ∀ (m V : Nat), V + m = 10000 → ∀ (p : Option (Nat × Int32)), (∀ q, p = some q → q.1 < 10000 ∧ ¬ q.2 < 0) → ∀ (v5 : Option Value) (h : am_H), QR 1 N tx lk mv h → WV N V h → (∀ v9 h9, v9 = opN (frM N m V p) → WVx h9 → am_fp (fun k => k < 37 ∨ 39 ≤ k) h9 h → Q (some (.int v9)) n h9) → AW X mX6_fairest (d + 12) rc rs 12 [some (.ref 37), some (.ref 1), some (.int (opN p)), some (.int (f2N p)), some (.int (nI V)), v5] [] n h Q := by
  intro m
  induction m with
  | zero =>
    intro V hV p hp v5 h F Y hq
    obtain rfl : V = 10000 := by omega
    refine aw_iload (npc := 14) rfl dX6_fairest_12 rfl ?_
    refine aw_sipush (npc := 17) (v := 10000) (by decide) dX6_fairest_14 rfl ?_
    refine aw_icmp_ge (npc := 20) (tgt := 50) dX6_fairest_17 rfl (by decide) (fun _ => ?_) (fun hc => absurd (nI_le (a := 10000) (b := 10000) (by omega) (by omega)) hc)
    refine aw_iload_n (npc := 51) rfl dX6_fairest_50 rfl ?_
    refine aw_iret rfl dX6_fairest_51 ?_
    exact hq _ _ rfl (wvx_of Y) am_fp0
  | succ m ih =>
    intro V hV p hp v5 h F Y hq
    refine aw_iload (npc := 14) rfl dX6_fairest_12 rfl ?_
    refine aw_sipush (npc := 17) (v := 10000) (by decide) dX6_fairest_14 rfl ?_
    refine aw_icmp_ge (npc := 20) (tgt := 50) dX6_fairest_17 rfl (by decide) (fun hc => absurd hc (nI_ge (a := V) (b := 10000) (by omega) (by omega))) (fun _ => ?_)
    refine aw_aload_n (npc := 21) rfl dX6_fairest_20 rfl ?_
    refine aw_aload_n (npc := 22) rfl dX6_fairest_21 rfl ?_
    refine aw_callV (npc := 25) (N := mX6_spare) (b := 37) (mc := 0) (ms := 0) (A := [.ref 1]) (S := []) (L0 := [some (.ref 37), some (.ref 1)]) dX6_fairest_22 rfl km_X6_spare kk_X6_26 (wv_o Y) ⟨by decide, rfl⟩ rfl ⟨rfl, by decide⟩ rfl (Nat.le_of_ble_eq_true rfl) (Nat.zero_add _) (Nat.zero_add _) rfl ?_
    refine c_spare F Y ?_
    refine aw_re (S' := [.int (spF N (dD N V))]) rfl ?_
    refine aw_istore (npc := 27) (L' := [some (.ref 37), some (.ref 1), some (.int (opN p)), some (.int (f2N p)), some (.int (nI V)), some (.int (spF N (dD N V)))]) dX6_fairest_25 rfl (by decide) rfl rfl ?_
    refine aw_iload (npc := 29) rfl dX6_fairest_27 rfl ?_
    refine aw_iload_n (npc := 30) rfl dX6_fairest_29 rfl ?_
    refine aw_icmp_le (npc := 33) (tgt := 39) dX6_fairest_30 rfl (by decide) (fun hc2 => ?_) (fun hc2 => ?_)
    · refine aw_aload_n (npc := 40) rfl dX6_fairest_39 rfl ?_
      refine aw_aload_n (npc := 41) rfl dX6_fairest_40 rfl ?_
      refine aw_callV (npc := 44) (N := mX6_step) (b := 37) (mc := 0) (ms := 0) (A := [.ref 1]) (S := []) (L0 := [some (.ref 37), some (.ref 1), none, none, none]) dX6_fairest_41 rfl km_X6_step kk_X6_30 (wv_o Y) ⟨by decide, rfl⟩ rfl ⟨rfl, by decide⟩ rfl (Nat.le_of_ble_eq_true rfl) (Nat.zero_add _) (Nat.zero_add _) rfl ?_
      refine c_step F Y (fun hp3 Yn4 fz5 => ?_)
      have fyfz5 : ∀ k, (k < 37 ∨ 39 ≤ k) → hp3 k = _ := fun k hk => fz5 k hk
      have F6 := qr_frame F (fun k h1 h2 => fyfz5 k (by omega))
      refine aw_iinc (npc := 47) (v := nI (V + 1)) (L' := [some (.ref 37), some (.ref 1), some (.int (opN p)), some (.int (f2N p)), some (.int (nI (V + 1))), some (.int (spF N (dD N V)))]) dX6_fairest_44 rfl rfl (nI_1 _) (by decide) rfl rfl ?_
      refine aw_goto (npc := 12) dX6_fairest_47 (by decide) ?_
      have e8 : frS N V p = p := fr_stay hR hc2 hp
      refine ih (V + 1) (by omega) (p) (e8 ▸ frS_ok hR (by omega) hp) _ _ F6 Yn4 (fun v9 h9 e9 Y9 f9 => hq v9 h9 ?_ Y9 (am_fpT f9 (am_fpT (fun k (hk : k < 37 ∨ 39 ≤ k) => fyfz5 k (by omega)) am_fp0)))
      rw [e9]; exact congrArg (fun z => opN (frM N m (V + 1) z)) e8.symm
    · refine aw_iload (npc := 35) rfl dX6_fairest_33 rfl ?_
      refine aw_istore_n (npc := 36) (L' := [some (.ref 37), some (.ref 1), some (.int (nI V)), some (.int (f2N p)), some (.int (nI V)), some (.int (spF N (dD N V)))]) dX6_fairest_35 rfl (by decide) rfl rfl ?_
      refine aw_iload (npc := 38) rfl dX6_fairest_36 rfl ?_
      refine aw_istore_n (npc := 39) (L' := [some (.ref 37), some (.ref 1), some (.int (nI V)), some (.int (spF N (dD N V))), some (.int (nI V)), some (.int (spF N (dD N V)))]) dX6_fairest_38 rfl (by decide) rfl rfl ?_
      refine aw_aload_n (npc := 40) rfl dX6_fairest_39 rfl ?_
      refine aw_aload_n (npc := 41) rfl dX6_fairest_40 rfl ?_
      refine aw_callV (npc := 44) (N := mX6_step) (b := 37) (mc := 0) (ms := 0) (A := [.ref 1]) (S := []) (L0 := [some (.ref 37), some (.ref 1), none, none, none]) dX6_fairest_41 rfl km_X6_step kk_X6_30 (wv_o Y) ⟨by decide, rfl⟩ rfl ⟨rfl, by decide⟩ rfl (Nat.le_of_ble_eq_true rfl) (Nat.zero_add _) (Nat.zero_add _) rfl ?_
      refine c_step F Y (fun hp7 Yn8 fz9 => ?_)
      have fyfz9 : ∀ k, (k < 37 ∨ 39 ≤ k) → hp7 k = _ := fun k hk => fz9 k hk
      have F10 := qr_frame F (fun k h1 h2 => fyfz9 k (by omega))
      refine aw_iinc (npc := 47) (v := nI (V + 1)) (L' := [some (.ref 37), some (.ref 1), some (.int (nI V)), some (.int (spF N (dD N V))), some (.int (nI (V + 1))), some (.int (spF N (dD N V)))]) dX6_fairest_44 rfl rfl (nI_1 _) (by decide) rfl rfl ?_
      refine aw_goto (npc := 12) dX6_fairest_47 (by decide) ?_
      have e8 : frS N V p = some (V, spF N (dD N V)) := fr_new hR hc2 hp
      refine aw_locs (L' := [some (.ref 37), some (.ref 1), some (.int (opN (some (V, spF N (dD N V))))), some (.int (f2N (some (V, spF N (dD N V))))), some (.int (nI (V + 1))), some (.int (spF N (dD N V)))]) rfl ?_
      refine ih (V + 1) (by omega) (some (V, spF N (dD N V))) (e8 ▸ frS_ok hR (by omega) hp) _ _ F10 Yn8 (fun v9 h9 e9 Y9 f9 => hq v9 h9 ?_ Y9 (am_fpT f9 (am_fpT (fun k (hk : k < 37 ∨ 39 ≤ k) => fyfz9 k (by omega)) am_fp0)))
      rw [e9]; exact congrArg (fun z => opN (frM N m (V + 1) z)) e8.symm
def n2N : Option (Nat × Int32) → Int32
  | none => 0
  | some p => p.2
theorem neS_ok {N : Nat → Int32} {V : Nat} {p : Option (Nat × Int32)} (hV : V < 10000) (hp : ∀ q, p = some q → q.1 < 10000) : ∀ q, neS N V p = some q → q.1 < 10000 := by
  intro q hq
  unfold neS at hq
  by_cases pe : peace (dD N V)
  · rw [cI_t pe] at hq
    cases p with
    | none => have z := Option.some.inj hq; rw [← z]; exact hV
    | some r =>
      simp only at hq
      split at hq
      · have z := Option.some.inj hq; rw [← z]; exact hV
      · have z := Option.some.inj hq; rw [← z]; exact hp r rfl
  · rw [cI_f pe] at hq; exact hp q hq
set_option maxHeartbeats 4000000 in
set_option maxRecDepth 100000 in
theorem C_nearL {X : List Int32} {d rc rs n : Nat} {Q : am_Q} {N : Nat → Int32} {tx : List Value} {lk mv : Nat → Int32} {fr c : Nat} (hR : RG N fr c) : ∀ (m V : Nat), V + m = 10000 → ∀ (p : Option (Nat × Int32)), (∀ q, p = some q → q.1 < 10000) → ∀ (v5 : Option Value) (h : am_H), QR 1 N tx lk mv h → WV N V h → (∀ v9 h9, v9 = opN (neM N m V p) → WVx h9 → am_fp (fun k => k < 37 ∨ 39 ≤ k) h9 h → Q (some (.int v9)) n h9) → AW X mX6_nearest (d + 12) rc rs 12 [some (.ref 37), some (.ref 1), some (.int (opN p)), some (.int (n2N p)), some (.int (nI V)), v5] [] n h Q := by
  intro m
  induction m with
  | zero =>
    intro V hV p hp v5 h F Y hq
    obtain rfl : V = 10000 := by omega
    refine aw_iload (npc := 14) rfl dX6_nearest_12 rfl ?_
    refine aw_sipush (npc := 17) (v := 10000) (by decide) dX6_nearest_14 rfl ?_
    refine aw_icmp_ge (npc := 20) (tgt := 62) dX6_nearest_17 rfl (by decide) (fun _ => ?_) (fun hc => absurd (nI_le (a := 10000) (b := 10000) (by omega) (by omega)) hc)
    refine aw_iload_n (npc := 63) rfl dX6_nearest_62 rfl ?_
    refine aw_iret rfl dX6_nearest_63 ?_
    exact hq _ _ rfl (wvx_of Y) am_fp0
  | succ m ih =>
    intro V hV p hp v5 h F Y hq
    cases p with
    | none =>
      show AW X mX6_nearest (d + 12) rc rs 12 [some (.ref 37), some (.ref 1), some (.int (-1)), some (.int 0), some (.int (nI V)), v5] [] n h Q
      refine aw_iload (npc := 14) rfl dX6_nearest_12 rfl ?_
      refine aw_sipush (npc := 17) (v := 10000) (by decide) dX6_nearest_14 rfl ?_
      refine aw_icmp_ge (npc := 20) (tgt := 62) dX6_nearest_17 rfl (by decide) (fun hc => absurd hc (nI_ge (a := V) (b := 10000) (by omega) (by omega))) (fun _ => ?_)
      refine aw_aload_n (npc := 21) rfl dX6_nearest_20 rfl ?_
      refine aw_aload_n (npc := 22) rfl dX6_nearest_21 rfl ?_
      refine aw_callV (npc := 25) (N := mX6_spare) (b := 37) (mc := 0) (ms := 0) (A := [.ref 1]) (S := []) (L0 := [some (.ref 37), some (.ref 1)]) dX6_nearest_22 rfl km_X6_spare kk_X6_26 (wv_o Y) ⟨by decide, rfl⟩ rfl ⟨rfl, by decide⟩ rfl (Nat.le_of_ble_eq_true rfl) (Nat.zero_add _) (Nat.zero_add _) rfl ?_
      refine c_spare F Y ?_
      refine aw_re (S' := [.int (spF N (dD N V))]) rfl ?_
      refine aw_if_lt (npc := 28) (tgt := 51) dX6_nearest_25 rfl (by decide) (fun hc2 => ?_) (fun hc2 => ?_)
      · refine aw_aload_n (npc := 52) rfl dX6_nearest_51 rfl ?_
        refine aw_aload_n (npc := 53) rfl dX6_nearest_52 rfl ?_
        refine aw_callV (npc := 56) (N := mX6_step) (b := 37) (mc := 0) (ms := 0) (A := [.ref 1]) (S := []) (L0 := [some (.ref 37), some (.ref 1), none, none, none]) dX6_nearest_53 rfl km_X6_step kk_X6_30 (wv_o Y) ⟨by decide, rfl⟩ rfl ⟨rfl, by decide⟩ rfl (Nat.le_of_ble_eq_true rfl) (Nat.zero_add _) (Nat.zero_add _) rfl ?_
        refine c_step F Y (fun hp3 Yn4 fz5 => ?_)
        have fyfz5 : ∀ k, (k < 37 ∨ 39 ≤ k) → hp3 k = _ := fun k hk => fz5 k hk
        have F6 := qr_frame F (fun k h1 h2 => fyfz5 k (by omega))
        refine aw_iinc (npc := 59) (v := nI (V + 1)) (L' := [some (.ref 37), some (.ref 1), some (.int (-1)), some (.int 0), some (.int (nI (V + 1))), v5]) dX6_nearest_56 rfl rfl (nI_1 _) (by decide) rfl rfl ?_
        refine aw_goto (npc := 12) dX6_nearest_59 (by decide) ?_
        have e8 : neS N V none = none := cI_f (fun z => absurd hc2 (Int32.not_lt.mpr ((sp_pe hR).mpr z)))
        refine aw_locs (L' := [some (.ref 37), some (.ref 1), some (.int (opN (none))), some (.int (n2N (none))), some (.int (nI (V + 1))), v5]) rfl ?_
        refine ih (V + 1) (by omega) (none) (e8 ▸ neS_ok (by omega) hp) _ _ F6 Yn4 (fun v9 h9 e9 Y9 f9 => hq v9 h9 ?_ Y9 (am_fpT f9 (am_fpT (fun k (hk : k < 37 ∨ 39 ≤ k) => fyfz5 k (by omega)) am_fp0)))
        rw [e9]; exact congrArg (fun z => opN (neM N m (V + 1) z)) e8.symm
      · refine aw_aload_n (npc := 29) rfl dX6_nearest_28 rfl ?_
        refine aw_aload_n (npc := 30) rfl dX6_nearest_29 rfl ?_
        refine aw_callV (npc := 33) (N := mX6_distanceTo) (b := 37) (mc := 0) (ms := 0) (A := [.ref 1]) (S := []) (L0 := [some (.ref 37), some (.ref 1), none, none]) dX6_nearest_30 rfl km_X6_distanceTo kk_X6_33 (wv_o Y) ⟨by decide, rfl⟩ rfl ⟨rfl, by decide⟩ rfl (Nat.le_of_ble_eq_true rfl) (Nat.zero_add _) (Nat.zero_add _) rfl ?_
        refine c_dist F Y ?_
        refine aw_re (S' := [.int (diF N (dD N V))]) rfl ?_
        refine aw_istore (npc := 35) (L' := [some (.ref 37), some (.ref 1), some (.int (-1)), some (.int 0), some (.int (nI V)), some (.int (diF N (dD N V)))]) dX6_nearest_33 rfl (by decide) rfl rfl ?_
        refine aw_iload_n (npc := 36) rfl dX6_nearest_35 rfl ?_
        refine aw_if_lt (npc := 39) (tgt := 45) dX6_nearest_36 rfl (by decide) (fun _ => ?_) (fun hc => absurd (by decide) hc)
        refine aw_iload (npc := 47) rfl dX6_nearest_45 rfl ?_
        refine aw_istore_n (npc := 48) (L' := [some (.ref 37), some (.ref 1), some (.int (nI V)), some (.int 0), some (.int (nI V)), some (.int (diF N (dD N V)))]) dX6_nearest_47 rfl (by decide) rfl rfl ?_
        refine aw_iload (npc := 50) rfl dX6_nearest_48 rfl ?_
        refine aw_istore_n (npc := 51) (L' := [some (.ref 37), some (.ref 1), some (.int (nI V)), some (.int (diF N (dD N V))), some (.int (nI V)), some (.int (diF N (dD N V)))]) dX6_nearest_50 rfl (by decide) rfl rfl ?_
        refine aw_aload_n (npc := 52) rfl dX6_nearest_51 rfl ?_
        refine aw_aload_n (npc := 53) rfl dX6_nearest_52 rfl ?_
        refine aw_callV (npc := 56) (N := mX6_step) (b := 37) (mc := 0) (ms := 0) (A := [.ref 1]) (S := []) (L0 := [some (.ref 37), some (.ref 1), none, none, none]) dX6_nearest_53 rfl km_X6_step kk_X6_30 (wv_o Y) ⟨by decide, rfl⟩ rfl ⟨rfl, by decide⟩ rfl (Nat.le_of_ble_eq_true rfl) (Nat.zero_add _) (Nat.zero_add _) rfl ?_
        refine c_step F Y (fun hp7 Yn8 fz9 => ?_)
        have fyfz9 : ∀ k, (k < 37 ∨ 39 ≤ k) → hp7 k = _ := fun k hk => fz9 k hk
        have F10 := qr_frame F (fun k h1 h2 => fyfz9 k (by omega))
        refine aw_iinc (npc := 59) (v := nI (V + 1)) (L' := [some (.ref 37), some (.ref 1), some (.int (nI V)), some (.int (diF N (dD N V))), some (.int (nI (V + 1))), some (.int (diF N (dD N V)))]) dX6_nearest_56 rfl rfl (nI_1 _) (by decide) rfl rfl ?_
        refine aw_goto (npc := 12) dX6_nearest_59 (by decide) ?_
        have e8 : neS N V none = some (V, diF N (dD N V)) := cI_t ((sp_pe hR).mp (Int32.not_lt.mp hc2))
        refine aw_locs (L' := [some (.ref 37), some (.ref 1), some (.int (opN (some (V, diF N (dD N V))))), some (.int (n2N (some (V, diF N (dD N V))))), some (.int (nI (V + 1))), some (.int (diF N (dD N V)))]) rfl ?_
        refine ih (V + 1) (by omega) (some (V, diF N (dD N V))) (e8 ▸ neS_ok (by omega) hp) _ _ F10 Yn8 (fun v9 h9 e9 Y9 f9 => hq v9 h9 ?_ Y9 (am_fpT f9 (am_fpT (fun k (hk : k < 37 ∨ 39 ≤ k) => fyfz9 k (by omega)) am_fp0)))
        rw [e9]; exact congrArg (fun z => opN (neM N m (V + 1) z)) e8.symm
    | some r =>
      have hp8 := hp r rfl
      show AW X mX6_nearest (d + 12) rc rs 12 [some (.ref 37), some (.ref 1), some (.int (nI r.1)), some (.int r.2), some (.int (nI V)), v5] [] n h Q
      refine aw_iload (npc := 14) rfl dX6_nearest_12 rfl ?_
      refine aw_sipush (npc := 17) (v := 10000) (by decide) dX6_nearest_14 rfl ?_
      refine aw_icmp_ge (npc := 20) (tgt := 62) dX6_nearest_17 rfl (by decide) (fun hc => absurd hc (nI_ge (a := V) (b := 10000) (by omega) (by omega))) (fun _ => ?_)
      refine aw_aload_n (npc := 21) rfl dX6_nearest_20 rfl ?_
      refine aw_aload_n (npc := 22) rfl dX6_nearest_21 rfl ?_
      refine aw_callV (npc := 25) (N := mX6_spare) (b := 37) (mc := 0) (ms := 0) (A := [.ref 1]) (S := []) (L0 := [some (.ref 37), some (.ref 1)]) dX6_nearest_22 rfl km_X6_spare kk_X6_26 (wv_o Y) ⟨by decide, rfl⟩ rfl ⟨rfl, by decide⟩ rfl (Nat.le_of_ble_eq_true rfl) (Nat.zero_add _) (Nat.zero_add _) rfl ?_
      refine c_spare F Y ?_
      refine aw_re (S' := [.int (spF N (dD N V))]) rfl ?_
      refine aw_if_lt (npc := 28) (tgt := 51) dX6_nearest_25 rfl (by decide) (fun hc2 => ?_) (fun hc2 => ?_)
      · refine aw_aload_n (npc := 52) rfl dX6_nearest_51 rfl ?_
        refine aw_aload_n (npc := 53) rfl dX6_nearest_52 rfl ?_
        refine aw_callV (npc := 56) (N := mX6_step) (b := 37) (mc := 0) (ms := 0) (A := [.ref 1]) (S := []) (L0 := [some (.ref 37), some (.ref 1), none, none, none]) dX6_nearest_53 rfl km_X6_step kk_X6_30 (wv_o Y) ⟨by decide, rfl⟩ rfl ⟨rfl, by decide⟩ rfl (Nat.le_of_ble_eq_true rfl) (Nat.zero_add _) (Nat.zero_add _) rfl ?_
        refine c_step F Y (fun hp3 Yn4 fz5 => ?_)
        have fyfz5 : ∀ k, (k < 37 ∨ 39 ≤ k) → hp3 k = _ := fun k hk => fz5 k hk
        have F6 := qr_frame F (fun k h1 h2 => fyfz5 k (by omega))
        refine aw_iinc (npc := 59) (v := nI (V + 1)) (L' := [some (.ref 37), some (.ref 1), some (.int (nI r.1)), some (.int r.2), some (.int (nI (V + 1))), v5]) dX6_nearest_56 rfl rfl (nI_1 _) (by decide) rfl rfl ?_
        refine aw_goto (npc := 12) dX6_nearest_59 (by decide) ?_
        have e8 : neS N V (some r) = some r := cI_f (fun z => absurd hc2 (Int32.not_lt.mpr ((sp_pe hR).mpr z)))
        refine aw_locs (L' := [some (.ref 37), some (.ref 1), some (.int (opN (some r))), some (.int (n2N (some r))), some (.int (nI (V + 1))), v5]) rfl ?_
        refine ih (V + 1) (by omega) (some r) (e8 ▸ neS_ok (by omega) hp) _ _ F6 Yn4 (fun v9 h9 e9 Y9 f9 => hq v9 h9 ?_ Y9 (am_fpT f9 (am_fpT (fun k (hk : k < 37 ∨ 39 ≤ k) => fyfz5 k (by omega)) am_fp0)))
        rw [e9]; exact congrArg (fun z => opN (neM N m (V + 1) z)) e8.symm
      · refine aw_aload_n (npc := 29) rfl dX6_nearest_28 rfl ?_
        refine aw_aload_n (npc := 30) rfl dX6_nearest_29 rfl ?_
        refine aw_callV (npc := 33) (N := mX6_distanceTo) (b := 37) (mc := 0) (ms := 0) (A := [.ref 1]) (S := []) (L0 := [some (.ref 37), some (.ref 1), none, none]) dX6_nearest_30 rfl km_X6_distanceTo kk_X6_33 (wv_o Y) ⟨by decide, rfl⟩ rfl ⟨rfl, by decide⟩ rfl (Nat.le_of_ble_eq_true rfl) (Nat.zero_add _) (Nat.zero_add _) rfl ?_
        refine c_dist F Y ?_
        refine aw_re (S' := [.int (diF N (dD N V))]) rfl ?_
        refine aw_istore (npc := 35) (L' := [some (.ref 37), some (.ref 1), some (.int (nI r.1)), some (.int r.2), some (.int (nI V)), some (.int (diF N (dD N V)))]) dX6_nearest_33 rfl (by decide) rfl rfl ?_
        refine aw_iload_n (npc := 36) rfl dX6_nearest_35 rfl ?_
        refine aw_if_lt (npc := 39) (tgt := 45) dX6_nearest_36 rfl (by decide) (fun hc => absurd hc (nI_pos (by omega))) (fun _ => ?_)
        refine aw_iload (npc := 41) rfl dX6_nearest_39 rfl ?_
        refine aw_iload_n (npc := 42) rfl dX6_nearest_41 rfl ?_
        refine aw_icmp_ge (npc := 45) (tgt := 51) dX6_nearest_42 rfl (by decide) (fun hc8 => ?_) (fun hc8 => ?_)
        · refine aw_aload_n (npc := 52) rfl dX6_nearest_51 rfl ?_
          refine aw_aload_n (npc := 53) rfl dX6_nearest_52 rfl ?_
          refine aw_callV (npc := 56) (N := mX6_step) (b := 37) (mc := 0) (ms := 0) (A := [.ref 1]) (S := []) (L0 := [some (.ref 37), some (.ref 1), none, none, none]) dX6_nearest_53 rfl km_X6_step kk_X6_30 (wv_o Y) ⟨by decide, rfl⟩ rfl ⟨rfl, by decide⟩ rfl (Nat.le_of_ble_eq_true rfl) (Nat.zero_add _) (Nat.zero_add _) rfl ?_
          refine c_step F Y (fun hp9 Yn10 fz11 => ?_)
          have fyfz11 : ∀ k, (k < 37 ∨ 39 ≤ k) → hp9 k = _ := fun k hk => fz11 k hk
          have F12 := qr_frame F (fun k h1 h2 => fyfz11 k (by omega))
          refine aw_iinc (npc := 59) (v := nI (V + 1)) (L' := [some (.ref 37), some (.ref 1), some (.int (nI r.1)), some (.int r.2), some (.int (nI (V + 1))), some (.int (diF N (dD N V)))]) dX6_nearest_56 rfl rfl (nI_1 _) (by decide) rfl rfl ?_
          refine aw_goto (npc := 12) dX6_nearest_59 (by decide) ?_
          have e8 : neS N V (some r) = some r := (cI_t ((sp_pe hR).mp (Int32.not_lt.mp hc2))).trans (if_neg (Int32.not_lt.mpr hc8))
          refine aw_locs (L' := [some (.ref 37), some (.ref 1), some (.int (opN (some r))), some (.int (n2N (some r))), some (.int (nI (V + 1))), some (.int (diF N (dD N V)))]) rfl ?_
          refine ih (V + 1) (by omega) (some r) (e8 ▸ neS_ok (by omega) hp) _ _ F12 Yn10 (fun v9 h9 e9 Y9 f9 => hq v9 h9 ?_ Y9 (am_fpT f9 (am_fpT (fun k (hk : k < 37 ∨ 39 ≤ k) => fyfz11 k (by omega)) am_fp0)))
          rw [e9]; exact congrArg (fun z => opN (neM N m (V + 1) z)) e8.symm
        · refine aw_iload (npc := 47) rfl dX6_nearest_45 rfl ?_
          refine aw_istore_n (npc := 48) (L' := [some (.ref 37), some (.ref 1), some (.int (nI V)), some (.int r.2), some (.int (nI V)), some (.int (diF N (dD N V)))]) dX6_nearest_47 rfl (by decide) rfl rfl ?_
          refine aw_iload (npc := 50) rfl dX6_nearest_48 rfl ?_
          refine aw_istore_n (npc := 51) (L' := [some (.ref 37), some (.ref 1), some (.int (nI V)), some (.int (diF N (dD N V))), some (.int (nI V)), some (.int (diF N (dD N V)))]) dX6_nearest_50 rfl (by decide) rfl rfl ?_
          refine aw_aload_n (npc := 52) rfl dX6_nearest_51 rfl ?_
          refine aw_aload_n (npc := 53) rfl dX6_nearest_52 rfl ?_
          refine aw_callV (npc := 56) (N := mX6_step) (b := 37) (mc := 0) (ms := 0) (A := [.ref 1]) (S := []) (L0 := [some (.ref 37), some (.ref 1), none, none, none]) dX6_nearest_53 rfl km_X6_step kk_X6_30 (wv_o Y) ⟨by decide, rfl⟩ rfl ⟨rfl, by decide⟩ rfl (Nat.le_of_ble_eq_true rfl) (Nat.zero_add _) (Nat.zero_add _) rfl ?_
          refine c_step F Y (fun hp13 Yn14 fz15 => ?_)
          have fyfz15 : ∀ k, (k < 37 ∨ 39 ≤ k) → hp13 k = _ := fun k hk => fz15 k hk
          have F16 := qr_frame F (fun k h1 h2 => fyfz15 k (by omega))
          refine aw_iinc (npc := 59) (v := nI (V + 1)) (L' := [some (.ref 37), some (.ref 1), some (.int (nI V)), some (.int (diF N (dD N V))), some (.int (nI (V + 1))), some (.int (diF N (dD N V)))]) dX6_nearest_56 rfl rfl (nI_1 _) (by decide) rfl rfl ?_
          refine aw_goto (npc := 12) dX6_nearest_59 (by decide) ?_
          have e8 : neS N V (some r) = some (V, diF N (dD N V)) := (cI_t ((sp_pe hR).mp (Int32.not_lt.mp hc2))).trans (if_pos (Int32.not_le.mp hc8))
          refine aw_locs (L' := [some (.ref 37), some (.ref 1), some (.int (opN (some (V, diF N (dD N V))))), some (.int (n2N (some (V, diF N (dD N V))))), some (.int (nI (V + 1))), some (.int (diF N (dD N V)))]) rfl ?_
          refine ih (V + 1) (by omega) (some (V, diF N (dD N V))) (e8 ▸ neS_ok (by omega) hp) _ _ F16 Yn14 (fun v9 h9 e9 Y9 f9 => hq v9 h9 ?_ Y9 (am_fpT f9 (am_fpT (fun k (hk : k < 37 ∨ 39 ≤ k) => fyfz15 k (by omega)) am_fp0)))
          rw [e9]; exact congrArg (fun z => opN (neM N m (V + 1) z)) e8.symm
set_option maxHeartbeats 4000000 in
set_option maxRecDepth 100000 in
theorem c_taken {X : List Int32} {d rc rs n : Nat} {Q : am_Q} {N : Nat → Int32} {tx : List Value} {lk mv : Nat → Int32} {fr c : Nat} {h : am_H} (hR : RG N fr c) (F : QR 1 N tx lk mv h) (Y : WVx h) (hq : ∀ v9 h9, v9 = tkM N 10000 0 0 → WVx h9 → am_fp (fun k => k < 37 ∨ 39 ≤ k) h9 h → Q (some (.int v9)) n h9) : AW X mX6_countTaken (d + 13) rc rs 0 [some (.ref 37), some (.ref 1), none, none] [] n h Q := by
  obtain ⟨a0, a1, wy, Y⟩ := Y
  refine aw_iconst (npc := 1) (v := 0) (by decide) dX6_countTaken_0 rfl ?_
  refine aw_istore_n (npc := 2) (L' := [some (.ref 37), some (.ref 1), some (.int 0), none]) dX6_countTaken_1 rfl (by decide) rfl rfl ?_
  refine aw_aload_n (npc := 3) rfl dX6_countTaken_2 rfl ?_
  refine aw_aload_n (npc := 4) rfl dX6_countTaken_3 rfl ?_
  refine aw_callV (npc := 7) (N := mX6_start) (b := 37) (mc := 0) (ms := 0) (A := [.ref 1]) (S := []) (L0 := [some (.ref 37), some (.ref 1), none]) dX6_countTaken_4 rfl km_X6_start kk_X6_22 Y.1 ⟨by decide, rfl⟩ rfl ⟨rfl, by decide⟩ rfl (Nat.le_of_ble_eq_true rfl) (Nat.zero_add _) (Nat.zero_add _) rfl ?_
  refine c_start F Y (fun hp1 Yn2 fz3 => ?_)
  have fyfz3 : ∀ k, (k < 37 ∨ 39 ≤ k) → hp1 k = _ := fun k hk => fz3 k hk
  have F4 := qr_frame F (fun k h1 h2 => fyfz3 k (by omega))
  refine aw_iconst (npc := 8) (v := 0) (by decide) dX6_countTaken_7 rfl ?_
  refine aw_istore_n (npc := 9) (L' := [some (.ref 37), some (.ref 1), some (.int 0), some (.int 0)]) dX6_countTaken_8 rfl (by decide) rfl rfl ?_
  refine aw_locs (L' := [some (.ref 37), some (.ref 1), some (.int 0), some (.int (nI 0))]) rfl ?_
  exact C_takenL hR 10000 0 (by omega) 0 _ F4 Yn2 (fun v9 h9 e9 Y9 f9 => hq v9 h9 e9 Y9 (am_fpT f9 (am_fpT (fun k (hk : k < 37 ∨ 39 ≤ k) => fyfz3 k (by omega)) am_fp0)))
set_option maxHeartbeats 4000000 in
set_option maxRecDepth 100000 in
theorem c_fair {X : List Int32} {d rc rs n : Nat} {Q : am_Q} {N : Nat → Int32} {tx : List Value} {lk mv : Nat → Int32} {fr c : Nat} {h : am_H} (hR : RG N fr c) (F : QR 1 N tx lk mv h) (Y : WVx h) (hq : ∀ v9 h9, v9 = opN (frM N 10000 0 none) → WVx h9 → am_fp (fun k => k < 37 ∨ 39 ≤ k) h9 h → Q (some (.int v9)) n h9) : AW X mX6_fairest (d + 13) rc rs 0 [some (.ref 37), some (.ref 1), none, none, none, none] [] n h Q := by
  obtain ⟨a0, a1, wy, Y⟩ := Y
  refine aw_iconst (npc := 1) (v := -1) (by decide) dX6_fairest_0 rfl ?_
  refine aw_istore_n (npc := 2) (L' := [some (.ref 37), some (.ref 1), some (.int (-1)), none, none, none]) dX6_fairest_1 rfl (by decide) rfl rfl ?_
  refine aw_iconst (npc := 3) (v := -1) (by decide) dX6_fairest_2 rfl ?_
  refine aw_istore_n (npc := 4) (L' := [some (.ref 37), some (.ref 1), some (.int (-1)), some (.int (-1)), none, none]) dX6_fairest_3 rfl (by decide) rfl rfl ?_
  refine aw_aload_n (npc := 5) rfl dX6_fairest_4 rfl ?_
  refine aw_aload_n (npc := 6) rfl dX6_fairest_5 rfl ?_
  refine aw_callV (npc := 9) (N := mX6_start) (b := 37) (mc := 0) (ms := 0) (A := [.ref 1]) (S := []) (L0 := [some (.ref 37), some (.ref 1), none]) dX6_fairest_6 rfl km_X6_start kk_X6_22 Y.1 ⟨by decide, rfl⟩ rfl ⟨rfl, by decide⟩ rfl (Nat.le_of_ble_eq_true rfl) (Nat.zero_add _) (Nat.zero_add _) rfl ?_
  refine c_start F Y (fun hp1 Yn2 fz3 => ?_)
  have fyfz3 : ∀ k, (k < 37 ∨ 39 ≤ k) → hp1 k = _ := fun k hk => fz3 k hk
  have F4 := qr_frame F (fun k h1 h2 => fyfz3 k (by omega))
  refine aw_iconst (npc := 10) (v := 0) (by decide) dX6_fairest_9 rfl ?_
  refine aw_istore (npc := 12) (L' := [some (.ref 37), some (.ref 1), some (.int (-1)), some (.int (-1)), some (.int 0), none]) dX6_fairest_10 rfl (by decide) rfl rfl ?_
  refine aw_locs (L' := [some (.ref 37), some (.ref 1), some (.int (opN none)), some (.int (f2N none)), some (.int (nI 0)), none]) rfl ?_
  exact C_fairL hR 10000 0 (by omega) none (fun q z => by cases z) none _ F4 Yn2 (fun v9 h9 e9 Y9 f9 => hq v9 h9 e9 Y9 (am_fpT f9 (am_fpT (fun k (hk : k < 37 ∨ 39 ≤ k) => fyfz3 k (by omega)) am_fp0)))
set_option maxHeartbeats 4000000 in
set_option maxRecDepth 100000 in
theorem c_near {X : List Int32} {d rc rs n : Nat} {Q : am_Q} {N : Nat → Int32} {tx : List Value} {lk mv : Nat → Int32} {fr c : Nat} {h : am_H} (hR : RG N fr c) (F : QR 1 N tx lk mv h) (Y : WVx h) (hq : ∀ v9 h9, v9 = opN (neM N 10000 0 none) → WVx h9 → am_fp (fun k => k < 37 ∨ 39 ≤ k) h9 h → Q (some (.int v9)) n h9) : AW X mX6_nearest (d + 13) rc rs 0 [some (.ref 37), some (.ref 1), none, none, none, none] [] n h Q := by
  obtain ⟨a0, a1, wy, Y⟩ := Y
  refine aw_iconst (npc := 1) (v := -1) (by decide) dX6_nearest_0 rfl ?_
  refine aw_istore_n (npc := 2) (L' := [some (.ref 37), some (.ref 1), some (.int (-1)), none, none, none]) dX6_nearest_1 rfl (by decide) rfl rfl ?_
  refine aw_iconst (npc := 3) (v := 0) (by decide) dX6_nearest_2 rfl ?_
  refine aw_istore_n (npc := 4) (L' := [some (.ref 37), some (.ref 1), some (.int (-1)), some (.int 0), none, none]) dX6_nearest_3 rfl (by decide) rfl rfl ?_
  refine aw_aload_n (npc := 5) rfl dX6_nearest_4 rfl ?_
  refine aw_aload_n (npc := 6) rfl dX6_nearest_5 rfl ?_
  refine aw_callV (npc := 9) (N := mX6_start) (b := 37) (mc := 0) (ms := 0) (A := [.ref 1]) (S := []) (L0 := [some (.ref 37), some (.ref 1), none]) dX6_nearest_6 rfl km_X6_start kk_X6_22 Y.1 ⟨by decide, rfl⟩ rfl ⟨rfl, by decide⟩ rfl (Nat.le_of_ble_eq_true rfl) (Nat.zero_add _) (Nat.zero_add _) rfl ?_
  refine c_start F Y (fun hp1 Yn2 fz3 => ?_)
  have fyfz3 : ∀ k, (k < 37 ∨ 39 ≤ k) → hp1 k = _ := fun k hk => fz3 k hk
  have F4 := qr_frame F (fun k h1 h2 => fyfz3 k (by omega))
  refine aw_iconst (npc := 10) (v := 0) (by decide) dX6_nearest_9 rfl ?_
  refine aw_istore (npc := 12) (L' := [some (.ref 37), some (.ref 1), some (.int (-1)), some (.int 0), some (.int 0), none]) dX6_nearest_10 rfl (by decide) rfl rfl ?_
  refine aw_locs (L' := [some (.ref 37), some (.ref 1), some (.int (opN none)), some (.int (n2N none)), some (.int (nI 0)), none]) rfl ?_
  exact C_nearL hR 10000 0 (by omega) none (fun q z => by cases z) none _ F4 Yn2 (fun v9 h9 e9 Y9 f9 => hq v9 h9 e9 Y9 (am_fpT f9 (am_fpT (fun k (hk : k < 37 ∨ 39 ≤ k) => fyfz3 k (by omega)) am_fp0)))
set_option maxHeartbeats 4000000 in
set_option maxRecDepth 100000 in
theorem C_taken {X : List Int32} {d rc rs n : Nat} {Q : am_Q} {h : am_H} {N : Nat → Int32} {tx : List Value} {lk mv : Nat → Int32} {ik wc : Int32} {fr c : Nat} (O : OB ik wc h) (F : QR 1 N tx lk mv h) (Y : WVx h) (hR : RG N fr c) (hq : ∀ v9 h9, v9 = tkM N 10000 0 0 → WVx h9 → am_fp (fun k => k < 37 ∨ 39 ≤ k) h9 h → Q (some (.int v9)) n h9) : AW X mX7_taken (d + 20) rc rs 0 [some (.ref 0)] [] n h Q := by
  obtain ⟨a0, a1, wy, YY⟩ := id Y
  have wx0 := YY.1
  refine aw_aload_n (npc := 1) rfl dX7_taken_0 rfl ?_
  refine aw_get (npc := 4) dX7_taken_1 rfl kf_X7_29 O.1 rfl ?_
  refine aw_aload_n (npc := 5) rfl dX7_taken_4 rfl ?_
  refine aw_get (npc := 8) dX7_taken_5 rfl kf_X7_10 O.1 rfl ?_
  refine aw_callV (npc := 11) (N := mX6_countTaken) (b := 37) (mc := 0) (ms := 0) (A := [.ref 1]) (S := []) (L0 := [some (.ref 37), some (.ref 1), none, none]) dX7_taken_8 rfl km_X6_countTaken kk_X7_183 wx0 ⟨by decide, rfl⟩ rfl ⟨rfl, by decide⟩ rfl (Nat.le_of_ble_eq_true rfl) (Nat.zero_add _) (Nat.zero_add _) rfl ?_
  refine c_taken hR F Y (fun vW1 hW2 eW3 YW4 fW5 => ?_)
  have fyfW5 : ∀ k, (k < 37 ∨ 39 ≤ k) → hW2 k = _ := fun k hk => fW5 k hk
  have O6 := ob_frame O (fyfW5 0 (by omega)) (fyfW5 43 (by omega)) (fyfW5 44 (by omega))
  have F7 := qr_frame F (fun k h1 h2 => fyfW5 k (by omega))
  refine aw_re (S' := [.int vW1]) rfl ?_
  refine aw_iret rfl dX7_taken_11 ?_
  exact hq _ _ eW3 YW4 (am_fpT (fun k (hk : k < 37 ∨ 39 ≤ k) => fyfW5 k (by omega)) am_fp0)
set_option maxHeartbeats 4000000 in
set_option maxRecDepth 100000 in
theorem C_terms {X : List Int32} {d rc rs n : Nat} {Q : am_Q} {h : am_H} {N : Nat → Int32} {tx : List Value} {lk mv : Nat → Int32} {ik wc : Int32} {fr c : Nat} {w : Int32} (O : OB ik wc h) (F : QR 1 N tx lk mv h) (Y : WVx h) (hR : RG N fr c) (hq : ∀ v9 h9, v9 = trV N w → WVx h9 → am_fp (fun k => k < 37 ∨ 39 ≤ k) h9 h → Q (some (.int v9)) n h9) : AW X mX7_terms (d + 20) rc rs 0 [some (.ref 0), some (.int w)] [] n h Q := by
  obtain ⟨a0, a1, wy, YY⟩ := id Y
  have wx0 := YY.1
  refine aw_iload_n (npc := 1) rfl dX7_terms_0 rfl ?_
  refine aw_if_ne (npc := 4) (tgt := 19) dX7_terms_1 rfl (by decide) (fun hc1 => ?_) (fun hc1 => ?_)
  · refine aw_iload_n (npc := 20) rfl dX7_terms_19 rfl ?_
    refine aw_iconst (npc := 21) (v := 1) (by decide) dX7_terms_20 rfl ?_
    refine aw_icmp_ne (npc := 24) (tgt := 39) dX7_terms_21 rfl (by decide) (fun hc2 => ?_) (fun hc2 => ?_)
    · refine aw_ldc (npc := 41) kc_X7_78 dX7_terms_39 rfl ?_
      refine aw_iret rfl dX7_terms_41 ?_
      exact hq _ _ (by simp [trV, cI, hc1, hc2]) Y am_fp0
    · refine aw_aload_n (npc := 25) rfl dX7_terms_24 rfl ?_
      refine aw_get (npc := 28) dX7_terms_25 rfl kf_X7_29 O.1 rfl ?_
      refine aw_aload_n (npc := 29) rfl dX7_terms_28 rfl ?_
      refine aw_get (npc := 32) dX7_terms_29 rfl kf_X7_10 O.1 rfl ?_
      refine aw_callV (npc := 35) (N := mX6_nearest) (b := 37) (mc := 0) (ms := 0) (A := [.ref 1]) (S := []) (L0 := [some (.ref 37), some (.ref 1), none, none, none, none]) dX7_terms_32 rfl km_X6_nearest kk_X7_190 wx0 ⟨by decide, rfl⟩ rfl ⟨rfl, by decide⟩ rfl (Nat.le_of_ble_eq_true rfl) (Nat.zero_add _) (Nat.zero_add _) rfl ?_
      refine c_near hR F Y (fun vW3 hW4 eW5 YW6 fW7 => ?_)
      have fyfW7 : ∀ k, (k < 37 ∨ 39 ≤ k) → hW4 k = _ := fun k hk => fW7 k hk
      have O8 := ob_frame O (fyfW7 0 (by omega)) (fyfW7 43 (by omega)) (fyfW7 44 (by omega))
      have F9 := qr_frame F (fun k h1 h2 => fyfW7 k (by omega))
      refine aw_re (S' := [.int vW3]) rfl ?_
      refine aw_callS (npc := 38) (N := mX7_orNone) (mc := 0) (ms := 0) (A := [.int vW3]) (S := []) (L0 := [some (.int vW3)]) dX7_terms_35 rfl km_X7_orNone kk_X7_112 rfl ⟨rfl, by decide⟩ rfl (Nat.le_of_ble_eq_true rfl) (Nat.zero_add _) (Nat.zero_add _) rfl ?_
      refine c_X7_orNone ?_
      refine aw_re (S' := [.int (orN vW3)]) rfl ?_
      refine aw_iret rfl dX7_terms_38 ?_
      exact hq _ _ (by simp [trV, cI, hc1, hc2, eW5]) YW6 (am_fpT (fun k (hk : k < 37 ∨ 39 ≤ k) => fyfW7 k (by omega)) am_fp0)
  · refine aw_aload_n (npc := 5) rfl dX7_terms_4 rfl ?_
    refine aw_get (npc := 8) dX7_terms_5 rfl kf_X7_29 O.1 rfl ?_
    refine aw_aload_n (npc := 9) rfl dX7_terms_8 rfl ?_
    refine aw_get (npc := 12) dX7_terms_9 rfl kf_X7_10 O.1 rfl ?_
    refine aw_callV (npc := 15) (N := mX6_fairest) (b := 37) (mc := 0) (ms := 0) (A := [.ref 1]) (S := []) (L0 := [some (.ref 37), some (.ref 1), none, none, none, none]) dX7_terms_12 rfl km_X6_fairest kk_X7_187 wx0 ⟨by decide, rfl⟩ rfl ⟨rfl, by decide⟩ rfl (Nat.le_of_ble_eq_true rfl) (Nat.zero_add _) (Nat.zero_add _) rfl ?_
    refine c_fair hR F Y (fun vW10 hW11 eW12 YW13 fW14 => ?_)
    have fyfW14 : ∀ k, (k < 37 ∨ 39 ≤ k) → hW11 k = _ := fun k hk => fW14 k hk
    have O15 := ob_frame O (fyfW14 0 (by omega)) (fyfW14 43 (by omega)) (fyfW14 44 (by omega))
    have F16 := qr_frame F (fun k h1 h2 => fyfW14 k (by omega))
    refine aw_re (S' := [.int vW10]) rfl ?_
    refine aw_callS (npc := 18) (N := mX7_orNone) (mc := 0) (ms := 0) (A := [.int vW10]) (S := []) (L0 := [some (.int vW10)]) dX7_terms_15 rfl km_X7_orNone kk_X7_112 rfl ⟨rfl, by decide⟩ rfl (Nat.le_of_ble_eq_true rfl) (Nat.zero_add _) (Nat.zero_add _) rfl ?_
    refine c_X7_orNone ?_
    refine aw_re (S' := [.int (orN vW10)]) rfl ?_
    refine aw_iret rfl dX7_terms_18 ?_
    exact hq _ _ (by simp [trV, cI, hc1, eW12]) YW13 (am_fpT (fun k (hk : k < 37 ∨ 39 ≤ k) => fyfW14 k (by omega)) am_fp0)
theorem dD_62 {N : Nat → Int32} {V j : Nat} (h : 62 ≤ j) : dD N V j = N j := by
  unfold dD dN
  rw [pk_un (by omega), pk_un (by omega), pk_un (by omega), pk_un (by omega)]
set_option maxHeartbeats 4000000 in
set_option maxRecDepth 100000 in
theorem M_takenL {X : List Int32} {d rc rs n : Nat} {Q : am_Q} {fr c : Nat} {N : Nat → Int32} {a : Nat → Nat → Int32} (h74 : ∀ j, j < 62 → a 74 j = N j) : ∀ (m V : Nat), V + m = 10000 → ∀ (s : Int32) (NA o : Nat → Int32) (h : am_H), MR o NA a h → (∀ V, saN NA V = dD N V) → (∀ j, 62 ≤ j → NA j = N j) → o 4 = -1 → (∀ v9 o9 h9, v9 = tkM N m V s → MR o9 N a h9 → olT o9 o → o9 4 = -1 → am_fp (fun k => k < 69 ∨ 92 ≤ k) h9 h → Q (some (.int v9)) n h9) → AW X mX8_taken (d + 12) rc rs 8 [some (.ref 69), some (.int s), some (.int (nI V))] [] n h Q := by
  intro m
  induction m with
  | zero =>
    intro V hV s NA o h F hsa h62 ho4 hq
    obtain rfl : V = 10000 := by omega
    refine aw_iload_n (npc := 9) rfl dX8_taken_8 rfl ?_
    refine aw_sipush (npc := 12) (v := 10000) (by decide) dX8_taken_9 rfl ?_
    refine aw_icmp_ge (npc := 15) (tgt := 41) dX8_taken_12 rfl (by decide) (fun _ => ?_) (fun hc => absurd (nI_le (a := 10000) (b := 10000) (by omega) (by omega)) hc)
    refine aw_aload_n (npc := 42) rfl dX8_taken_41 rfl ?_
    refine aw_callV (npc := 45) (N := mX8_putsBack) (b := 69) (mc := 0) (ms := 0) (A := []) (S := []) (L0 := [some (.ref 69), none]) dX8_taken_42 rfl km_X8_putsBack kk_X8_175 F.1 ⟨by decide, rfl⟩ rfl ⟨rfl, by decide⟩ rfl (Nat.le_of_ble_eq_true rfl) (Nat.zero_add _) (Nat.zero_add _) rfl ?_
    refine m_puts F (fun N82 hp3 F4 e85 c86 fz7 => ?_)
    have eN8 : N82 = N := funext (fun j => by
      by_cases hj : j < 62
      · exact (e85 j hj).trans (h74 j hj)
      · have hj : 62 ≤ j := by omega
        exact (c86 j hj).trans (h62 j hj))
    rw [eN8] at F4
    refine aw_iload_n (npc := 46) rfl dX8_taken_45 rfl ?_
    refine aw_iret rfl dX8_taken_46 ?_
    exact hq _ _ _ rfl F4 (olT_u olT_0) pk_us (am_fpT (fun k (hk : k < 69 ∨ 92 ≤ k) => fz7 k (by omega)) am_fp0)
  | succ m ih =>
    intro V hV s NA o h F hsa h62 ho4 hq
    refine aw_iload_n (npc := 9) rfl dX8_taken_8 rfl ?_
    refine aw_sipush (npc := 12) (v := 10000) (by decide) dX8_taken_9 rfl ?_
    refine aw_icmp_ge (npc := 15) (tgt := 41) dX8_taken_12 rfl (by decide) (fun hc => absurd hc (nI_ge (a := V) (b := 10000) (by omega) (by omega))) (fun _ => ?_)
    refine aw_aload_n (npc := 16) rfl dX8_taken_15 rfl ?_
    refine aw_iload_n (npc := 17) rfl dX8_taken_16 rfl ?_
    refine aw_callV (npc := 20) (N := mX8_standAs) (b := 69) (mc := 0) (ms := 0) (A := [.int (nI V)]) (S := []) (L0 := [some (.ref 69), some (.int (nI V)), none, none]) dX8_taken_17 rfl km_X8_standAs kk_X8_172 F.1 ⟨by decide, rfl⟩ rfl ⟨rfl, by decide⟩ rfl (Nat.le_of_ble_eq_true rfl) (Nat.zero_add _) (Nat.zero_add _) rfl ?_
    refine m_standAs (V := V) (by omega) F (fun hp2 Fs3 fz4 => ?_)
    rw [hsa] at Fs3
    refine aw_iload_n (npc := 21) rfl dX8_taken_20 rfl ?_
    refine aw_aload_n (npc := 22) rfl dX8_taken_21 rfl ?_
    refine aw_callV (npc := 25) (N := mX8_isPeace) (b := 69) (mc := 0) (ms := 0) (A := []) (S := [.int s]) (L0 := [some (.ref 69)]) dX8_taken_22 rfl km_X8_isPeace kk_X8_149 Fs3.1 ⟨by decide, rfl⟩ rfl ⟨rfl, by decide⟩ rfl (Nat.le_of_ble_eq_true rfl) (Nat.zero_add _) (Nat.zero_add _) rfl ?_
    refine m_peace Fs3 (fun hp5 => ?_) (fun hp5 => ?_)
    · refine aw_re (S' := [.int 1, .int s]) rfl ?_
      refine aw_if_eq (npc := 28) (tgt := 32) dX8_taken_25 rfl (by decide) (fun hc => absurd hc (by decide)) (fun _ => ?_)
      refine aw_iconst (npc := 29) (v := 1) (by decide) dX8_taken_28 rfl ?_
      refine aw_goto (npc := 33) dX8_taken_29 (by decide) ?_
      refine aw_iadd (npc := 34) dX8_taken_33 rfl ?_
      refine aw_istore_n (npc := 35) (L' := [some (.ref 69), some (.int (s + 1)), some (.int (nI V))]) dX8_taken_34 rfl (by decide) rfl rfl ?_
      refine aw_iinc (npc := 38) (v := nI (V + 1)) (L' := [some (.ref 69), some (.int (s + 1)), some (.int (nI (V + 1)))]) dX8_taken_35 rfl rfl (nI_1 _) (by decide) rfl rfl ?_
      refine aw_goto (npc := 8) dX8_taken_38 (by decide) ?_
      refine ih (V + 1) (by omega) (s + 1) _ _ _ Fs3 (fun U => sa_sa) (fun j hj => dD_62 hj) ho4 (fun v9 o9 h9 e9 F9 ol9 o49 f9 => hq v9 o9 h9 ?_ F9 ol9 o49 (am_fpT f9 (am_fpT (fun k (hk : k < 69 ∨ 92 ≤ k) => fz4 k (by omega)) am_fp0)))
      rw [e9]; simp [tkM, cI, hp5]
    · refine aw_re (S' := [.int 0, .int s]) rfl ?_
      refine aw_if_eq (npc := 28) (tgt := 32) dX8_taken_25 rfl (by decide) (fun _ => ?_) (fun hc => absurd (by decide) hc)
      refine aw_iconst (npc := 33) (v := 0) (by decide) dX8_taken_32 rfl ?_
      refine aw_iaddV (npc := 34) (v := s) dX8_taken_33 rfl (Int32.add_zero _) ?_
      refine aw_istore_n (npc := 35) (L' := [some (.ref 69), some (.int s), some (.int (nI V))]) dX8_taken_34 rfl (by decide) rfl rfl ?_
      refine aw_iinc (npc := 38) (v := nI (V + 1)) (L' := [some (.ref 69), some (.int s), some (.int (nI (V + 1)))]) dX8_taken_35 rfl rfl (nI_1 _) (by decide) rfl rfl ?_
      refine aw_goto (npc := 8) dX8_taken_38 (by decide) ?_
      refine ih (V + 1) (by omega) s _ _ _ Fs3 (fun U => sa_sa) (fun j hj => dD_62 hj) ho4 (fun v9 o9 h9 e9 F9 ol9 o49 f9 => hq v9 o9 h9 ?_ F9 ol9 o49 (am_fpT f9 (am_fpT (fun k (hk : k < 69 ∨ 92 ≤ k) => fz4 k (by omega)) am_fp0)))
      rw [e9]; simp [tkM, cI, hp5]
set_option maxHeartbeats 4000000 in
set_option maxRecDepth 100000 in
theorem M_taken {X : List Int32} {d rc rs n : Nat} {Q : am_Q} {h : am_H} {o N : Nat → Int32} {a : Nat → Nat → Int32} {fr c : Nat} (F : MR o N a h) (hR : RG N fr c) (ho4 : o 4 = -1) (hq : ∀ v9 o9 a9 h9, v9 = tkM N 10000 0 0 → MR o9 N a9 h9 → ol6 o9 o → alT a9 a → am_fp (fun k => k < 69 ∨ 92 ≤ k) h9 h → Q (some (.int v9)) n h9) : AW X mX8_taken (d + 13) rc rs 0 [some (.ref 69), none, none] [] n h Q := by
  have h8r := hR.2.1
  have h14r := hR.2.2.2.1
  refine aw_aload_n (npc := 1) rfl dX8_taken_0 rfl ?_
  refine aw_callV (npc := 4) (N := mX8_thinks) (b := 69) (mc := 0) (ms := 0) (A := []) (S := []) (L0 := [some (.ref 69), none]) dX8_taken_1 rfl km_X8_thinks kk_X8_169 F.1 ⟨by decide, rfl⟩ rfl ⟨rfl, by decide⟩ rfl (Nat.le_of_ble_eq_true rfl) (Nat.zero_add _) (Nat.zero_add _) rfl ?_
  refine m_thinks F (fun aT1 hp2 F3 eT4 cT5 fz6 => ?_)
  refine aw_iconst (npc := 5) (v := 0) (by decide) dX8_taken_4 rfl ?_
  refine aw_istore_n (npc := 6) (L' := [some (.ref 69), some (.int 0), none]) dX8_taken_5 rfl (by decide) rfl rfl ?_
  refine aw_iconst (npc := 7) (v := 0) (by decide) dX8_taken_6 rfl ?_
  refine aw_istore_n (npc := 8) (L' := [some (.ref 69), some (.int 0), some (.int 0)]) dX8_taken_7 rfl (by decide) rfl rfl ?_
  refine aw_locs (L' := [some (.ref 69), some (.int 0), some (.int (nI 0))]) rfl ?_
  refine M_takenL (N := N) (fr := 0) (c := 0) eT4 10000 0 (by omega) 0 _ _ _ F3 (fun _ => sa_d) (fun _ _ => rfl) ho4 (fun v9 o9 h9 e9 F9 ol9 o49 f9 => hq v9 o9 _ h9 e9 F9 (ol_end ol9 (o49.trans ho4.symm)) (alT_t (alT_4 cT5) alT_0) (am_fpT f9 (am_fpT (fun k (hk : k < 69 ∨ 92 ≤ k) => fz6 k (by omega)) am_fp0)))
theorem sp_alt {N X : Nat → Int32} (h0 : X 20 = N 20) (h1 : X 21 = N 21) : (hs0 X - X 20 < hs1 X - X 21 → hs0 X - X 20 = spF N X) ∧ (¬ hs0 X - X 20 < hs1 X - X 21 → hs1 X - X 21 = spF N X) := by
  rw [h0, h1]
  unfold spF
  refine ⟨fun h => ?_, fun h => ?_⟩
  · rw [if_neg (fun q => Int32.lt_irrefl (Int32.lt_trans h q))]
  · by_cases q : hs1 X - N 21 < hs0 X - N 20
    · rw [if_pos q]
    · rw [if_neg q]; exact Int32.le_antisymm (Int32.not_lt.mp h) (Int32.not_lt.mp q)
theorem ab_p {x y : Int32} (h : 0 ≤ x - y) : x - y = abD x y := (if_pos h).symm
theorem ab_n {x y : Int32} (h : ¬ 0 ≤ x - y) : -(x - y) = abD x y := by
  unfold abD
  rw [if_neg h, Int32.zero_sub]
set_option maxHeartbeats 4000000 in
set_option maxRecDepth 100000 in
theorem m_well0 {X : List Int32} {d rc rs n : Nat} {Q : am_Q} {h : am_H} {o N NA : Nat → Int32} {a : Nat → Nat → Int32} (F : MR o NA a h) (h20 : NA 20 = N 20) (h21 : NA 21 = N 21) (hq : Q (some (.int (spF N NA))) n h) : AW X mX8_wellBy (d + 6) rc rs 0 [some (.ref 69), some (.int 0), none, none, none] [] n h Q := by
  refine aw_iload_n (npc := 1) rfl dX8_wellBy_0 rfl ?_
  refine aw_if_ne (npc := 4) (tgt := 43) dX8_wellBy_1 rfl (by decide) (fun hc => absurd (by decide) hc) (fun _ => ?_)
  refine aw_aload_n (npc := 5) rfl dX8_wellBy_4 rfl ?_
  refine aw_iconst (npc := 6) (v := 0) (by decide) dX8_wellBy_5 rfl ?_
  refine aw_callV (npc := 9) (N := mX8_has) (b := 69) (mc := 0) (ms := 0) (A := [.int 0]) (S := []) (L0 := [some (.ref 69), some (.int 0), none, none, none]) dX8_wellBy_6 rfl km_X8_has kk_X8_143 F.1 ⟨by decide, rfl⟩ rfl ⟨rfl, by decide⟩ rfl (Nat.le_of_ble_eq_true rfl) (Nat.zero_add _) (Nat.zero_add _) rfl ?_
  refine m_has0 F ?_
  refine aw_re (S' := [.int (hs0 NA)]) rfl ?_
  refine aw_aload_n (npc := 10) rfl dX8_wellBy_9 rfl ?_
  refine aw_get (npc := 13) dX8_wellBy_10 rfl kf_X8_9 F.1 rfl ?_
  refine aw_bipush (npc := 15) (v := 20) (by decide) dX8_wellBy_13 rfl ?_
  refine aw_iald (npc := 16) (x := NA 20) (j := 20) dX8_wellBy_15 rfl F.2.1 ⟨by decide, by decide⟩ (tl_at (by omega)) ?_
  refine aw_isub (npc := 17) dX8_wellBy_16 rfl ?_
  refine aw_istore_n (npc := 18) (L' := [some (.ref 69), some (.int 0), some (.int ((hs0 NA) - (NA 20))), none, none]) dX8_wellBy_17 rfl (by decide) rfl rfl ?_
  refine aw_aload_n (npc := 19) rfl dX8_wellBy_18 rfl ?_
  refine aw_iconst (npc := 20) (v := 1) (by decide) dX8_wellBy_19 rfl ?_
  refine aw_callV (npc := 23) (N := mX8_has) (b := 69) (mc := 0) (ms := 0) (A := [.int 1]) (S := []) (L0 := [some (.ref 69), some (.int 1), none, none, none]) dX8_wellBy_20 rfl km_X8_has kk_X8_143 F.1 ⟨by decide, rfl⟩ rfl ⟨rfl, by decide⟩ rfl (Nat.le_of_ble_eq_true rfl) (Nat.zero_add _) (Nat.zero_add _) rfl ?_
  refine m_has1 F ?_
  refine aw_re (S' := [.int (hs1 NA)]) rfl ?_
  refine aw_aload_n (npc := 24) rfl dX8_wellBy_23 rfl ?_
  refine aw_get (npc := 27) dX8_wellBy_24 rfl kf_X8_9 F.1 rfl ?_
  refine aw_bipush (npc := 29) (v := 21) (by decide) dX8_wellBy_27 rfl ?_
  refine aw_iald (npc := 30) (x := NA 21) (j := 21) dX8_wellBy_29 rfl F.2.1 ⟨by decide, by decide⟩ (tl_at (by omega)) ?_
  refine aw_isub (npc := 31) dX8_wellBy_30 rfl ?_
  refine aw_istore_n (npc := 32) (L' := [some (.ref 69), some (.int 0), some (.int ((hs0 NA) - (NA 20))), some (.int ((hs1 NA) - (NA 21))), none]) dX8_wellBy_31 rfl (by decide) rfl rfl ?_
  refine aw_iload_n (npc := 33) rfl dX8_wellBy_32 rfl ?_
  refine aw_iload_n (npc := 34) rfl dX8_wellBy_33 rfl ?_
  refine aw_icmp_ge (npc := 37) (tgt := 41) dX8_wellBy_34 rfl (by decide) (fun hc1 => ?_) (fun hc1 => ?_)
  · refine aw_iload_n (npc := 42) rfl dX8_wellBy_41 rfl ?_
    refine aw_iret rfl dX8_wellBy_42 ?_
    exact (show ((hs1 NA) - (NA 21)) = spF N NA from (sp_alt h20 h21).2 (Int32.not_lt.mpr hc1)) ▸ hq
  · refine aw_iload_n (npc := 38) rfl dX8_wellBy_37 rfl ?_
    refine aw_goto (npc := 42) dX8_wellBy_38 (by decide) ?_
    refine aw_iret rfl dX8_wellBy_42 ?_
    exact (show ((hs0 NA) - (NA 20)) = spF N NA from (sp_alt h20 h21).1 (Int32.not_le.mp hc1)) ▸ hq
def dsum (N NA : Nat → Int32) : Nat → Nat → Int32 → Int32
  | 0, _, s => s
  | m + 1, t, s => dsum N NA m (t + 1) (s + abD (NA (8 + t)) (N (8 + t)))
theorem dsum_di {N NA : Nat → Int32} : dsum N NA 4 0 0 = diF N NA := rfl
set_option maxHeartbeats 4000000 in
set_option maxRecDepth 100000 in
theorem m_well1L {X : List Int32} {d rc rs n : Nat} {Q : am_Q} {h : am_H} {o N NA : Nat → Int32} {a : Nat → Nat → Int32} (F : MR o NA a h) (h74 : ∀ j, j < 62 → a 74 j = N j) : ∀ (m t : Nat), t + m = 4 → ∀ (s : Int32) (v4 : Option Value), Q (some (.int (-(dsum N NA m t s)))) n h → AW X mX8_wellBy (d + 6) rc rs 47 [some (.ref 69), some (.int 1), some (.int s), some (.int (nI t)), v4] [] n h Q := by
  intro m
  induction m with
  | zero =>
    intro t ht s v4 hq
    obtain rfl : t = 4 := by omega
    refine aw_iload_n (npc := 48) rfl dX8_wellBy_47 rfl ?_
    refine aw_iconst (npc := 49) (v := 4) (by decide) dX8_wellBy_48 rfl ?_
    refine aw_icmp_ge (npc := 52) (tgt := 95) dX8_wellBy_49 rfl (by decide) (fun _ => ?_) (fun hc => absurd (nI_le (a := 4) (b := 4) (by omega) (by omega)) hc)
    refine aw_iload_n (npc := 96) rfl dX8_wellBy_95 rfl ?_
    refine aw_ineg (npc := 97) dX8_wellBy_96 rfl ?_
    refine aw_iret rfl dX8_wellBy_97 ?_
    exact hq
  | succ m ih =>
    intro t ht s v4 hq
    refine aw_iload_n (npc := 48) rfl dX8_wellBy_47 rfl ?_
    refine aw_iconst (npc := 49) (v := 4) (by decide) dX8_wellBy_48 rfl ?_
    refine aw_icmp_ge (npc := 52) (tgt := 95) dX8_wellBy_49 rfl (by decide) (fun hc => absurd hc (nI_ge (a := t) (b := 4) (by omega) (by omega))) (fun _ => ?_)
    refine aw_aload_n (npc := 53) rfl dX8_wellBy_52 rfl ?_
    refine aw_get (npc := 56) dX8_wellBy_53 rfl kf_X8_9 F.1 rfl ?_
    refine aw_bipush (npc := 58) (v := 8) (by decide) dX8_wellBy_56 rfl ?_
    refine aw_iload_n (npc := 59) rfl dX8_wellBy_58 rfl ?_
    refine aw_iaddV (npc := 60) (v := nI (8 + t)) dX8_wellBy_59 rfl (nI_add 8 _) ?_
    refine aw_iald (npc := 61) (x := NA (8 + t)) (j := (8 + t)) dX8_wellBy_60 rfl F.2.1 (am_ix_nI (by omega)) (tl_at (by omega)) ?_
    refine aw_aload_n (npc := 62) rfl dX8_wellBy_61 rfl ?_
    refine aw_get (npc := 65) dX8_wellBy_62 rfl kf_X8_26 F.1 rfl ?_
    refine aw_bipush (npc := 67) (v := 8) (by decide) dX8_wellBy_65 rfl ?_
    refine aw_iload_n (npc := 68) rfl dX8_wellBy_67 rfl ?_
    refine aw_iaddV (npc := 69) (v := nI (8 + t)) dX8_wellBy_68 rfl (nI_add 8 _) ?_
    refine aw_iald (npc := 70) (x := (a 74) (8 + t)) (j := (8 + t)) dX8_wellBy_69 rfl F.2.2.2.2.2.1 (am_ix_nI (by omega)) (tl_at (by omega)) ?_
    refine aw_isub (npc := 71) dX8_wellBy_70 rfl ?_
    refine aw_istore (npc := 73) (L' := [some (.ref 69), some (.int 1), some (.int s), some (.int (nI t)), some (.int ((NA (8 + t)) - ((a 74) (8 + t))))]) dX8_wellBy_71 rfl (by decide) rfl rfl ?_
    refine aw_iload_n (npc := 74) rfl dX8_wellBy_73 rfl ?_
    refine aw_iload (npc := 76) rfl dX8_wellBy_74 rfl ?_
    refine aw_if_ge (npc := 79) (tgt := 85) dX8_wellBy_76 rfl (by decide) (fun hc2 => ?_) (fun hc2 => ?_)
    · refine aw_iload (npc := 87) rfl dX8_wellBy_85 rfl ?_
      refine aw_top (y := abD (NA (8 + t)) (a 74 (8 + t))) (ab_p hc2) ?_
      refine aw_iadd (npc := 88) dX8_wellBy_87 rfl ?_
      refine aw_istore_n (npc := 89) (L' := [some (.ref 69), some (.int 1), some (.int (s + (abD (NA (8 + t)) (a 74 (8 + t))))), some (.int (nI t)), some (.int ((NA (8 + t)) - ((a 74) (8 + t))))]) dX8_wellBy_88 rfl (by decide) rfl rfl ?_
      refine aw_iinc (npc := 92) (v := nI (t + 1)) (L' := [some (.ref 69), some (.int 1), some (.int (s + (abD (NA (8 + t)) (a 74 (8 + t))))), some (.int (nI (t + 1))), some (.int ((NA (8 + t)) - ((a 74) (8 + t))))]) dX8_wellBy_89 rfl rfl (nI_1 _) (by decide) rfl rfl ?_
      refine aw_goto (npc := 47) dX8_wellBy_92 (by decide) ?_
      exact ih (t + 1) (by omega) _ _ ((h74 (8 + t) (by omega)) ▸ hq)
    · refine aw_iload (npc := 81) rfl dX8_wellBy_79 rfl ?_
      refine aw_ineg (npc := 82) dX8_wellBy_81 rfl ?_
      refine aw_goto (npc := 87) dX8_wellBy_82 (by decide) ?_
      refine aw_top (y := abD (NA (8 + t)) (a 74 (8 + t))) (ab_n hc2) ?_
      refine aw_iadd (npc := 88) dX8_wellBy_87 rfl ?_
      refine aw_istore_n (npc := 89) (L' := [some (.ref 69), some (.int 1), some (.int (s + (abD (NA (8 + t)) (a 74 (8 + t))))), some (.int (nI t)), some (.int ((NA (8 + t)) - ((a 74) (8 + t))))]) dX8_wellBy_88 rfl (by decide) rfl rfl ?_
      refine aw_iinc (npc := 92) (v := nI (t + 1)) (L' := [some (.ref 69), some (.int 1), some (.int (s + (abD (NA (8 + t)) (a 74 (8 + t))))), some (.int (nI (t + 1))), some (.int ((NA (8 + t)) - ((a 74) (8 + t))))]) dX8_wellBy_89 rfl rfl (nI_1 _) (by decide) rfl rfl ?_
      refine aw_goto (npc := 47) dX8_wellBy_92 (by decide) ?_
      exact ih (t + 1) (by omega) _ _ ((h74 (8 + t) (by omega)) ▸ hq)
set_option maxHeartbeats 4000000 in
set_option maxRecDepth 100000 in
theorem m_well1 {X : List Int32} {d rc rs n : Nat} {Q : am_Q} {h : am_H} {o N NA : Nat → Int32} {a : Nat → Nat → Int32} (F : MR o NA a h) (h74 : ∀ j, j < 62 → a 74 j = N j) (hq : Q (some (.int (-(diF N NA)))) n h) : AW X mX8_wellBy (d + 6) rc rs 0 [some (.ref 69), some (.int 1), none, none, none] [] n h Q := by
  refine aw_iload_n (npc := 1) rfl dX8_wellBy_0 rfl ?_
  refine aw_if_ne (npc := 4) (tgt := 43) dX8_wellBy_1 rfl (by decide) (fun _ => ?_) (fun hc => absurd hc (by decide))
  refine aw_iconst (npc := 44) (v := 0) (by decide) dX8_wellBy_43 rfl ?_
  refine aw_istore_n (npc := 45) (L' := [some (.ref 69), some (.int 1), some (.int 0), none, none]) dX8_wellBy_44 rfl (by decide) rfl rfl ?_
  refine aw_iconst (npc := 46) (v := 0) (by decide) dX8_wellBy_45 rfl ?_
  refine aw_istore_n (npc := 47) (L' := [some (.ref 69), some (.int 1), some (.int 0), some (.int 0), none]) dX8_wellBy_46 rfl (by decide) rfl rfl ?_
  refine aw_locs (L' := [some (.ref 69), some (.int 1), some (.int 0), some (.int (nI 0)), none]) rfl ?_
  exact m_well1L F h74 4 0 (by omega) 0 none (dsum_di.symm ▸ hq)
def g2N : Option (Nat × Int32) → Int32
  | none => 0
  | some p => p.2
def k2N : Option (Nat × Int32) → Int32
  | none => 0
  | some p => -p.2
theorem neg_nI {p : Nat} (h : p ≤ 36) : (-(nI p)).toInt = -(p : Int) := by
  rw [Int32.toInt_neg, nI_toInt (by omega)]
  exact Int.bmod_eq_of_le (by omega) (by omega)
theorem neg36 {p q : Nat} (hp : p ≤ 36) (hq : q ≤ 36) : (-(nI p) ≤ -(nI q)) ↔ (nI q ≤ nI p) := by
  rw [Int32.le_iff_toInt_le, neg_nI hp, neg_nI hq, nI_leI (by omega) (by omega)]
  omega
theorem ne_cmp {N : Nat → Int32} {fr c V : Nat} {y : Int32} (hR : RG N fr c) (hy : ∃ k, k ≤ 36 ∧ y = nI k) : (-(diF N (dD N V)) ≤ -y) ↔ (y ≤ diF N (dD N V)) := by
  obtain ⟨k, lk, rfl⟩ := hy
  obtain ⟨j, lj, e⟩ := diF_nat (V := V) hR
  rw [e]
  exact neg36 lj lk
theorem neS_ok2 {N : Nat → Int32} {fr c V : Nat} {p : Option (Nat × Int32)} (hR : RG N fr c) (hV : V < 10000) (hp : ∀ q, p = some q → q.1 < 10000 ∧ ∃ k, k ≤ 36 ∧ q.2 = nI k) : ∀ q, neS N V p = some q → q.1 < 10000 ∧ ∃ k, k ≤ 36 ∧ q.2 = nI k := by
  intro q hq
  unfold neS at hq
  have hd := diF_nat (V := V) hR
  by_cases pe : peace (dD N V)
  · rw [cI_t pe] at hq
    cases p with
    | none => have z := Option.some.inj hq; rw [← z]; exact ⟨hV, hd⟩
    | some r =>
      simp only at hq
      split at hq
      · have z := Option.some.inj hq; rw [← z]; exact ⟨hV, hd⟩
      · have z := Option.some.inj hq; rw [← z]; exact hp r rfl
  · rw [cI_f pe] at hq; exact hp q hq
set_option maxHeartbeats 4000000 in
set_option maxRecDepth 100000 in
theorem M_term0L {X : List Int32} {d rc rs n : Nat} {Q : am_Q} {fr c : Nat} {N : Nat → Int32} {a : Nat → Nat → Int32} (h74 : ∀ j, j < 62 → a 74 j = N j) (hR : RG N fr c) : ∀ (m V : Nat), V + m = 10000 → ∀ (p : Option (Nat × Int32)), (∀ q, p = some q → q.1 < 10000 ∧ ¬ q.2 < 0) → ∀ (v5 : Option Value) (NA o : Nat → Int32) (h : am_H), MR o NA a h → (∀ V, saN NA V = dD N V) → (∀ j, 62 ≤ j → NA j = N j) → o 4 = -1 → (∀ v9 o9 h9, v9 = orN (opN (frM N m V p)) → MR o9 N a h9 → olT o9 o → o9 4 = -1 → am_fp (fun k => k < 69 ∨ 92 ≤ k) h9 h → Q (some (.int v9)) n h9) → AW X mX8_terms (d + 12) rc rs 23 [some (.ref 69), some (.int 0), some (.int (opN p)), some (.int (g2N p)), some (.int (nI V)), v5] [] n h Q := by
  intro m
  induction m with
  | zero =>
    intro V hV p hp v5 NA o h F hsa h62 ho4 hq
    obtain rfl : V = 10000 := by omega
    refine aw_iload (npc := 25) rfl dX8_terms_23 rfl ?_
    refine aw_sipush (npc := 28) (v := 10000) (by decide) dX8_terms_25 rfl ?_
    refine aw_icmp_ge (npc := 31) (tgt := 73) dX8_terms_28 rfl (by decide) (fun _ => ?_) (fun hc => absurd (nI_le (a := 10000) (b := 10000) (by omega) (by omega)) hc)
    refine aw_aload_n (npc := 74) rfl dX8_terms_73 rfl ?_
    refine aw_callV (npc := 77) (N := mX8_putsBack) (b := 69) (mc := 0) (ms := 0) (A := []) (S := []) (L0 := [some (.ref 69), none]) dX8_terms_74 rfl km_X8_putsBack kk_X8_175 F.1 ⟨by decide, rfl⟩ rfl ⟨rfl, by decide⟩ rfl (Nat.le_of_ble_eq_true rfl) (Nat.zero_add _) (Nat.zero_add _) rfl ?_
    refine m_puts F (fun N82 hp3 F4 e85 c86 fz7 => ?_)
    have eN8 : N82 = N := funext (fun j => by
      by_cases hj : j < 62
      · exact (e85 j hj).trans (h74 j hj)
      · have hj : 62 ≤ j := by omega
        exact (c86 j hj).trans (h62 j hj))
    rw [eN8] at F4
    refine aw_iload_n (npc := 78) rfl dX8_terms_77 rfl ?_
    refine aw_callS (npc := 81) (N := mX8_told0) (mc := 0) (ms := 0) (A := [.int (opN p)]) (S := []) (L0 := [some (.int (opN p))]) dX8_terms_78 rfl km_X8_told0 kk_X8_124 rfl ⟨rfl, by decide⟩ rfl (Nat.le_of_ble_eq_true rfl) (Nat.zero_add _) (Nat.zero_add _) rfl ?_
    refine c_X8_told0 ?_
    refine aw_re (S' := [.int (orN (opN p))]) rfl ?_
    refine aw_iret rfl dX8_terms_81 ?_
    exact hq _ _ _ rfl F4 (olT_u olT_0) pk_us (am_fpT (fun k (hk : k < 69 ∨ 92 ≤ k) => fz7 k (by omega)) am_fp0)
  | succ m ih =>
    intro V hV p hp v5 NA o h F hsa h62 ho4 hq
    cases p with
    | none =>
      show AW X mX8_terms (d + 12) rc rs 23 [some (.ref 69), some (.int 0), some (.int (-1)), some (.int 0), some (.int (nI V)), v5] [] n h Q
      refine aw_iload (npc := 25) rfl dX8_terms_23 rfl ?_
      refine aw_sipush (npc := 28) (v := 10000) (by decide) dX8_terms_25 rfl ?_
      refine aw_icmp_ge (npc := 31) (tgt := 73) dX8_terms_28 rfl (by decide) (fun hc => absurd hc (nI_ge (a := V) (b := 10000) (by omega) (by omega))) (fun _ => ?_)
      refine aw_aload_n (npc := 32) rfl dX8_terms_31 rfl ?_
      refine aw_iload (npc := 34) rfl dX8_terms_32 rfl ?_
      refine aw_callV (npc := 37) (N := mX8_standAs) (b := 69) (mc := 0) (ms := 0) (A := [.int (nI V)]) (S := []) (L0 := [some (.ref 69), some (.int (nI V)), none, none]) dX8_terms_34 rfl km_X8_standAs kk_X8_172 F.1 ⟨by decide, rfl⟩ rfl ⟨rfl, by decide⟩ rfl (Nat.le_of_ble_eq_true rfl) (Nat.zero_add _) (Nat.zero_add _) rfl ?_
      refine m_standAs (V := V) (by omega) F (fun hp2 Fs3 fz4 => ?_)
      rw [hsa] at Fs3
      refine aw_aload_n (npc := 38) rfl dX8_terms_37 rfl ?_
      refine aw_callV (npc := 41) (N := mX8_isPeace) (b := 69) (mc := 0) (ms := 0) (A := []) (S := []) (L0 := [some (.ref 69)]) dX8_terms_38 rfl km_X8_isPeace kk_X8_149 Fs3.1 ⟨by decide, rfl⟩ rfl ⟨rfl, by decide⟩ rfl (Nat.le_of_ble_eq_true rfl) (Nat.zero_add _) (Nat.zero_add _) rfl ?_
      refine m_peace Fs3 (fun hp5 => ?_) (fun hp5 => ?_)
      · refine aw_re (S' := [.int 1]) rfl ?_
        refine aw_if_eq (npc := 44) (tgt := 67) dX8_terms_41 rfl (by decide) (fun hc => absurd hc (by decide)) (fun _ => ?_)
        refine aw_aload_n (npc := 45) rfl dX8_terms_44 rfl ?_
        refine aw_iload_n (npc := 46) rfl dX8_terms_45 rfl ?_
        refine aw_callV (npc := 49) (N := mX8_wellBy) (b := 69) (mc := 0) (ms := 0) (A := [.int 0]) (S := []) (L0 := [some (.ref 69), some (.int 0), none, none, none]) dX8_terms_46 rfl km_X8_wellBy kk_X8_178 Fs3.1 ⟨by decide, rfl⟩ rfl ⟨rfl, by decide⟩ rfl (Nat.le_of_ble_eq_true rfl) (Nat.zero_add _) (Nat.zero_add _) rfl ?_
        refine m_well0 (N := N) Fs3 rfl rfl ?_
        refine aw_re (S' := [.int (spF N (dD N V))]) rfl ?_
        refine aw_istore (npc := 51) (L' := [some (.ref 69), some (.int 0), some (.int (-1)), some (.int 0), some (.int (nI V)), some (.int (spF N (dD N V)))]) dX8_terms_49 rfl (by decide) rfl rfl ?_
        refine aw_iload_n (npc := 52) rfl dX8_terms_51 rfl ?_
        refine aw_if_lt (npc := 55) (tgt := 61) dX8_terms_52 rfl (by decide) (fun _ => ?_) (fun hc => absurd (by decide) hc)
        refine aw_iload (npc := 63) rfl dX8_terms_61 rfl ?_
        refine aw_istore_n (npc := 64) (L' := [some (.ref 69), some (.int 0), some (.int (nI V)), some (.int 0), some (.int (nI V)), some (.int (spF N (dD N V)))]) dX8_terms_63 rfl (by decide) rfl rfl ?_
        refine aw_iload (npc := 66) rfl dX8_terms_64 rfl ?_
        refine aw_istore_n (npc := 67) (L' := [some (.ref 69), some (.int 0), some (.int (nI V)), some (.int (spF N (dD N V))), some (.int (nI V)), some (.int (spF N (dD N V)))]) dX8_terms_66 rfl (by decide) rfl rfl ?_
        refine aw_iinc (npc := 70) (v := nI (V + 1)) (L' := [some (.ref 69), some (.int 0), some (.int (nI V)), some (.int (spF N (dD N V))), some (.int (nI (V + 1))), some (.int (spF N (dD N V)))]) dX8_terms_67 rfl rfl (nI_1 _) (by decide) rfl rfl ?_
        refine aw_goto (npc := 23) dX8_terms_70 (by decide) ?_
        have e8 : frS N V none = some (V, spF N (dD N V)) := cI_t hp5
        refine aw_locs (L' := [some (.ref 69), some (.int 0), some (.int (opN (some (V, spF N (dD N V))))), some (.int (g2N (some (V, spF N (dD N V))))), some (.int (nI (V + 1))), some (.int (spF N (dD N V)))]) rfl ?_
        refine ih (V + 1) (by omega) (some (V, spF N (dD N V))) (e8 ▸ frS_ok hR (by omega) hp) _ _ _ _ Fs3 (fun U => sa_sa) (fun j hj => dD_62 hj) ho4 (fun v9 o9 h9 e9 F9 ol9 o49 f9 => hq v9 o9 h9 ?_ F9 ol9 o49 (am_fpT f9 (am_fpT (fun k (hk : k < 69 ∨ 92 ≤ k) => fz4 k (by omega)) am_fp0)))
        rw [e9]; exact congrArg (fun z => orN (opN (frM N m (V + 1) z))) e8.symm
      · refine aw_re (S' := [.int 0]) rfl ?_
        refine aw_if_eq (npc := 44) (tgt := 67) dX8_terms_41 rfl (by decide) (fun _ => ?_) (fun hc => absurd (by decide) hc)
        refine aw_iinc (npc := 70) (v := nI (V + 1)) (L' := [some (.ref 69), some (.int 0), some (.int (-1)), some (.int 0), some (.int (nI (V + 1))), v5]) dX8_terms_67 rfl rfl (nI_1 _) (by decide) rfl rfl ?_
        refine aw_goto (npc := 23) dX8_terms_70 (by decide) ?_
        have e8 : frS N V none = none := cI_f hp5
        refine aw_locs (L' := [some (.ref 69), some (.int 0), some (.int (opN (none))), some (.int (g2N (none))), some (.int (nI (V + 1))), v5]) rfl ?_
        refine ih (V + 1) (by omega) (none) (e8 ▸ frS_ok hR (by omega) hp) _ _ _ _ Fs3 (fun U => sa_sa) (fun j hj => dD_62 hj) ho4 (fun v9 o9 h9 e9 F9 ol9 o49 f9 => hq v9 o9 h9 ?_ F9 ol9 o49 (am_fpT f9 (am_fpT (fun k (hk : k < 69 ∨ 92 ≤ k) => fz4 k (by omega)) am_fp0)))
        rw [e9]; exact congrArg (fun z => orN (opN (frM N m (V + 1) z))) e8.symm
    | some r =>
      have hp8 := hp r rfl
      have hp81 := hp8.1
      show AW X mX8_terms (d + 12) rc rs 23 [some (.ref 69), some (.int 0), some (.int (nI r.1)), some (.int r.2), some (.int (nI V)), v5] [] n h Q
      refine aw_iload (npc := 25) rfl dX8_terms_23 rfl ?_
      refine aw_sipush (npc := 28) (v := 10000) (by decide) dX8_terms_25 rfl ?_
      refine aw_icmp_ge (npc := 31) (tgt := 73) dX8_terms_28 rfl (by decide) (fun hc => absurd hc (nI_ge (a := V) (b := 10000) (by omega) (by omega))) (fun _ => ?_)
      refine aw_aload_n (npc := 32) rfl dX8_terms_31 rfl ?_
      refine aw_iload (npc := 34) rfl dX8_terms_32 rfl ?_
      refine aw_callV (npc := 37) (N := mX8_standAs) (b := 69) (mc := 0) (ms := 0) (A := [.int (nI V)]) (S := []) (L0 := [some (.ref 69), some (.int (nI V)), none, none]) dX8_terms_34 rfl km_X8_standAs kk_X8_172 F.1 ⟨by decide, rfl⟩ rfl ⟨rfl, by decide⟩ rfl (Nat.le_of_ble_eq_true rfl) (Nat.zero_add _) (Nat.zero_add _) rfl ?_
      refine m_standAs (V := V) (by omega) F (fun hp2 Fs3 fz4 => ?_)
      rw [hsa] at Fs3
      refine aw_aload_n (npc := 38) rfl dX8_terms_37 rfl ?_
      refine aw_callV (npc := 41) (N := mX8_isPeace) (b := 69) (mc := 0) (ms := 0) (A := []) (S := []) (L0 := [some (.ref 69)]) dX8_terms_38 rfl km_X8_isPeace kk_X8_149 Fs3.1 ⟨by decide, rfl⟩ rfl ⟨rfl, by decide⟩ rfl (Nat.le_of_ble_eq_true rfl) (Nat.zero_add _) (Nat.zero_add _) rfl ?_
      refine m_peace Fs3 (fun hp5 => ?_) (fun hp5 => ?_)
      · refine aw_re (S' := [.int 1]) rfl ?_
        refine aw_if_eq (npc := 44) (tgt := 67) dX8_terms_41 rfl (by decide) (fun hc => absurd hc (by decide)) (fun _ => ?_)
        refine aw_aload_n (npc := 45) rfl dX8_terms_44 rfl ?_
        refine aw_iload_n (npc := 46) rfl dX8_terms_45 rfl ?_
        refine aw_callV (npc := 49) (N := mX8_wellBy) (b := 69) (mc := 0) (ms := 0) (A := [.int 0]) (S := []) (L0 := [some (.ref 69), some (.int 0), none, none, none]) dX8_terms_46 rfl km_X8_wellBy kk_X8_178 Fs3.1 ⟨by decide, rfl⟩ rfl ⟨rfl, by decide⟩ rfl (Nat.le_of_ble_eq_true rfl) (Nat.zero_add _) (Nat.zero_add _) rfl ?_
        refine m_well0 (N := N) Fs3 rfl rfl ?_
        refine aw_re (S' := [.int (spF N (dD N V))]) rfl ?_
        refine aw_istore (npc := 51) (L' := [some (.ref 69), some (.int 0), some (.int (nI r.1)), some (.int r.2), some (.int (nI V)), some (.int (spF N (dD N V)))]) dX8_terms_49 rfl (by decide) rfl rfl ?_
        refine aw_iload_n (npc := 52) rfl dX8_terms_51 rfl ?_
        refine aw_if_lt (npc := 55) (tgt := 61) dX8_terms_52 rfl (by decide) (fun hc => absurd hc (nI_pos (by omega))) (fun _ => ?_)
        refine aw_iload (npc := 57) rfl dX8_terms_55 rfl ?_
        refine aw_iload_n (npc := 58) rfl dX8_terms_57 rfl ?_
        refine aw_icmp_le (npc := 61) (tgt := 67) dX8_terms_58 rfl (by decide) (fun hc7 => ?_) (fun hc7 => ?_)
        · refine aw_iinc (npc := 70) (v := nI (V + 1)) (L' := [some (.ref 69), some (.int 0), some (.int (nI r.1)), some (.int r.2), some (.int (nI (V + 1))), some (.int (spF N (dD N V)))]) dX8_terms_67 rfl rfl (nI_1 _) (by decide) rfl rfl ?_
          refine aw_goto (npc := 23) dX8_terms_70 (by decide) ?_
          have e8 : frS N V (some r) = some r := (cI_t hp5).trans (if_neg (Int32.not_lt.mpr hc7))
          refine aw_locs (L' := [some (.ref 69), some (.int 0), some (.int (opN (some r))), some (.int (g2N (some r))), some (.int (nI (V + 1))), some (.int (spF N (dD N V)))]) rfl ?_
          refine ih (V + 1) (by omega) (some r) (e8 ▸ frS_ok hR (by omega) hp) _ _ _ _ Fs3 (fun U => sa_sa) (fun j hj => dD_62 hj) ho4 (fun v9 o9 h9 e9 F9 ol9 o49 f9 => hq v9 o9 h9 ?_ F9 ol9 o49 (am_fpT f9 (am_fpT (fun k (hk : k < 69 ∨ 92 ≤ k) => fz4 k (by omega)) am_fp0)))
          rw [e9]; exact congrArg (fun z => orN (opN (frM N m (V + 1) z))) e8.symm
        · refine aw_iload (npc := 63) rfl dX8_terms_61 rfl ?_
          refine aw_istore_n (npc := 64) (L' := [some (.ref 69), some (.int 0), some (.int (nI V)), some (.int r.2), some (.int (nI V)), some (.int (spF N (dD N V)))]) dX8_terms_63 rfl (by decide) rfl rfl ?_
          refine aw_iload (npc := 66) rfl dX8_terms_64 rfl ?_
          refine aw_istore_n (npc := 67) (L' := [some (.ref 69), some (.int 0), some (.int (nI V)), some (.int (spF N (dD N V))), some (.int (nI V)), some (.int (spF N (dD N V)))]) dX8_terms_66 rfl (by decide) rfl rfl ?_
          refine aw_iinc (npc := 70) (v := nI (V + 1)) (L' := [some (.ref 69), some (.int 0), some (.int (nI V)), some (.int (spF N (dD N V))), some (.int (nI (V + 1))), some (.int (spF N (dD N V)))]) dX8_terms_67 rfl rfl (nI_1 _) (by decide) rfl rfl ?_
          refine aw_goto (npc := 23) dX8_terms_70 (by decide) ?_
          have e8 : frS N V (some r) = some (V, spF N (dD N V)) := (cI_t hp5).trans (if_pos (Int32.not_le.mp hc7))
          refine aw_locs (L' := [some (.ref 69), some (.int 0), some (.int (opN (some (V, spF N (dD N V))))), some (.int (g2N (some (V, spF N (dD N V))))), some (.int (nI (V + 1))), some (.int (spF N (dD N V)))]) rfl ?_
          refine ih (V + 1) (by omega) (some (V, spF N (dD N V))) (e8 ▸ frS_ok hR (by omega) hp) _ _ _ _ Fs3 (fun U => sa_sa) (fun j hj => dD_62 hj) ho4 (fun v9 o9 h9 e9 F9 ol9 o49 f9 => hq v9 o9 h9 ?_ F9 ol9 o49 (am_fpT f9 (am_fpT (fun k (hk : k < 69 ∨ 92 ≤ k) => fz4 k (by omega)) am_fp0)))
          rw [e9]; exact congrArg (fun z => orN (opN (frM N m (V + 1) z))) e8.symm
      · refine aw_re (S' := [.int 0]) rfl ?_
        refine aw_if_eq (npc := 44) (tgt := 67) dX8_terms_41 rfl (by decide) (fun _ => ?_) (fun hc => absurd (by decide) hc)
        refine aw_iinc (npc := 70) (v := nI (V + 1)) (L' := [some (.ref 69), some (.int 0), some (.int (nI r.1)), some (.int r.2), some (.int (nI (V + 1))), v5]) dX8_terms_67 rfl rfl (nI_1 _) (by decide) rfl rfl ?_
        refine aw_goto (npc := 23) dX8_terms_70 (by decide) ?_
        have e8 : frS N V (some r) = some r := cI_f hp5
        refine aw_locs (L' := [some (.ref 69), some (.int 0), some (.int (opN (some r))), some (.int (g2N (some r))), some (.int (nI (V + 1))), v5]) rfl ?_
        refine ih (V + 1) (by omega) (some r) (e8 ▸ frS_ok hR (by omega) hp) _ _ _ _ Fs3 (fun U => sa_sa) (fun j hj => dD_62 hj) ho4 (fun v9 o9 h9 e9 F9 ol9 o49 f9 => hq v9 o9 h9 ?_ F9 ol9 o49 (am_fpT f9 (am_fpT (fun k (hk : k < 69 ∨ 92 ≤ k) => fz4 k (by omega)) am_fp0)))
        rw [e9]; exact congrArg (fun z => orN (opN (frM N m (V + 1) z))) e8.symm
set_option maxHeartbeats 4000000 in
set_option maxRecDepth 100000 in
theorem M_term1L {X : List Int32} {d rc rs n : Nat} {Q : am_Q} {fr c : Nat} {N : Nat → Int32} {a : Nat → Nat → Int32} (h74 : ∀ j, j < 62 → a 74 j = N j) (hR : RG N fr c) : ∀ (m V : Nat), V + m = 10000 → ∀ (p : Option (Nat × Int32)), (∀ q, p = some q → q.1 < 10000 ∧ ∃ k, k ≤ 36 ∧ q.2 = nI k) → ∀ (v5 : Option Value) (NA o : Nat → Int32) (h : am_H), MR o NA a h → (∀ V, saN NA V = dD N V) → (∀ j, 62 ≤ j → NA j = N j) → o 4 = -1 → (∀ v9 o9 h9, v9 = orN (opN (neM N m V p)) → MR o9 N a h9 → olT o9 o → o9 4 = -1 → am_fp (fun k => k < 69 ∨ 92 ≤ k) h9 h → Q (some (.int v9)) n h9) → AW X mX8_terms (d + 12) rc rs 23 [some (.ref 69), some (.int 1), some (.int (opN p)), some (.int (k2N p)), some (.int (nI V)), v5] [] n h Q := by
  intro m
  induction m with
  | zero =>
    intro V hV p hp v5 NA o h F hsa h62 ho4 hq
    obtain rfl : V = 10000 := by omega
    refine aw_iload (npc := 25) rfl dX8_terms_23 rfl ?_
    refine aw_sipush (npc := 28) (v := 10000) (by decide) dX8_terms_25 rfl ?_
    refine aw_icmp_ge (npc := 31) (tgt := 73) dX8_terms_28 rfl (by decide) (fun _ => ?_) (fun hc => absurd (nI_le (a := 10000) (b := 10000) (by omega) (by omega)) hc)
    refine aw_aload_n (npc := 74) rfl dX8_terms_73 rfl ?_
    refine aw_callV (npc := 77) (N := mX8_putsBack) (b := 69) (mc := 0) (ms := 0) (A := []) (S := []) (L0 := [some (.ref 69), none]) dX8_terms_74 rfl km_X8_putsBack kk_X8_175 F.1 ⟨by decide, rfl⟩ rfl ⟨rfl, by decide⟩ rfl (Nat.le_of_ble_eq_true rfl) (Nat.zero_add _) (Nat.zero_add _) rfl ?_
    refine m_puts F (fun N82 hp3 F4 e85 c86 fz7 => ?_)
    have eN8 : N82 = N := funext (fun j => by
      by_cases hj : j < 62
      · exact (e85 j hj).trans (h74 j hj)
      · have hj : 62 ≤ j := by omega
        exact (c86 j hj).trans (h62 j hj))
    rw [eN8] at F4
    refine aw_iload_n (npc := 78) rfl dX8_terms_77 rfl ?_
    refine aw_callS (npc := 81) (N := mX8_told0) (mc := 0) (ms := 0) (A := [.int (opN p)]) (S := []) (L0 := [some (.int (opN p))]) dX8_terms_78 rfl km_X8_told0 kk_X8_124 rfl ⟨rfl, by decide⟩ rfl (Nat.le_of_ble_eq_true rfl) (Nat.zero_add _) (Nat.zero_add _) rfl ?_
    refine c_X8_told0 ?_
    refine aw_re (S' := [.int (orN (opN p))]) rfl ?_
    refine aw_iret rfl dX8_terms_81 ?_
    exact hq _ _ _ rfl F4 (olT_u olT_0) pk_us (am_fpT (fun k (hk : k < 69 ∨ 92 ≤ k) => fz7 k (by omega)) am_fp0)
  | succ m ih =>
    intro V hV p hp v5 NA o h F hsa h62 ho4 hq
    cases p with
    | none =>
      show AW X mX8_terms (d + 12) rc rs 23 [some (.ref 69), some (.int 1), some (.int (-1)), some (.int 0), some (.int (nI V)), v5] [] n h Q
      refine aw_iload (npc := 25) rfl dX8_terms_23 rfl ?_
      refine aw_sipush (npc := 28) (v := 10000) (by decide) dX8_terms_25 rfl ?_
      refine aw_icmp_ge (npc := 31) (tgt := 73) dX8_terms_28 rfl (by decide) (fun hc => absurd hc (nI_ge (a := V) (b := 10000) (by omega) (by omega))) (fun _ => ?_)
      refine aw_aload_n (npc := 32) rfl dX8_terms_31 rfl ?_
      refine aw_iload (npc := 34) rfl dX8_terms_32 rfl ?_
      refine aw_callV (npc := 37) (N := mX8_standAs) (b := 69) (mc := 0) (ms := 0) (A := [.int (nI V)]) (S := []) (L0 := [some (.ref 69), some (.int (nI V)), none, none]) dX8_terms_34 rfl km_X8_standAs kk_X8_172 F.1 ⟨by decide, rfl⟩ rfl ⟨rfl, by decide⟩ rfl (Nat.le_of_ble_eq_true rfl) (Nat.zero_add _) (Nat.zero_add _) rfl ?_
      refine m_standAs (V := V) (by omega) F (fun hp2 Fs3 fz4 => ?_)
      rw [hsa] at Fs3
      refine aw_aload_n (npc := 38) rfl dX8_terms_37 rfl ?_
      refine aw_callV (npc := 41) (N := mX8_isPeace) (b := 69) (mc := 0) (ms := 0) (A := []) (S := []) (L0 := [some (.ref 69)]) dX8_terms_38 rfl km_X8_isPeace kk_X8_149 Fs3.1 ⟨by decide, rfl⟩ rfl ⟨rfl, by decide⟩ rfl (Nat.le_of_ble_eq_true rfl) (Nat.zero_add _) (Nat.zero_add _) rfl ?_
      refine m_peace Fs3 (fun hp5 => ?_) (fun hp5 => ?_)
      · refine aw_re (S' := [.int 1]) rfl ?_
        refine aw_if_eq (npc := 44) (tgt := 67) dX8_terms_41 rfl (by decide) (fun hc => absurd hc (by decide)) (fun _ => ?_)
        refine aw_aload_n (npc := 45) rfl dX8_terms_44 rfl ?_
        refine aw_iload_n (npc := 46) rfl dX8_terms_45 rfl ?_
        refine aw_callV (npc := 49) (N := mX8_wellBy) (b := 69) (mc := 0) (ms := 0) (A := [.int 1]) (S := []) (L0 := [some (.ref 69), some (.int 1), none, none, none]) dX8_terms_46 rfl km_X8_wellBy kk_X8_178 Fs3.1 ⟨by decide, rfl⟩ rfl ⟨rfl, by decide⟩ rfl (Nat.le_of_ble_eq_true rfl) (Nat.zero_add _) (Nat.zero_add _) rfl ?_
        refine m_well1 (N := N) Fs3 h74 ?_
        refine aw_re (S' := [.int (-(diF N (dD N V)))]) rfl ?_
        refine aw_istore (npc := 51) (L' := [some (.ref 69), some (.int 1), some (.int (-1)), some (.int 0), some (.int (nI V)), some (.int (-(diF N (dD N V))))]) dX8_terms_49 rfl (by decide) rfl rfl ?_
        refine aw_iload_n (npc := 52) rfl dX8_terms_51 rfl ?_
        refine aw_if_lt (npc := 55) (tgt := 61) dX8_terms_52 rfl (by decide) (fun _ => ?_) (fun hc => absurd (by decide) hc)
        refine aw_iload (npc := 63) rfl dX8_terms_61 rfl ?_
        refine aw_istore_n (npc := 64) (L' := [some (.ref 69), some (.int 1), some (.int (nI V)), some (.int 0), some (.int (nI V)), some (.int (-(diF N (dD N V))))]) dX8_terms_63 rfl (by decide) rfl rfl ?_
        refine aw_iload (npc := 66) rfl dX8_terms_64 rfl ?_
        refine aw_istore_n (npc := 67) (L' := [some (.ref 69), some (.int 1), some (.int (nI V)), some (.int (-(diF N (dD N V)))), some (.int (nI V)), some (.int (-(diF N (dD N V))))]) dX8_terms_66 rfl (by decide) rfl rfl ?_
        refine aw_iinc (npc := 70) (v := nI (V + 1)) (L' := [some (.ref 69), some (.int 1), some (.int (nI V)), some (.int (-(diF N (dD N V)))), some (.int (nI (V + 1))), some (.int (-(diF N (dD N V))))]) dX8_terms_67 rfl rfl (nI_1 _) (by decide) rfl rfl ?_
        refine aw_goto (npc := 23) dX8_terms_70 (by decide) ?_
        have e8 : neS N V none = some (V, diF N (dD N V)) := cI_t hp5
        refine aw_locs (L' := [some (.ref 69), some (.int 1), some (.int (opN (some (V, diF N (dD N V))))), some (.int (k2N (some (V, diF N (dD N V))))), some (.int (nI (V + 1))), some (.int (-(diF N (dD N V))))]) rfl ?_
        refine ih (V + 1) (by omega) (some (V, diF N (dD N V))) (e8 ▸ neS_ok2 hR (by omega) hp) _ _ _ _ Fs3 (fun U => sa_sa) (fun j hj => dD_62 hj) ho4 (fun v9 o9 h9 e9 F9 ol9 o49 f9 => hq v9 o9 h9 ?_ F9 ol9 o49 (am_fpT f9 (am_fpT (fun k (hk : k < 69 ∨ 92 ≤ k) => fz4 k (by omega)) am_fp0)))
        rw [e9]; exact congrArg (fun z => orN (opN (neM N m (V + 1) z))) e8.symm
      · refine aw_re (S' := [.int 0]) rfl ?_
        refine aw_if_eq (npc := 44) (tgt := 67) dX8_terms_41 rfl (by decide) (fun _ => ?_) (fun hc => absurd (by decide) hc)
        refine aw_iinc (npc := 70) (v := nI (V + 1)) (L' := [some (.ref 69), some (.int 1), some (.int (-1)), some (.int 0), some (.int (nI (V + 1))), v5]) dX8_terms_67 rfl rfl (nI_1 _) (by decide) rfl rfl ?_
        refine aw_goto (npc := 23) dX8_terms_70 (by decide) ?_
        have e8 : neS N V none = none := cI_f hp5
        refine aw_locs (L' := [some (.ref 69), some (.int 1), some (.int (opN (none))), some (.int (k2N (none))), some (.int (nI (V + 1))), v5]) rfl ?_
        refine ih (V + 1) (by omega) (none) (e8 ▸ neS_ok2 hR (by omega) hp) _ _ _ _ Fs3 (fun U => sa_sa) (fun j hj => dD_62 hj) ho4 (fun v9 o9 h9 e9 F9 ol9 o49 f9 => hq v9 o9 h9 ?_ F9 ol9 o49 (am_fpT f9 (am_fpT (fun k (hk : k < 69 ∨ 92 ≤ k) => fz4 k (by omega)) am_fp0)))
        rw [e9]; exact congrArg (fun z => orN (opN (neM N m (V + 1) z))) e8.symm
    | some r =>
      have hp8 := hp r rfl
      have hp81 := hp8.1
      show AW X mX8_terms (d + 12) rc rs 23 [some (.ref 69), some (.int 1), some (.int (nI r.1)), some (.int (-r.2)), some (.int (nI V)), v5] [] n h Q
      refine aw_iload (npc := 25) rfl dX8_terms_23 rfl ?_
      refine aw_sipush (npc := 28) (v := 10000) (by decide) dX8_terms_25 rfl ?_
      refine aw_icmp_ge (npc := 31) (tgt := 73) dX8_terms_28 rfl (by decide) (fun hc => absurd hc (nI_ge (a := V) (b := 10000) (by omega) (by omega))) (fun _ => ?_)
      refine aw_aload_n (npc := 32) rfl dX8_terms_31 rfl ?_
      refine aw_iload (npc := 34) rfl dX8_terms_32 rfl ?_
      refine aw_callV (npc := 37) (N := mX8_standAs) (b := 69) (mc := 0) (ms := 0) (A := [.int (nI V)]) (S := []) (L0 := [some (.ref 69), some (.int (nI V)), none, none]) dX8_terms_34 rfl km_X8_standAs kk_X8_172 F.1 ⟨by decide, rfl⟩ rfl ⟨rfl, by decide⟩ rfl (Nat.le_of_ble_eq_true rfl) (Nat.zero_add _) (Nat.zero_add _) rfl ?_
      refine m_standAs (V := V) (by omega) F (fun hp2 Fs3 fz4 => ?_)
      rw [hsa] at Fs3
      refine aw_aload_n (npc := 38) rfl dX8_terms_37 rfl ?_
      refine aw_callV (npc := 41) (N := mX8_isPeace) (b := 69) (mc := 0) (ms := 0) (A := []) (S := []) (L0 := [some (.ref 69)]) dX8_terms_38 rfl km_X8_isPeace kk_X8_149 Fs3.1 ⟨by decide, rfl⟩ rfl ⟨rfl, by decide⟩ rfl (Nat.le_of_ble_eq_true rfl) (Nat.zero_add _) (Nat.zero_add _) rfl ?_
      refine m_peace Fs3 (fun hp5 => ?_) (fun hp5 => ?_)
      · refine aw_re (S' := [.int 1]) rfl ?_
        refine aw_if_eq (npc := 44) (tgt := 67) dX8_terms_41 rfl (by decide) (fun hc => absurd hc (by decide)) (fun _ => ?_)
        refine aw_aload_n (npc := 45) rfl dX8_terms_44 rfl ?_
        refine aw_iload_n (npc := 46) rfl dX8_terms_45 rfl ?_
        refine aw_callV (npc := 49) (N := mX8_wellBy) (b := 69) (mc := 0) (ms := 0) (A := [.int 1]) (S := []) (L0 := [some (.ref 69), some (.int 1), none, none, none]) dX8_terms_46 rfl km_X8_wellBy kk_X8_178 Fs3.1 ⟨by decide, rfl⟩ rfl ⟨rfl, by decide⟩ rfl (Nat.le_of_ble_eq_true rfl) (Nat.zero_add _) (Nat.zero_add _) rfl ?_
        refine m_well1 (N := N) Fs3 h74 ?_
        refine aw_re (S' := [.int (-(diF N (dD N V)))]) rfl ?_
        refine aw_istore (npc := 51) (L' := [some (.ref 69), some (.int 1), some (.int (nI r.1)), some (.int (-r.2)), some (.int (nI V)), some (.int (-(diF N (dD N V))))]) dX8_terms_49 rfl (by decide) rfl rfl ?_
        refine aw_iload_n (npc := 52) rfl dX8_terms_51 rfl ?_
        refine aw_if_lt (npc := 55) (tgt := 61) dX8_terms_52 rfl (by decide) (fun hc => absurd hc (nI_pos (by omega))) (fun _ => ?_)
        refine aw_iload (npc := 57) rfl dX8_terms_55 rfl ?_
        refine aw_iload_n (npc := 58) rfl dX8_terms_57 rfl ?_
        refine aw_icmp_le (npc := 61) (tgt := 67) dX8_terms_58 rfl (by decide) (fun hc7 => ?_) (fun hc7 => ?_)
        · refine aw_iinc (npc := 70) (v := nI (V + 1)) (L' := [some (.ref 69), some (.int 1), some (.int (nI r.1)), some (.int (-r.2)), some (.int (nI (V + 1))), some (.int (-(diF N (dD N V))))]) dX8_terms_67 rfl rfl (nI_1 _) (by decide) rfl rfl ?_
          refine aw_goto (npc := 23) dX8_terms_70 (by decide) ?_
          have e8 : neS N V (some r) = some r := (cI_t hp5).trans (if_neg (Int32.not_lt.mpr ((ne_cmp hR hp8.2).mp hc7)))
          refine aw_locs (L' := [some (.ref 69), some (.int 1), some (.int (opN (some r))), some (.int (k2N (some r))), some (.int (nI (V + 1))), some (.int (-(diF N (dD N V))))]) rfl ?_
          refine ih (V + 1) (by omega) (some r) (e8 ▸ neS_ok2 hR (by omega) hp) _ _ _ _ Fs3 (fun U => sa_sa) (fun j hj => dD_62 hj) ho4 (fun v9 o9 h9 e9 F9 ol9 o49 f9 => hq v9 o9 h9 ?_ F9 ol9 o49 (am_fpT f9 (am_fpT (fun k (hk : k < 69 ∨ 92 ≤ k) => fz4 k (by omega)) am_fp0)))
          rw [e9]; exact congrArg (fun z => orN (opN (neM N m (V + 1) z))) e8.symm
        · refine aw_iload (npc := 63) rfl dX8_terms_61 rfl ?_
          refine aw_istore_n (npc := 64) (L' := [some (.ref 69), some (.int 1), some (.int (nI V)), some (.int (-r.2)), some (.int (nI V)), some (.int (-(diF N (dD N V))))]) dX8_terms_63 rfl (by decide) rfl rfl ?_
          refine aw_iload (npc := 66) rfl dX8_terms_64 rfl ?_
          refine aw_istore_n (npc := 67) (L' := [some (.ref 69), some (.int 1), some (.int (nI V)), some (.int (-(diF N (dD N V)))), some (.int (nI V)), some (.int (-(diF N (dD N V))))]) dX8_terms_66 rfl (by decide) rfl rfl ?_
          refine aw_iinc (npc := 70) (v := nI (V + 1)) (L' := [some (.ref 69), some (.int 1), some (.int (nI V)), some (.int (-(diF N (dD N V)))), some (.int (nI (V + 1))), some (.int (-(diF N (dD N V))))]) dX8_terms_67 rfl rfl (nI_1 _) (by decide) rfl rfl ?_
          refine aw_goto (npc := 23) dX8_terms_70 (by decide) ?_
          have e8 : neS N V (some r) = some (V, diF N (dD N V)) := (cI_t hp5).trans (if_pos (Int32.not_le.mp (fun z => hc7 ((ne_cmp hR hp8.2).mpr z))))
          refine aw_locs (L' := [some (.ref 69), some (.int 1), some (.int (opN (some (V, diF N (dD N V))))), some (.int (k2N (some (V, diF N (dD N V))))), some (.int (nI (V + 1))), some (.int (-(diF N (dD N V))))]) rfl ?_
          refine ih (V + 1) (by omega) (some (V, diF N (dD N V))) (e8 ▸ neS_ok2 hR (by omega) hp) _ _ _ _ Fs3 (fun U => sa_sa) (fun j hj => dD_62 hj) ho4 (fun v9 o9 h9 e9 F9 ol9 o49 f9 => hq v9 o9 h9 ?_ F9 ol9 o49 (am_fpT f9 (am_fpT (fun k (hk : k < 69 ∨ 92 ≤ k) => fz4 k (by omega)) am_fp0)))
          rw [e9]; exact congrArg (fun z => orN (opN (neM N m (V + 1) z))) e8.symm
      · refine aw_re (S' := [.int 0]) rfl ?_
        refine aw_if_eq (npc := 44) (tgt := 67) dX8_terms_41 rfl (by decide) (fun _ => ?_) (fun hc => absurd (by decide) hc)
        refine aw_iinc (npc := 70) (v := nI (V + 1)) (L' := [some (.ref 69), some (.int 1), some (.int (nI r.1)), some (.int (-r.2)), some (.int (nI (V + 1))), v5]) dX8_terms_67 rfl rfl (nI_1 _) (by decide) rfl rfl ?_
        refine aw_goto (npc := 23) dX8_terms_70 (by decide) ?_
        have e8 : neS N V (some r) = some r := cI_f hp5
        refine aw_locs (L' := [some (.ref 69), some (.int 1), some (.int (opN (some r))), some (.int (k2N (some r))), some (.int (nI (V + 1))), v5]) rfl ?_
        refine ih (V + 1) (by omega) (some r) (e8 ▸ neS_ok2 hR (by omega) hp) _ _ _ _ Fs3 (fun U => sa_sa) (fun j hj => dD_62 hj) ho4 (fun v9 o9 h9 e9 F9 ol9 o49 f9 => hq v9 o9 h9 ?_ F9 ol9 o49 (am_fpT f9 (am_fpT (fun k (hk : k < 69 ∨ 92 ≤ k) => fz4 k (by omega)) am_fp0)))
        rw [e9]; exact congrArg (fun z => orN (opN (neM N m (V + 1) z))) e8.symm
set_option maxHeartbeats 4000000 in
set_option maxRecDepth 100000 in
theorem M_terms {X : List Int32} {d rc rs n : Nat} {Q : am_Q} {h : am_H} {o N : Nat → Int32} {a : Nat → Nat → Int32} {fr c : Nat} {w : Int32} (F : MR o N a h) (hR : RG N fr c) (ho4 : o 4 = -1) (hq : ∀ v9 o9 a9 h9, v9 = trV N w → MR o9 N a9 h9 → ol6 o9 o → alT a9 a → am_fp (fun k => k < 69 ∨ 92 ≤ k) h9 h → Q (some (.int v9)) n h9) : AW X mX8_terms (d + 13) rc rs 0 [some (.ref 69), some (.int w), none, none, none, none] [] n h Q := by
  have h8r := hR.2.1
  have h14r := hR.2.2.2.1
  refine aw_iload_n (npc := 1) rfl dX8_terms_0 rfl ?_
  refine aw_iconst (npc := 2) (v := 0) (by decide) dX8_terms_1 rfl ?_
  refine aw_iconst (npc := 3) (v := 1) (by decide) dX8_terms_2 rfl ?_
  refine aw_callS (npc := 6) (N := mX8_in) (mc := 0) (ms := 0) (A := [.int w, .int 0, .int 1]) (S := []) (L0 := [some (.int w), some (.int 0), some (.int 1)]) dX8_terms_3 rfl km_X8_in kk_X8_83 rfl ⟨rfl, by decide⟩ rfl (Nat.le_of_ble_eq_true rfl) (Nat.zero_add _) (Nat.zero_add _) rfl ?_
  refine c_X8_in (fun hw1 => ?_) (fun hw1 => ?_)
  · rcases wi_c0_1 hw1 with rfl | rfl
    · refine aw_re (S' := [.int 1]) rfl ?_
      refine aw_if_ne (npc := 9) (tgt := 12) dX8_terms_6 rfl (by decide) (fun _ => ?_) (fun hc => absurd hc (by decide))
      refine aw_aload_n (npc := 13) rfl dX8_terms_12 rfl ?_
      refine aw_callV (npc := 16) (N := mX8_thinks) (b := 69) (mc := 0) (ms := 0) (A := []) (S := []) (L0 := [some (.ref 69), none]) dX8_terms_13 rfl km_X8_thinks kk_X8_169 F.1 ⟨by decide, rfl⟩ rfl ⟨rfl, by decide⟩ rfl (Nat.le_of_ble_eq_true rfl) (Nat.zero_add _) (Nat.zero_add _) rfl ?_
      refine m_thinks F (fun aT2 hp3 F4 eT5 cT6 fz7 => ?_)
      refine aw_iconst (npc := 17) (v := -1) (by decide) dX8_terms_16 rfl ?_
      refine aw_istore_n (npc := 18) (L' := [some (.ref 69), some (.int 0), some (.int (-1)), none, none, none]) dX8_terms_17 rfl (by decide) rfl rfl ?_
      refine aw_iconst (npc := 19) (v := 0) (by decide) dX8_terms_18 rfl ?_
      refine aw_istore_n (npc := 20) (L' := [some (.ref 69), some (.int 0), some (.int (-1)), some (.int 0), none, none]) dX8_terms_19 rfl (by decide) rfl rfl ?_
      refine aw_iconst (npc := 21) (v := 0) (by decide) dX8_terms_20 rfl ?_
      refine aw_istore (npc := 23) (L' := [some (.ref 69), some (.int 0), some (.int (-1)), some (.int 0), some (.int 0), none]) dX8_terms_21 rfl (by decide) rfl rfl ?_
      refine aw_locs (L' := [some (.ref 69), some (.int 0), some (.int (opN none)), some (.int (g2N none)), some (.int (nI 0)), none]) rfl ?_
      refine M_term0L (N := N) eT5 hR 10000 0 (by omega) none (fun q z => by cases z) none _ _ _ F4 (fun _ => sa_d) (fun _ _ => rfl) ho4 (fun v9 o9 h9 e9 F9 ol9 o49 f9 => hq v9 o9 _ h9 (by rw [e9]; simp [trV, cI]) F9 (ol_end ol9 (o49.trans ho4.symm)) (alT_t (alT_4 cT6) alT_0) (am_fpT f9 (am_fpT (fun k (hk : k < 69 ∨ 92 ≤ k) => fz7 k (by omega)) am_fp0)))
    · refine aw_re (S' := [.int 1]) rfl ?_
      refine aw_if_ne (npc := 9) (tgt := 12) dX8_terms_6 rfl (by decide) (fun _ => ?_) (fun hc => absurd hc (by decide))
      refine aw_aload_n (npc := 13) rfl dX8_terms_12 rfl ?_
      refine aw_callV (npc := 16) (N := mX8_thinks) (b := 69) (mc := 0) (ms := 0) (A := []) (S := []) (L0 := [some (.ref 69), none]) dX8_terms_13 rfl km_X8_thinks kk_X8_169 F.1 ⟨by decide, rfl⟩ rfl ⟨rfl, by decide⟩ rfl (Nat.le_of_ble_eq_true rfl) (Nat.zero_add _) (Nat.zero_add _) rfl ?_
      refine m_thinks F (fun aT8 hp9 F10 eT11 cT12 fz13 => ?_)
      refine aw_iconst (npc := 17) (v := -1) (by decide) dX8_terms_16 rfl ?_
      refine aw_istore_n (npc := 18) (L' := [some (.ref 69), some (.int 1), some (.int (-1)), none, none, none]) dX8_terms_17 rfl (by decide) rfl rfl ?_
      refine aw_iconst (npc := 19) (v := 0) (by decide) dX8_terms_18 rfl ?_
      refine aw_istore_n (npc := 20) (L' := [some (.ref 69), some (.int 1), some (.int (-1)), some (.int 0), none, none]) dX8_terms_19 rfl (by decide) rfl rfl ?_
      refine aw_iconst (npc := 21) (v := 0) (by decide) dX8_terms_20 rfl ?_
      refine aw_istore (npc := 23) (L' := [some (.ref 69), some (.int 1), some (.int (-1)), some (.int 0), some (.int 0), none]) dX8_terms_21 rfl (by decide) rfl rfl ?_
      refine aw_locs (L' := [some (.ref 69), some (.int 1), some (.int (opN none)), some (.int (k2N none)), some (.int (nI 0)), none]) rfl ?_
      refine M_term1L (N := N) eT11 hR 10000 0 (by omega) none (fun q z => by cases z) none _ _ _ F10 (fun _ => sa_d) (fun _ _ => rfl) ho4 (fun v9 o9 h9 e9 F9 ol9 o49 f9 => hq v9 o9 _ h9 (by rw [e9]; simp [trV, cI]) F9 (ol_end ol9 (o49.trans ho4.symm)) (alT_t (alT_4 cT12) alT_0) (am_fpT f9 (am_fpT (fun k (hk : k < 69 ∨ 92 ≤ k) => fz13 k (by omega)) am_fp0)))
  · refine aw_re (S' := [.int 0]) rfl ?_
    refine aw_if_ne (npc := 9) (tgt := 12) dX8_terms_6 rfl (by decide) (fun hc => absurd (by decide) hc) (fun _ => ?_)
    refine aw_ldc (npc := 11) kc_X8_91 dX8_terms_9 rfl ?_
    refine aw_iret rfl dX8_terms_11 ?_
    exact hq _ _ _ _ (by simp [trV, cI, hw1, nwi_1 hw1 (k := 0) ⟨by decide, by decide⟩, nwi_1 hw1 (k := 1) ⟨by decide, by decide⟩]) F (fun _ _ => rfl) alT_0 am_fp0
