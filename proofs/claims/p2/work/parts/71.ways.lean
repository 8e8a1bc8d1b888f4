def dN (N : Nat → Int32) (a b c e : Nat) : Nat → Int32 := upd (upd (upd (upd N 11 (nI e)) 10 (nI c)) 9 (nI b)) 8 (nI a)
def dD (N : Nat → Int32) (V : Nat) : Nat → Int32 := dN N (V / 1000 % 10) (V / 100 % 10) (V / 10 % 10) (V % 10)
theorem sa_d {N : Nat → Int32} {V : Nat} : saN N V = dD N V := by
  have e1 : V / 10 / 10 % 10 = V / 100 % 10 := by omega
  have e2 : V / 10 / 10 / 10 % 10 = V / 1000 % 10 := by omega
  unfold saN dD dN
  rw [e1, e2]
theorem dN_dN {N : Nat → Int32} {a b c e a' b' c' e' : Nat} : dN (dN N a b c e) a' b' c' e' = dN N a' b' c' e' := funext (fun i => by
  unfold dN
  by_cases h8 : i = 8
  · subst h8; rw [pk_us, pk_us]
  · rw [pk_un h8, pk_un h8]
    by_cases h9 : i = 9
    · subst h9; rw [pk_us, pk_us]
    · rw [pk_un h9, pk_un h9]
      by_cases h10 : i = 10
      · subst h10; rw [pk_us, pk_us]
      · rw [pk_un h10, pk_un h10]
        by_cases h11 : i = 11
        · subst h11; rw [pk_us, pk_us]
        · rw [pk_un h11, pk_un h11, pk_un h8, pk_un h9, pk_un h10, pk_un h11])
theorem sa_sa {N : Nat → Int32} {U V : Nat} : saN (dD N U) V = dD N V := by rw [sa_d]; exact dN_dN
theorem hs0_d (N : Nat → Int32) (a b c e : Nat) : hs0 (dN N a b c e) = 0 + N 12 * nI a + N 13 * nI b + N 14 * nI c + N 15 * nI e := rfl
theorem hs1_d (N : Nat → Int32) (a b c e : Nat) : hs1 (dN N a b c e) = 0 + N 16 * (9 - nI a) + N 17 * (9 - nI b) + N 18 * (9 - nI c) + N 19 * (9 - nI e) := rfl
theorem d_20 (N : Nat → Int32) (a b c e : Nat) : dN N a b c e 20 = N 20 := rfl
theorem d_21 (N : Nat → Int32) (a b c e : Nat) : dN N a b c e 21 = N 21 := rfl
theorem wy_c {a0 a1 b0 b1 : Int32} {wy : Nat → Int32} {h : am_H} (e0 : a0 = b0) (e1 : a1 = b1) (F : WY a0 a1 wy h) : WY b0 b1 wy h := by
  subst e0; subst e1; exact F
def WV (N : Nat → Int32) (V : Nat) (h : am_H) : Prop := ∃ wy, WY (hs0 (dD N V)) (hs1 (dD N V)) wy h ∧ wy 0 = nI (V / 1000 % 10) ∧ wy 1 = nI (V / 100 % 10) ∧ wy 2 = nI (V / 10 % 10) ∧ wy 3 = nI (V % 10)
def WVx (h : am_H) : Prop := ∃ a0 a1 wy, WY a0 a1 wy h
theorem nI9 : nI 9 = 9 := rfl
theorem nI0 : nI 0 = 0 := rfl
theorem st_1 (x y z w : Int32) : 0 + 9 * x + 9 * y + 9 * z + 9 * w = 0 + x * (9 - nI 0) + y * (9 - nI 0) + z * (9 - nI 0) + w * (9 - nI 0) := by rw [nI0]; grind
theorem st_0 (x y z w : Int32) : 0 = 0 + x * nI 0 + y * nI 0 + z * nI 0 + w * nI 0 := by rw [nI0]; grind
theorem stp_a0 {N : Nat → Int32} {a b c e : Nat} : hs0 (dN N a b c e) + N 15 = hs0 (dN N a b c (e + 1)) := by rw [hs0_d, hs0_d, nI_succ]; grind
theorem stp_a1 {N : Nat → Int32} {a b c e : Nat} : hs1 (dN N a b c e) - N 19 = hs1 (dN N a b c (e + 1)) := by rw [hs1_d, hs1_d, nI_succ]; grind
theorem stp_b0 {N : Nat → Int32} {a b c : Nat} : hs0 (dN N a b c 9) - 9 * N 15 + N 14 = hs0 (dN N a b (c + 1) 0) := by rw [hs0_d, hs0_d, nI9, nI0, nI_succ]; grind
theorem stp_b1 {N : Nat → Int32} {a b c : Nat} : hs1 (dN N a b c 9) + 9 * N 19 - N 18 = hs1 (dN N a b (c + 1) 0) := by rw [hs1_d, hs1_d, nI9, nI0, nI_succ]; grind
theorem stp_c0 {N : Nat → Int32} {a b : Nat} : hs0 (dN N a b 9 9) - 9 * N 15 - 9 * N 14 + N 13 = hs0 (dN N a (b + 1) 0 0) := by rw [hs0_d, hs0_d, nI9, nI0, nI_succ]; grind
theorem stp_c1 {N : Nat → Int32} {a b : Nat} : hs1 (dN N a b 9 9) + 9 * N 19 + 9 * N 18 - N 17 = hs1 (dN N a (b + 1) 0 0) := by rw [hs1_d, hs1_d, nI9, nI0, nI_succ]; grind
theorem stp_d0 {N : Nat → Int32} {a : Nat} : hs0 (dN N a 9 9 9) - 9 * N 15 - 9 * N 14 - 9 * N 13 + N 12 = hs0 (dN N (a + 1) 0 0 0) := by rw [hs0_d, hs0_d, nI9, nI0, nI_succ]; grind
theorem stp_d1 {N : Nat → Int32} {a : Nat} : hs1 (dN N a 9 9 9) + 9 * N 19 + 9 * N 18 + 9 * N 17 - N 16 = hs1 (dN N (a + 1) 0 0 0) := by rw [hs1_d, hs1_d, nI9, nI0, nI_succ]; grind
theorem stp_e0 {N : Nat → Int32} : hs0 (dN N 9 9 9 9) - 9 * N 15 - 9 * N 14 - 9 * N 13 - 9 * N 12 = hs0 (dN N 0 0 0 0) := by rw [hs0_d, hs0_d, nI0, nI9]; grind
theorem stp_e1 {N : Nat → Int32} : hs1 (dN N 9 9 9 9) + 9 * N 19 + 9 * N 18 + 9 * N 17 + 9 * N 16 = hs1 (dN N 0 0 0 0) := by rw [hs1_d, hs1_d, nI0, nI9]; grind
def spF (N X : Nat → Int32) : Int32 := if hs1 X - N 21 < hs0 X - N 20 then hs1 X - N 21 else hs0 X - N 20
theorem hs_nat {N : Nat → Int32} {fr c a b e f : Nat} (H : RG N fr c) (ha : a ≤ 9) (hb : b ≤ 9) (he : e ≤ 9) (hf : f ≤ 9) : ∃ p q u v, p ≤ 324 ∧ q ≤ 324 ∧ u ≤ 400 ∧ v ≤ 400 ∧ hs0 (dN N a b e f) = nI p ∧ hs1 (dN N a b e f) = nI q ∧ N 20 = nI u ∧ N 21 = nI v := by
  have hc := H.2.2.2.2.2.2.1
  have hh := H.2.2.2.2.2.2.2.1
  obtain ⟨x0, l0, e0⟩ := wi_nI (H := 9) (by decide) (by decide) (hc 0 (by omega))
  obtain ⟨x1, l1, e1⟩ := wi_nI (H := 9) (by decide) (by decide) (hc 1 (by omega))
  obtain ⟨x2, l2, e2⟩ := wi_nI (H := 9) (by decide) (by decide) (hc 2 (by omega))
  obtain ⟨x3, l3, e3⟩ := wi_nI (H := 9) (by decide) (by decide) (hc 3 (by omega))
  obtain ⟨x4, l4, e4⟩ := wi_nI (H := 9) (by decide) (by decide) (hc 4 (by omega))
  obtain ⟨x5, l5, e5⟩ := wi_nI (H := 9) (by decide) (by decide) (hc 5 (by omega))
  obtain ⟨x6, l6, e6⟩ := wi_nI (H := 9) (by decide) (by decide) (hc 6 (by omega))
  obtain ⟨x7, l7, e7⟩ := wi_nI (H := 9) (by decide) (by decide) (hc 7 (by omega))
  obtain ⟨u, lu, eu⟩ := wi_nI (H := 400) (by decide) (by decide) (hh 0 (by omega))
  obtain ⟨v, lv, ev⟩ := wi_nI (H := 400) (by decide) (by decide) (hh 1 (by omega))
  have m : ∀ x y : Nat, x ≤ 9 → y ≤ 9 → x * y ≤ 81 := fun x y h1 h2 => Nat.mul_le_mul h1 h2
  refine ⟨0 + x0 * a + x1 * b + x2 * e + x3 * f, 0 + x4 * (9 - a) + x5 * (9 - b) + x6 * (9 - e) + x7 * (9 - f), u, v, ?_, ?_, lu, lv, ?_, ?_, eu, ev⟩
  · have := m x0 a l0 ha; have := m x1 b l1 hb; have := m x2 e l2 he; have := m x3 f l3 hf; omega
  · have := m x4 (9 - a) l4 (by omega); have := m x5 (9 - b) l5 (by omega); have := m x6 (9 - e) l6 (by omega); have := m x7 (9 - f) l7 (by omega); omega
  · rw [hs0_d, show N 12 = nI x0 from e0, show N 13 = nI x1 from e1, show N 14 = nI x2 from e2, show N 15 = nI x3 from e3, pk_mul, pk_mul, pk_mul, pk_mul, ← nI0, nI_add, nI_add, nI_add, nI_add]
  · rw [hs1_d, show N 16 = nI x4 from e4, show N 17 = nI x5 from e5, show N 18 = nI x6 from e6, show N 19 = nI x7 from e7, ← nI9, pk_sub ha, pk_sub hb, pk_sub he, pk_sub hf, pk_mul, pk_mul, pk_mul, pk_mul, ← nI0, nI_add, nI_add, nI_add, nI_add]
theorem sp_pe {N : Nat → Int32} {fr c V : Nat} (H : RG N fr c) : (0 ≤ spF N (dD N V)) ↔ peace (dD N V) := by
  obtain ⟨p, q, u, v, lp, lq, lu, lv, e0, e1, eu, ev⟩ := hs_nat (a := V / 1000 % 10) (b := V / 100 % 10) (e := V / 10 % 10) (f := V % 10) H (by omega) (by omega) (by omega) (by omega)
  have t0 : (hs0 (dD N V) - N 20).toInt = (p : Int) - u := by rw [show hs0 (dD N V) = nI p from e0, eu]; exact pk_sub_toInt (by omega) (by omega)
  have t1 : (hs1 (dD N V) - N 21).toInt = (q : Int) - v := by rw [show hs1 (dD N V) = nI q from e1, ev]; exact pk_sub_toInt (by omega) (by omega)
  have z0 : (0 : Int32).toInt = 0 := rfl
  have pe : peace (dD N V) ↔ (u ≤ p ∧ v ≤ q) := by
    show (¬ hs0 (dD N V) < N 20 ∧ ¬ hs1 (dD N V) < N 21) ↔ _
    rw [show hs0 (dD N V) = nI p from e0, show hs1 (dD N V) = nI q from e1, eu, ev, nI_ltI (by omega) (by omega), nI_ltI (by omega) (by omega)]
    omega
  rw [pe]
  unfold spF
  by_cases r : hs1 (dD N V) - N 21 < hs0 (dD N V) - N 20
  · rw [if_pos r, Int32.le_iff_toInt_le, t1, z0]
    have r2 := Int32.lt_iff_toInt_lt.mp r
    rw [t0, t1] at r2
    omega
  · rw [if_neg r, Int32.le_iff_toInt_le, t0, z0]
    have r2 : ¬ (hs1 (dD N V) - N 21).toInt < (hs0 (dD N V) - N 20).toInt := fun z => r (Int32.lt_iff_toInt_lt.mpr z)
    rw [t0, t1] at r2
    omega
noncomputable def tkM (N : Nat → Int32) : Nat → Nat → Int32 → Int32
  | 0, _, s => s
  | m + 1, V, s => tkM N m (V + 1) (cI (peace (dD N V)) (s + 1) s)
noncomputable def frS (N : Nat → Int32) (V : Nat) (p : Option (Nat × Int32)) : Option (Nat × Int32) := cI (peace (dD N V)) (match p with
  | none => some (V, spF N (dD N V))
  | some q => if q.2 < spF N (dD N V) then some (V, spF N (dD N V)) else some q) p
noncomputable def frM (N : Nat → Int32) : Nat → Nat → Option (Nat × Int32) → Option (Nat × Int32)
  | 0, _, p => p
  | m + 1, V, p => frM N m (V + 1) (frS N V p)
def abD (x y : Int32) : Int32 := if 0 ≤ x - y then x - y else 0 - (x - y)
def diF (N X : Nat → Int32) : Int32 := 0 + abD (X 8) (N 8) + abD (X 9) (N 9) + abD (X 10) (N 10) + abD (X 11) (N 11)
noncomputable def neS (N : Nat → Int32) (V : Nat) (p : Option (Nat × Int32)) : Option (Nat × Int32) := cI (peace (dD N V)) (match p with
  | none => some (V, diF N (dD N V))
  | some q => if diF N (dD N V) < q.2 then some (V, diF N (dD N V)) else some q) p
noncomputable def neM (N : Nat → Int32) : Nat → Nat → Option (Nat × Int32) → Option (Nat × Int32)
  | 0, _, p => p
  | m + 1, V, p => neM N m (V + 1) (neS N V p)
def opN : Option (Nat × Int32) → Int32
  | none => -1
  | some p => nI p.1
noncomputable def trV (N : Nat → Int32) (w : Int32) : Int32 := cI (w = 0) (orN (opN (frM N 10000 0 none))) (cI (w = 1) (orN (opN (neM N 10000 0 none))) (-1000000001))
theorem abD_nat {x y : Int32} (hx : wi x 0 9) (hy : wi y 0 9) : ∃ k, k ≤ 9 ∧ abD x y = nI k := by
  obtain ⟨p, rfl⟩ := wi9 hx
  obtain ⟨q, rfl⟩ := wi9 hy
  clear hx hy
  revert p q
  decide
theorem diF_nat {N : Nat → Int32} {fr c V : Nat} (H : RG N fr c) : ∃ k, k ≤ 36 ∧ diF N (dD N V) = nI k := by
  have hs := H.2.2.2.2.2.1
  obtain ⟨k0, l0, e0⟩ := abD_nat (x := dD N V 8) (y := N 8) (wi_n0 (t := V / 1000 % 10) (c := 9) (by omega) (by omega)) (hs 0 (by omega))
  obtain ⟨k1, l1, e1⟩ := abD_nat (x := dD N V 9) (y := N 9) (wi_n0 (t := V / 100 % 10) (c := 9) (by omega) (by omega)) (hs 1 (by omega))
  obtain ⟨k2, l2, e2⟩ := abD_nat (x := dD N V 10) (y := N 10) (wi_n0 (t := V / 10 % 10) (c := 9) (by omega) (by omega)) (hs 2 (by omega))
  obtain ⟨k3, l3, e3⟩ := abD_nat (x := dD N V 11) (y := N 11) (wi_n0 (t := V % 10) (c := 9) (by omega) (by omega)) (hs 3 (by omega))
  refine ⟨0 + k0 + k1 + k2 + k3, by omega, ?_⟩
  unfold diF
  rw [e0, e1, e2, e3, ← nI0, nI_add, nI_add, nI_add, nI_add]
