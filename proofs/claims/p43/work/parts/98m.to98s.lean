theorem rg_cg {N M : Nat → Int32} {fr c c' : Nat} (H : RG N fr c) (h : ∀ k, k < 62 → k ≠ 7 → M k = N k) (h7 : M 7 = nI c') (hc : c' ≤ 14) : RG M fr c' := by
  obtain ⟨h1, h2, h3, h4, h5, h6, h8, h9, h10, h11, h12, h13⟩ := H
  refine ⟨(h 1 (by omega) (by omega)).trans h1, h2, h7, hc, fun f hf => ?_, fun t ht => ?_, fun j hj => ?_, fun s hs => ?_, ?_, ?_, ?_, ?_⟩
  · rw [h (22 + 5 * f) (by omega) (by omega), h (23 + 5 * f) (by omega) (by omega), h (24 + 5 * f) (by omega) (by omega)]; exact h5 f hf
  · rw [h (8 + t) (by omega) (by omega)]; exact h6 t ht
  · rw [h (12 + j) (by omega) (by omega)]; exact h8 j hj
  · rw [h (20 + s) (by omega) (by omega)]; exact h9 s hs
  · rw [h 2 (by omega) (by omega)]; exact h10
  · rw [h 3 (by omega) (by omega)]; exact h11
  · rw [h 4 (by omega) (by omega)]; exact h12
  · rw [h 5 (by omega) (by omega)]; exact h13
theorem rg_tx {N : Nat → Int32} {fr c j at_ : Nat} {cs : List Int32} (H : RG N fr c) (hc : c < 14) (hl : cs.length ≤ 96) : RG (txN N c j cs at_) fr (c + 1) := by
  obtain ⟨d1, d2, d3, d4, d5⟩ := tx_hd (N := N) (j := j) (at_ := at_) (cs := cs) hc hl
  exact rg_cg H (fun k h1 h2 => d5 k h2 (by omega) (by omega) (by omega)) d3 (by omega)
theorem qr_cg {b : Nat} {N M : Nat → Int32} {tx : List Value} {lk mv : Nat → Int32} {h : am_H} (H : QR b N tx lk mv h) (e : ∀ k, k < 62 → M k = N k) : QR b M tx lk mv h := by
  obtain ⟨f0, f1, f2, f3, f4, f5, f6, f7, f8, f9, f10, f11⟩ := H
  refine ⟨?_, f1.trans ?_, f2.trans ?_, f3.trans ?_, f4.trans ?_, f5.trans ?_, f6.trans ?_, f7.trans ?_, f8.trans ?_, f9, f10, f11⟩
  · rw [f0]; simp only [QO, e 0 (by omega), e 1 (by omega), e 2 (by omega), e 3 (by omega), e 4 (by omega), e 5 (by omega), e 6 (by omega), e 7 (by omega)]
  all_goals exact congrArg (fun l : List Int32 => (some (.inl (0, l)) : Option am_AC)) (tl_congr (fun i hi => (e _ (by omega)).symm))
theorem qr_txn {N : Nat → Int32} {tx : List Value} {lk mv : Nat → Int32} {h : am_H} {c j at_ : Nat} {cs : List Int32} (hc : c < 14) (hl : cs.length ≤ 96) (H : QR 1 (upd N 7 (nI (c + 1))) tx lk mv h) : QR 1 (txN N c j cs at_) tx lk mv h := by
  obtain ⟨d1, d2, d3, d4, d5⟩ := tx_hd (N := N) (j := j) (at_ := at_) (cs := cs) hc hl
  refine qr_cg H (fun k hk => ?_)
  by_cases q : k = 7
  · subst q; rw [pk_us]; exact d3
  · rw [pk_un q]; exact d5 k q (by omega) (by omega) (by omega)
theorem rg_u {N : Nat → Int32} {fr c k : Nat} {v : Int32} (H : RG N fr c) (k1 : k ≠ 1) (k7 : k ≠ 7) (hk : ∀ f, f < 8 → k = 22 + 5 * f → wi v 0 5) (hs : ∀ f, f < 8 → k = 23 + 5 * f → wi v 0 1) (hp : ∀ f, f < 8 → k = 24 + 5 * f → wi v 0 99) (ht : ∀ t, t < 4 → k = 8 + t → wi v 0 9) (hj : ∀ j, j < 8 → k = 12 + j → wi v 0 9) (hh : ∀ s, s < 2 → k = 20 + s → wi v 0 400) (h2 : k = 2 → wi v 0 9999) (h3 : k = 3 → wi v 0 99) (h4 : k = 4 → wi v 1 99) (h5 : k = 5 → wi v 0 100) : RG (upd N k v) fr c := by
  have U : ∀ {q : Nat} {lo hi : Int32}, wi (N q) lo hi → (k = q → wi v lo hi) → wi (upd N k v q) lo hi := by
    intro q lo hi a b
    by_cases e : q = k
    · subst e; rw [pk_us]; exact b rfl
    · rw [pk_un e]; exact a
  obtain ⟨g1, g2, g3, g4, g5, g6, g8, g9, g10, g11, g12, g13⟩ := H
  exact ⟨(pk_un (Ne.symm k1)).trans g1, g2, (pk_un (Ne.symm k7)).trans g3, g4, (fun f hf => ⟨U (g5 f hf).1 (hk f hf), U (g5 f hf).2.1 (hs f hf), U (g5 f hf).2.2 (hp f hf)⟩), (fun t h => U (g6 t h) (ht t h)), (fun j h => U (g8 j h) (hj j h)), (fun s h => U (g9 s h) (hh s h)), U g10 h2, U g11 h3, U g12 h4, U g13 h5⟩
theorem rg_0 {N : Nat → Int32} {fr c : Nat} {v : Int32} (H : RG N fr c) : RG (upd N 0 v) fr c := rg_u H (by omega) (by omega) (fun _ _ e => by omega) (fun _ _ e => by omega) (fun _ _ e => by omega) (fun _ _ e => by omega) (fun _ _ e => by omega) (fun _ _ e => by omega) (fun e => by omega) (fun e => by omega) (fun e => by omega) (fun e => by omega)
theorem fN_b {x hi : Int32} {H : Nat} (h1 : hi.toInt = H) (hH : H < 1000) (h : wi x 0 hi) : fN x ≤ H := by
  obtain ⟨q, hq, e⟩ := wi_nI (H := H) h1 (by decide) h
  subst e
  rw [fN_nI (by omega)]
  exact hq
theorem fN_f {N : Nat → Int32} {fr c : Nat} {f : Int32} (H : RG N fr c) (h : wi f 0 (N 1 - 1)) : fN f < 8 := by
  obtain ⟨j, hj, e⟩ := wi_idx H.1 (by have z := H.2.1; omega) h
  subst e
  have z := H.2.1
  rw [fN_nI (by omega)]; omega
theorem rg_tu {N : Nat → Int32} {fr c : Nat} {f k : Int32} (H : RG N fr c) : RG (tuN N f k) fr c := by
  unfold tuN
  by_cases q : wi f 0 (N 1 - 1) ∧ wi k 0 5
  · rw [cI_t q]
    have hf := fN_f H q.1
    exact rg_u H (by omega) (by omega) (fun _ _ _ => q.2) (fun _ _ e => by omega) (fun _ _ e => by omega) (fun _ _ e => by omega) (fun _ _ e => by omega) (fun _ _ e => by omega) (fun e => by omega) (fun e => by omega) (fun e => by omega) (fun e => by omega)
  · rw [cI_f q]; exact H
theorem rg_se {N : Nat → Int32} {fr c : Nat} {f w v : Int32} (H : RG N fr c) : RG (seN N f w v) fr c := by
  unfold seN
  by_cases q : wi f 0 (N 1 - 1)
  · rw [cI_t q]
    have hf := fN_f H q
    by_cases q1 : w = 1
    · rw [cI_t q1]
      by_cases q2 : wi v 0 1
      · rw [cI_t q2]
        exact rg_u H (by omega) (by omega) (fun _ _ e => by omega) (fun _ _ _ => q2) (fun _ _ e => by omega) (fun _ _ e => by omega) (fun _ _ e => by omega) (fun _ _ e => by omega) (fun e => by omega) (fun e => by omega) (fun e => by omega) (fun e => by omega)
      · rw [cI_f q2]; exact H
    · rw [cI_f q1]
      by_cases q3 : w = 2
      · rw [cI_t q3]
        by_cases q2 : wi v 0 99
        · rw [cI_t q2]
          exact rg_u H (by omega) (by omega) (fun _ _ e => by omega) (fun _ _ e => by omega) (fun _ _ _ => q2) (fun _ _ e => by omega) (fun _ _ e => by omega) (fun _ _ e => by omega) (fun e => by omega) (fun e => by omega) (fun e => by omega) (fun e => by omega)
        · rw [cI_f q2]; exact H
      · rw [cI_f q3]; exact H
  · rw [cI_f q]; exact H
theorem rg_st {N : Nat → Int32} {fr c : Nat} {t v : Int32} (H : RG N fr c) : RG (stN N t v) fr c := by
  unfold stN
  by_cases q : wi t 0 3 ∧ wi v 0 9
  · rw [cI_t q]
    have hf := fN_b (H := 3) (by decide) (by decide) q.1
    exact rg_u H (by omega) (by omega) (fun _ _ e => by omega) (fun _ _ e => by omega) (fun _ _ e => by omega) (fun _ _ _ => q.2) (fun _ _ _ => q.2) (fun _ _ e => by omega) (fun e => by omega) (fun e => by omega) (fun e => by omega) (fun e => by omega)
  · rw [cI_f q]; exact H
theorem rg_ca {N : Nat → Int32} {fr c : Nat} {s t v : Int32} (H : RG N fr c) : RG (caN N s t v) fr c := by
  unfold caN
  by_cases q : wi s 0 1 ∧ wi t 0 3 ∧ wi v 0 9
  · rw [cI_t q]
    have hf := fN_b (H := 1) (by decide) (by decide) q.1
    have hg := fN_b (H := 3) (by decide) (by decide) q.2.1
    exact rg_u H (by omega) (by omega) (fun _ _ e => by omega) (fun _ _ e => by omega) (fun _ _ e => by omega) (fun _ _ _ => q.2.2) (fun _ _ _ => q.2.2) (fun _ _ e => by omega) (fun e => by omega) (fun e => by omega) (fun e => by omega) (fun e => by omega)
  · rw [cI_f q]; exact H
theorem rg_ho {N : Nat → Int32} {fr c : Nat} {s v : Int32} (H : RG N fr c) : RG (hoN N s v) fr c := by
  unfold hoN
  by_cases q : wi s 0 1 ∧ wi v 0 400
  · rw [cI_t q]
    have hf := fN_b (H := 1) (by decide) (by decide) q.1
    exact rg_u H (by omega) (by omega) (fun _ _ e => by omega) (fun _ _ e => by omega) (fun _ _ e => by omega) (fun _ _ e => by omega) (fun _ _ e => by omega) (fun _ _ _ => q.2) (fun e => by omega) (fun e => by omega) (fun e => by omega) (fun e => by omega)
  · rw [cI_f q]; exact H
theorem rg_ru {N : Nat → Int32} {fr c : Nat} {w v : Int32} (H : RG N fr c) : RG (ruN N w v) fr c := by
  unfold ruN
  by_cases q : w = 0 ∧ wi v 0 99
  · rw [cI_t q]
    exact rg_u H (by omega) (by omega) (fun _ _ e => by omega) (fun _ _ e => by omega) (fun _ _ e => by omega) (fun _ _ e => by omega) (fun _ _ e => by omega) (fun _ _ e => by omega) (fun e => by omega) (fun _ => q.2) (fun e => by omega) (fun e => by omega)
  · rw [cI_f q]
    by_cases q1 : w = 1 ∧ wi v 1 99
    · rw [cI_t q1]
      exact rg_u H (by omega) (by omega) (fun _ _ e => by omega) (fun _ _ e => by omega) (fun _ _ e => by omega) (fun _ _ e => by omega) (fun _ _ e => by omega) (fun _ _ e => by omega) (fun e => by omega) (fun e => by omega) (fun _ => q1.2) (fun e => by omega)
    · rw [cI_f q1]
      by_cases q2 : w = 2 ∧ wi v 0 100
      · rw [cI_t q2]
        exact rg_u H (by omega) (by omega) (fun _ _ e => by omega) (fun _ _ e => by omega) (fun _ _ e => by omega) (fun _ _ e => by omega) (fun _ _ e => by omega) (fun _ _ e => by omega) (fun e => by omega) (fun e => by omega) (fun e => by omega) (fun _ => q2.2)
      · rw [cI_f q2]; exact H
theorem rg_f {N : Nat → Int32} {fr c q : Nat} {v : Int32} (H : RG N fr c) (hq : 25 ≤ q) (h : ∀ f, f < 8 → q ≠ 22 + 5 * f ∧ q ≠ 23 + 5 * f ∧ q ≠ 24 + 5 * f) : RG (upd N q v) fr c := rg_u H (by omega) (by omega) (fun f hf e => absurd e (h f hf).1) (fun f hf e => absurd e (h f hf).2.1) (fun f hf e => absurd e (h f hf).2.2) (fun _ _ e => by omega) (fun _ _ e => by omega) (fun _ _ e => by omega) (fun e => by omega) (fun e => by omega) (fun e => by omega) (fun e => by omega)
theorem rg_n {N : Nat → Int32} {fr c : Nat} {fr' : Nat} (H : RG N fr c) (h : fr' ≤ 8) : RG (upd N 1 (nI fr')) fr' c := by
  obtain ⟨g1, g2, g3, g4, g5, g6, g8, g9, g10, g11, g12, g13⟩ := H
  refine ⟨pk_us, h, (pk_un (by omega)).trans g3, g4, fun f hf => ?_, fun t h => ?_, fun j h => ?_, fun s h => ?_, ?_, ?_, ?_, ?_⟩
  · rw [pk_un (by omega), pk_un (by omega), pk_un (by omega)]; exact g5 f hf
  · rw [pk_un (by omega)]; exact g6 t h
  · rw [pk_un (by omega)]; exact g8 j h
  · rw [pk_un (by omega)]; exact g9 s h
  · rw [pk_un (by omega)]; exact g10
  · rw [pk_un (by omega)]; exact g11
  · rw [pk_un (by omega)]; exact g12
  · rw [pk_un (by omega)]; exact g13
theorem rg_add {N : Nat → Int32} {fr c : Nat} {k s p : Int32} (H : RG N fr c) (h8 : fr < 8) (hk : wi k 0 5) (hs : wi s 0 1) (hp : wi p 0 99) : RG (addN N fr k s p) (fr + 1) c := by
  unfold addN
  have a1 : RG (upd N (22 + 5 * fr) k) fr c := rg_u H (by omega) (by omega) (fun _ _ _ => hk) (fun _ _ e => by omega) (fun _ _ e => by omega) (fun _ _ e => by omega) (fun _ _ e => by omega) (fun _ _ e => by omega) (fun e => by omega) (fun e => by omega) (fun e => by omega) (fun e => by omega)
  have a2 : RG (upd (upd N (22 + 5 * fr) k) (23 + 5 * fr) s) fr c := rg_u a1 (by omega) (by omega) (fun _ _ e => by omega) (fun _ _ _ => hs) (fun _ _ e => by omega) (fun _ _ e => by omega) (fun _ _ e => by omega) (fun _ _ e => by omega) (fun e => by omega) (fun e => by omega) (fun e => by omega) (fun e => by omega)
  have a3 : RG (upd (upd (upd N (22 + 5 * fr) k) (23 + 5 * fr) s) (24 + 5 * fr) p) fr c := rg_u a2 (by omega) (by omega) (fun _ _ e => by omega) (fun _ _ e => by omega) (fun _ _ _ => hp) (fun _ _ e => by omega) (fun _ _ e => by omega) (fun _ _ e => by omega) (fun e => by omega) (fun e => by omega) (fun e => by omega) (fun e => by omega)
  exact rg_n (rg_f (rg_f a3 (by omega) (fun f hf => by omega)) (by omega) (fun f hf => by omega)) (by omega)
theorem rg_fr {N : Nat → Int32} {fr c : Nat} {k s p : Int32} (H : RG N fr c) : ∃ fr', RG (frN N fr k s p) fr' c := by
  unfold frN
  by_cases q : wi k 0 5 ∧ wi s 0 1 ∧ wi p 0 99
  · rw [cI_t q]
    by_cases q1 : fr < 8
    · rw [cI_t q1]; exact ⟨_, rg_add H q1 q.1 q.2.1 q.2.2⟩
    · rw [cI_f q1]; exact ⟨_, H⟩
  · rw [cI_f q]; exact ⟨_, H⟩
theorem bmT {z : Nat} (h : z < 2 ^ 24) : ((z : Int)).bmod (2 ^ 32) = z := by
  apply Int.bmod_eq_of_le
  · show -((4294967296 : Int) / 2) ≤ (z : Int)
    omega
  · show (z : Int) < ((4294967296 : Int) + 1) / 2
    omega
theorem remT (x : Int32) (q : Nat) (k : Int32) (m : Nat) (hx : x.toInt = q) (hq : q < 2 ^ 24) (hk : k.toInt = m) : (x - x / k * k).toInt = ((q % m : Nat) : Int) := by
  have h1 : (x / k).toInt = ((q / m : Nat) : Int) := by
    rw [Int32.toInt_div, hx, hk]
    show (((q / m : Nat) : Int)).bmod (2 ^ 32) = _
    exact bmT (Nat.lt_of_le_of_lt (Nat.div_le_self q m) hq)
  have hd := Nat.div_add_mod q m
  have h2 : (x / k * k).toInt = ((q / m * m : Nat) : Int) := by
    rw [Int32.toInt_mul, h1, hk]
    show (((q / m * m : Nat) : Int)).bmod (2 ^ 32) = _
    exact bmT (Nat.lt_of_le_of_lt (Nat.div_mul_le_self q m) hq)
  rw [Int32.toInt_sub, h2, hx]
  have e : q = q / m * m + q % m := by rw [Nat.mul_comm]; exact hd.symm
  have e2 : (q : Int) - ((q / m * m : Nat) : Int) = ((q % m : Nat) : Int) := by omega
  rw [e2]
  exact bmT (Nat.lt_of_le_of_lt (Nat.mod_le q m) hq)
theorem drT (x : Int32) : ∃ q : Nat, q < 2 ^ 24 ∧ ((x.toUInt32 >>> (Int32.toUInt32 8 &&& Int32.toUInt32 31)).toInt32).toInt = q := by
  have e : Int32.toUInt32 8 &&& Int32.toUInt32 31 = 8 := by decide
  rw [e]
  have h1 : (x.toUInt32 >>> 8).toNat = x.toUInt32.toNat >>> 8 := by
    rw [UInt32.toNat_shiftRight]; rfl
  refine ⟨x.toUInt32.toNat >>> 8, ?_, ?_⟩
  · rw [Nat.shiftRight_eq_div_pow]
    have := x.toUInt32.toNat_lt
    omega
  · have h2 : (x.toUInt32 >>> 8).toNat < 2 ^ 24 := by
      rw [h1, Nat.shiftRight_eq_div_pow]
      have := x.toUInt32.toNat_lt
      omega
    rw [← h1]
    generalize x.toUInt32 >>> 8 = y at h2
    show y.toInt32.toInt = _
    rw [UInt32.toInt32, Int32.toInt]
    show y.toBitVec.toInt = _
    rw [BitVec.toInt_eq_toNat_of_lt]
    · rfl
    · show 2 * y.toNat < 2 ^ 32
      omega
theorem wiT {x : Int32} {z m : Nat} {lo hi : Int32} (hx : x.toInt = z) (hl : lo.toInt = 0) (hh : hi.toInt = m) (h : z ≤ m) : wi x lo hi := by
  refine ⟨?_, ?_⟩
  · rw [Int32.lt_iff_toInt_lt, hx, hl]; omega
  · rw [Int32.lt_iff_toInt_lt, hx, hh]; omega
theorem rmT (N : Nat → Int32) (k hi : Int32) {m : Nat} (hk : k.toInt = m) (hm : 0 < m) (hh : hi.toInt = ((m - 1 : Nat) : Int)) : wi (remK (drawV N) k) 0 hi := by
  obtain ⟨q, hq, e⟩ := drT (drawZ N)
  refine wiT (remT _ q k m e hq hk) (by decide) hh ?_
  have := Nat.mod_lt q hm
  omega
theorem rg_dl : ∀ (m fr : Nat) (N : Nat → Int32) {c : Nat}, fr + m ≤ 8 → RG N fr c → RG (dlN m fr N) (fr + m) c := by
  intro m
  induction m with
  | zero => intro fr N c _ H; exact H
  | succ m ih =>
    intro fr N c h H
    have H1 : RG (dlS N fr) (fr + 1) c := rg_add (rg_0 (rg_0 (rg_0 H))) (by omega) (rmT _ 6 5 (m := 6) (by decide) (by decide) (by decide)) (rmT _ 2 1 (m := 2) (by decide) (by decide) (by decide)) (rmT _ 100 99 (m := 100) (by decide) (by decide) (by decide))
    have H2 := ih (fr + 1) (dlS N fr) (by omega) H1
    have e : fr + 1 + m = fr + (m + 1) := by omega
    rw [e] at H2
    exact H2
def kpt (N M : Nat → Int32) : Prop := M 7 = N 7 ∧ ∀ k, 62 ≤ k → M k = N k
theorem kpt0 {N : Nat → Int32} : kpt N N := ⟨rfl, fun _ _ => rfl⟩
theorem kpt_u {N M : Nat → Int32} {k : Nat} {v : Int32} (h7 : k ≠ 7) (h : k < 62) (H : kpt N M) : kpt N (upd M k v) := ⟨(pk_un (Ne.symm h7)).trans H.1, fun j hj => (pk_un (by omega)).trans (H.2 j hj)⟩
theorem kpt_t {N M K : Nat → Int32} (h1 : kpt N M) (h2 : kpt M K) : kpt N K := ⟨h2.1.trans h1.1, fun k hk => (h2.2 k hk).trans (h1.2 k hk)⟩
theorem kpt_tc {tb : TB} {tx : List Value} {lk N M : Nat → Int32} {c : Nat} (h : kpt N M) (H : TC tb tx lk N c) : TC tb tx lk M c := tc_keep h.1 h.2 H
theorem kpt_add {N M : Nat → Int32} {f : Nat} {k s p : Int32} (hf : f < 8) (H : kpt N M) : kpt N (addN M f k s p) := kpt_u (by omega) (by omega) (kpt_u (by omega) (by omega) (kpt_u (by omega) (by omega) (kpt_u (by omega) (by omega) (kpt_u (by omega) (by omega) (kpt_u (by omega) (by omega) H)))))
theorem kpt_fr {N : Nat → Int32} {fr : Nat} {k s p : Int32} : kpt N (frN N fr k s p) := by
  unfold frN
  by_cases q : wi k 0 5 ∧ wi s 0 1 ∧ wi p 0 99
  · rw [cI_t q]
    by_cases q1 : fr < 8
    · rw [cI_t q1]; exact kpt_add q1 kpt0
    · rw [cI_f q1]; exact kpt0
  · rw [cI_f q]; exact kpt0
theorem kpt_tu {N : Nat → Int32} {fr c : Nat} {f k : Int32} (H : RG N fr c) : kpt N (tuN N f k) := by
  unfold tuN
  by_cases q : wi f 0 (N 1 - 1) ∧ wi k 0 5
  · rw [cI_t q]
    have hf := fN_f H q.1
    exact kpt_u (by omega) (by omega) kpt0
  · rw [cI_f q]; exact kpt0
theorem kpt_se {N : Nat → Int32} {fr c : Nat} {f w v : Int32} (H : RG N fr c) : kpt N (seN N f w v) := by
  unfold seN
  by_cases q : wi f 0 (N 1 - 1)
  · rw [cI_t q]
    have hf := fN_f H q
    by_cases q1 : w = 1
    · rw [cI_t q1]
      by_cases q2 : wi v 0 1
      · rw [cI_t q2]; exact kpt_u (by omega) (by omega) kpt0
      · rw [cI_f q2]; exact kpt0
    · rw [cI_f q1]
      by_cases q3 : w = 2
      · rw [cI_t q3]
        by_cases q2 : wi v 0 99
        · rw [cI_t q2]; exact kpt_u (by omega) (by omega) kpt0
        · rw [cI_f q2]; exact kpt0
      · rw [cI_f q3]; exact kpt0
  · rw [cI_f q]; exact kpt0
theorem kpt_st {N : Nat → Int32} {t v : Int32} : kpt N (stN N t v) := by
  unfold stN
  by_cases q : wi t 0 3 ∧ wi v 0 9
  · rw [cI_t q]
    have hf := fN_b (H := 3) (by decide) (by decide) q.1
    exact kpt_u (by omega) (by omega) kpt0
  · rw [cI_f q]; exact kpt0
theorem kpt_ca {N : Nat → Int32} {s t v : Int32} : kpt N (caN N s t v) := by
  unfold caN
  by_cases q : wi s 0 1 ∧ wi t 0 3 ∧ wi v 0 9
  · rw [cI_t q]
    have hf := fN_b (H := 1) (by decide) (by decide) q.1
    have hg := fN_b (H := 3) (by decide) (by decide) q.2.1
    exact kpt_u (by omega) (by omega) kpt0
  · rw [cI_f q]; exact kpt0
theorem kpt_ho {N : Nat → Int32} {s v : Int32} : kpt N (hoN N s v) := by
  unfold hoN
  by_cases q : wi s 0 1 ∧ wi v 0 400
  · rw [cI_t q]
    have hf := fN_b (H := 1) (by decide) (by decide) q.1
    exact kpt_u (by omega) (by omega) kpt0
  · rw [cI_f q]; exact kpt0
theorem kpt_ru {N : Nat → Int32} {w v : Int32} : kpt N (ruN N w v) := by
  unfold ruN
  by_cases q : w = 0 ∧ wi v 0 99
  · rw [cI_t q]; exact kpt_u (by omega) (by omega) kpt0
  · rw [cI_f q]
    by_cases q1 : w = 1 ∧ wi v 1 99
    · rw [cI_t q1]; exact kpt_u (by omega) (by omega) kpt0
    · rw [cI_f q1]
      by_cases q2 : w = 2 ∧ wi v 0 100
      · rw [cI_t q2]; exact kpt_u (by omega) (by omega) kpt0
      · rw [cI_f q2]; exact kpt0
theorem kpt_dl {N : Nat → Int32} : ∀ (m f : Nat) (M : Nat → Int32), f + m ≤ 8 → kpt N M → kpt N (dlN m f M) := by
  intro m
  induction m with
  | zero => intro f M _ H; exact H
  | succ m ih => intro f M h H; exact ih (f + 1) (dlS M f) (by omega) (kpt_add (by omega) (kpt_u (by omega) (by omega) (kpt_u (by omega) (by omega) (kpt_u (by omega) (by omega) H))))
theorem po_all {z s : Nat} {cl N0 : Nat → Int32} {fr c : Nat} : ∀ (m t : Nat) (p : (Nat → Int32) × Int32), t + m ≤ 4 → RG p.1 fr c → kpt N0 p.1 → RG (poM z cl s m t p).1 fr c ∧ kpt N0 (poM z cl s m t p).1 := by
  intro m
  induction m with
  | zero => intro t p _ H K; exact ⟨H, K⟩
  | succ m ih =>
    intro t p h H K
    have H1 : RG (poS z cl s t p).1 fr c ∧ kpt N0 (poS z cl s t p).1 := by
      unfold poS
      by_cases q1 : t < z
      · rw [if_pos q1]
        by_cases q2 : cl (24 * s + t) = (-1000000005)
        · rw [if_pos q2]; exact ⟨H, K⟩
        · rw [if_neg q2]
          by_cases q3 : hw (cl (24 * s + t)) 9 = p.1 (8 + t)
          · rw [if_pos q3]; exact ⟨H, K⟩
          · rw [if_neg q3]
            exact ⟨rg_u H (by omega) (by omega) (fun _ _ e => by omega) (fun _ _ e => by omega) (fun _ _ e => by omega) (fun _ _ _ => hw9 _) (fun _ _ _ => hw9 _) (fun _ _ e => by omega) (fun e => by omega) (fun e => by omega) (fun e => by omega) (fun e => by omega), kpt_u (by omega) (by omega) K⟩
      · rw [if_neg q1]; exact ⟨H, K⟩
    exact ih (t + 1) (poS z cl s t p) (by omega) H1.1 H1.2
theorem pa_all {sr sz cl N : Nat → Int32} {fr c : Nat} {s : Int32} (H : RG N fr c) : RG (paN sr sz cl N s) fr c ∧ kpt N (paN sr sz cl N s) := by
  unfold paN
  by_cases q : wi s 0 3
  · rw [cI_t q]
    by_cases q1 : sr (fN s) = -1
    · rw [cI_t q1]; exact ⟨H, kpt0⟩
    · rw [cI_f q1]; exact po_all 4 0 (N, 0) (by omega) H kpt0
  · rw [cI_f q]; exact ⟨H, kpt0⟩
theorem go_at2 {c fr m : Nat} {wo : Int32} {N : Nat → Int32} : goF c fr wo m N 2 = N 2 + nI m := by
  have e : upd N 2 (N 2) = N := funext (fun i => by
    by_cases q : i = 2
    · subst q; exact pk_us
    · exact pk_un q)
  have z := goF_2 (c := c) (fr := fr) (wo := wo) m N (N 2)
  rw [e] at z
  rw [z]; exact pk_us
theorem rg_go {c fr m pp : Nat} {wo : Int32} {N : Nat → Int32} (H : RG N fr c) (h2 : N 2 = nI pp) (hp : pp + m ≤ 9999) : RG (goF c fr wo m N) fr c := by
  have K := rk_go (c := c) (fr := fr) (wo := wo) m N (rg_rk H)
  obtain ⟨g1, g2, g3, g4, g5, g6, g8, g9, g10, g11, g12, g13⟩ := H
  obtain ⟨a1, a2, a3, a4, a5, a6, a7, a8⟩ := K
  have U : ∀ k, (k = 4 ∨ k = 5 ∨ k = 20 ∨ k = 21) → goF c fr wo m N k = N k := fun k hk => goF_k g2 (by omega) (by omega) (by omega) (by omega) (by omega) (by omega) m N
  refine ⟨a1, a2, a3, a4, a5, a6, a7, fun s hs => ?_, ?_, a8, ?_, ?_⟩
  · rw [U (20 + s) (by omega)]; exact g9 s hs
  · rw [go_at2, h2]
    have e : nI pp + nI m = nI (pp + m) := by rw [nI_add]
    rw [e]
    exact wiT (m := 9999) (nI_toInt (by omega)) (by decide) (by decide) (by omega)
  · rw [U 4 (by omega)]; exact g12
  · rw [U 5 (by omega)]; exact g13
theorem kpt_go {c fr m : Nat} {wo : Int32} {N : Nat → Int32} (hfr : fr ≤ 8) : kpt N (goF c fr wo m N) := ⟨goF_k hfr (by omega) (by omega) (by omega) (by omega) (by omega) (by omega) m N, fun k hk => goF_62 hfr hk⟩
theorem tq_frame {h h9 : am_H} (F : TQ h) (e : ∀ k, 13 ≤ k → k < 25 → h9 k = h k) : TQ h9 := by
  obtain ⟨N1, tx1, lk1, mv1, H, hl⟩ := F
  exact ⟨N1, tx1, lk1, mv1, qr_frame H (fun k h1 h2 => e k h1 (by omega)), hl⟩
theorem wvx_frame {h h9 : am_H} (F : WVx h) (h0 : h9 37 = h 37) (h1 : h9 38 = h 38) : WVx h9 := by
  obtain ⟨a0, a1, wy, H⟩ := F
  exact ⟨a0, a1, wy, wy_frame H h0 h1⟩
def BB (o M : Nat → Int32) (a : Nat → Nat → Int32) (ik wc : Int32) (N : Nat → Int32) (tx : List Value) (lk mv : Nat → Int32) (NI : Nat → Int32) (txI : List Value) (lkI mvI : Nat → Int32) (r : Nat → Int32) (tn : Int32) (tp cd : Nat → Int32) (sr sz cl : Nat → Int32) (th kd pr nu ss zs hc : Nat → Int32) (wt : Nat → Int32) (tb : TB) (h : am_H) : Prop := MR o M a h ∧ OB ik wc h ∧ QR 1 N tx lk mv h ∧ TQ h ∧ QR 25 NI txI lkI mvI h ∧ WVx h ∧ RD r tn tp cd h ∧ RW sr sz cl h ∧ SL th kd pr nu ss zs hc h ∧ WT wt h ∧ TT tb h
theorem bb_m {o M : Nat → Int32} {a : Nat → Nat → Int32} {ik wc : Int32} {N : Nat → Int32} {tx : List Value} {lk mv : Nat → Int32} {NI : Nat → Int32} {txI : List Value} {lkI mvI : Nat → Int32} {r : Nat → Int32} {tn : Int32} {tp cd : Nat → Int32} {sr sz cl : Nat → Int32} {th kd pr nu ss zs hc : Nat → Int32} {wt : Nat → Int32} {tb : TB} {o9 M9 : Nat → Int32} {a9 : Nat → Nat → Int32} {h h9 : am_H} (H : BB o M a ik wc N tx lk mv NI txI lkI mvI r tn tp cd sr sz cl th kd pr nu ss zs hc wt tb h) (KM : MR o9 M9 a9 h9) (e : am_fp (fun k => k < 69 ∨ 92 ≤ k) h9 h) : BB o9 M9 a9 ik wc N tx lk mv NI txI lkI mvI r tn tp cd sr sz cl th kd pr nu ss zs hc wt tb h9 := by
  obtain ⟨HM, HO, HF, HT, HI, HY, HD, HR, HS, HW, HG⟩ := H
  exact ⟨KM, ob_frame HO (e 0 (show 0 < 69 ∨ 92 ≤ 0 by omega)) (e 43 (show 43 < 69 ∨ 92 ≤ 43 by omega)) (e 44 (show 44 < 69 ∨ 92 ≤ 44 by omega)), qr_frame HF (fun k h1 h2 => e k (show k < 69 ∨ 92 ≤ k by omega)), tq_frame HT (fun k h1 h2 => e k (show k < 69 ∨ 92 ≤ k by omega)), qr_frame HI (fun k h1 h2 => e k (show k < 69 ∨ 92 ≤ k by omega)), wvx_frame HY (e 37 (show 37 < 69 ∨ 92 ≤ 37 by omega)) (e 38 (show 38 < 69 ∨ 92 ≤ 38 by omega)), rd_frame HD (fun k h1 h2 => e k (show k < 69 ∨ 92 ≤ k by omega)), rw_frame HR (fun k h1 h2 => e k (show k < 69 ∨ 92 ≤ k by omega)), sl_frame HS (fun k h1 h2 => e k (show k < 69 ∨ 92 ≤ k by omega)), (e 45 (show 45 < 69 ∨ 92 ≤ 45 by omega)).trans HW, tt_frame HG (fun k h1 => e k (show k < 69 ∨ 92 ≤ k by omega))⟩
theorem bb_q {o M : Nat → Int32} {a : Nat → Nat → Int32} {ik wc : Int32} {N : Nat → Int32} {tx : List Value} {lk mv : Nat → Int32} {NI : Nat → Int32} {txI : List Value} {lkI mvI : Nat → Int32} {r : Nat → Int32} {tn : Int32} {tp cd : Nat → Int32} {sr sz cl : Nat → Int32} {th kd pr nu ss zs hc : Nat → Int32} {wt : Nat → Int32} {tb : TB} {N9 : Nat → Int32} {tx9 : List Value} {lk9 mv9 : Nat → Int32} {h h9 : am_H} (H : BB o M a ik wc N tx lk mv NI txI lkI mvI r tn tp cd sr sz cl th kd pr nu ss zs hc wt tb h) (KF : QR 1 N9 tx9 lk9 mv9 h9) (e : am_fp (fun k => k < 1 ∨ 13 ≤ k) h9 h) : BB o M a ik wc N9 tx9 lk9 mv9 NI txI lkI mvI r tn tp cd sr sz cl th kd pr nu ss zs hc wt tb h9 := by
  obtain ⟨HM, HO, HF, HT, HI, HY, HD, HR, HS, HW, HG⟩ := H
  exact ⟨mr_frame HM (fun k h1 h2 => e k (show k < 1 ∨ 13 ≤ k by omega)), ob_frame HO (e 0 (show 0 < 1 ∨ 13 ≤ 0 by omega)) (e 43 (show 43 < 1 ∨ 13 ≤ 43 by omega)) (e 44 (show 44 < 1 ∨ 13 ≤ 44 by omega)), KF, tq_frame HT (fun k h1 h2 => e k (show k < 1 ∨ 13 ≤ k by omega)), qr_frame HI (fun k h1 h2 => e k (show k < 1 ∨ 13 ≤ k by omega)), wvx_frame HY (e 37 (show 37 < 1 ∨ 13 ≤ 37 by omega)) (e 38 (show 38 < 1 ∨ 13 ≤ 38 by omega)), rd_frame HD (fun k h1 h2 => e k (show k < 1 ∨ 13 ≤ k by omega)), rw_frame HR (fun k h1 h2 => e k (show k < 1 ∨ 13 ≤ k by omega)), sl_frame HS (fun k h1 h2 => e k (show k < 1 ∨ 13 ≤ k by omega)), (e 45 (show 45 < 1 ∨ 13 ≤ 45 by omega)).trans HW, tt_frame HG (fun k h1 => e k (show k < 1 ∨ 13 ≤ k by omega))⟩
theorem bb_t {o M : Nat → Int32} {a : Nat → Nat → Int32} {ik wc : Int32} {N : Nat → Int32} {tx : List Value} {lk mv : Nat → Int32} {NI : Nat → Int32} {txI : List Value} {lkI mvI : Nat → Int32} {r : Nat → Int32} {tn : Int32} {tp cd : Nat → Int32} {sr sz cl : Nat → Int32} {th kd pr nu ss zs hc : Nat → Int32} {wt : Nat → Int32} {tb : TB}  {h h9 : am_H} (H : BB o M a ik wc N tx lk mv NI txI lkI mvI r tn tp cd sr sz cl th kd pr nu ss zs hc wt tb h) (KG : TT tb h9) (e : am_fp (fun k => k < 92) h9 h) : BB o M a ik wc N tx lk mv NI txI lkI mvI r tn tp cd sr sz cl th kd pr nu ss zs hc wt tb h9 := by
  obtain ⟨HM, HO, HF, HT, HI, HY, HD, HR, HS, HW, HG⟩ := H
  exact ⟨mr_frame HM (fun k h1 h2 => e k (show k < 92 by omega)), ob_frame HO (e 0 (show 0 < 92 by omega)) (e 43 (show 43 < 92 by omega)) (e 44 (show 44 < 92 by omega)), qr_frame HF (fun k h1 h2 => e k (show k < 92 by omega)), tq_frame HT (fun k h1 h2 => e k (show k < 92 by omega)), qr_frame HI (fun k h1 h2 => e k (show k < 92 by omega)), wvx_frame HY (e 37 (show 37 < 92 by omega)) (e 38 (show 38 < 92 by omega)), rd_frame HD (fun k h1 h2 => e k (show k < 92 by omega)), rw_frame HR (fun k h1 h2 => e k (show k < 92 by omega)), sl_frame HS (fun k h1 h2 => e k (show k < 92 by omega)), (e 45 (show 45 < 92 by omega)).trans HW, KG⟩
theorem bb_p {o M : Nat → Int32} {a : Nat → Nat → Int32} {ik wc : Int32} {N : Nat → Int32} {tx : List Value} {lk mv : Nat → Int32} {NI : Nat → Int32} {txI : List Value} {lkI mvI : Nat → Int32} {r : Nat → Int32} {tn : Int32} {tp cd : Nat → Int32} {sr sz cl : Nat → Int32} {th kd pr nu ss zs hc : Nat → Int32} {wt : Nat → Int32} {tb : TB} {N9 : Nat → Int32} {tx9 : List Value} {lk9 mv9 : Nat → Int32} {h h9 : am_H} (H : BB o M a ik wc N tx lk mv NI txI lkI mvI r tn tp cd sr sz cl th kd pr nu ss zs hc wt tb h) (KF : QR 1 N9 tx9 lk9 mv9 h9) (KG : TT tb h9) (e : am_fp (fun k => k < 92 ∧ (k < 1 ∨ 13 ≤ k)) h9 h) : BB o M a ik wc N9 tx9 lk9 mv9 NI txI lkI mvI r tn tp cd sr sz cl th kd pr nu ss zs hc wt tb h9 := by
  obtain ⟨HM, HO, HF, HT, HI, HY, HD, HR, HS, HW, HG⟩ := H
  exact ⟨mr_frame HM (fun k h1 h2 => e k (show k < 92 ∧ (k < 1 ∨ 13 ≤ k) by omega)), ob_frame HO (e 0 (show 0 < 92 ∧ (0 < 1 ∨ 13 ≤ 0) by omega)) (e 43 (show 43 < 92 ∧ (43 < 1 ∨ 13 ≤ 43) by omega)) (e 44 (show 44 < 92 ∧ (44 < 1 ∨ 13 ≤ 44) by omega)), KF, tq_frame HT (fun k h1 h2 => e k (show k < 92 ∧ (k < 1 ∨ 13 ≤ k) by omega)), qr_frame HI (fun k h1 h2 => e k (show k < 92 ∧ (k < 1 ∨ 13 ≤ k) by omega)), wvx_frame HY (e 37 (show 37 < 92 ∧ (37 < 1 ∨ 13 ≤ 37) by omega)) (e 38 (show 38 < 92 ∧ (38 < 1 ∨ 13 ≤ 38) by omega)), rd_frame HD (fun k h1 h2 => e k (show k < 92 ∧ (k < 1 ∨ 13 ≤ k) by omega)), rw_frame HR (fun k h1 h2 => e k (show k < 92 ∧ (k < 1 ∨ 13 ≤ k) by omega)), sl_frame HS (fun k h1 h2 => e k (show k < 92 ∧ (k < 1 ∨ 13 ≤ k) by omega)), (e 45 (show 45 < 92 ∧ (45 < 1 ∨ 13 ≤ 45) by omega)).trans HW, KG⟩
theorem bb_h {o M : Nat → Int32} {a : Nat → Nat → Int32} {ik wc : Int32} {N : Nat → Int32} {tx : List Value} {lk mv : Nat → Int32} {NI : Nat → Int32} {txI : List Value} {lkI mvI : Nat → Int32} {r : Nat → Int32} {tn : Int32} {tp cd : Nat → Int32} {sr sz cl : Nat → Int32} {th kd pr nu ss zs hc : Nat → Int32} {wt : Nat → Int32} {tb : TB}  {h h9 : am_H} (H : BB o M a ik wc N tx lk mv NI txI lkI mvI r tn tp cd sr sz cl th kd pr nu ss zs hc wt tb h) (KT : TQ h9) (KG : TT tb h9) (e : am_fp (fun k => k < 92 ∧ (k < 13 ∨ 25 ≤ k)) h9 h) : BB o M a ik wc N tx lk mv NI txI lkI mvI r tn tp cd sr sz cl th kd pr nu ss zs hc wt tb h9 := by
  obtain ⟨HM, HO, HF, HT, HI, HY, HD, HR, HS, HW, HG⟩ := H
  exact ⟨mr_frame HM (fun k h1 h2 => e k (show k < 92 ∧ (k < 13 ∨ 25 ≤ k) by omega)), ob_frame HO (e 0 (show 0 < 92 ∧ (0 < 13 ∨ 25 ≤ 0) by omega)) (e 43 (show 43 < 92 ∧ (43 < 13 ∨ 25 ≤ 43) by omega)) (e 44 (show 44 < 92 ∧ (44 < 13 ∨ 25 ≤ 44) by omega)), qr_frame HF (fun k h1 h2 => e k (show k < 92 ∧ (k < 13 ∨ 25 ≤ k) by omega)), KT, qr_frame HI (fun k h1 h2 => e k (show k < 92 ∧ (k < 13 ∨ 25 ≤ k) by omega)), wvx_frame HY (e 37 (show 37 < 92 ∧ (37 < 13 ∨ 25 ≤ 37) by omega)) (e 38 (show 38 < 92 ∧ (38 < 13 ∨ 25 ≤ 38) by omega)), rd_frame HD (fun k h1 h2 => e k (show k < 92 ∧ (k < 13 ∨ 25 ≤ k) by omega)), rw_frame HR (fun k h1 h2 => e k (show k < 92 ∧ (k < 13 ∨ 25 ≤ k) by omega)), sl_frame HS (fun k h1 h2 => e k (show k < 92 ∧ (k < 13 ∨ 25 ≤ k) by omega)), (e 45 (show 45 < 92 ∧ (45 < 13 ∨ 25 ≤ 45) by omega)).trans HW, KG⟩
theorem bb_y {o M : Nat → Int32} {a : Nat → Nat → Int32} {ik wc : Int32} {N : Nat → Int32} {tx : List Value} {lk mv : Nat → Int32} {NI : Nat → Int32} {txI : List Value} {lkI mvI : Nat → Int32} {r : Nat → Int32} {tn : Int32} {tp cd : Nat → Int32} {sr sz cl : Nat → Int32} {th kd pr nu ss zs hc : Nat → Int32} {wt : Nat → Int32} {tb : TB}  {h h9 : am_H} (H : BB o M a ik wc N tx lk mv NI txI lkI mvI r tn tp cd sr sz cl th kd pr nu ss zs hc wt tb h) (KY : WVx h9) (e : am_fp (fun k => k < 37 ∨ 39 ≤ k) h9 h) : BB o M a ik wc N tx lk mv NI txI lkI mvI r tn tp cd sr sz cl th kd pr nu ss zs hc wt tb h9 := by
  obtain ⟨HM, HO, HF, HT, HI, HY, HD, HR, HS, HW, HG⟩ := H
  exact ⟨mr_frame HM (fun k h1 h2 => e k (show k < 37 ∨ 39 ≤ k by omega)), ob_frame HO (e 0 (show 0 < 37 ∨ 39 ≤ 0 by omega)) (e 43 (show 43 < 37 ∨ 39 ≤ 43 by omega)) (e 44 (show 44 < 37 ∨ 39 ≤ 44 by omega)), qr_frame HF (fun k h1 h2 => e k (show k < 37 ∨ 39 ≤ k by omega)), tq_frame HT (fun k h1 h2 => e k (show k < 37 ∨ 39 ≤ k by omega)), qr_frame HI (fun k h1 h2 => e k (show k < 37 ∨ 39 ≤ k by omega)), KY, rd_frame HD (fun k h1 h2 => e k (show k < 37 ∨ 39 ≤ k by omega)), rw_frame HR (fun k h1 h2 => e k (show k < 37 ∨ 39 ≤ k by omega)), sl_frame HS (fun k h1 h2 => e k (show k < 37 ∨ 39 ≤ k by omega)), (e 45 (show 45 < 37 ∨ 39 ≤ 45 by omega)).trans HW, tt_frame HG (fun k h1 => e k (show k < 37 ∨ 39 ≤ k by omega))⟩
theorem bb_d {o M : Nat → Int32} {a : Nat → Nat → Int32} {ik wc : Int32} {N : Nat → Int32} {tx : List Value} {lk mv : Nat → Int32} {NI : Nat → Int32} {txI : List Value} {lkI mvI : Nat → Int32} {r : Nat → Int32} {tn : Int32} {tp cd : Nat → Int32} {sr sz cl : Nat → Int32} {th kd pr nu ss zs hc : Nat → Int32} {wt : Nat → Int32} {tb : TB} {r9 : Nat → Int32} {tn9 : Int32} {tp9 cd9 : Nat → Int32} {h h9 : am_H} (H : BB o M a ik wc N tx lk mv NI txI lkI mvI r tn tp cd sr sz cl th kd pr nu ss zs hc wt tb h) (KD : RD r9 tn9 tp9 cd9 h9) (e : am_fp (fun k => k < 39 ∨ 43 ≤ k) h9 h) : BB o M a ik wc N tx lk mv NI txI lkI mvI r9 tn9 tp9 cd9 sr sz cl th kd pr nu ss zs hc wt tb h9 := by
  obtain ⟨HM, HO, HF, HT, HI, HY, HD, HR, HS, HW, HG⟩ := H
  exact ⟨mr_frame HM (fun k h1 h2 => e k (show k < 39 ∨ 43 ≤ k by omega)), ob_frame HO (e 0 (show 0 < 39 ∨ 43 ≤ 0 by omega)) (e 43 (show 43 < 39 ∨ 43 ≤ 43 by omega)) (e 44 (show 44 < 39 ∨ 43 ≤ 44 by omega)), qr_frame HF (fun k h1 h2 => e k (show k < 39 ∨ 43 ≤ k by omega)), tq_frame HT (fun k h1 h2 => e k (show k < 39 ∨ 43 ≤ k by omega)), qr_frame HI (fun k h1 h2 => e k (show k < 39 ∨ 43 ≤ k by omega)), wvx_frame HY (e 37 (show 37 < 39 ∨ 43 ≤ 37 by omega)) (e 38 (show 38 < 39 ∨ 43 ≤ 38 by omega)), KD, rw_frame HR (fun k h1 h2 => e k (show k < 39 ∨ 43 ≤ k by omega)), sl_frame HS (fun k h1 h2 => e k (show k < 39 ∨ 43 ≤ k by omega)), (e 45 (show 45 < 39 ∨ 43 ≤ 45 by omega)).trans HW, tt_frame HG (fun k h1 => e k (show k < 39 ∨ 43 ≤ k by omega))⟩
theorem bb_r {o M : Nat → Int32} {a : Nat → Nat → Int32} {ik wc : Int32} {N : Nat → Int32} {tx : List Value} {lk mv : Nat → Int32} {NI : Nat → Int32} {txI : List Value} {lkI mvI : Nat → Int32} {r : Nat → Int32} {tn : Int32} {tp cd : Nat → Int32} {sr sz cl : Nat → Int32} {th kd pr nu ss zs hc : Nat → Int32} {wt : Nat → Int32} {tb : TB} {sr9 sz9 cl9 : Nat → Int32} {h h9 : am_H} (H : BB o M a ik wc N tx lk mv NI txI lkI mvI r tn tp cd sr sz cl th kd pr nu ss zs hc wt tb h) (KR : RW sr9 sz9 cl9 h9) (e : am_fp (fun k => k < 46 ∨ 54 ≤ k) h9 h) : BB o M a ik wc N tx lk mv NI txI lkI mvI r tn tp cd sr9 sz9 cl9 th kd pr nu ss zs hc wt tb h9 := by
  obtain ⟨HM, HO, HF, HT, HI, HY, HD, HR, HS, HW, HG⟩ := H
  exact ⟨mr_frame HM (fun k h1 h2 => e k (show k < 46 ∨ 54 ≤ k by omega)), ob_frame HO (e 0 (show 0 < 46 ∨ 54 ≤ 0 by omega)) (e 43 (show 43 < 46 ∨ 54 ≤ 43 by omega)) (e 44 (show 44 < 46 ∨ 54 ≤ 44 by omega)), qr_frame HF (fun k h1 h2 => e k (show k < 46 ∨ 54 ≤ k by omega)), tq_frame HT (fun k h1 h2 => e k (show k < 46 ∨ 54 ≤ k by omega)), qr_frame HI (fun k h1 h2 => e k (show k < 46 ∨ 54 ≤ k by omega)), wvx_frame HY (e 37 (show 37 < 46 ∨ 54 ≤ 37 by omega)) (e 38 (show 38 < 46 ∨ 54 ≤ 38 by omega)), rd_frame HD (fun k h1 h2 => e k (show k < 46 ∨ 54 ≤ k by omega)), KR, sl_frame HS (fun k h1 h2 => e k (show k < 46 ∨ 54 ≤ k by omega)), (e 45 (show 45 < 46 ∨ 54 ≤ 45 by omega)).trans HW, tt_frame HG (fun k h1 => e k (show k < 46 ∨ 54 ≤ k by omega))⟩
theorem bb_s {o M : Nat → Int32} {a : Nat → Nat → Int32} {ik wc : Int32} {N : Nat → Int32} {tx : List Value} {lk mv : Nat → Int32} {NI : Nat → Int32} {txI : List Value} {lkI mvI : Nat → Int32} {r : Nat → Int32} {tn : Int32} {tp cd : Nat → Int32} {sr sz cl : Nat → Int32} {th kd pr nu ss zs hc : Nat → Int32} {wt : Nat → Int32} {tb : TB} {th9 kd9 pr9 nu9 ss9 zs9 hc9 : Nat → Int32} {h h9 : am_H} (H : BB o M a ik wc N tx lk mv NI txI lkI mvI r tn tp cd sr sz cl th kd pr nu ss zs hc wt tb h) (KS : SL th9 kd9 pr9 nu9 ss9 zs9 hc9 h9) (e : am_fp (fun k => k < 54 ∨ 69 ≤ k) h9 h) : BB o M a ik wc N tx lk mv NI txI lkI mvI r tn tp cd sr sz cl th9 kd9 pr9 nu9 ss9 zs9 hc9 wt tb h9 := by
  obtain ⟨HM, HO, HF, HT, HI, HY, HD, HR, HS, HW, HG⟩ := H
  exact ⟨mr_frame HM (fun k h1 h2 => e k (show k < 54 ∨ 69 ≤ k by omega)), ob_frame HO (e 0 (show 0 < 54 ∨ 69 ≤ 0 by omega)) (e 43 (show 43 < 54 ∨ 69 ≤ 43 by omega)) (e 44 (show 44 < 54 ∨ 69 ≤ 44 by omega)), qr_frame HF (fun k h1 h2 => e k (show k < 54 ∨ 69 ≤ k by omega)), tq_frame HT (fun k h1 h2 => e k (show k < 54 ∨ 69 ≤ k by omega)), qr_frame HI (fun k h1 h2 => e k (show k < 54 ∨ 69 ≤ k by omega)), wvx_frame HY (e 37 (show 37 < 54 ∨ 69 ≤ 37 by omega)) (e 38 (show 38 < 54 ∨ 69 ≤ 38 by omega)), rd_frame HD (fun k h1 h2 => e k (show k < 54 ∨ 69 ≤ k by omega)), rw_frame HR (fun k h1 h2 => e k (show k < 54 ∨ 69 ≤ k by omega)), KS, (e 45 (show 45 < 54 ∨ 69 ≤ 45 by omega)).trans HW, tt_frame HG (fun k h1 => e k (show k < 54 ∨ 69 ≤ k by omega))⟩
theorem bb_w {o M : Nat → Int32} {a : Nat → Nat → Int32} {ik wc : Int32} {N : Nat → Int32} {tx : List Value} {lk mv : Nat → Int32} {NI : Nat → Int32} {txI : List Value} {lkI mvI : Nat → Int32} {r : Nat → Int32} {tn : Int32} {tp cd : Nat → Int32} {sr sz cl : Nat → Int32} {th kd pr nu ss zs hc : Nat → Int32} {wt : Nat → Int32} {tb : TB} {ik9 wc9 : Int32} {wt9 : Nat → Int32} {h h9 : am_H} (H : BB o M a ik wc N tx lk mv NI txI lkI mvI r tn tp cd sr sz cl th kd pr nu ss zs hc wt tb h) (KO : OB ik9 wc9 h9) (KW : WT wt9 h9) (e : am_fp (fun k => k ≠ 0 ∧ k ≠ 45) h9 h) : BB o M a ik9 wc9 N tx lk mv NI txI lkI mvI r tn tp cd sr sz cl th kd pr nu ss zs hc wt9 tb h9 := by
  obtain ⟨HM, HO, HF, HT, HI, HY, HD, HR, HS, HW, HG⟩ := H
  exact ⟨mr_frame HM (fun k h1 h2 => e k (show k ≠ 0 ∧ k ≠ 45 by omega)), KO, qr_frame HF (fun k h1 h2 => e k (show k ≠ 0 ∧ k ≠ 45 by omega)), tq_frame HT (fun k h1 h2 => e k (show k ≠ 0 ∧ k ≠ 45 by omega)), qr_frame HI (fun k h1 h2 => e k (show k ≠ 0 ∧ k ≠ 45 by omega)), wvx_frame HY (e 37 (show 37 ≠ 0 ∧ 37 ≠ 45 by omega)) (e 38 (show 38 ≠ 0 ∧ 38 ≠ 45 by omega)), rd_frame HD (fun k h1 h2 => e k (show k ≠ 0 ∧ k ≠ 45 by omega)), rw_frame HR (fun k h1 h2 => e k (show k ≠ 0 ∧ k ≠ 45 by omega)), sl_frame HS (fun k h1 h2 => e k (show k ≠ 0 ∧ k ≠ 45 by omega)), KW, tt_frame HG (fun k h1 => e k (show k ≠ 0 ∧ k ≠ 45 by omega))⟩
theorem bb_c {o M : Nat → Int32} {a : Nat → Nat → Int32} {ik wc : Int32} {N : Nat → Int32} {tx : List Value} {lk mv : Nat → Int32} {NI : Nat → Int32} {txI : List Value} {lkI mvI : Nat → Int32} {r : Nat → Int32} {tn : Int32} {tp cd : Nat → Int32} {sr sz cl : Nat → Int32} {th kd pr nu ss zs hc : Nat → Int32} {wt : Nat → Int32} {tb : TB} {ik9 wc9 : Int32} {h h9 : am_H} (H : BB o M a ik wc N tx lk mv NI txI lkI mvI r tn tp cd sr sz cl th kd pr nu ss zs hc wt tb h) (KO : OB ik9 wc9 h9) (KT : TQ h9) (KG : TT tb h9) (e : am_fp (fun k => k ≠ 0 ∧ k < 92 ∧ (k < 13 ∨ 25 ≤ k)) h9 h) : BB o M a ik9 wc9 N tx lk mv NI txI lkI mvI r tn tp cd sr sz cl th kd pr nu ss zs hc wt tb h9 := by
  obtain ⟨HM, HO, HF, HT, HI, HY, HD, HR, HS, HW, HG⟩ := H
  exact ⟨mr_frame HM (fun k h1 h2 => e k (show k ≠ 0 ∧ k < 92 ∧ (k < 13 ∨ 25 ≤ k) by omega)), KO, qr_frame HF (fun k h1 h2 => e k (show k ≠ 0 ∧ k < 92 ∧ (k < 13 ∨ 25 ≤ k) by omega)), KT, qr_frame HI (fun k h1 h2 => e k (show k ≠ 0 ∧ k < 92 ∧ (k < 13 ∨ 25 ≤ k) by omega)), wvx_frame HY (e 37 (show 37 ≠ 0 ∧ 37 < 92 ∧ (37 < 13 ∨ 25 ≤ 37) by omega)) (e 38 (show 38 ≠ 0 ∧ 38 < 92 ∧ (38 < 13 ∨ 25 ≤ 38) by omega)), rd_frame HD (fun k h1 h2 => e k (show k ≠ 0 ∧ k < 92 ∧ (k < 13 ∨ 25 ≤ k) by omega)), rw_frame HR (fun k h1 h2 => e k (show k ≠ 0 ∧ k < 92 ∧ (k < 13 ∨ 25 ≤ k) by omega)), sl_frame HS (fun k h1 h2 => e k (show k ≠ 0 ∧ k < 92 ∧ (k < 13 ∨ 25 ≤ k) by omega)), (e 45 (show 45 ≠ 0 ∧ 45 < 92 ∧ (45 < 13 ∨ 25 ≤ 45) by omega)).trans HW, KG⟩
theorem bb_k {o M : Nat → Int32} {a : Nat → Nat → Int32} {ik wc : Int32} {N : Nat → Int32} {tx : List Value} {lk mv : Nat → Int32} {NI : Nat → Int32} {txI : List Value} {lkI mvI : Nat → Int32} {r : Nat → Int32} {tn : Int32} {tp cd : Nat → Int32} {sr sz cl : Nat → Int32} {th kd pr nu ss zs hc : Nat → Int32} {wt : Nat → Int32} {tb : TB} {ik9 wc9 : Int32} {NI9 : Nat → Int32} {txI9 : List Value} {lkI9 mvI9 : Nat → Int32} {h h9 : am_H} (H : BB o M a ik wc N tx lk mv NI txI lkI mvI r tn tp cd sr sz cl th kd pr nu ss zs hc wt tb h) (KO : OB ik9 wc9 h9) (KI : QR 25 NI9 txI9 lkI9 mvI9 h9) (e : am_fp (fun k => k ≠ 0 ∧ (k < 25 ∨ 37 ≤ k)) h9 h) : BB o M a ik9 wc9 N tx lk mv NI9 txI9 lkI9 mvI9 r tn tp cd sr sz cl th kd pr nu ss zs hc wt tb h9 := by
  obtain ⟨HM, HO, HF, HT, HI, HY, HD, HR, HS, HW, HG⟩ := H
  exact ⟨mr_frame HM (fun k h1 h2 => e k (show k ≠ 0 ∧ (k < 25 ∨ 37 ≤ k) by omega)), KO, qr_frame HF (fun k h1 h2 => e k (show k ≠ 0 ∧ (k < 25 ∨ 37 ≤ k) by omega)), tq_frame HT (fun k h1 h2 => e k (show k ≠ 0 ∧ (k < 25 ∨ 37 ≤ k) by omega)), KI, wvx_frame HY (e 37 (show 37 ≠ 0 ∧ (37 < 25 ∨ 37 ≤ 37) by omega)) (e 38 (show 38 ≠ 0 ∧ (38 < 25 ∨ 37 ≤ 38) by omega)), rd_frame HD (fun k h1 h2 => e k (show k ≠ 0 ∧ (k < 25 ∨ 37 ≤ k) by omega)), rw_frame HR (fun k h1 h2 => e k (show k ≠ 0 ∧ (k < 25 ∨ 37 ≤ k) by omega)), sl_frame HS (fun k h1 h2 => e k (show k ≠ 0 ∧ (k < 25 ∨ 37 ≤ k) by omega)), (e 45 (show 45 ≠ 0 ∧ (45 < 25 ∨ 37 ≤ 45) by omega)).trans HW, tt_frame HG (fun k h1 => e k (show k ≠ 0 ∧ (k < 25 ∨ 37 ≤ k) by omega))⟩
theorem bb_x {o M : Nat → Int32} {a : Nat → Nat → Int32} {ik wc : Int32} {N : Nat → Int32} {tx : List Value} {lk mv : Nat → Int32} {NI : Nat → Int32} {txI : List Value} {lkI mvI : Nat → Int32} {r : Nat → Int32} {tn : Int32} {tp cd : Nat → Int32} {sr sz cl : Nat → Int32} {th kd pr nu ss zs hc : Nat → Int32} {wt : Nat → Int32} {tb : TB} {N9 : Nat → Int32} {tx9 : List Value} {lk9 mv9 : Nat → Int32} {r9 : Nat → Int32} {tn9 : Int32} {tp9 cd9 : Nat → Int32} {tb9 : TB} {h h9 : am_H} (H : BB o M a ik wc N tx lk mv NI txI lkI mvI r tn tp cd sr sz cl th kd pr nu ss zs hc wt tb h) (KF : QR 1 N9 tx9 lk9 mv9 h9) (KD : RD r9 tn9 tp9 cd9 h9) (KG : TT tb9 h9) (e : am_fp (fun k => k < 92 ∧ (k < 1 ∨ 13 ≤ k) ∧ (k < 39 ∨ 43 ≤ k)) h9 h) : BB o M a ik wc N9 tx9 lk9 mv9 NI txI lkI mvI r9 tn9 tp9 cd9 sr sz cl th kd pr nu ss zs hc wt tb9 h9 := by
  obtain ⟨HM, HO, HF, HT, HI, HY, HD, HR, HS, HW, HG⟩ := H
  exact ⟨mr_frame HM (fun k h1 h2 => e k (show k < 92 ∧ (k < 1 ∨ 13 ≤ k) ∧ (k < 39 ∨ 43 ≤ k) by omega)), ob_frame HO (e 0 (show 0 < 92 ∧ (0 < 1 ∨ 13 ≤ 0) ∧ (0 < 39 ∨ 43 ≤ 0) by omega)) (e 43 (show 43 < 92 ∧ (43 < 1 ∨ 13 ≤ 43) ∧ (43 < 39 ∨ 43 ≤ 43) by omega)) (e 44 (show 44 < 92 ∧ (44 < 1 ∨ 13 ≤ 44) ∧ (44 < 39 ∨ 43 ≤ 44) by omega)), KF, tq_frame HT (fun k h1 h2 => e k (show k < 92 ∧ (k < 1 ∨ 13 ≤ k) ∧ (k < 39 ∨ 43 ≤ k) by omega)), qr_frame HI (fun k h1 h2 => e k (show k < 92 ∧ (k < 1 ∨ 13 ≤ k) ∧ (k < 39 ∨ 43 ≤ k) by omega)), wvx_frame HY (e 37 (show 37 < 92 ∧ (37 < 1 ∨ 13 ≤ 37) ∧ (37 < 39 ∨ 43 ≤ 37) by omega)) (e 38 (show 38 < 92 ∧ (38 < 1 ∨ 13 ≤ 38) ∧ (38 < 39 ∨ 43 ≤ 38) by omega)), KD, rw_frame HR (fun k h1 h2 => e k (show k < 92 ∧ (k < 1 ∨ 13 ≤ k) ∧ (k < 39 ∨ 43 ≤ k) by omega)), sl_frame HS (fun k h1 h2 => e k (show k < 92 ∧ (k < 1 ∨ 13 ≤ k) ∧ (k < 39 ∨ 43 ≤ k) by omega)), (e 45 (show 45 < 92 ∧ (45 < 1 ∨ 13 ≤ 45) ∧ (45 < 39 ∨ 43 ≤ 45) by omega)).trans HW, KG⟩
theorem bb_n {o M : Nat → Int32} {a : Nat → Nat → Int32} {ik wc : Int32} {N : Nat → Int32} {tx : List Value} {lk mv : Nat → Int32} {NI : Nat → Int32} {txI : List Value} {lkI mvI : Nat → Int32} {r : Nat → Int32} {tn : Int32} {tp cd : Nat → Int32} {sr sz cl : Nat → Int32} {th kd pr nu ss zs hc : Nat → Int32} {wt : Nat → Int32} {tb : TB} {N9 : Nat → Int32} {h : am_H} (H : BB o M a ik wc N tx lk mv NI txI lkI mvI r tn tp cd sr sz cl th kd pr nu ss zs hc wt tb h) (K : QR 1 N9 tx lk mv h) : BB o M a ik wc N9 tx lk mv NI txI lkI mvI r tn tp cd sr sz cl th kd pr nu ss zs hc wt tb h := ⟨H.1, H.2.1, K, H.2.2.2⟩
def SP (th A B kd pr nu zs : Nat → Int32) : Prop := ∀ s, s < 5 → wi (th s) 0 3 ∧ wi (kd s) 0 5 ∧ (∃ z, z ≤ 24 ∧ zs s = nI z) ∧ (th s = 1 → A s = kd s ∧ B s = wort (kd s) (pr s)) ∧ (th s = 2 → A s = zs s) ∧ (th s = 3 → A s = nu s)
theorem sp_si {th A B kd pr nu zs : Nat → Int32} (H : SP th A B kd pr nu zs) : SI th kd zs := fun s hs => ⟨(H s hs).1, (H s hs).2.1, (H s hs).2.2.1⟩
theorem sp_smi {th A B kd pr nu zs : Nat → Int32} (H : SP th A B kd pr nu zs) : SMI th A := fun s hs => ⟨(H s hs).1, (fun e => by rw [((H s hs).2.2.2.1 e).1]; exact (H s hs).2.1), (fun e => by rw [(H s hs).2.2.2.2.1 e]; exact (H s hs).2.2.1)⟩
def txk (tb : TB) (tx : List Value) : Prop := ∀ (t : Nat) (v : Value), tx[t]? = some v → v = .null ∨ ∃ a, a < tb.1 ∧ v = .ref (92 + 3 * a)
def LE (o : Nat → Int32) (a : Nat → Nat → Int32) (ik wc tn : Int32) (tp sr sz cl th hc wt : Nat → Int32) : Prop := o 3 = ik ∧ o 35 = wc ∧ o 9 = tn ∧ a 75 = tp ∧ a 83 = sr ∧ a 84 = sz ∧ a 85 = cl ∧ a 86 = th ∧ a 89 = hc ∧ a 91 = wt
def LM (ik : Int32) (A71 NI : Nat → Int32) (txI : List Value) (lkI : Nat → Int32) (tb : TB) : Prop := txI.length = 14 ∧ txk tb txI ∧ (¬ ik = 0 → NI = A71 ∧ ∃ fr c, RG NI fr c ∧ TC tb txI lkI NI c)
def LQ (o : Nat → Int32) (a : Nat → Nat → Int32) (wc tn : Int32) (sr sz th kd pr nu zs : Nat → Int32) : Prop := o 4 = -1 ∧ (∃ L, L ≤ 96 ∧ tn = nI L) ∧ (∃ q, q ≤ 60 ∧ wc = nI q) ∧ RI sr sz ∧ SP th (a 87) (a 88) kd pr nu zs
def LI (T : Nat) (h : am_H) : Prop := ∃ (o : Nat → Int32) (a : Nat → Nat → Int32) (ik wc : Int32) (N : Nat → Int32) (tx : List Value) (lk mv NI : Nat → Int32) (txI : List Value) (lkI mvI r : Nat → Int32) (tn : Int32) (tp cd sr sz cl th kd pr nu ss zs hc wt : Nat → Int32) (tb : TB) (fr c : Nat), BB o N a ik wc N tx lk mv NI txI lkI mvI r tn tp cd sr sz cl th kd pr nu ss zs hc wt tb h ∧ LE o a ik wc tn tp sr sz cl th hc wt ∧ tb.1 = T ∧ RG N fr c ∧ TC tb tx lk N c ∧ LM ik (a 71) NI txI lkI tb ∧ LQ o a wc tn sr sz th kd pr nu zs
def sc (o9 o : Nat → Int32) (a9 a : Nat → Nat → Int32) : Prop := (∀ k, k = 3 ∨ k = 4 ∨ k = 9 ∨ k = 35 → o9 k = o k) ∧ ∀ k, k = 71 ∨ k = 75 ∨ (83 ≤ k ∧ k ≤ 89) ∨ k = 91 → a9 k = a k
theorem sc_0 {o : Nat → Int32} {a : Nat → Nat → Int32} : sc o o a a := ⟨fun _ _ => rfl, fun _ _ => rfl⟩
theorem sc_k {o : Nat → Int32} {a a9 : Nat → Nat → Int32} (h : ak a9 a) : sc o o a9 a := ⟨fun _ _ => rfl, fun k hk => h k (by omega) (by omega)⟩
theorem sc_t {o o9 : Nat → Int32} {a a9 : Nat → Nat → Int32} (h0 : ol6 o9 o) (h : alT a9 a) : sc o9 o a9 a := ⟨fun k hk => h0 k (by omega), fun k hk => h k (by omega) (by omega) (by omega) (by omega)⟩
theorem sc_3 {o o9 : Nat → Int32} {a a9 : Nat → Nat → Int32} (h0 : ol6 o9 o) (h : al3 a9 a) : sc o9 o a9 a := ⟨fun k hk => h0 k (by omega), fun k hk => h k (by omega) (by omega) (by omega)⟩
theorem le_sc {o o9 : Nat → Int32} {a a9 : Nat → Nat → Int32} {ik wc tn : Int32} {tp sr sz cl th hc wt : Nat → Int32} (H : LE o a ik wc tn tp sr sz cl th hc wt) (s : sc o9 o a9 a) : LE o9 a9 ik wc tn tp sr sz cl th hc wt := by
  obtain ⟨e1, e2, e3, e4, e5, e6, e7, e8, e9, e10⟩ := H
  exact ⟨(s.1 _ (by omega)).trans e1, (s.1 _ (by omega)).trans e2, (s.1 _ (by omega)).trans e3, (s.2 _ (by omega)).trans e4, (s.2 _ (by omega)).trans e5, (s.2 _ (by omega)).trans e6, (s.2 _ (by omega)).trans e7, (s.2 _ (by omega)).trans e8, (s.2 _ (by omega)).trans e9, (s.2 _ (by omega)).trans e10⟩
theorem lq_sc {o o9 : Nat → Int32} {a a9 : Nat → Nat → Int32} {wc tn : Int32} {sr sz th kd pr nu zs : Nat → Int32} (H : LQ o a wc tn sr sz th kd pr nu zs) (s : sc o9 o a9 a) : LQ o9 a9 wc tn sr sz th kd pr nu zs := by
  obtain ⟨e1, e2, e3, e4, e5⟩ := H
  refine ⟨(s.1 _ (by omega)).trans e1, e2, e3, e4, ?_⟩
  rw [s.2 87 (by omega), s.2 88 (by omega)]
  exact e5
theorem lm_sc {A B NI : Nat → Int32} {ik : Int32} {txI : List Value} {lkI : Nat → Int32} {tb : TB} (H : LM ik A NI txI lkI tb) (e : B = A) : LM ik B NI txI lkI tb := by
  rw [e]; exact H
theorem tc_ok {tb : TB} {tx : List Value} {lk N : Nat → Int32} {c : Nat} (H : TC tb tx lk N c) : tx.length = 14 ∧ txk tb tx := ⟨H.1.1, H.1.2.2.1⟩
theorem li_sc {o o9 : Nat → Int32} {a a9 : Nat → Nat → Int32} {ik wc : Int32} {N : Nat → Int32} {tx : List Value} {lk mv NI : Nat → Int32} {txI : List Value} {lkI mvI r : Nat → Int32} {tn : Int32} {tp cd sr sz cl th kd pr nu ss zs hc wt : Nat → Int32} {tb : TB} {fr c : Nat} {h : am_H} {T : Nat} (b : BB o9 N a9 ik wc N tx lk mv NI txI lkI mvI r tn tp cd sr sz cl th kd pr nu ss zs hc wt tb h) (s : sc o9 o a9 a) (e : LE o a ik wc tn tp sr sz cl th hc wt) (hT : tb.1 = T) (hR : RG N fr c) (hC : TC tb tx lk N c) (hM : LM ik (a 71) NI txI lkI tb) (hQ : LQ o a wc tn sr sz th kd pr nu zs) : LI T h := ⟨o9, a9, ik, wc, N, tx, lk, mv, NI, txI, lkI, mvI, r, tn, tp, cd, sr, sz, cl, th, kd, pr, nu, ss, zs, hc, wt, tb, fr, c, b, le_sc e s, hT, hR, hC, lm_sc hM (s.2 71 (by omega)), lq_sc hQ s⟩
def MD (X : List Int32) (M : am_MD) (L0 : List (Option Value)) (T n : Nat) (h : am_H) (v : Int32) : Prop := (∃ fs, h 69 = some (.inr (8, fs))) ∧ ∀ (d rc rs : Nat) (Q : am_Q), (∀ h2, LI T h2 → Q (some (.int v)) n h2) → AW X M (d + 100) rc rs 0 L0 [] n h Q
theorem li_7 {T : Nat} {h : am_H} (H : LI T h) : ∃ fs, h 0 = some (.inr (7, fs)) := by
  obtain ⟨o, a, ik, wc, N, tx, lk, mv, NI, txI, lkI, mvI, r, tn, tp, cd, sr, sz, cl, th, kd, pr, nu, ss, zs, hc, wt, tb, fr, c, B, _⟩ := H
  exact ⟨_, B.2.1.1⟩
theorem to_eq {N : Nat → Int32} {τ τ' f w : Int32} (h : wi f 0 (N 1 - 1) → w = 5 → τ = τ') : toV N τ f w = toV N τ' f w := by
  by_cases q : wi f 0 (N 1 - 1)
  · by_cases w5 : w = 5
    · rw [h q w5]
    · unfold toV
      rw [cI_t q, cI_t q, if_neg w5, if_neg w5]
  · unfold toV
    rw [cI_f q, cI_f q]
theorem tt_eq {tb : TB} {tx : List Value} {lk N : Nat → Int32} {c : Nat} {t w v9 : Int32} (H : TC tb tx lk N c) (h : (¬ (wi t 0 (N 7 - 1) ∧ wi w 0 1) ∧ v9 = (-1000000001)) ∨ (∃ j a, wi t 0 (N 7 - 1) ∧ wi w 0 1 ∧ t = nI j ∧ j < c ∧ a < tb.1 ∧ tx[j]? = some (.ref (92 + 3 * a)) ∧ v9 = cI (w = 0) (tb.2.1 a) (tb.2.2.1 a))) : v9 = ttM N t w := by
  rcases h with ⟨h1, rfl⟩ | ⟨j, a, h1, h2, rfl, h4, h5, h6, rfl⟩
  · unfold ttM; rw [cI_f h1]
  · have hc := H.1.2.1
    obtain ⟨a', ky, lc, q1, q2, q3, q4, q5, q6, q7, q8, _⟩ := H.2.2.2 j h4
    have e : 92 + 3 * a = 92 + 3 * a' := by
      have z := Option.some.inj (h6.symm.trans q2)
      injection z
    obtain rfl : a = a' := by omega
    unfold ttM
    rw [cI_t (p := wi (nI j) 0 (N 7 - 1) ∧ wi w 0 1) ⟨h1, h2⟩, fN_nI (by omega), q6, show (1000 : Int32) = nI 1000 from rfl, pk_div (by omega) (by omega) (by omega), show (1000 * ky + lc) / 1000 = ky by omega, ← q7, ← q8]
theorem wh_eq {tb : TB} {tx : List Value} {lk N : Nat → Int32} {c : Nat} {k : Int32} (H : TC tb tx lk N c) : whC lk k = whM N c k := by
  unfold whC whM
  by_cases q : wi k 0 2
  · rw [cI_t q, cI_t q]
    obtain ⟨j, hj, e⟩ := wi_nI (H := 2) (by decide) (by decide) q
    subst e
    rw [fN_nI (by omega), H.2.2.1 j (by omega)]
  · rw [cI_f q, cI_f q]
theorem ak_eq {th A B kd pr nu zs : Nat → Int32} {s k : Int32} (H : SP th A B kd pr nu zs) : akC th kd pr s k = akM th A B s k := by
  unfold akC akM
  by_cases q : wi s 0 4 ∧ wi k 0 5
  · rw [cI_t q, cI_t q]
    by_cases q0 : th (fN s) = 0
    · rw [cI_t q0, cI_t q0]
    · rw [cI_f q0, cI_f q0]
      by_cases q1 : th (fN s) = 1
      · rw [cI_t q1, cI_t q1]
        have z := (H (fN s) (by have y := fN_b (H := 4) (by decide) (by decide) q.1; omega)).2.2.2.1 q1
        rw [z.1, z.2]
      · rw [cI_f q1, cI_f q1]
  · rw [cI_f q, cI_f q]
theorem it_eq {th A B kd pr nu zs hc : Nat → Int32} {s p : Int32} (H : SP th A B kd pr nu zs) : itV th zs hc s p = itV th A hc s p := by
  unfold itV
  by_cases q : wi s 0 4
  · rw [cI_t q, cI_t q]
    by_cases q0 : th (fN s) = 0
    · rw [cI_t q0, cI_t q0]
    · rw [cI_f q0, cI_f q0]
      by_cases q1 : th (fN s) = 2
      · rw [cI_t q1, cI_t q1]
        have z := (H (fN s) (by have y := fN_b (H := 4) (by decide) (by decide) q; omega)).2.2.2.2.1 q1
        rw [z]
      · rw [cI_f q1, cI_f q1]
  · rw [cI_f q, cI_f q]
theorem re_eq {th A B kd pr nu zs : Nat → Int32} {s k : Int32} (H : SP th A B kd pr nu zs) : reV th nu s k = reV th A s k := by
  unfold reV
  by_cases q : wi s 0 4
  · rw [cI_t q, cI_t q]
    by_cases q0 : th (fN s) = 0
    · rw [cI_t q0, cI_t q0]
    · rw [cI_f q0, cI_f q0]
      by_cases q1 : th (fN s) = 3
      · rw [cI_t q1, cI_t q1]
        have z := (H (fN s) (by have y := fN_b (H := 4) (by decide) (by decide) q; omega)).2.2.2.2.2 q1
        rw [z]
      · rw [cI_f q1, cI_f q1]
  · rw [cI_f q, cI_f q]
theorem ri_sh {sr sz : Nat → Int32} {s t n : Int32} (H : RI sr sz) : RI (shR s t n sr) (shZ s t n sz) := by
  unfold shR shZ
  by_cases q : shK s t n
  · rw [cI_t q, cI_t q]
    obtain ⟨q1, q2, q3⟩ := q
    intro i hi
    by_cases e : i = fN s
    · subst e
      rw [pk_us, pk_us]
      refine ⟨q2, ?_⟩
      by_cases t1 : t = -1
      · rw [cI_t t1]; exact ⟨0, by omega, rfl⟩
      · rw [cI_f t1]
        rcases q3 with q3 | q3
        · exact absurd q3 t1
        · exact wi_nI (H := 24) (lo := 0) (hi := 24) (by decide) (by decide) ⟨q3.2, q3.1⟩
    · rw [pk_un e, pk_un e]; exact H i hi
  · rw [cI_f q, cI_f q]; exact H
theorem laU_n {p : Prop} {f g : Nat → Int32} {s i : Nat} {v : Int32} (h : laU p f g s v) (e : i ≠ s) : g i = f i := by
  by_cases q : p
  · rw [h.1 q]; exact pk_un e
  · rw [h.2 q]
theorem laU_y {p : Prop} {f g : Nat → Int32} {s : Nat} {v : Int32} (h : laU p f g s v) (q : p) : g s = v := by
  rw [h.1 q]; exact pk_us
theorem laT_n {N sr th : Nat → Int32} {s t k : Int32} {i : Nat} (e : i ≠ fN s) : laT N sr s t k th i = th i := by
  unfold laT
  by_cases q : laK N sr s t k
  · rw [cI_t q]; exact pk_un e
  · rw [cI_f q]
theorem laM_n {N sr sz A A9 : Nat → Int32} {s t k : Int32} {i : Nat} (h : laM N sr s t k sz A A9) (e : i ≠ fN s) : A9 i = A i := by
  by_cases q : laK N sr s t k
  · obtain ⟨h1, h2, h3⟩ := h.1 q
    by_cases t1 : t = 1
    · rw [h1 t1]; exact pk_un e
    · by_cases t2 : t = 2
      · rw [h2 t2]; exact pk_un e
      · rw [h3 t1 t2]; exact pk_un e
  · rw [h.2 q]
theorem laM2_n {N sr A A9 : Nat → Int32} {s t k : Int32} {i : Nat} (h : laM2 N sr s t k A A9) (e : i ≠ fN s) : A9 i = A i := by
  by_cases q : laK N sr s t k
  · obtain ⟨h1, h2⟩ := h.1 q
    by_cases t1 : t = 1
    · rw [h1 t1]; exact pk_un e
    · rw [h2 t1]; exact pk_un e
  · rw [h.2 q]
theorem sp_lay {N sr sz th A B kd pr nu zs A9 B9 kd9 pr9 nu9 zs9 : Nat → Int32} {s t k : Int32} {fr c : Nat} (H : SP th A B kd pr nu zs) (hR : RG N fr c) (hI : RI sr sz) (u1 : laU (laK N sr s t k ∧ t = 1) kd kd9 (fN s) (N (22 + 5 * fN k))) (u2 : laU (laK N sr s t k ∧ t = 1) pr pr9 (fN s) (N (24 + 5 * fN k))) (u3 : laU (laK N sr s t k ∧ ¬ t = 1 ∧ ¬ t = 2) nu nu9 (fN s) k) (u4 : laU (laK N sr s t k ∧ t = 2) zs zs9 (fN s) (sz (fN k))) (m1 : laM N sr s t k sz A A9) (m2 : laM2 N sr s t k B B9) : SP (laT N sr s t k th) A9 B9 kd9 pr9 nu9 zs9 := by
  intro i hi
  by_cases e : i = fN s
  · subst e
    by_cases K : laK N sr s t k
    · have hT : laT N sr s t k th (fN s) = t := by
        unfold laT; rw [cI_t K]; exact pk_us
      rw [hT]
      obtain ⟨h1, h2, h3⟩ := m1.1 K
      obtain ⟨h4, h5⟩ := m2.1 K
      have Hs := H (fN s) hi
      have wt9 : wi t 0 3 := K.1.2.1
      have d12 : ¬ ((1 : Int32) = 2) := by decide
      have d13 : ¬ ((1 : Int32) = 3) := by decide
      have d21 : ¬ ((2 : Int32) = 1) := by decide
      have d23 : ¬ ((2 : Int32) = 3) := by decide
      by_cases t1 : t = 1
      · subst t1
        have wk := K.1.2.2.1 rfl
        have hf := fN_f hR wk
        have a1 := laU_y u1 ⟨K, rfl⟩
        have a2 := laU_y u2 ⟨K, rfl⟩
        have a3 := u4.2 (fun q => d12 q.2)
        refine ⟨wt9, ?_, ?_, fun _ => ⟨?_, ?_⟩, fun q => absurd q d12, fun q => absurd q d13⟩
        · rw [a1]; exact (hR.2.2.2.2.1 _ hf).1
        · rw [a3]; exact Hs.2.2.1
        · rw [h1 rfl, pk_us, a1]
        · rw [h4 rfl, pk_us, a1, a2]
      · have a1 := u1.2 (fun q => t1 q.2)
        by_cases t2 : t = 2
        · subst t2
          have wk := K.1.2.2.2 rfl
          have hf := fN_b (H := 3) (by decide) (by decide) wk
          have a3 := laU_y u4 ⟨K, rfl⟩
          refine ⟨wt9, ?_, ?_, fun q => absurd q d21, fun _ => ?_, fun q => absurd q d23⟩
          · rw [a1]; exact Hs.2.1
          · rw [a3]; exact (hI _ (by omega)).2
          · rw [h2 rfl, pk_us, a3]
        · have a3 := u4.2 (fun q => t2 q.2)
          have a4 := laU_y u3 ⟨K, t1, t2⟩
          refine ⟨wt9, ?_, ?_, fun q => absurd q t1, fun q => absurd q t2, fun _ => ?_⟩
          · rw [a1]; exact Hs.2.1
          · rw [a3]; exact Hs.2.2.1
          · rw [h3 t1 t2, pk_us, a4]
    · have hT : laT N sr s t k th = th := by
        unfold laT; rw [cI_f K]
      rw [hT, m1.2 K, m2.2 K, u1.2 (fun q => K q.1), u2.2 (fun q => K q.1), u3.2 (fun q => K q.1), u4.2 (fun q => K q.1)]
      exact H _ hi
  · rw [laT_n e, laM_n m1 e, laM2_n m2 e, laU_n u1 e, laU_n u2 e, laU_n u3 e, laU_n u4 e]
    exact H i hi
theorem tc_grow {tb : TB} {tx : List Value} {lk N : Nat → Int32} {c ky nn lc : Nat} {cf : Nat → Int32} (H : TC tb tx lk N c) : TC (tbN tb ky nn lc cf) tx lk N c := by
  obtain ⟨⟨t1, t2, t3, t4⟩, h7, hlk, ht⟩ := H
  refine ⟨⟨t1, t2, fun t v hv => ?_, fun t h => ?_⟩, h7, hlk, fun t h => ?_⟩
  · exact (t3 t v hv).imp id (fun ⟨a, ha, e⟩ => ⟨a, by show a < tb.1 + 1; omega, e⟩)
  · obtain ⟨a, ha, e⟩ := t4 t h
    exact ⟨a, by show a < tb.1 + 1; omega, e⟩
  · obtain ⟨a, k2, l2, q1, q2, q3, q4, q5, q6, q7, q8, q9, q10, q11, q12⟩ := ht t h
    have ne : a ≠ tb.1 := by omega
    refine ⟨a, k2, l2, by show a < tb.1 + 1; omega, q2, q3, q4, q5, q6, (pk_un ne).trans q7, (pk_un ne).trans q8, (upN_n ne).trans q9, q10, fun i hi => ?_, ?_⟩
    · show cr1 k2 (upF tb.2.2.2.2.1 tb.1 cf a i) _
      rw [upF_n ne]; exact q11 i hi
    · show _ ≤ upN tb.2.2.2.2.2 tb.1 (mx1 nn) a
      rw [upN_n ne]; exact q12
theorem lm_grow {tb : TB} {A NI : Nat → Int32} {ik : Int32} {txI : List Value} {lkI : Nat → Int32} {ky nn lc : Nat} {cf : Nat → Int32} (H : LM ik A NI txI lkI tb) : LM ik A NI txI lkI (tbN tb ky nn lc cf) := by
  obtain ⟨h1, h2, h3⟩ := H
  refine ⟨h1, fun t v hv => (h2 t v hv).imp id (fun ⟨a, ha, e⟩ => ⟨a, by show a < tb.1 + 1; omega, e⟩), fun q => ?_⟩
  obtain ⟨e, fr, c, R, C⟩ := h3 q
  exact ⟨e, fr, c, R, tc_grow C⟩
theorem po_eq {tb : TB} {tx : List Value} {lk N N9 : Nat → Int32} {c fr m : Nat} {s9 : Int32} (H : TC tb tx lk N c) (hR : RG N fr c) (h : runR fr tb tx lk (-1) m N 0 N9 s9) : upd N9 2 (N9 2 + nI m) = goF c fr (-1) m N ∧ s9 = sumM 26 (goF c fr (-1) m N) fr 0 0 - sumM 26 N fr 0 0 := by
  obtain ⟨e1, e2⟩ := run_c m N N9 0 s9 H (rg_rk hR) h
  refine ⟨e1, ?_⟩
  rw [e2, ← e1, Int32.zero_add, sumM_cg (N := N9) (M := upd N9 2 (N9 2 + nI m)) fr 0 0 (fun j _ _ => (pk_un (by omega)).symm)]
