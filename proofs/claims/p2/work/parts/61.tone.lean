def TC (tb : TB) (tx : List Value) (lk N : Nat → Int32) (c : Nat) : Prop := TXv tb.1 c tx ∧ N 7 = nI c ∧ (∀ k, k < 3 → lk k = bI (cntM (nI k) N c)) ∧ ∀ t, t < c → ∃ a ky lc, a < tb.1 ∧ tx[t]? = some (.ref (92 + 3 * a)) ∧ ky < 3 ∧ 1 ≤ lc ∧ lc ≤ 96 ∧ N (62 + 2 * t) = nI (1000 * ky + lc) ∧ tb.2.1 a = nI ky ∧ tb.2.2.1 a = N (63 + 2 * t) ∧ tb.2.2.2.1 a = lc ∧ vld (fun z => N (90 + 96 * t + z)) lc 0 0 ∧ (∀ i, i < lc → cr1 ky (tb.2.2.2.2.1 a i) (N (90 + 96 * t + i))) ∧ cnt (fun z => N (90 + 96 * t + z)) lc 0 ≤ tb.2.2.2.2.2 a
theorem tc_txm {tb : TB} {tx : List Value} {lk N : Nat → Int32} {c : Nat} (H : TC tb tx lk N c) : TXM N c := by
  refine ⟨H.2.1, H.1.2.1, fun t ht => ?_⟩
  obtain ⟨a, ky, lc, h1, h2, h3, h4, h5, h6, h7, h8, h9, h10, h11, h12⟩ := H.2.2.2 t ht
  exact ⟨ky, lc, by omega, h4, h5, h6, h10⟩
theorem cntM_cg {key : Int32} {N M : Nat → Int32} : ∀ {c : Nat}, (∀ t, t < c → N (62 + 2 * t) = M (62 + 2 * t)) → cntM key N c = cntM key M c := by
  intro c
  induction c with
  | zero => intro _; rfl
  | succ c ih =>
    intro h
    simp only [cntM]
    rw [h c (by omega), ih (fun t ht => h t (by omega))]
theorem tc_keep {tb : TB} {tx : List Value} {lk N M : Nat → Int32} {c : Nat} (h7 : M 7 = N 7) (h62 : ∀ k, 62 ≤ k → M k = N k) (H : TC tb tx lk N c) : TC tb tx lk M c := by
  refine ⟨H.1, h7.trans H.2.1, fun k hk => ?_, fun t ht => ?_⟩
  · rw [H.2.2.1 k hk]
    exact congrArg bI (cntM_cg (fun t _ => (h62 _ (by omega)).symm))
  · obtain ⟨a, ky, lc, h1, h2, h3, h4, h5, h6, h7, h8, h9, h10, h11, h12⟩ := H.2.2.2 t ht
    have e : (fun z => M (90 + 96 * t + z)) = (fun z => N (90 + 96 * t + z)) := funext (fun z => h62 _ (by omega))
    refine ⟨a, ky, lc, h1, h2, h3, h4, h5, (h62 _ (by omega)).trans h6, h7, h8.trans (h62 _ (by omega)).symm, h9, ?_, fun i hi => ?_, ?_⟩
    · rw [e]; exact h10
    · rw [h62 _ (by omega)]; exact h11 i hi
    · rw [e]; exact h12
theorem tc_wi {tb : TB} {tx : List Value} {lk N : Nat → Int32} {c k t : Nat} (H : TC tb tx lk N c) (hk : k < 3) (h : cntM (nI k) N c = some t) : wi (lk k) 0 (N 7 - 1) := by
  have ht := (cntM_lt h).1
  rw [H.2.2.1 k hk, h]
  exact wi_idx' H.2.1 (by have z := H.1.2.1; omega) ht rfl
theorem tc_nwi {tb : TB} {tx : List Value} {lk N : Nat → Int32} {c k : Nat} (H : TC tb tx lk N c) (hk : k < 3) (h : cntM (nI k) N c = none) : ¬ wi (lk k) 0 (N 7 - 1) := by
  rw [H.2.2.1 k hk, h]
  exact fun q => q.1 (by decide)
theorem nIi {a b : Nat} (ha : a < 2 ^ 31) (hb : b < 2 ^ 31) (h : nI a = nI b) : a = b := (nI_eq ha hb).mp h
theorem ref_in {a b : Nat} (h : (some (Value.ref (92 + 3 * a)) : Option Value) = some (.ref (92 + 3 * b))) : a = b := by
  have h1 := Option.some.inj h
  have h2 : 92 + 3 * a = 92 + 3 * b := Value.ref.inj h1
  omega
def evF (fa mf : Nat → Int32) (lc : Nat) : Int32 := (mwM fa mf lc 0 ((fun _ => 0), 0)).1 0
def lcF (N : Nat → Int32) (t : Nat) : Nat := (N (62 + 2 * t)).toInt.toNat % 1000
theorem lcF_eq {N : Nat → Int32} {t ky lc : Nat} (hky : ky < 3) (hlc : lc ≤ 96) (h : N (62 + 2 * t) = nI (1000 * ky + lc)) : lcF N t = lc := by
  unfold lcF
  rw [h, nI_toInt (by omega)]
  omega
def f2z (x y : Int32) : Nat → Int32 := upd (upd (fun _ => 0) 0 x) 1 y
theorem cnt_key {N : Nat → Int32} {c t k : Nat} {ky lc : Nat} (hk : k < 3) (hky : ky < 3) (hlc : lc ≤ 96) (h6 : N (62 + 2 * t) = nI (1000 * ky + lc)) (h : cntM (nI k) N c = some t) : ky = k := by
  have z := (cntM_lt h).2
  rw [h6, show (1000 : Int32) = nI 1000 from rfl, pk_div (by omega) (by omega) (by omega)] at z
  have z2 := nIi (by omega) (by omega) z
  omega
theorem ev_c {tb : TB} {tx : List Value} {lk N : Nat → Int32} {c k t a : Nat} {x y z : Int32} {sf fa : Nat → Int32} (H : TC tb tx lk N c) (hk : k < 3) (h : cntM (nI k) N c = some t) (hta : tx[t]? = some (.ref (92 + 3 * a))) (h0 : fa 0 = x) (h1 : fa 1 = y) (h2 : k = 0 → fa 2 = z) : (wcM x y z (tb.2.2.2.2.2 a) (tb.2.2.2.2.1 a) (tb.2.2.2.1 a) 0 (sf, 0)).1 0 = evF fa (fun z9 => N (90 + 96 * t + z9)) (lcF N t) := by
  obtain ⟨b, ky, lc, g1, g2, g3, g4, g5, g6, g7, g8, g9, g10, g11, g12⟩ := H.2.2.2 t (cntM_lt h).1
  obtain rfl := ref_in (hta.symm.trans g2)
  obtain rfl := cnt_key hk g3 g5 g6 h
  rw [lcF_eq g3 g5 g6, g9]
  have r := ev_sim (k := ky) (lc := lc) (Ls := tb.2.2.2.2.2 a) (cf := tb.2.2.2.2.1 a) (mf := fun z9 => N (90 + 96 * t + z9)) h0 h1 h2 g11 lc 0 0 sf (fun _ => 0) (by omega) g10 (by omega) (fun j hj => by omega)
  exact r.2.1 0 (r.2.2 (Or.inr (by omega)))
theorem ev_m {tb : TB} {tx : List Value} {lk N : Nat → Int32} {c k t lc' ky' : Nat} {x y z : Int32} {sf fa fb : Nat → Int32} (H : TC tb tx lk N c) (hk : k < 3) (h : cntM (nI k) N c = some t) (hlc : lc' ≤ 96) (hhd : N (62 + 2 * t) = nI (1000 * ky' + lc')) (hky : ky' < 3) (h0 : fa 0 = x) (h1 : fa 1 = y) (h2 : k = 0 → fa 2 = z) (i0 : fb 0 = x) (i1 : fb 1 = y) (i2 : k = 0 → fb 2 = z) : (mwM fa (fun z9 => N (90 + 96 * t + z9)) lc' 0 (sf, 0)).1 0 = evF fb (fun z9 => N (90 + 96 * t + z9)) (lcF N t) := by
  obtain ⟨b, ky, lc, g1, g2, g3, g4, g5, g6, g7, g8, g9, g10, g11, g12⟩ := H.2.2.2 t (cntM_lt h).1
  obtain rfl := cnt_key hk g3 g5 g6 h
  have e := nIi (by omega) (by omega) (hhd.symm.trans g6)
  obtain rfl : lc' = lc := by omega
  rw [lcF_eq g3 g5 g6]
  have r := ev_sim (k := ky) (lc := lc') (Ls := tb.2.2.2.2.2 b) (cf := tb.2.2.2.2.1 b) (mf := fun z9 => N (90 + 96 * t + z9)) h0 h1 h2 g11 lc' 0 0 sf sf (by omega) g10 (by omega) (fun j hj => by omega)
  have q := ev_sim (k := ky) (lc := lc') (Ls := tb.2.2.2.2.2 b) (cf := tb.2.2.2.2.1 b) (mf := fun z9 => N (90 + 96 * t + z9)) i0 i1 i2 g11 lc' 0 0 sf (fun _ => 0) (by omega) g10 (by omega) (fun j hj => by omega)
  exact (r.2.1 0 (r.2.2 (Or.inr (by omega)))).symm.trans (q.2.1 0 (q.2.2 (Or.inr (by omega))))
def plF (N : Nat → Int32) (c f : Nat) : Int32 := match cntM 0 N c with
  | none => (N (24 + 5 * f) + N 3) / 2
  | some t => hw (evF (f3 (fun _ => 0) (N (24 + 5 * f)) (N 3) (N (25 + 5 * f))) (fun z9 => N (90 + 96 * t + z9)) (lcF N t)) 99
def tnF (N : Nat → Int32) (c f : Nat) : Int32 := toneK (N (22 + 5 * f)) (N 3) (plF N c f)
theorem plF_n {N : Nat → Int32} {c f : Nat} (h : cntM 0 N c = none) : plF N c f = (N (24 + 5 * f) + N 3) / 2 := by
  unfold plF; rw [h]
theorem plF_s {N : Nat → Int32} {c f t : Nat} (h : cntM 0 N c = some t) : plF N c f = hw (evF (f3 (fun _ => 0) (N (24 + 5 * f)) (N 3) (N (25 + 5 * f))) (fun z9 => N (90 + 96 * t + z9)) (lcF N t)) 99 := by
  unfold plF; rw [h]
theorem f3_0 {fa : Nat → Int32} {x y z : Int32} : f3 fa x y z 0 = x := rfl
theorem f3_1 {fa : Nat → Int32} {x y z : Int32} : f3 fa x y z 1 = y := rfl
theorem f3_2 {fa : Nat → Int32} {x y z : Int32} : f3 fa x y z 2 = z := rfl
theorem tn_c {tb : TB} {tx : List Value} {lk N : Nat → Int32} {c f : Nat} {τ : Int32} (H : TC tb tx lk N c) (h : TNr tb tx lk N f τ) : τ = tnF N c f := by
  obtain ⟨pl, hp, rfl⟩ := h
  refine congrArg (toneK (N (22 + 5 * f)) (N 3)) ?_
  rcases hp with ⟨h1, rfl⟩ | ⟨t, a, sf, h1, h2, h3, h4, rfl⟩
  · cases ec : cntM 0 N c with
    | none => exact (plF_n ec).symm
    | some t => exact absurd (tc_wi (k := 0) H (by omega) ec) h1
  · cases ec : cntM 0 N c with
    | none => exact absurd h1 (tc_nwi (k := 0) H (by omega) ec)
    | some u =>
      have e := H.2.2.1 0 (by omega)
      rw [show cntM (nI 0) N c = some u from ec, h2] at e
      have hu := (cntM_lt ec).1
      have h14 := H.1.2.1
      have ht : t < 14 := by
        have z := (List.getElem?_eq_some_iff.mp h4).1
        rw [H.1.1] at z
        exact z
      obtain rfl := nIi (by omega) (by omega) e
      rw [plF_s ec]
      exact congrArg (fun z => hw z 99) (ev_c (k := 0) H (by omega) ec h4 f3_0 f3_1 (fun _ => f3_2))
theorem hw99 (v : Int32) : wi (hw v 99) 0 99 := by
  unfold hw
  by_cases q : 0 ≤ v
  · rw [if_pos q]
    by_cases r : 99 < v
    · rw [if_pos r]; exact ⟨by decide, by decide⟩
    · rw [if_neg r]; exact ⟨Int32.not_lt.mpr q, r⟩
  · rw [if_neg q]; exact ⟨by decide, by decide⟩
theorem hw9 (v : Int32) : wi (hw v 9) 0 9 := by
  unfold hw
  by_cases q : 0 ≤ v
  · rw [if_pos q]
    by_cases r : 9 < v
    · rw [if_pos r]; exact ⟨by decide, by decide⟩
    · rw [if_neg r]; exact ⟨Int32.not_lt.mpr q, r⟩
  · rw [if_neg q]; exact ⟨by decide, by decide⟩
theorem half99 {x y : Int32} (hx : wi x 0 99) (hy : wi y 0 99) : wi ((x + y) / 2) 0 99 := by
  obtain ⟨p, hp, rfl⟩ := wi_nI (H := 99) (by decide) (by decide) hx
  obtain ⟨q, hq, rfl⟩ := wi_nI (H := 99) (by decide) (by decide) hy
  rw [nI_add, show (2 : Int32) = nI 2 from rfl, pk_div (by omega) (by omega) (by omega)]
  exact wi_n0 (c := 99) (by omega) (by omega)
theorem pl_wi {N : Nat → Int32} {fr c f : Nat} (hR : RK N fr c) (hf : f < 8) : wi (plF N c f) 0 99 := by
  cases ec : cntM 0 N c with
  | none => rw [plF_n ec]; exact half99 (hR.2.2.2.2.1 f hf).2.2 hR.2.2.2.2.2.2.2
  | some t => rw [plF_s ec]; exact hw99 _
theorem tn_m {tb : TB} {tx : List Value} {lk N : Nat → Int32} {fr c f : Nat} {τ : Int32} (H : TC tb tx lk N c) (hR : RK N fr c) (hf : f < 8) (h : MTr N c f τ) : τ = tnF N c f := by
  obtain ⟨pl, hp, rfl⟩ := h
  have e : pl = plF N c f := by
    rcases hp with ⟨h1, rfl⟩ | ⟨t, lc, ky, sf, fa, h1, hky, h2, h3, rfl⟩
    · exact (plF_n h1).symm
    · rw [plF_s h1, wn_hw]
      exact congrArg (fun z => hw z 99) (ev_m (k := 0) H (by omega) h1 h2 h3 (by omega) f3_0 f3_1 (fun _ => f3_2) f3_0 f3_1 (fun _ => f3_2))
  rw [e]
  exact tone_eq (hR.2.2.2.2.1 f hf).1 (pl_wi hR hf)
