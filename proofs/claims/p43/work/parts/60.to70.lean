def RK (N : Nat → Int32) (fr c : Nat) : Prop := N 1 = nI fr ∧ fr ≤ 8 ∧ N 7 = nI c ∧ c ≤ 14 ∧ (∀ f, f < 8 → wi (N (22 + 5 * f)) 0 5 ∧ wi (N (23 + 5 * f)) 0 1 ∧ wi (N (24 + 5 * f)) 0 99) ∧ (∀ t, t < 4 → wi (N (8 + t)) 0 9) ∧ (∀ j, j < 8 → wi (N (12 + j)) 0 9) ∧ wi (N 3) 0 99
theorem rg_rk {N : Nat → Int32} {fr c : Nat} (H : RG N fr c) : RK N fr c := ⟨H.1, H.2.1, H.2.2.1, H.2.2.2.1, H.2.2.2.2.1, H.2.2.2.2.2.1, H.2.2.2.2.2.2.1, H.2.2.2.2.2.2.2.2.2.1⟩
def nmk (k : Nat) : Nat := if k = 0 then 3 else 2
def cr1 (k : Nat) (cc mc : Int32) : Prop := (∃ v, v < 10000 ∧ cc = nI v ∧ mc = nI v) ∨ (∃ j, j < nmk k ∧ cc = -(nI (j + 1)) ∧ mc = nI (10000 + j)) ∨ (cc = -33 ∧ mc = -10) ∨ (∃ s, sgn mc s ∧ cc = -s)
def cnt (mf : Nat → Int32) : Nat → Nat → Nat
  | 0, _ => 0
  | m + 1, i => (if mf i < 0 then 0 else 1) + cnt mf m (i + 1)
theorem sgn_cls {m s : Int32} (h : sgn m s) : -s < -3 ∧ ¬ -s = -33 ∧ -(-s) = s := by
  rcases h with ⟨rfl, rfl⟩ | ⟨rfl, rfl⟩ | ⟨rfl, rfl⟩ | ⟨rfl, rfl⟩ | ⟨rfl, rfl⟩ | ⟨rfl, rfl⟩ | ⟨rfl, rfl⟩ | ⟨rfl, rfl⟩ | ⟨rfl, rfl⟩ <;> decide
theorem nn3 {v : Nat} (h : v < 20000) : ¬ nI v < -3 := fun q => by
  have a := Int32.lt_iff_toInt_lt.mp q
  rw [nI_toInt (by omega)] at a
  have z : (-3 : Int32).toInt = -3 := by decide
  omega
theorem mw_push {fa : Nat → Int32} {p : (Nat → Int32) × Nat} {c : Int32} (h : ¬ c < 0) : mwS fa p c = (upd p.1 p.2 (if c < 10000 then c else fa (c.toInt.toNat - 10000)), p.2 + 1) := if_neg h
theorem wc_push {f1 f2 f3 : Int32} {Ls : Nat} {p : (Nat → Int32) × Nat} {c : Int32} (h : ¬ c < -3) (h2 : ¬ Ls ≤ p.2) : wcS f1 f2 f3 Ls p c = (upd p.1 p.2 (if c < 0 then (if c = -1 then f1 else if c = -2 then f2 else f3) else c), p.2 + 1) := by
  unfold wcS
  rw [if_neg h, if_neg h2]
theorem upd_ag {x y : Nat → Int32} {t : Nat} {v : Int32} (h : ∀ j, j < t → x j = y j) : ∀ j, j < t + 1 → upd x t v j = upd y t v j := fun j hj => by
  by_cases e : j = t
  · subst e; rw [pk_us, pk_us]
  · rw [pk_un e, pk_un e]; exact h j (by omega)
theorem upd_ag2 {x y : Nat → Int32} {t k : Nat} {v w : Int32} (hv : v = w) (h : ∀ j, j < t → x j = y j) : ∀ j, j < t → upd x k v j = upd y k w j := fun j hj => by
  subst hv
  by_cases e : j = k
  · subst e; rw [pk_us, pk_us]
  · rw [pk_un e, pk_un e]; exact h j hj
theorem ev_sim {k lc : Nat} {f1 f2 f3 : Int32} {Ls : Nat} {fa cf mf : Nat → Int32} (h0 : fa 0 = f1) (h1 : fa 1 = f2) (h2 : k = 0 → fa 2 = f3) (hcr : ∀ i, i < lc → cr1 k (cf i) (mf i)) : ∀ (m i top : Nat) (cs ms : Nat → Int32), i + m = lc → vld mf m i top → top + cnt mf m i ≤ Ls → (∀ j, j < top → cs j = ms j) → (wcM f1 f2 f3 Ls cf m i (cs, top)).2 = (mwM fa mf m i (ms, top)).2 ∧ (∀ j, j < (mwM fa mf m i (ms, top)).2 → (wcM f1 f2 f3 Ls cf m i (cs, top)).1 j = (mwM fa mf m i (ms, top)).1 j) ∧ (0 < top ∨ 0 < m → 0 < (mwM fa mf m i (ms, top)).2) := by
  intro m
  induction m with
  | zero =>
    intro i top cs ms _ _ _ hag
    exact ⟨rfl, hag, fun h => show 0 < top by omega⟩
  | succ m ih =>
    intro i top cs ms hi hv hc hag
    have hcri := hcr i (by omega)
    have e1 : wcM f1 f2 f3 Ls cf (m + 1) i (cs, top) = wcM f1 f2 f3 Ls cf m (i + 1) (wcS f1 f2 f3 Ls (cs, top) (cf i)) := rfl
    have e2 : mwM fa mf (m + 1) i (ms, top) = mwM fa mf m (i + 1) (mwS fa (ms, top) (mf i)) := rfl
    have e3 : cnt mf (m + 1) i = (if mf i < 0 then 0 else 1) + cnt mf m (i + 1) := rfl
    rw [e1, e2]
    rw [e3] at hc
    rcases hv with ⟨v, hv1, hv2, hv3, hv4⟩ | ⟨j, hj1, hj2, hj3, hj4⟩ | ⟨hn1, hn2, hn3⟩ | ⟨s, hs1, hs2, hs3⟩
    · have np : ¬ mf i < 0 := by rw [hv2]; exact nI_pos (by omega)
      rw [if_neg np] at hc
      have hcc : cf i = nI v := by
        rcases hcri with ⟨w, hw1, hw2, hw3⟩ | ⟨w, hw1, hw2, hw3⟩ | ⟨hw1, hw2⟩ | ⟨s, hs1, hs2⟩
        · rw [hw2, ← hw3, hv2]
        · exfalso
          have z := congrArg Int32.toInt (hw3.symm.trans hv2)
          unfold nmk at hw1
          rw [nI_toInt (by split at hw1 <;> omega), nI_toInt (by omega)] at z
          split at hw1 <;> omega
        · exact absurd (hw2 ▸ (by decide) : mf i < 0) np
        · exact absurd (sgn_neg hs1).1 np
      have c3 : ¬ cf i < -3 := by rw [hcc]; exact nn3 (by omega)
      have c0 : ¬ cf i < 0 := by rw [hcc]; exact nI_pos (by omega)
      have l1 : mf i < 10000 := by rw [hv2]; exact nI_lt (a := v) (b := 10000) (by omega) (by omega)
      rw [wc_push c3 (show ¬ Ls ≤ ((cs, top) : (Nat → Int32) × Nat).2 by show ¬ Ls ≤ top; omega), mw_push np, if_neg c0, if_pos l1, hcc, hv2]
      have r := ih (i + 1) (top + 1) (upd cs top (nI v)) (upd ms top (nI v)) (by omega) hv4 (by omega) (upd_ag hag)
      exact ⟨r.1, r.2.1, fun _ => r.2.2 (Or.inl (by omega))⟩
    · have np : ¬ mf i < 0 := by rw [hj2]; exact nI_pos (by omega)
      rw [if_neg np] at hc
      have hcc : cf i = -(nI (j + 1)) ∧ j < nmk k := by
        rcases hcri with ⟨w, hw1, hw2, hw3⟩ | ⟨w, hw1, hw2, hw3⟩ | ⟨hw1, hw2⟩ | ⟨s, hs1, hs2⟩
        · exfalso
          have z := congrArg Int32.toInt (hw3.symm.trans hj2)
          rw [nI_toInt (by omega), nI_toInt (by omega)] at z
          omega
        · have z := congrArg Int32.toInt (hw3.symm.trans hj2)
          have hw9 := hw1
          unfold nmk at hw9
          rw [nI_toInt (by split at hw9 <;> omega), nI_toInt (by omega)] at z
          obtain rfl : w = j := by split at hw9 <;> omega
          exact ⟨hw2, hw1⟩
        · exact absurd (hw2 ▸ (by decide) : mf i < 0) np
        · exact absurd (sgn_neg hs1).1 np
      have j3 : j < 3 := by have z := hcc.2; unfold nmk at z; split at z <;> omega
      have l1 : ¬ mf i < 10000 := by rw [hj2]; exact nI_nlt (a := 10000 + j) (b := 10000) (by omega) (by omega)
      have c3 : ¬ cf i < -3 := by rw [hcc.1]; rcases (show j = 0 ∨ j = 1 ∨ j = 2 by omega) with rfl | rfl | rfl <;> decide
      have c0 : cf i < 0 := by rw [hcc.1]; rcases (show j = 0 ∨ j = 1 ∨ j = 2 by omega) with rfl | rfl | rfl <;> decide
      have tn : (mf i).toInt.toNat - 10000 = j := by
        rw [hj2, nI_toInt (by omega)]; omega
      rw [wc_push c3 (show ¬ Ls ≤ ((cs, top) : (Nat → Int32) × Nat).2 by show ¬ Ls ≤ top; omega), mw_push np, if_pos c0, if_neg l1, tn]
      have ev : (if cf i = -1 then f1 else if cf i = -2 then f2 else f3) = fa j := by
        rw [hcc.1]
        rcases (show j = 0 ∨ j = 1 ∨ j = 2 by omega) with rfl | rfl | rfl
        · exact (if_pos (by decide)).trans h0.symm
        · exact (if_neg (by decide)).trans ((if_pos (by decide)).trans h1.symm)
        · have z := hcc.2
          unfold nmk at z
          have hk : k = 0 := Classical.byContradiction (fun q => by rw [if_neg q] at z; omega)
          exact (if_neg (by decide)).trans ((if_neg (by decide)).trans (h2 hk).symm)
      rw [ev]
      have r := ih (i + 1) (top + 1) (upd cs top (fa j)) (upd ms top (fa j)) (by omega) hj4 (by omega) (upd_ag hag)
      exact ⟨r.1, r.2.1, fun _ => r.2.2 (Or.inl (by omega))⟩
    · have hcc : cf i = -33 := by
        rcases hcri with ⟨w, hw1, hw2, hw3⟩ | ⟨w, hw1, hw2, hw3⟩ | ⟨hw1, hw2⟩ | ⟨s, hs1, hs2⟩
        · exact absurd (show nI w < 0 by rw [← hw3, hn1]; decide) (nI_pos (by omega))
        · have hw9 := hw1
          unfold nmk at hw9
          exact absurd (show nI (10000 + w) < 0 by rw [← hw3, hn1]; decide) (nI_pos (by split at hw9 <;> omega))
        · exact hw1
        · exact absurd hn1 (sgn_neg hs1).2
      have e4 : wcS f1 f2 f3 Ls (cs, top) (cf i) = (upd cs (top - 1) (if cs (top - 1) = 0 then 1 else 0), top) := by
        unfold wcS
        rw [hcc, if_pos (by decide), if_pos rfl, if_neg (show ¬ ((cs, top) : (Nat → Int32) × Nat).2 < 1 by show ¬ top < 1; omega)]
      have e5 : mwS fa (ms, top) (mf i) = (upd ms (top - 1) (if ms (top - 1) = 0 then 1 else 0), top) := by
        unfold mwS
        rw [hn1, if_pos (by decide), if_pos rfl]
      rw [e4, e5]
      have hz : (if mf i < 0 then 0 else 1) = 0 := by rw [hn1]; decide
      have r := ih (i + 1) top (upd cs (top - 1) (if cs (top - 1) = 0 then 1 else 0)) (upd ms (top - 1) (if ms (top - 1) = 0 then 1 else 0)) (by omega) hn3 (by omega) (upd_ag2 (by rw [hag (top - 1) (by omega)]) hag)
      exact ⟨r.1, r.2.1, fun _ => r.2.2 (Or.inl (by omega))⟩
    · have hneg := sgn_neg hs1
      have hcc : ∃ s', sgn (mf i) s' ∧ cf i = -s' := by
        rcases hcri with ⟨w, hw1, hw2, hw3⟩ | ⟨w, hw1, hw2, hw3⟩ | ⟨hw1, hw2⟩ | ⟨s, hs1, hs2⟩
        · exact absurd (show nI w < 0 from hw3 ▸ hneg.1) (nI_pos (by omega))
        · have hw9 := hw1
          unfold nmk at hw9
          exact absurd (show nI (10000 + w) < 0 from hw3 ▸ hneg.1) (nI_pos (by split at hw9 <;> omega))
        · exact absurd hw2 hneg.2
        · exact ⟨s, hs1, hs2⟩
      obtain ⟨s', hs', hcc⟩ := hcc
      have hk := sgn_cls hs'
      have e4 : wcS f1 f2 f3 Ls (cs, top) (cf i) = (upd cs (top - 1 - 1) (joinC s' (cs (top - 1 - 1)) (cs (top - 1))), top - 1) := by
        unfold wcS
        rw [hcc, if_pos hk.1, if_neg hk.2.1, if_neg (show ¬ ((cs, top) : (Nat → Int32) × Nat).2 < 2 by show ¬ top < 2; omega), hk.2.2]
      have e5 : mwS fa (ms, top) (mf i) = (upd ms (top - 1 - 1) (joinC s' (ms (top - 1 - 1)) (ms (top - 1))), top - 1) := by
        unfold mwS
        rw [if_pos hneg.1, if_neg hneg.2, sgn_two hs']
      rw [e4, e5]
      have hz : (if mf i < 0 then 0 else 1) = 0 := if_pos hneg.1
      have r := ih (i + 1) (top - 1) (upd cs (top - 1 - 1) (joinC s' (cs (top - 1 - 1)) (cs (top - 1)))) (upd ms (top - 1 - 1) (joinC s' (ms (top - 1 - 1)) (ms (top - 1)))) (by omega) hs3 (by omega) (upd_ag2 (by rw [hag (top - 1) (by omega), hag (top - 1 - 1) (by omega)]) (fun j hj => hag j (by omega)))
      exact ⟨r.1, r.2.1, fun _ => r.2.2 (Or.inl (by omega))⟩
def TC (tb : TB) (tx : List Value) (lk N : Nat → Int32) (c : Nat) : Prop := TXv tb.1 c tx ∧ N 7 = nI c ∧ (∀ k, k < 3 → lk k = bI (cntM (nI k) N c)) ∧ ∀ t, t < c → ∃ a ky lc, a < tb.1 ∧ tx[t]? = some (.ref (92 + 3 * a)) ∧ ky < 3 ∧ 1 ≤ lc ∧ lc ≤ 96 ∧ N (62 + 2 * t) = nI (1000 * ky + lc) ∧ tb.2.1 a = nI ky ∧ tb.2.2.1 a = N (63 + 2 * t) ∧ tb.2.2.2.1 a = lc ∧ vld (fun z => N (90 + 96 * t + z)) lc 0 0 ∧ (∀ i, i < lc → cr1 ky (tb.2.2.2.2.1 a i) (N (90 + 96 * t + i))) ∧ cnt (fun z => N (90 + 96 * t + z)) lc 0 ≤ tb.2.2.2.2.2 a
theorem tc_txm {tb : TB} {tx : List Value} {lk N : Nat → Int32} {c : Nat} (H : TC tb tx lk N c) : TXM N c := by
  refine ⟨H.2.1, H.1.2.1, fun t ht => ?_⟩
  obtain ⟨a, ky, lc, h1, h2, h3, h4, h5, h6, h7, h8, h9, h10, h11, h12⟩ := H.2.2.2 t ht
  exact ⟨ky, lc, by omega, h4, h5, h6, h10⟩
theorem cntM_cg {key : Int32} {N M : Nat → Int32} : ∀ {c : Nat}, (∀ t, t < c → N (62 + 2 * t) = M (62 + 2 * t)) → cntM key N c = cntM key M c := by
  intro c
  induction c with
  | zero => intro _; rfl
  | succ c ih =>
    intro h
    simp only [cntM]
    rw [h c (by omega), ih (fun t ht => h t (by omega))]
theorem tc_keep {tb : TB} {tx : List Value} {lk N M : Nat → Int32} {c : Nat} (h7 : M 7 = N 7) (h62 : ∀ k, 62 ≤ k → M k = N k) (H : TC tb tx lk N c) : TC tb tx lk M c := by
  refine ⟨H.1, h7.trans H.2.1, fun k hk => ?_, fun t ht => ?_⟩
  · rw [H.2.2.1 k hk]
    exact congrArg bI (cntM_cg (fun t _ => (h62 _ (by omega)).symm))
  · obtain ⟨a, ky, lc, h1, h2, h3, h4, h5, h6, h7, h8, h9, h10, h11, h12⟩ := H.2.2.2 t ht
    have e : (fun z => M (90 + 96 * t + z)) = (fun z => N (90 + 96 * t + z)) := funext (fun z => h62 _ (by omega))
    refine ⟨a, ky, lc, h1, h2, h3, h4, h5, (h62 _ (by omega)).trans h6, h7, h8.trans (h62 _ (by omega)).symm, h9, ?_, fun i hi => ?_, ?_⟩
    · rw [e]; exact h10
    · rw [h62 _ (by omega)]; exact h11 i hi
    · rw [e]; exact h12
theorem tc_wi {tb : TB} {tx : List Value} {lk N : Nat → Int32} {c k t : Nat} (H : TC tb tx lk N c) (hk : k < 3) (h : cntM (nI k) N c = some t) : wi (lk k) 0 (N 7 - 1) := by
  have ht := (cntM_lt h).1
  rw [H.2.2.1 k hk, h]
  exact wi_idx' H.2.1 (by have z := H.1.2.1; omega) ht rfl
theorem tc_nwi {tb : TB} {tx : List Value} {lk N : Nat → Int32} {c k : Nat} (H : TC tb tx lk N c) (hk : k < 3) (h : cntM (nI k) N c = none) : ¬ wi (lk k) 0 (N 7 - 1) := by
  rw [H.2.2.1 k hk, h]
  exact fun q => q.1 (by decide)
theorem nIi {a b : Nat} (ha : a < 2 ^ 31) (hb : b < 2 ^ 31) (h : nI a = nI b) : a = b := (nI_eq ha hb).mp h
theorem ref_in {a b : Nat} (h : (some (Value.ref (92 + 3 * a)) : Option Value) = some (.ref (92 + 3 * b))) : a = b := by
  have h1 := Option.some.inj h
  have h2 : 92 + 3 * a = 92 + 3 * b := Value.ref.inj h1
  omega
def evF (fa mf : Nat → Int32) (lc : Nat) : Int32 := (mwM fa mf lc 0 ((fun _ => 0), 0)).1 0
def lcF (N : Nat → Int32) (t : Nat) : Nat := (N (62 + 2 * t)).toInt.toNat % 1000
theorem lcF_eq {N : Nat → Int32} {t ky lc : Nat} (hky : ky < 3) (hlc : lc ≤ 96) (h : N (62 + 2 * t) = nI (1000 * ky + lc)) : lcF N t = lc := by
  unfold lcF
  rw [h, nI_toInt (by omega)]
  omega
def f2z (x y : Int32) : Nat → Int32 := upd (upd (fun _ => 0) 0 x) 1 y
theorem cnt_key {N : Nat → Int32} {c t k : Nat} {ky lc : Nat} (hk : k < 3) (hky : ky < 3) (hlc : lc ≤ 96) (h6 : N (62 + 2 * t) = nI (1000 * ky + lc)) (h : cntM (nI k) N c = some t) : ky = k := by
  have z := (cntM_lt h).2
  rw [h6, show (1000 : Int32) = nI 1000 from rfl, pk_div (by omega) (by omega) (by omega)] at z
  have z2 := nIi (by omega) (by omega) z
  omega
theorem ev_c {tb : TB} {tx : List Value} {lk N : Nat → Int32} {c k t a : Nat} {x y z : Int32} {sf fa : Nat → Int32} (H : TC tb tx lk N c) (hk : k < 3) (h : cntM (nI k) N c = some t) (hta : tx[t]? = some (.ref (92 + 3 * a))) (h0 : fa 0 = x) (h1 : fa 1 = y) (h2 : k = 0 → fa 2 = z) : (wcM x y z (tb.2.2.2.2.2 a) (tb.2.2.2.2.1 a) (tb.2.2.2.1 a) 0 (sf, 0)).1 0 = evF fa (fun z9 => N (90 + 96 * t + z9)) (lcF N t) := by
  obtain ⟨b, ky, lc, g1, g2, g3, g4, g5, g6, g7, g8, g9, g10, g11, g12⟩ := H.2.2.2 t (cntM_lt h).1
  obtain rfl := ref_in (hta.symm.trans g2)
  obtain rfl := cnt_key hk g3 g5 g6 h
  rw [lcF_eq g3 g5 g6, g9]
  have r := ev_sim (k := ky) (lc := lc) (Ls := tb.2.2.2.2.2 a) (cf := tb.2.2.2.2.1 a) (mf := fun z9 => N (90 + 96 * t + z9)) h0 h1 h2 g11 lc 0 0 sf (fun _ => 0) (by omega) g10 (by omega) (fun j hj => by omega)
  exact r.2.1 0 (r.2.2 (Or.inr (by omega)))
theorem ev_m {tb : TB} {tx : List Value} {lk N : Nat → Int32} {c k t lc' ky' : Nat} {x y z : Int32} {sf fa fb : Nat → Int32} (H : TC tb tx lk N c) (hk : k < 3) (h : cntM (nI k) N c = some t) (hlc : lc' ≤ 96) (hhd : N (62 + 2 * t) = nI (1000 * ky' + lc')) (hky : ky' < 3) (h0 : fa 0 = x) (h1 : fa 1 = y) (h2 : k = 0 → fa 2 = z) (i0 : fb 0 = x) (i1 : fb 1 = y) (i2 : k = 0 → fb 2 = z) : (mwM fa (fun z9 => N (90 + 96 * t + z9)) lc' 0 (sf, 0)).1 0 = evF fb (fun z9 => N (90 + 96 * t + z9)) (lcF N t) := by
  obtain ⟨b, ky, lc, g1, g2, g3, g4, g5, g6, g7, g8, g9, g10, g11, g12⟩ := H.2.2.2 t (cntM_lt h).1
  obtain rfl := cnt_key hk g3 g5 g6 h
  have e := nIi (by omega) (by omega) (hhd.symm.trans g6)
  obtain rfl : lc' = lc := by omega
  rw [lcF_eq g3 g5 g6]
  have r := ev_sim (k := ky) (lc := lc') (Ls := tb.2.2.2.2.2 b) (cf := tb.2.2.2.2.1 b) (mf := fun z9 => N (90 + 96 * t + z9)) h0 h1 h2 g11 lc' 0 0 sf sf (by omega) g10 (by omega) (fun j hj => by omega)
  have q := ev_sim (k := ky) (lc := lc') (Ls := tb.2.2.2.2.2 b) (cf := tb.2.2.2.2.1 b) (mf := fun z9 => N (90 + 96 * t + z9)) i0 i1 i2 g11 lc' 0 0 sf (fun _ => 0) (by omega) g10 (by omega) (fun j hj => by omega)
  exact (r.2.1 0 (r.2.2 (Or.inr (by omega)))).symm.trans (q.2.1 0 (q.2.2 (Or.inr (by omega))))
def plF (N : Nat → Int32) (c f : Nat) : Int32 := match cntM 0 N c with
  | none => (N (24 + 5 * f) + N 3) / 2
  | some t => hw (evF (f3 (fun _ => 0) (N (24 + 5 * f)) (N 3) (N (25 + 5 * f))) (fun z9 => N (90 + 96 * t + z9)) (lcF N t)) 99
def tnF (N : Nat → Int32) (c f : Nat) : Int32 := toneK (N (22 + 5 * f)) (N 3) (plF N c f)
theorem plF_n {N : Nat → Int32} {c f : Nat} (h : cntM 0 N c = none) : plF N c f = (N (24 + 5 * f) + N 3) / 2 := by
  unfold plF; rw [h]
theorem plF_s {N : Nat → Int32} {c f t : Nat} (h : cntM 0 N c = some t) : plF N c f = hw (evF (f3 (fun _ => 0) (N (24 + 5 * f)) (N 3) (N (25 + 5 * f))) (fun z9 => N (90 + 96 * t + z9)) (lcF N t)) 99 := by
  unfold plF; rw [h]
theorem f3_0 {fa : Nat → Int32} {x y z : Int32} : f3 fa x y z 0 = x := rfl
theorem f3_1 {fa : Nat → Int32} {x y z : Int32} : f3 fa x y z 1 = y := rfl
theorem f3_2 {fa : Nat → Int32} {x y z : Int32} : f3 fa x y z 2 = z := rfl
theorem tn_c {tb : TB} {tx : List Value} {lk N : Nat → Int32} {c f : Nat} {τ : Int32} (H : TC tb tx lk N c) (h : TNr tb tx lk N f τ) : τ = tnF N c f := by
  obtain ⟨pl, hp, rfl⟩ := h
  refine congrArg (toneK (N (22 + 5 * f)) (N 3)) ?_
  rcases hp with ⟨h1, rfl⟩ | ⟨t, a, sf, h1, h2, h3, h4, rfl⟩
  · cases ec : cntM 0 N c with
    | none => exact (plF_n ec).symm
    | some t => exact absurd (tc_wi (k := 0) H (by omega) ec) h1
  · cases ec : cntM 0 N c with
    | none => exact absurd h1 (tc_nwi (k := 0) H (by omega) ec)
    | some u =>
      have e := H.2.2.1 0 (by omega)
      rw [show cntM (nI 0) N c = some u from ec, h2] at e
      have hu := (cntM_lt ec).1
      have h14 := H.1.2.1
      have ht : t < 14 := by
        have z := (List.getElem?_eq_some_iff.mp h4).1
        rw [H.1.1] at z
        exact z
      obtain rfl := nIi (by omega) (by omega) e
      rw [plF_s ec]
      exact congrArg (fun z => hw z 99) (ev_c (k := 0) H (by omega) ec h4 f3_0 f3_1 (fun _ => f3_2))
theorem hw99 (v : Int32) : wi (hw v 99) 0 99 := by
  unfold hw
  by_cases q : 0 ≤ v
  · rw [if_pos q]
    by_cases r : 99 < v
    · rw [if_pos r]; exact ⟨by decide, by decide⟩
    · rw [if_neg r]; exact ⟨Int32.not_lt.mpr q, r⟩
  · rw [if_neg q]; exact ⟨by decide, by decide⟩
theorem hw9 (v : Int32) : wi (hw v 9) 0 9 := by
  unfold hw
  by_cases q : 0 ≤ v
  · rw [if_pos q]
    by_cases r : 9 < v
    · rw [if_pos r]; exact ⟨by decide, by decide⟩
    · rw [if_neg r]; exact ⟨Int32.not_lt.mpr q, r⟩
  · rw [if_neg q]; exact ⟨by decide, by decide⟩
theorem half99 {x y : Int32} (hx : wi x 0 99) (hy : wi y 0 99) : wi ((x + y) / 2) 0 99 := by
  obtain ⟨p, hp, rfl⟩ := wi_nI (H := 99) (by decide) (by decide) hx
  obtain ⟨q, hq, rfl⟩ := wi_nI (H := 99) (by decide) (by decide) hy
  rw [nI_add, show (2 : Int32) = nI 2 from rfl, pk_div (by omega) (by omega) (by omega)]
  exact wi_n0 (c := 99) (by omega) (by omega)
theorem pl_wi {N : Nat → Int32} {fr c f : Nat} (hR : RK N fr c) (hf : f < 8) : wi (plF N c f) 0 99 := by
  cases ec : cntM 0 N c with
  | none => rw [plF_n ec]; exact half99 (hR.2.2.2.2.1 f hf).2.2 hR.2.2.2.2.2.2.2
  | some t => rw [plF_s ec]; exact hw99 _
theorem tn_m {tb : TB} {tx : List Value} {lk N : Nat → Int32} {fr c f : Nat} {τ : Int32} (H : TC tb tx lk N c) (hR : RK N fr c) (hf : f < 8) (h : MTr N c f τ) : τ = tnF N c f := by
  obtain ⟨pl, hp, rfl⟩ := h
  have e : pl = plF N c f := by
    rcases hp with ⟨h1, rfl⟩ | ⟨t, lc, ky, sf, fa, h1, hky, h2, h3, rfl⟩
    · exact (plF_n h1).symm
    · rw [plF_s h1, wn_hw]
      exact congrArg (fun z => hw z 99) (ev_m (k := 0) H (by omega) h1 h2 h3 (by omega) f3_0 f3_1 (fun _ => f3_2) f3_0 f3_1 (fun _ => f3_2))
  rw [e]
  exact tone_eq (hR.2.2.2.2.1 f hf).1 (pl_wi hR hf)
abbrev S3 : Type := (Nat → Int32) × (Nat → Int32) × Int32
def sd (N : Nat → Int32) (f : Nat) : Nat → Int32 := drawN (sentN N f)
def letF (c f : Nat) (σ : S3) : S3 :=
  if rem100 (drawV (sentN σ.1 f)) < sd σ.1 f 5 then (upd (sd σ.1 f) 6 (sd σ.1 f 6 + 1), σ.2.1, σ.2.2)
  else if tnF (sd σ.1 f) c f < 50 then (match mt (sd σ.1 f) f with
    | none => (sd σ.1 f, σ.2.1, σ.2.2)
    | some t => (upd (sd σ.1 f) (26 + 5 * f) (sd σ.1 f (26 + 5 * f) + 1), upd σ.2.1 t (σ.2.1 t + (if sd σ.1 f (23 + 5 * f) = 0 then -1 else 1)), σ.2.2 - 1))
  else (sd σ.1 f, σ.2.1, σ.2.2 + 5)
theorem letF_l {c f : Nat} {σ : S3} (h : rem100 (drawV (sentN σ.1 f)) < sd σ.1 f 5) : letF c f σ = (upd (sd σ.1 f) 6 (sd σ.1 f 6 + 1), σ.2.1, σ.2.2) := if_pos h
theorem letF_r {c f : Nat} {σ : S3} (h : ¬ rem100 (drawV (sentN σ.1 f)) < sd σ.1 f 5) (h2 : ¬ tnF (sd σ.1 f) c f < 50) : letF c f σ = (sd σ.1 f, σ.2.1, σ.2.2 + 5) := (if_neg h).trans (if_neg h2)
theorem letF_n {c f : Nat} {σ : S3} (h : ¬ rem100 (drawV (sentN σ.1 f)) < sd σ.1 f 5) (h2 : tnF (sd σ.1 f) c f < 50) (h3 : mt (sd σ.1 f) f = none) : letF c f σ = (sd σ.1 f, σ.2.1, σ.2.2) := by
  refine (if_neg h).trans ((if_pos h2).trans ?_)
  rw [h3]
theorem letF_y {c f t : Nat} {σ : S3} (h : ¬ rem100 (drawV (sentN σ.1 f)) < sd σ.1 f 5) (h2 : tnF (sd σ.1 f) c f < 50) (h3 : mt (sd σ.1 f) f = some t) : letF c f σ = (upd (sd σ.1 f) (26 + 5 * f) (sd σ.1 f (26 + 5 * f) + 1), upd σ.2.1 t (σ.2.1 t + (if sd σ.1 f (23 + 5 * f) = 0 then -1 else 1)), σ.2.2 - 1) := by
  refine (if_neg h).trans ((if_pos h2).trans ?_)
  rw [h3]
theorem rk_keep {N M : Nat → Int32} {fr c : Nat} (h : mkp M N) (H : RK N fr c) : RK M fr c := by
  obtain ⟨h1, h2, h3, h4, h5, h6, h7, h8⟩ := H
  refine ⟨(h 1 (by omega) (by omega) (by omega)).trans h1, h2, (h 7 (by omega) (by omega) (by omega)).trans h3, h4, fun f hf => ?_, fun t ht => ?_, fun j hj => ?_, ?_⟩
  · rw [h (22 + 5 * f) (by omega) (by omega) (by omega), h (23 + 5 * f) (by omega) (by omega) (by omega), h (24 + 5 * f) (by omega) (by omega) (by omega)]
    exact h5 f hf
  · rw [h (8 + t) (by omega) (by omega) (by omega)]; exact h6 t ht
  · rw [h (12 + j) (by omega) (by omega) (by omega)]; exact h7 j hj
  · rw [h 3 (by omega) (by omega) (by omega)]; exact h8
theorem tc_mkp {tb : TB} {tx : List Value} {lk N M : Nat → Int32} {c : Nat} (h : mkp M N) (H : TC tb tx lk N c) : TC tb tx lk M c := tc_keep (h 7 (by omega) (by omega) (by omega)) (fun k hk => h k (by omega) (by omega) (by omega)) H
theorem let_m {tb : TB} {tx : List Value} {lk : Nat → Int32} {fr c f : Nat} {σ σ' : S3} (H : TC tb tx lk σ.1 c) (hR : RK σ.1 fr c) (hf : f < 8) (h : mLe (fun N τ => MTr N c f τ) f σ σ') : σ' = letF c f σ := by
  have kp : mkp (sd σ.1 f) σ.1 := mkp_d hf
  have H2 := tc_mkp kp H
  have R2 := rk_keep kp hR
  rcases h with ⟨h1, rfl⟩ | ⟨h1, τ, h2, ⟨h3, rfl⟩ | ⟨h3, h4, rfl⟩ | ⟨h3, t, h4, h5, rfl⟩⟩
  · exact (letF_l h1).symm
  · have e := tn_m H2 R2 hf h2
    exact (letF_r h1 (e ▸ h3)).symm
  · have e := tn_m H2 R2 hf h2
    exact (letF_n h1 (e ▸ h3) h4).symm
  · have e := tn_m H2 R2 hf h2
    exact (letF_y h1 (e ▸ h3) h5).symm
theorem sd_y {N : Nat → Int32} {f j : Nat} : sd N f (26 + 5 * j) = N (26 + 5 * j) := by
  unfold sd drawN sentN
  rw [pk_un (by omega), pk_un (by omega)]
theorem addsub (s x : Int32) : s = s + (x - x) := by rw [Int32.sub_self, Int32.add_zero]
theorem addsub1 (s x : Int32) : s + 1 = s + (x + 1 - x) := by grind
theorem let_c {tb : TB} {tx : List Value} {lk N mv : Nat → Int32} {w s : Int32} {fr c f : Nat} {σ' : (Nat → Int32) × (Nat → Int32) × Int32 × Int32} (H : TC tb tx lk N c) (hR : RK N fr c) (hf : f < 8) (h : letR tb tx lk f (N, mv, w, s) σ') : (σ'.1, σ'.2.1, σ'.2.2.1) = letF c f (N, mv, w) ∧ σ'.2.2.2 = s + (σ'.1 (26 + 5 * f) - N (26 + 5 * f)) := by
  have kp : mkp (sd N f) N := mkp_d hf
  have H2 := tc_mkp kp H
  have R2 := rk_keep kp hR
  have hm := mt_ty (N := sd N f) (f := f) (R2.2.2.2.2.1 f hf).1 (R2.2.2.2.2.1 f hf).2.1 R2.2.2.2.2.2.1 R2.2.2.2.2.2.2.1
  rcases h with ⟨h1, rfl⟩ | ⟨h1, τ, h2, ⟨h3, rfl⟩ | ⟨h3, h4, rfl⟩ | ⟨h3, t, h4, h5, rfl⟩⟩
  · refine ⟨(letF_l (σ := (N, mv, w)) (Int32.not_le.mp h1)).symm, ?_⟩
    show s = s + (upd (sd N f) 6 _ (26 + 5 * f) - N (26 + 5 * f))
    rw [pk_un (by omega), sd_y]; exact addsub _ _
  · have e := tn_c H2 h2
    refine ⟨(letF_r (σ := (N, mv, w)) (Int32.not_lt.mpr h1) (show ¬ tnF (sd N f) c f < 50 from e ▸ h3)).symm, ?_⟩
    show s = s + (sd N f (26 + 5 * f) - N (26 + 5 * f))
    rw [sd_y]; exact addsub _ _
  · have e := tn_c H2 h2
    have hn : mt (sd N f) f = none := by
      cases q : mt (sd N f) f with
      | none => rfl
      | some t =>
        have ht : t < 4 := mtM_lt 4 0 none (by omega) (fun u z => by cases z) t q
        rw [q] at hm
        exact absurd (show wi (ty (sd N f) f) 0 3 from hm ▸ wi_n0 (c := 3) (by omega) (by omega)) h4
    refine ⟨(letF_n (σ := (N, mv, w)) (Int32.not_lt.mpr h1) (show tnF (sd N f) c f < 50 from e ▸ h3) hn).symm, ?_⟩
    show s = s + (sd N f (26 + 5 * f) - N (26 + 5 * f))
    rw [sd_y]; exact addsub _ _
  · have e := tn_c H2 h2
    have hn : mt (sd N f) f = some t := by
      cases q : mt (sd N f) f with
      | none =>
        rw [q] at hm
        have z : nI t < 0 := (show nI t = -1 from (show ty (sd N f) f = nI t from h5).symm.trans hm.symm) ▸ (by decide)
        exact absurd z (nI_pos (by omega))
      | some u =>
        have hu : u < 4 := mtM_lt 4 0 none (by omega) (fun u z => by cases z) u q
        rw [q] at hm
        have z : nI u = nI t := hm.trans h5
        rw [nIi (by omega) (by omega) z]
    refine ⟨?_, ?_⟩
    · refine ((letF_y (σ := (N, mv, w)) (Int32.not_lt.mpr h1) (show tnF (sd N f) c f < 50 from e ▸ h3) hn).trans ?_).symm
      show (_, _, w - 1) = (_, _, w + -1)
      rw [Int32.sub_eq_add_neg]
      rfl
    · show s + 1 = s + (upd (sd N f) (26 + 5 * f) (sd N f (26 + 5 * f) + 1) (26 + 5 * f) - N (26 + 5 * f))
      rw [pk_us, sd_y]; exact addsub1 _ _
theorem letF_k {c f k : Nat} {σ : S3} (h0 : k ≠ 0) (h6 : k ≠ 6) (h5 : k ≠ 25 + 5 * f) (h7 : k ≠ 26 + 5 * f) : (letF c f σ).1 k = σ.1 k := by
  have e : sd σ.1 f k = σ.1 k := (pk_un h0).trans (pk_un h5)
  by_cases q : rem100 (drawV (sentN σ.1 f)) < sd σ.1 f 5
  · rw [letF_l q]; exact (pk_un h6).trans e
  · by_cases r : tnF (sd σ.1 f) c f < 50
    · cases z : mt (sd σ.1 f) f with
      | none => rw [letF_n q r z]; exact e
      | some t => rw [letF_y q r z]; exact (pk_un h7).trans e
    · rw [letF_r q r]; exact e
def lsF (c : Nat) (wo : Int32) : Nat → Nat → S3 → S3
  | 0, _, σ => σ
  | m + 1, f, σ => lsF c wo m (f + 1) (if nI f = wo then σ else letF c f σ)
theorem lsF_k {c k : Nat} {wo : Int32} (h0 : k ≠ 0) (h6 : k ≠ 6) : ∀ (m i : Nat) (σ : S3), (∀ f, i ≤ f → f < i + m → k ≠ 25 + 5 * f ∧ k ≠ 26 + 5 * f) → (lsF c wo m i σ).1 k = σ.1 k := by
  intro m
  induction m with
  | zero => intro i σ _; rfl
  | succ m ih =>
    intro i σ h
    show (lsF c wo m (i + 1) (if nI i = wo then σ else letF c i σ)).1 k = σ.1 k
    rw [ih (i + 1) _ (fun f h1 h2 => h f (by omega) (by omega))]
    by_cases q : nI i = wo
    · rw [if_pos q]
    · rw [if_neg q]; exact letF_k h0 h6 (h i (by omega) (by omega)).1 (h i (by omega) (by omega)).2
theorem lsF_mkp {c : Nat} {wo : Int32} {m i : Nat} {σ : S3} (h : i + m ≤ 8) : mkp (lsF c wo m i σ).1 σ.1 := fun k h0 h6 hk => lsF_k h0 h6 m i σ (fun f h1 h2 => hk f (by omega))
theorem letF_mkp {c f : Nat} {σ : S3} (h : f < 8) : mkp (letF c f σ).1 σ.1 := fun k h0 h6 hk => letF_k h0 h6 (hk f h).1 (hk f h).2
theorem sumM_acc {w : Nat} {N : Nat → Int32} : ∀ (m f : Nat) (s : Int32), sumM w N m f s = s + sumM w N m f 0 := by
  intro m
  induction m with
  | zero => intro f s; exact (Int32.add_zero s).symm
  | succ m ih =>
    intro f s
    show sumM w N m (f + 1) (s + N (w + 5 * f)) = s + sumM w N m (f + 1) (0 + N (w + 5 * f))
    rw [ih, ih (f + 1) (0 + N (w + 5 * f)), Int32.zero_add, Int32.add_assoc]
theorem sumM_cg {w : Nat} {N M : Nat → Int32} : ∀ (m f : Nat) (s : Int32), (∀ j, f ≤ j → j < f + m → N (w + 5 * j) = M (w + 5 * j)) → sumM w N m f s = sumM w M m f s := by
  intro m
  induction m with
  | zero => intro f s _; rfl
  | succ m ih =>
    intro f s h
    show sumM w N m (f + 1) (s + N (w + 5 * f)) = sumM w M m (f + 1) (s + M (w + 5 * f))
    rw [h f (by omega) (by omega)]
    exact ih (f + 1) _ (fun j h1 h2 => h j (by omega) (by omega))
theorem ring4 (s a b x y : Int32) : s + (a - b) + (x - y) = s + ((0 + a + x) - (0 + b + y)) := by grind
theorem ring2 (s a x y : Int32) : s + (x - y) = s + ((0 + a + x) - (0 + a + y)) := by grind
theorem ls_c {tb : TB} {tx : List Value} {lk : Nat → Int32} {wo : Int32} {fr c : Nat} : ∀ (m i : Nat) (N mv : Nat → Int32) (w s : Int32) (σ' : (Nat → Int32) × (Nat → Int32) × Int32 × Int32), i + m ≤ 8 → TC tb tx lk N c → RK N fr c → LSr tb tx lk wo m i (N, mv, w, s) σ' → (σ'.1, σ'.2.1, σ'.2.2.1) = lsF c wo m i (N, mv, w) ∧ σ'.2.2.2 = s + (sumM 26 σ'.1 m i 0 - sumM 26 N m i 0) := by
  intro m
  induction m with
  | zero =>
    intro i N mv w s σ' _ _ _ h
    obtain rfl : σ' = (N, mv, w, s) := h
    exact ⟨rfl, addsub _ _⟩
  | succ m ih =>
    intro i N mv w s σ' hi H hR h
    obtain ⟨σ1, h1, h2⟩ := h
    have e0 : lsF c wo (m + 1) i (N, mv, w) = lsF c wo m (i + 1) (if nI i = wo then (N, mv, w) else letF c i (N, mv, w)) := rfl
    have es : ∀ M : Nat → Int32, sumM 26 M (m + 1) i 0 = 0 + M (26 + 5 * i) + sumM 26 M m (i + 1) 0 := fun M => by
      show sumM 26 M m (i + 1) (0 + M (26 + 5 * i)) = _
      exact sumM_acc m (i + 1) _
    rcases h1 with ⟨q, rfl⟩ | ⟨q, h1⟩
    · have r := ih (i + 1) N mv w s σ' (by omega) H hR h2
      rw [e0, if_pos q]
      refine ⟨r.1, ?_⟩
      have e1 : σ'.1 (26 + 5 * i) = N (26 + 5 * i) := by
        have z := congrArg (fun z : S3 => z.1 (26 + 5 * i)) r.1
        exact z.trans (lsF_k (by omega) (by omega) m (i + 1) (N, mv, w) (fun f h1 h2 => by omega))
      rw [r.2, es, es, e1]
      exact ring2 _ _ _ _
    · obtain ⟨M, mv1, w1, s1⟩ := σ1
      have hl := let_c H hR (by omega) h1
      have el : letF c i (N, mv, w) = (M, mv1, w1) := hl.1.symm
      have kp : mkp M N := by
        have z := letF_mkp (c := c) (σ := (N, mv, w)) (f := i) (by omega)
        rw [el] at z
        exact z
      have r := ih (i + 1) M mv1 w1 s1 σ' (by omega) (tc_mkp kp H) (rk_keep kp hR) h2
      rw [e0, if_neg q, el]
      refine ⟨r.1, ?_⟩
      have e1 : σ'.1 (26 + 5 * i) = M (26 + 5 * i) := by
        have z := congrArg (fun z : S3 => z.1 (26 + 5 * i)) r.1
        exact z.trans (lsF_k (by omega) (by omega) m (i + 1) (M, mv1, w1) (fun f h1 h2 => by omega))
      have e2 : sumM 26 M m (i + 1) 0 = sumM 26 N m (i + 1) 0 := sumM_cg m (i + 1) 0 (fun j h1 h2 => by
        have z := congrArg (fun z : S3 => z.1 (26 + 5 * j)) el
        exact z.symm.trans (letF_k (by omega) (by omega) (by omega) (by omega)))
      have hs : s1 = s + (M (26 + 5 * i) - N (26 + 5 * i)) := hl.2
      rw [r.2, hs, es, es, e1, e2]
      exact ring4 _ _ _ _ _
theorem ls_m {tb : TB} {tx : List Value} {lk : Nat → Int32} {wo : Int32} {fr c : Nat} : ∀ (m i : Nat) (σ σ' : S3), i + m ≤ 8 → TC tb tx lk σ.1 c → RK σ.1 fr c → LSm c wo m i σ σ' → σ' = lsF c wo m i σ := by
  intro m
  induction m with
  | zero => intro i σ σ' _ _ _ h; exact h
  | succ m ih =>
    intro i σ σ' hi H hR h
    show σ' = lsF c wo m (i + 1) (if nI i = wo then σ else letF c i σ)
    rcases h with ⟨q, h⟩ | ⟨q, σ1, h1, h⟩
    · rw [if_pos q]; exact ih (i + 1) σ σ' (by omega) H hR h
    · rw [if_neg q]
      have e := let_m H hR (by omega) h1
      have kp : mkp σ1.1 σ.1 := e ▸ letF_mkp (by omega)
      rw [← e]
      exact ih (i + 1) σ1 σ' (by omega) (tc_mkp kp H) (rk_keep kp hR) h
theorem upd_comm {f : Nat → Int32} {k j : Nat} {x y : Int32} (h : k ≠ j) : upd (upd f k x) j y = upd (upd f j y) k x := funext (fun i => by
  by_cases e : i = j
  · subst e; rw [pk_us, pk_un (fun q => h q.symm), pk_us]
  · by_cases e2 : i = k
    · subst e2; rw [pk_un e, pk_us, pk_us]
    · rw [pk_un e, pk_un e2, pk_un e2, pk_un e])
theorem upd_upd {f : Nat → Int32} {k : Nat} {x y : Int32} : upd (upd f k x) k y = upd f k y := funext (fun i => by
  by_cases e : i = k
  · subst e; rw [pk_us, pk_us]
  · rw [pk_un e, pk_un e, pk_un e])
theorem tnF_2 {N : Nat → Int32} {x : Int32} {c f : Nat} : tnF (upd N 2 x) c f = tnF N c f := by
  have e1 : cntM 0 (upd N 2 x) c = cntM 0 N c := cntM_cg (fun t _ => pk_un (by omega))
  have e2 : ∀ k, k ≠ 2 → upd N 2 x k = N k := fun k h => pk_un h
  unfold tnF
  rw [e2 (22 + 5 * f) (by omega), e2 3 (by omega)]
  refine congrArg (toneK (N (22 + 5 * f)) (N 3)) ?_
  cases ec : cntM 0 N c with
  | none => rw [plF_n ec, plF_n (e1.trans ec), e2 (24 + 5 * f) (by omega), e2 3 (by omega)]
  | some t =>
    have e3 : (fun z9 => upd N 2 x (90 + 96 * t + z9)) = (fun z9 => N (90 + 96 * t + z9)) := funext (fun z => e2 _ (by omega))
    have e4 : lcF (upd N 2 x) t = lcF N t := by unfold lcF; rw [e2 _ (by omega)]
    rw [plF_s ec, plF_s (e1.trans ec), e2 (24 + 5 * f) (by omega), e2 3 (by omega), e2 (25 + 5 * f) (by omega), e3, e4]
theorem mpk_2 {k s : Int32} {N : Nat → Int32} {t : Nat} {x : Int32} : mpk k s (upd N 2 x) t = mpk k s N t := by
  unfold mpk
  rw [pk_un (f := N) (show 16 + t ≠ 2 by omega), pk_un (f := N) (show 12 + t ≠ 2 by omega)]
theorem mtS_2 {k s e x : Int32} {N : Nat → Int32} {t : Nat} {p : Option Nat} : mtS k s e (upd N 2 x) t p = mtS k s e N t p := by
  cases p with
  | none => simp only [mtS]; rw [pk_un (f := N) (show 8 + t ≠ 2 by omega)]
  | some u => simp only [mtS]; rw [pk_un (f := N) (show 8 + t ≠ 2 by omega), mpk_2, mpk_2]
theorem mtM_2 {k s e x : Int32} {N : Nat → Int32} : ∀ (m t : Nat) (p : Option Nat), mtM k s e (upd N 2 x) m t p = mtM k s e N m t p := by
  intro m
  induction m with
  | zero => intro t p; rfl
  | succ m ih =>
    intro t p
    show mtM k s e (upd N 2 x) m (t + 1) (mtS k s e (upd N 2 x) t p) = mtM k s e N m (t + 1) (mtS k s e N t p)
    rw [mtS_2]; exact ih _ _
theorem mt_2 {N : Nat → Int32} {x : Int32} {f : Nat} : mt (upd N 2 x) f = mt N f := by
  unfold mt
  rw [pk_un (f := N) (show 22 + 5 * f ≠ 2 by omega), pk_un (f := N) (show 23 + 5 * f ≠ 2 by omega)]
  exact mtM_2 _ _ _
theorem sent_2 {N : Nat → Int32} {x : Int32} {f : Nat} : sentN (upd N 2 x) f = upd (sentN N f) 2 x := by
  unfold sentN
  rw [pk_un (f := N) (show 25 + 5 * f ≠ 2 by omega)]
  exact upd_comm (by omega)
theorem sd_2 {N : Nat → Int32} {x : Int32} {f : Nat} : sd (upd N 2 x) f = upd (sd N f) 2 x := by
  unfold sd
  rw [sent_2]
  unfold drawN
  have e : drawZ (upd (sentN N f) 2 x) = drawZ (sentN N f) := rfl
  rw [e]
  exact upd_comm (by omega)
theorem dv_2 {N : Nat → Int32} {x : Int32} {f : Nat} : drawV (sentN (upd N 2 x) f) = drawV (sentN N f) := by
  rw [sent_2]; rfl
theorem letF_2 {c f : Nat} {N mv : Nat → Int32} {w x : Int32} : letF c f (upd N 2 x, mv, w) = (upd (letF c f (N, mv, w)).1 2 x, (letF c f (N, mv, w)).2.1, (letF c f (N, mv, w)).2.2) := by
  have e5 : sd (upd N 2 x) f 5 = sd N f 5 := by rw [sd_2]; exact pk_un (by omega)
  have ed : drawV (sentN (upd N 2 x) f) = drawV (sentN N f) := dv_2
  have et : tnF (sd (upd N 2 x) f) c f = tnF (sd N f) c f := by rw [sd_2]; exact tnF_2
  have em : mt (sd (upd N 2 x) f) f = mt (sd N f) f := by rw [sd_2]; exact mt_2
  by_cases q : rem100 (drawV (sentN N f)) < sd N f 5
  · rw [letF_l (σ := (N, mv, w)) q, letF_l (σ := (upd N 2 x, mv, w)) (by rw [ed, e5]; exact q)]
    show (upd (sd (upd N 2 x) f) 6 (sd (upd N 2 x) f 6 + 1), mv, w) = (upd (upd (sd N f) 6 (sd N f 6 + 1)) 2 x, mv, w)
    rw [sd_2, pk_un (f := sd N f) (show 6 ≠ 2 by omega), upd_comm (by omega)]
  · have q2 : ¬ rem100 (drawV (sentN (upd N 2 x) f)) < sd (upd N 2 x) f 5 := by rw [ed, e5]; exact q
    by_cases r : tnF (sd N f) c f < 50
    · have r2 : tnF (sd (upd N 2 x) f) c f < 50 := by rw [et]; exact r
      cases z : mt (sd N f) f with
      | none =>
        rw [letF_n (σ := (N, mv, w)) q r z, letF_n (σ := (upd N 2 x, mv, w)) q2 r2 (em.trans z)]
        show (sd (upd N 2 x) f, mv, w) = (upd (sd N f) 2 x, mv, w)
        rw [sd_2]
      | some t =>
        rw [letF_y (σ := (N, mv, w)) q r z, letF_y (σ := (upd N 2 x, mv, w)) q2 r2 (em.trans z)]
        show (upd (sd (upd N 2 x) f) (26 + 5 * f) (sd (upd N 2 x) f (26 + 5 * f) + 1), upd mv t (mv t + (if sd (upd N 2 x) f (23 + 5 * f) = 0 then -1 else 1)), w - 1) = (upd (upd (sd N f) (26 + 5 * f) (sd N f (26 + 5 * f) + 1)) 2 x, upd mv t (mv t + (if sd N f (23 + 5 * f) = 0 then -1 else 1)), w - 1)
        rw [sd_2, pk_un (f := sd N f) (show 26 + 5 * f ≠ 2 by omega), pk_un (f := sd N f) (show 23 + 5 * f ≠ 2 by omega), upd_comm (by omega)]
    · rw [letF_r (σ := (N, mv, w)) q r, letF_r (σ := (upd N 2 x, mv, w)) q2 (by rw [et]; exact r)]
      show (sd (upd N 2 x) f, mv, w + 5) = (upd (sd N f) 2 x, mv, w + 5)
      rw [sd_2]
theorem lsF_2 {c : Nat} {wo x : Int32} : ∀ (m i : Nat) (N mv : Nat → Int32) (w : Int32), lsF c wo m i (upd N 2 x, mv, w) = (upd (lsF c wo m i (N, mv, w)).1 2 x, (lsF c wo m i (N, mv, w)).2.1, (lsF c wo m i (N, mv, w)).2.2) := by
  intro m
  induction m with
  | zero => intro i N mv w; rfl
  | succ m ih =>
    intro i N mv w
    show lsF c wo m (i + 1) (if nI i = wo then (upd N 2 x, mv, w) else letF c i (upd N 2 x, mv, w)) = (upd (lsF c wo m (i + 1) (if nI i = wo then (N, mv, w) else letF c i (N, mv, w))).1 2 x, (lsF c wo m (i + 1) (if nI i = wo then (N, mv, w) else letF c i (N, mv, w))).2.1, (lsF c wo m (i + 1) (if nI i = wo then (N, mv, w) else letF c i (N, mv, w))).2.2)
    by_cases q : nI i = wo
    · rw [if_pos q, if_pos q]; exact ih _ _ _ _
    · rw [if_neg q, if_neg q, letF_2]; exact ih _ _ _ _
theorem letF_mv {c f : Nat} {N mv mv' : Nat → Int32} {w : Int32} (h : ∀ j, j < 4 → mv j = mv' j) : (letF c f (N, mv, w)).1 = (letF c f (N, mv', w)).1 ∧ (letF c f (N, mv, w)).2.2 = (letF c f (N, mv', w)).2.2 ∧ ∀ j, j < 4 → (letF c f (N, mv, w)).2.1 j = (letF c f (N, mv', w)).2.1 j := by
  by_cases q : rem100 (drawV (sentN N f)) < sd N f 5
  · rw [letF_l (σ := (N, mv, w)) q, letF_l (σ := (N, mv', w)) q]; exact ⟨rfl, rfl, h⟩
  · by_cases r : tnF (sd N f) c f < 50
    · cases z : mt (sd N f) f with
      | none => rw [letF_n (σ := (N, mv, w)) q r z, letF_n (σ := (N, mv', w)) q r z]; exact ⟨rfl, rfl, h⟩
      | some t =>
        have ht : t < 4 := mtM_lt 4 0 none (by omega) (fun u z => by cases z) t z
        rw [letF_y (σ := (N, mv, w)) q r z, letF_y (σ := (N, mv', w)) q r z]
        exact ⟨rfl, rfl, upd_ag2 (by show mv t + _ = mv' t + _; rw [h t ht]) h⟩
    · rw [letF_r (σ := (N, mv, w)) q r, letF_r (σ := (N, mv', w)) q r]; exact ⟨rfl, rfl, h⟩
theorem lsF_mv {c : Nat} {wo : Int32} : ∀ (m i : Nat) (N mv mv' : Nat → Int32) (w : Int32), (∀ j, j < 4 → mv j = mv' j) → (lsF c wo m i (N, mv, w)).1 = (lsF c wo m i (N, mv', w)).1 ∧ (lsF c wo m i (N, mv, w)).2.2 = (lsF c wo m i (N, mv', w)).2.2 ∧ ∀ j, j < 4 → (lsF c wo m i (N, mv, w)).2.1 j = (lsF c wo m i (N, mv', w)).2.1 j := by
  intro m
  induction m with
  | zero => intro i N mv mv' w h; exact ⟨rfl, rfl, h⟩
  | succ m ih =>
    intro i N mv mv' w h
    show (lsF c wo m (i + 1) (if nI i = wo then (N, mv, w) else letF c i (N, mv, w))).1 = (lsF c wo m (i + 1) (if nI i = wo then (N, mv', w) else letF c i (N, mv', w))).1 ∧ (lsF c wo m (i + 1) (if nI i = wo then (N, mv, w) else letF c i (N, mv, w))).2.2 = (lsF c wo m (i + 1) (if nI i = wo then (N, mv', w) else letF c i (N, mv', w))).2.2 ∧ ∀ j, j < 4 → (lsF c wo m (i + 1) (if nI i = wo then (N, mv, w) else letF c i (N, mv, w))).2.1 j = (lsF c wo m (i + 1) (if nI i = wo then (N, mv', w) else letF c i (N, mv', w))).2.1 j
    by_cases q : nI i = wo
    · rw [if_pos q, if_pos q]; exact ih _ _ _ _ _ h
    · rw [if_neg q, if_neg q]
      have z := letF_mv (c := c) (f := i) (N := N) (w := w) h
      generalize letF c i (N, mv, w) = A at z ⊢
      generalize letF c i (N, mv', w) = B at z ⊢
      obtain ⟨A1, A2, A3⟩ := A
      obtain ⟨B1, B2, B3⟩ := B
      obtain ⟨z1, z2, z3⟩ := z
      cases z1
      cases z2
      exact ih _ _ _ _ _ z3
def coreF (c fr : Nat) (wo : Int32) (N : Nat → Int32) : Nat → Int32 := endM (lsF c wo fr 0 (N, (fun _ => 0), 0)).1 (lsF c wo fr 0 (N, (fun _ => 0), 0)).2.1 (lsF c wo fr 0 (N, (fun _ => 0), 0)).2.2
noncomputable def postF (c fr : Nat) (wo : Int32) (N : Nat → Int32) : Nat → Int32 := cI (peace N ∨ duel N) (pst N) (upd (coreF c fr wo N) 2 (N 2 + 1))
noncomputable def goF (c fr : Nat) (wo : Int32) : Nat → (Nat → Int32) → (Nat → Int32)
  | 0, N => N
  | m + 1, N => goF c fr wo m (postF c fr wo N)
theorem endM_2 {N mv : Nat → Int32} {w x : Int32} : endM (upd N 2 x) mv w = upd (endM N mv w) 2 x := by
  unfold endM
  rw [show upd N 2 x 8 = N 8 from rfl, show upd N 2 x 9 = N 9 from rfl, show upd N 2 x 10 = N 10 from rfl, show upd N 2 x 11 = N 11 from rfl, show upd N 2 x 3 = N 3 from rfl]
  rw [upd_comm (k := 2) (j := 8) (by omega), upd_comm (k := 2) (j := 9) (by omega), upd_comm (k := 2) (j := 10) (by omega), upd_comm (k := 2) (j := 11) (by omega), upd_comm (k := 2) (j := 3) (by omega)]
theorem endM_mv {N mv mv' : Nat → Int32} {w : Int32} (h : ∀ j, j < 4 → mv j = mv' j) : endM N mv w = endM N mv' w := by
  unfold endM
  rw [h 0 (by omega), h 1 (by omega), h 2 (by omega), h 3 (by omega)]
theorem core_2 {c fr : Nat} {wo x : Int32} {N : Nat → Int32} : coreF c fr wo (upd N 2 x) = upd (coreF c fr wo N) 2 x := by
  unfold coreF
  rw [lsF_2]
  exact endM_2
theorem peace_2 {N : Nat → Int32} {x : Int32} : peace (upd N 2 x) ↔ peace N := Iff.rfl
theorem duel_2 {N : Nat → Int32} {x : Int32} : duel (upd N 2 x) ↔ duel N := Iff.rfl
theorem postF_2 {c fr : Nat} {wo x : Int32} {N : Nat → Int32} : postF c fr wo (upd N 2 x) = upd (postF c fr wo N) 2 (x + 1) := by
  unfold postF
  by_cases q : peace N ∨ duel N
  · rw [cI_t q, cI_t (show peace (upd N 2 x) ∨ duel (upd N 2 x) from q)]
    unfold pst
    rw [upd_upd, upd_upd, pk_us]
  · rw [cI_f q, cI_f (show ¬ (peace (upd N 2 x) ∨ duel (upd N 2 x)) from q), core_2, upd_upd, upd_upd, pk_us]
theorem goF_2 {c fr : Nat} {wo : Int32} : ∀ (m : Nat) (N : Nat → Int32) (x : Int32), goF c fr wo m (upd N 2 x) = upd (goF c fr wo m N) 2 (x + nI m) := by
  intro m
  induction m with
  | zero => intro N x; show upd N 2 x = upd N 2 (x + nI 0); rw [show x + nI 0 = x from Int32.add_zero x]
  | succ m ih =>
    intro N x
    show goF c fr wo m (postF c fr wo (upd N 2 x)) = upd (goF c fr wo m (postF c fr wo N)) 2 (x + nI (m + 1))
    rw [postF_2, ih, nI_succ, Int32.add_assoc, Int32.add_comm 1 (nI m)]
theorem goF_id {c fr : Nat} {wo : Int32} {N : Nat → Int32} (h : peace N ∨ duel N) : ∀ (m : Nat), goF c fr wo m N = upd N 2 (N 2 + nI m) := by
  intro m
  have e : postF c fr wo N = upd N 2 (N 2 + 1) := cI_t h
  induction m with
  | zero => show N = upd N 2 (N 2 + nI 0); rw [show N 2 + nI 0 = N 2 from Int32.add_zero _, upd_id]
  | succ m ih =>
    show goF c fr wo m (postF c fr wo N) = _
    rw [e, goF_2, ih, upd_upd, nI_succ, Int32.add_assoc, Int32.add_comm 1 (nI m)]
theorem endM_k {N mv : Nat → Int32} {w : Int32} {k : Nat} (h3 : k ≠ 3) (h8 : k < 8 ∨ 12 ≤ k) : endM N mv w k = N k := by
  unfold endM
  rw [pk_un h3, pk_un (by omega), pk_un (by omega), pk_un (by omega), pk_un (by omega)]
theorem core_k {c fr : Nat} {wo : Int32} {N : Nat → Int32} {k : Nat} (hfr : fr ≤ 8) (h0 : k ≠ 0) (h6 : k ≠ 6) (h3 : k ≠ 3) (h8 : k < 8 ∨ 12 ≤ k) (hf : ∀ f, f < fr → k ≠ 25 + 5 * f ∧ k ≠ 26 + 5 * f) : coreF c fr wo N k = N k := (endM_k h3 h8).trans (lsF_k h0 h6 fr 0 _ (fun f _ h2 => hf f (by omega)))
theorem rk_core {c fr : Nat} {wo : Int32} {N : Nat → Int32} (H : RK N fr c) : RK (coreF c fr wo N) fr c := by
  have hfr := H.2.1
  obtain ⟨h1, h2, h3, h4, h5, h6, h7, h8⟩ := H
  have kp : ∀ k, k ≠ 0 → k ≠ 6 → k ≠ 3 → (k < 8 ∨ 12 ≤ k) → (∀ f, f < fr → k ≠ 25 + 5 * f ∧ k ≠ 26 + 5 * f) → coreF c fr wo N k = N k := fun k a b e f g => core_k hfr a b e f g
  refine ⟨(kp 1 (by omega) (by omega) (by omega) (by omega) (by omega)).trans h1, h2, (kp 7 (by omega) (by omega) (by omega) (by omega) (by omega)).trans h3, h4, fun f hf => ?_, fun t ht => ?_, fun j hj => ?_, ?_⟩
  · rw [kp (22 + 5 * f) (by omega) (by omega) (by omega) (by omega) (by omega), kp (23 + 5 * f) (by omega) (by omega) (by omega) (by omega) (by omega), kp (24 + 5 * f) (by omega) (by omega) (by omega) (by omega) (by omega)]
    exact h5 f hf
  · unfold coreF endM
    rcases (show t = 0 ∨ t = 1 ∨ t = 2 ∨ t = 3 by omega) with rfl | rfl | rfl | rfl
    · rw [pk_un (by omega), pk_un (by omega), pk_un (by omega), pk_un (by omega), pk_us, wn_hw]; exact hw9 _
    · rw [pk_un (by omega), pk_un (by omega), pk_un (by omega), pk_us, wn_hw]; exact hw9 _
    · rw [pk_un (by omega), pk_un (by omega), pk_us, wn_hw]; exact hw9 _
    · rw [pk_un (by omega), pk_us, wn_hw]; exact hw9 _
  · rw [kp (12 + j) (by omega) (by omega) (by omega) (by omega) (by omega)]; exact h7 j hj
  · unfold coreF endM
    rw [pk_us, wn_hw]; exact hw99 _
theorem rk_2 {c fr : Nat} {x : Int32} {N : Nat → Int32} (H : RK N fr c) : RK (upd N 2 x) fr c := by
  obtain ⟨h1, h2, h3, h4, h5, h6, h7, h8⟩ := H
  refine ⟨h1, h2, h3, h4, fun f hf => ?_, fun t ht => ?_, fun j hj => ?_, h8⟩
  · rw [pk_un (by omega), pk_un (by omega), pk_un (by omega)]; exact h5 f hf
  · rw [pk_un (by omega)]; exact h6 t ht
  · rw [pk_un (by omega)]; exact h7 j hj
theorem tc_core {tb : TB} {tx : List Value} {lk N : Nat → Int32} {c fr : Nat} {wo : Int32} (hfr : fr ≤ 8) (H : TC tb tx lk N c) : TC tb tx lk (coreF c fr wo N) c := tc_keep (core_k hfr (by omega) (by omega) (by omega) (by omega) (by omega)) (fun k hk => core_k hfr (by omega) (by omega) (by omega) (by omega) (by omega)) H
theorem tc_2 {tb : TB} {tx : List Value} {lk N : Nat → Int32} {c : Nat} {x : Int32} (H : TC tb tx lk N c) : TC tb tx lk (upd N 2 x) c := tc_keep (pk_un (by omega)) (fun k hk => pk_un (by omega)) H
theorem rk_post {c fr : Nat} {wo : Int32} {N : Nat → Int32} (H : RK N fr c) : RK (postF c fr wo N) fr c := by
  unfold postF
  by_cases q : peace N ∨ duel N
  · rw [cI_t q]; exact rk_2 H
  · rw [cI_f q]; exact rk_2 (rk_core H)
theorem tc_post {tb : TB} {tx : List Value} {lk N : Nat → Int32} {c fr : Nat} {wo : Int32} (hfr : fr ≤ 8) (H : TC tb tx lk N c) : TC tb tx lk (postF c fr wo N) c := by
  unfold postF
  by_cases q : peace N ∨ duel N
  · rw [cI_t q]; exact tc_2 H
  · rw [cI_f q]; exact tc_2 (tc_core hfr H)
theorem post_m {tb : TB} {tx : List Value} {lk N N9 mv : Nat → Int32} {c fr : Nat} {si : Int32} (H : TC tb tx lk N c) (hR : RK N fr c) (h : mPo c fr si mv N N9) : N9 = postF c fr si N := by
  unfold postF
  rcases h with ⟨h1, rfl⟩ | ⟨h1, h2, σ, h3, rfl⟩
  · exact (cI_t (show peace N ∨ duel N from h1)).symm
  · rw [cI_f (show ¬ (peace N ∨ duel N) from fun q => q.elim h1 (fun z => z h2))]
    have e := ls_m (tb := tb) (tx := tx) (lk := lk) (fr := fr) fr 0 (pst N, z4 mv, 0) σ (by have z := hR.2.1; omega) (tc_2 H) (rk_2 hR) h3
    have hz : ∀ j, j < 4 → z4 mv j = (fun _ => (0 : Int32)) j := fun j hj => by
      rcases (show j = 0 ∨ j = 1 ∨ j = 2 ∨ j = 3 by omega) with rfl | rfl | rfl | rfl <;> rfl
    have z := lsF_mv (c := c) (wo := si) fr 0 (pst N) (z4 mv) (fun _ => 0) 0 hz
    rw [e, endM_mv z.2.2, z.1, z.2.1]
    exact core_2
theorem go_m {tb : TB} {tx : List Value} {lk : Nat → Int32} {c fr : Nat} {si : Int32} : ∀ (m : Nat) (N N9 : Nat → Int32), TC tb tx lk N c → RK N fr c → gOn c fr si m N N9 → N9 = goF c fr si m N := by
  intro m
  induction m with
  | zero => intro N N9 _ _ h; exact h
  | succ m ih =>
    intro N N9 H hR h
    obtain ⟨mv, N1, h1, h2⟩ := h
    obtain rfl := post_m H hR h1
    exact ih _ _ (tc_post hR.2.1 H) (rk_post hR) h2
theorem endN_M {σ : (Nat → Int32) × (Nat → Int32) × Int32 × Int32} : endN σ = endM σ.1 σ.2.1 σ.2.2.1 := by
  unfold endN endM
  rw [wn_hw, wn_hw, wn_hw, wn_hw, wn_hw]
theorem ring3 (s a b x : Int32) : s + (a - b) + (x - a) = s + (x - b) := by grind
theorem run_c {tb : TB} {tx : List Value} {lk : Nat → Int32} {c fr : Nat} {wo : Int32} : ∀ (m : Nat) (N N9 : Nat → Int32) (s s9 : Int32), TC tb tx lk N c → RK N fr c → runR fr tb tx lk wo m N s N9 s9 → upd N9 2 (N9 2 + nI m) = goF c fr wo m N ∧ s9 = s + (sumM 26 N9 fr 0 0 - sumM 26 N fr 0 0) := by
  intro m
  induction m with
  | zero =>
    intro N N9 s s9 _ _ h
    obtain ⟨rfl, rfl⟩ := h
    refine ⟨?_, addsub _ _⟩
    show upd N9 2 (N9 2 + nI 0) = N9
    rw [show N9 2 + nI 0 = N9 2 from Int32.add_zero _, upd_id]
  | succ m ih =>
    intro N N9 s s9 H hR h
    rcases h with ⟨h1, rfl, rfl⟩ | ⟨h1, h2, N1, s1, ⟨σ, h3, rfl, rfl⟩, h4⟩
    · exact ⟨(goF_id h1 _).symm, addsub _ _⟩
    · have hl := ls_c (tb := tb) (tx := tx) (lk := lk) (fr := fr) (c := c) fr 0 N (fun _ => 0) 0 0 σ (by have z := hR.2.1; omega) H hR h3
      have e1 : endN σ = coreF c fr wo N := by
        rw [endN_M]
        unfold coreF
        rw [← hl.1]
      rw [e1] at h4
      have r := ih (coreF c fr wo N) N9 _ s9 (tc_core hR.2.1 H) (rk_core hR) h4
      have ep : postF c fr wo N = upd (coreF c fr wo N) 2 (N 2 + 1) := cI_f (fun q => q.elim h1 h2)
      have e2 : coreF c fr wo N 2 = N 2 := core_k hR.2.1 (by omega) (by omega) (by omega) (by omega) (by omega)
      have e9 : goF c fr wo m (coreF c fr wo N) 2 = N9 2 + nI m := by rw [← r.1]; exact pk_us
      have e92 : N9 2 = N 2 := by
        have z := run_keep (k := 2) ⟨by omega, by omega, by omega, by omega, by omega, by omega⟩ h4
        exact z.trans e2
      refine ⟨?_, ?_⟩
      · show _ = goF c fr wo m (postF c fr wo N)
        rw [ep, goF_2, ← r.1, upd_upd, e92, nI_succ, Int32.add_assoc, Int32.add_comm 1 (nI m)]
      · have es : sumM 26 (coreF c fr wo N) fr 0 0 = sumM 26 σ.1 fr 0 0 := sumM_cg fr 0 0 (fun j _ _ => by
          rw [← e1, endN_M]; exact endM_k (by omega) (by omega))
        have hs : σ.2.2.2 = 0 + (sumM 26 σ.1 fr 0 0 - sumM 26 N fr 0 0) := hl.2
        rw [r.2, es, hs, Int32.zero_add]
        exact ring3 _ _ _ _
theorem goF_k {c fr : Nat} {wo : Int32} {k : Nat} (hfr : fr ≤ 8) (h0 : k ≠ 0) (h2 : k ≠ 2) (h6 : k ≠ 6) (h3 : k ≠ 3) (h8 : k < 8 ∨ 12 ≤ k) (hf : ∀ f, f < fr → k ≠ 25 + 5 * f ∧ k ≠ 26 + 5 * f) : ∀ (m : Nat) (N : Nat → Int32), goF c fr wo m N k = N k := by
  intro m
  induction m with
  | zero => intro N; rfl
  | succ m ih =>
    intro N
    show goF c fr wo m (postF c fr wo N) k = N k
    rw [ih]
    unfold postF
    by_cases q : peace N ∨ duel N
    · rw [cI_t q]; exact pk_un h2
    · rw [cI_f q, pk_un h2]; exact core_k hfr h0 h6 h3 h8 hf
theorem goF_62 {c fr m j : Nat} {wo : Int32} {N : Nat → Int32} (hfr : fr ≤ 8) (hj : 62 ≤ j) : goF c fr wo m N j = N j := goF_k hfr (by omega) (by omega) (by omega) (by omega) (by omega) (by omega) m N
theorem rk_go {c fr : Nat} {wo : Int32} : ∀ (m : Nat) (N : Nat → Int32), RK N fr c → RK (goF c fr wo m N) fr c := by
  intro m
  induction m with
  | zero => intro N H; exact H
  | succ m ih => intro N H; exact ih _ (rk_post H)
theorem tc_go {tb : TB} {tx : List Value} {lk : Nat → Int32} {c fr m : Nat} {wo : Int32} {N : Nat → Int32} (hfr : fr ≤ 8) (H : TC tb tx lk N c) : TC tb tx lk (goF c fr wo m N) c := tc_keep (goF_k hfr (by omega) (by omega) (by omega) (by omega) (by omega) (by omega) m N) (fun k hk => goF_62 hfr hk) H
theorem tc_u {tb : TB} {tx : List Value} {lk N : Nat → Int32} {c k : Nat} {v : Int32} (h7 : 7 ≠ k) (h62 : k < 62) (H : TC tb tx lk N c) : TC tb tx lk (upd N k v) c := tc_keep (pk_un h7) (fun j hj => pk_un (by omega)) H
theorem rk_u {N : Nat → Int32} {fr c k : Nat} {v : Int32} (H : RK N fr c) (h1 : 1 ≠ k) (h7 : 7 ≠ k) (hk : ∀ f, f < 8 → 22 + 5 * f = k → wi v 0 5) (hs : ∀ f, f < 8 → 23 + 5 * f = k → wi v 0 1) (hp : ∀ f, f < 8 → 24 + 5 * f = k → wi v 0 99) (h8 : ∀ t, t < 4 → 8 + t = k → wi v 0 9) (h12 : ∀ j, j < 8 → 12 + j = k → wi v 0 9) (h3 : 3 = k → wi v 0 99) : RK (upd N k v) fr c := by
  obtain ⟨g1, g2, g3, g4, g5, g6, g7, g8⟩ := H
  have key : ∀ (j : Nat) (lo hi : Int32), wi (N j) lo hi → (j = k → wi v lo hi) → wi (upd N k v j) lo hi := fun j lo hi a b => by
    by_cases e : j = k
    · subst e; rw [pk_us]; exact b rfl
    · rw [pk_un e]; exact a
  exact ⟨(pk_un h1).trans g1, g2, (pk_un h7).trans g3, g4, fun f hf => ⟨key _ _ _ (g5 f hf).1 (hk f hf), key _ _ _ (g5 f hf).2.1 (hs f hf), key _ _ _ (g5 f hf).2.2 (hp f hf)⟩, fun t ht => key _ _ _ (g6 t ht) (h8 t ht), fun j hj => key _ _ _ (g7 j hj) (h12 j hj), key _ _ _ g8 h3⟩
theorem rk_heat {N : Nat → Int32} {fr c : Nat} {v : Int32} (hv : wi v 0 99) (H : RK N fr c) : RK (upd N 3 v) fr c := rk_u H (by omega) (by omega) (by omega) (by omega) (by omega) (by omega) (by omega) (fun _ => hv)
theorem rk_kind {N : Nat → Int32} {fr c f : Nat} {v : Int32} (hv : wi v 0 5) (hf : f < 8) (H : RK N fr c) : RK (upd N (22 + 5 * f) v) fr c := rk_u H (by omega) (by omega) (fun _ _ _ => hv) (by omega) (by omega) (by omega) (by omega) (by omega)
theorem rk_care {N : Nat → Int32} {fr c j : Nat} {v : Int32} (hv : wi v 0 9) (hj : j < 8) (H : RK N fr c) : RK (upd N (12 + j) v) fr c := rk_u H (by omega) (by omega) (by omega) (by omega) (by omega) (by omega) (fun _ _ _ => hv) (by omega)
def TQ (h : am_H) : Prop := ∃ (N1 : Nat → Int32) (tx1 : List Value) (lk1 mv1 : Nat → Int32), QR 13 N1 tx1 lk1 mv1 h ∧ tx1.length = 14
def tvF (key : Int32) (N : Nat → Int32) (c : Nat) (x y w : Int32) : Int32 := match cntM key N c with
  | none => w
  | some t => evF (f2z x y) (fun z9 => N (90 + 96 * t + z9)) (lcF N t)
theorem tvF_n {key : Int32} {N : Nat → Int32} {c : Nat} {x y w : Int32} (h : cntM key N c = none) : tvF key N c x y w = w := by
  unfold tvF; rw [h]
theorem tvF_s {key : Int32} {N : Nat → Int32} {c t : Nat} {x y w : Int32} (h : cntM key N c = some t) : tvF key N c x y w = evF (f2z x y) (fun z9 => N (90 + 96 * t + z9)) (lcF N t) := by
  unfold tvF; rw [h]
theorem tv_c {tb : TB} {tx : List Value} {lk N : Nat → Int32} {c k : Nat} {x y z w v : Int32} (H : TC tb tx lk N c) (hk : k < 3) (hk0 : k ≠ 0) (h : TVr k tb tx lk N x y z w v) : v = tvF (nI k) N c x y w := by
  rcases h with ⟨h1, rfl⟩ | ⟨t, a, sf, h1, h2, h3, h4, rfl⟩
  · cases ec : cntM (nI k) N c with
    | none => exact (tvF_n ec).symm
    | some t => exact absurd (tc_wi H hk ec) h1
  · cases ec : cntM (nI k) N c with
    | none => exact absurd h1 (tc_nwi H hk ec)
    | some u =>
      have e := H.2.2.1 k hk
      rw [ec, h2] at e
      have hu := (cntM_lt ec).1
      have h14 := H.1.2.1
      have ht : t < 14 := by
        have z := (List.getElem?_eq_some_iff.mp h4).1
        rw [H.1.1] at z
        exact z
      obtain rfl := nIi (by omega) (by omega) e
      rw [tvF_s ec]
      exact ev_c H hk ec h4 rfl rfl (fun q => absurd q hk0)
theorem tv_m {tb : TB} {tx : List Value} {lk N : Nat → Int32} {c k : Nat} {x y w v : Int32} (H : TC tb tx lk N c) (hk : k < 3) (hk0 : k ≠ 0) (h : MVr (nI k) N c x y w v) : v = tvF (nI k) N c x y w := by
  rcases h with ⟨h1, rfl⟩ | ⟨t, lc, ky, sf, fa, h1, hky, h2, h3, h4, h5, rfl⟩
  · exact (tvF_n h1).symm
  · rw [tvF_s h1]
    exact ev_m (z := 0) H hk h1 h2 h3 (by omega) h4 h5 (fun q => absurd q hk0) rfl rfl (fun q => absurd q hk0)
noncomputable def bhV (c fr : Nat) (N : Nat → Int32) (v w : Int32) : Int32 := cI (wi v 0 100 ∧ wi w 0 3) (if w = 0 then goF c fr (-1) (fN v) N 3 else if w = 1 then snum (goF c fr (-1) (fN v) N) else if w = 2 then cI (peace (goF c fr (-1) (fN v) N)) 1 0 else goF c fr (-1) (fN v) N 6) (-1000000001)
set_option maxHeartbeats 4000000 in
set_option maxRecDepth 100000 in
theorem C_behind {X : List Int32} {d rc rs n : Nat} {Q : am_Q} {h : am_H} {N : Nat → Int32} {tx : List Value} {lk mv : Nat → Int32} {ik wc : Int32} {fr c : Nat} {v : Int32} {w : Int32} {tb : TB} (O : OB ik wc h) (F : QR 1 N tx lk mv h) (T2 : TQ h) (G : TT tb h) (hR : RG N fr c) (hC : TC tb tx lk N c) (hq : ∀ v9 h9, v9 = bhV c fr N v w → TQ h9 → TT tb h9 → am_fp (fun k => k < 92 ∧ (k < 13 ∨ 25 ≤ k)) h9 h → Q (some (.int v9)) n h9) : AW X mX7_behind (d + 40) rc rs 0 [some (.ref 0), some (.int v), some (.int w)] [] n h Q := by
  have h8r := hR.2.1
  have h14r := hR.2.2.2.1
  have hK := rg_rk hR
  obtain ⟨N1, tx1, lk1, mv1, F2, hl13⟩ := T2
  refine aw_iload_n (npc := 1) rfl dX7_behind_0 rfl ?_
  refine aw_iconst (npc := 2) (v := 0) (by decide) dX7_behind_1 rfl ?_
  refine aw_bipush (npc := 4) (v := 100) (by decide) dX7_behind_2 rfl ?_
  refine aw_callS (npc := 7) (N := mX7_within) (mc := 0) (ms := 0) (A := [.int v, .int 0, .int 100]) (S := []) (L0 := [some (.int v), some (.int 0), some (.int 100)]) dX7_behind_4 rfl km_X7_within kk_X7_74 rfl ⟨rfl, by decide⟩ rfl (Nat.le_of_ble_eq_true rfl) (Nat.zero_add _) (Nat.zero_add _) rfl ?_
  refine c_X7_within (fun hw1 => ?_) (fun hw1 => ?_)
  · obtain ⟨vn, hvn, evn⟩ := wi_nI (H := 100) (by decide) (by decide) hw1
    subst evn
    have fvn : fN (nI vn) = vn := fN_nI (by omega)
    refine aw_re (S' := [.int 1]) rfl ?_
    refine aw_if_eq (npc := 10) (tgt := 19) dX7_behind_7 rfl (by decide) (fun hc => absurd hc (by decide)) (fun _ => ?_)
    refine aw_iload_n (npc := 11) rfl dX7_behind_10 rfl ?_
    refine aw_iconst (npc := 12) (v := 0) (by decide) dX7_behind_11 rfl ?_
    refine aw_iconst (npc := 13) (v := 3) (by decide) dX7_behind_12 rfl ?_
    refine aw_callS (npc := 16) (N := mX7_within) (mc := 0) (ms := 0) (A := [.int w, .int 0, .int 3]) (S := []) (L0 := [some (.int w), some (.int 0), some (.int 3)]) dX7_behind_13 rfl km_X7_within kk_X7_74 rfl ⟨rfl, by decide⟩ rfl (Nat.le_of_ble_eq_true rfl) (Nat.zero_add _) (Nat.zero_add _) rfl ?_
    refine c_X7_within (fun hw2 => ?_) (fun hw2 => ?_)
    · refine aw_re (S' := [.int 1]) rfl ?_
      refine aw_if_ne (npc := 19) (tgt := 22) dX7_behind_16 rfl (by decide) (fun _ => ?_) (fun hc => absurd hc (by decide))
      refine aw_aload_n (npc := 23) rfl dX7_behind_22 rfl ?_
      refine aw_get (npc := 26) dX7_behind_23 rfl kf_X7_16 O.1 rfl ?_
      refine aw_aload_n (npc := 27) rfl dX7_behind_26 rfl ?_
      refine aw_get (npc := 30) dX7_behind_27 rfl kf_X7_10 O.1 rfl ?_
      refine aw_callV (npc := 33) (N := mX0_becomes) (b := 13) (mc := 0) (ms := 0) (A := [.ref 1]) (S := []) (L0 := [some (.ref 13), some (.ref 1), none]) dX7_behind_30 rfl km_X0_becomes kk_X7_193 F2.1 ⟨by decide, rfl⟩ rfl ⟨rfl, by decide⟩ rfl (Nat.le_of_ble_eq_true rfl) (Nat.zero_add _) (Nat.zero_add _) rfl ?_
      refine g_bec (tb := tb) F2 F G (by omega) (by omega) hl13 hC.1.1 hC.1.2.2.1 (fun hp5 F3 fz4 => ?_)
      have O6 := ob_frame O (fz4 0 (by omega)) (fz4 43 (by omega)) (fz4 44 (by omega))
      have F7 := qr_frame F (fun k h1 h2 => fz4 k (by omega))
      have G8 := tt_frame G (fun k hk => fz4 k (by omega))
      refine aw_aload_n (npc := 34) rfl dX7_behind_33 rfl ?_
      refine aw_get (npc := 37) dX7_behind_34 rfl kf_X7_16 O6.1 rfl ?_
      refine aw_iload_n (npc := 38) rfl dX7_behind_37 rfl ?_
      refine aw_iconst (npc := 39) (v := -1) (by decide) dX7_behind_38 rfl ?_
      refine aw_callV (npc := 42) (N := mX0_runPosts) (b := 13) (mc := 0) (ms := 0) (A := [.int (nI vn), .int (-1)]) (S := []) (L0 := [some (.ref 13), some (.int (nI vn)), some (.int (-1)), none, none]) dX7_behind_39 rfl km_X0_runPosts kk_X7_163 F3.1 ⟨by decide, rfl⟩ rfl ⟨rfl, by decide⟩ rfl (Nat.le_of_ble_eq_true rfl) (Nat.zero_add _) (Nat.zero_add _) rfl ?_
      refine g_run (b := 13) (K := vn) (wo := (-1)) F3 G8 hK.1 hK.2.1 hK.2.2.1 hC.1 (fun f hf => ⟨(hK.2.2.2.2.1 f hf).1, (hK.2.2.2.2.1 f hf).2.1⟩) (by omega) (by omega) (fun N99 s910 m911 h912 hr13 F14 G15 fz16 => ?_)
      have er17 := (run_c vn _ _ _ _ hC hK hr13).1
      rw [er17] at F14
      have fy18 : ∀ k, (k < 92 ∧ (k < 13 ∨ 13 + 12 ≤ k)) → h912 k = _ := fun k hk => fz16 k hk.1 hk.2
      have O19 := ob_frame O6 (fy18 0 (by omega)) (fy18 43 (by omega)) (fy18 44 (by omega))
      have F20 := qr_frame F7 (fun k h1 h2 => fy18 k (by omega))
      refine aw_re (S' := [.int s910]) rfl ?_
      refine aw_pop (npc := 43) rfl dX7_behind_42 rfl ?_
      refine aw_iload_n (npc := 44) rfl dX7_behind_43 rfl ?_
      rcases sw_0_2 w with rfl | rfl | rfl | hs21
      · refine aw_tableIn (npc := 72) dX7_behind_44 (by decide) (by decide) rfl (by decide) ?_
        refine aw_aload_n (npc := 73) rfl dX7_behind_72 rfl ?_
        refine aw_get (npc := 76) dX7_behind_73 rfl kf_X7_16 O19.1 rfl ?_
        refine aw_get (npc := 79) dX7_behind_76 rfl kf_X7_139 F14.1 rfl ?_
        refine aw_iret rfl dX7_behind_79 ?_
        exact hq _ _ (by simp [bhV, cI, hw1, hw2, fvn]) ⟨_, _, _, _, F14, hC.1.1⟩ G15 (am_fpT (fun k (hk : k < 92 ∧ (k < 13 ∨ 25 ≤ k)) => fy18 k (by omega)) (am_fpT (fun k (hk : k < 92 ∧ (k < 13 ∨ 25 ≤ k)) => fz4 k (by omega)) am_fp0))
      · refine aw_tableIn (npc := 80) dX7_behind_44 (by decide) (by decide) rfl (by decide) ?_
        refine aw_aload_n (npc := 81) rfl dX7_behind_80 rfl ?_
        refine aw_get (npc := 84) dX7_behind_81 rfl kf_X7_16 O19.1 rfl ?_
        refine aw_callV (npc := 87) (N := mX0_standsAsNumber) (b := 13) (mc := 0) (ms := 0) (A := []) (S := []) (L0 := [some (.ref 13), none, none]) dX7_behind_84 rfl km_X0_standsAsNumber kk_X7_173 F14.1 ⟨by decide, rfl⟩ rfl ⟨rfl, by decide⟩ rfl (Nat.le_of_ble_eq_true rfl) (Nat.zero_add _) (Nat.zero_add _) rfl ?_
        refine g_snum F14 ?_
        refine aw_re (S' := [.int (snum (goF c fr (-1) vn N))]) rfl ?_
        refine aw_iret rfl dX7_behind_87 ?_
        exact hq _ _ (by simp [bhV, cI, hw1, hw2, fvn]) ⟨_, _, _, _, F14, hC.1.1⟩ G15 (am_fpT (fun k (hk : k < 92 ∧ (k < 13 ∨ 25 ≤ k)) => fy18 k (by omega)) (am_fpT (fun k (hk : k < 92 ∧ (k < 13 ∨ 25 ≤ k)) => fz4 k (by omega)) am_fp0))
      · refine aw_tableIn (npc := 88) dX7_behind_44 (by decide) (by decide) rfl (by decide) ?_
        refine aw_aload_n (npc := 89) rfl dX7_behind_88 rfl ?_
        refine aw_get (npc := 92) dX7_behind_89 rfl kf_X7_16 O19.1 rfl ?_
        refine aw_callV (npc := 95) (N := mX0_isPeace) (b := 13) (mc := 0) (ms := 0) (A := []) (S := []) (L0 := [some (.ref 13)]) dX7_behind_92 rfl km_X0_isPeace kk_X7_169 F14.1 ⟨by decide, rfl⟩ rfl ⟨rfl, by decide⟩ rfl (Nat.le_of_ble_eq_true rfl) (Nat.zero_add _) (Nat.zero_add _) rfl ?_
        refine g_peace F14 (fun hp22 => ?_) (fun hp22 => ?_)
        · refine aw_re (S' := [.int 1]) rfl ?_
          refine aw_if_eq (npc := 98) (tgt := 102) dX7_behind_95 rfl (by decide) (fun hc => absurd hc (by decide)) (fun _ => ?_)
          refine aw_iconst (npc := 99) (v := 1) (by decide) dX7_behind_98 rfl ?_
          refine aw_goto (npc := 103) dX7_behind_99 (by decide) ?_
          refine aw_iret rfl dX7_behind_103 ?_
          exact hq _ _ (by simp [bhV, cI, hw1, hw2, hp22, fvn]) ⟨_, _, _, _, F14, hC.1.1⟩ G15 (am_fpT (fun k (hk : k < 92 ∧ (k < 13 ∨ 25 ≤ k)) => fy18 k (by omega)) (am_fpT (fun k (hk : k < 92 ∧ (k < 13 ∨ 25 ≤ k)) => fz4 k (by omega)) am_fp0))
        · refine aw_re (S' := [.int 0]) rfl ?_
          refine aw_if_eq (npc := 98) (tgt := 102) dX7_behind_95 rfl (by decide) (fun _ => ?_) (fun hc => absurd (by decide) hc)
          refine aw_iconst (npc := 103) (v := 0) (by decide) dX7_behind_102 rfl ?_
          refine aw_iret rfl dX7_behind_103 ?_
          exact hq _ _ (by simp [bhV, cI, hw1, hw2, hp22, fvn]) ⟨_, _, _, _, F14, hC.1.1⟩ G15 (am_fpT (fun k (hk : k < 92 ∧ (k < 13 ∨ 25 ≤ k)) => fy18 k (by omega)) (am_fpT (fun k (hk : k < 92 ∧ (k < 13 ∨ 25 ≤ k)) => fz4 k (by omega)) am_fp0))
      · refine aw_tableOut (npc := 104) dX7_behind_44 hs21.1 (by decide) ?_
        refine aw_aload_n (npc := 105) rfl dX7_behind_104 rfl ?_
        refine aw_get (npc := 108) dX7_behind_105 rfl kf_X7_16 O19.1 rfl ?_
        refine aw_get (npc := 111) dX7_behind_108 rfl kf_X7_176 F14.1 rfl ?_
        refine aw_iret rfl dX7_behind_111 ?_
        exact hq _ _ (by simp [bhV, cI, hw1, hw2, fvn, hs21.2.1, hs21.2.2.1, hs21.2.2.2]) ⟨_, _, _, _, F14, hC.1.1⟩ G15 (am_fpT (fun k (hk : k < 92 ∧ (k < 13 ∨ 25 ≤ k)) => fy18 k (by omega)) (am_fpT (fun k (hk : k < 92 ∧ (k < 13 ∨ 25 ≤ k)) => fz4 k (by omega)) am_fp0))
    · refine aw_re (S' := [.int 0]) rfl ?_
      refine aw_if_ne (npc := 19) (tgt := 22) dX7_behind_16 rfl (by decide) (fun hc => absurd (by decide) hc) (fun _ => ?_)
      refine aw_ldc (npc := 21) kc_X7_78 dX7_behind_19 rfl ?_
      refine aw_iret rfl dX7_behind_21 ?_
      exact hq _ _ (by simp [bhV, cI, hw1, hw2, fvn]) ⟨_, _, _, _, F2, hl13⟩ G am_fp0
  · refine aw_re (S' := [.int 0]) rfl ?_
    refine aw_if_eq (npc := 10) (tgt := 19) dX7_behind_7 rfl (by decide) (fun _ => ?_) (fun hc => absurd (by decide) hc)
    refine aw_ldc (npc := 21) kc_X7_78 dX7_behind_19 rfl ?_
    refine aw_iret rfl dX7_behind_21 ?_
    exact hq _ _ (by simp [bhV, cI, hw1]) ⟨_, _, _, _, F2, hl13⟩ G am_fp0
noncomputable def enV (c fr : Nat) (w : Int32) : Nat → Nat → (Nat → Int32) → Int32
  | 0, _, _ => (-1000000005)
  | m + 1, g, N => cI (peace N) (cI (w = 0) (nI g) 1) (cI (duel N) (cI (w = 0) (nI g) 2) (enV c fr w m (g + 1) (goF c fr (-1) 1 N)))
noncomputable def esV (c fr : Nat) (N : Nat → Int32) (w : Int32) : Int32 := cI (wi w 0 1) (enV c fr w 201 0 N) (-1000000001)
set_option maxHeartbeats 4000000 in
set_option maxRecDepth 100000 in
theorem C_endsL {X : List Int32} {d rc rs n : Nat} {Q : am_Q} {tx : List Value} {lk : Nat → Int32} {ik wc : Int32} {fr c : Nat} {tb : TB} {w : Int32} (hw01 : wi w 0 1) : ∀ (m k : Nat), k + m = 201 → ∀ (NA mv1 : Nat → Int32) (h : am_H), OB ik wc h → QR 13 NA tx lk mv1 h → TT tb h → TC tb tx lk NA c → RK NA fr c → (∀ v9 h9, v9 = enV c fr w m k NA → TQ h9 → TT tb h9 → am_fp (fun k => k < 92 ∧ (k < 13 ∨ 25 ≤ k)) h9 h → Q (some (.int v9)) n h9) → AW X mX7_ends (d + 40) rc rs 25 [some (.ref 0), some (.int w), some (.int (nI k))] [] n h Q := by
  intro m
  induction m with
  | zero =>
    intro k hk NA mv1 h O F2 G hCA hKA hq
    obtain rfl : k = 201 := by omega
    refine aw_iload_n (npc := 26) rfl dX7_ends_25 rfl ?_
    refine aw_sipush (npc := 29) (v := 200) (by decide) dX7_ends_26 rfl ?_
    refine aw_icmp_gt (npc := 32) (tgt := 88) dX7_ends_29 rfl (by decide) (fun _ => ?_) (fun hc => absurd (nI_lt (a := 200) (b := 201) (by omega) (by omega)) hc)
    refine aw_ldc (npc := 90) kc_X7_200 dX7_ends_88 rfl ?_
    refine aw_iret rfl dX7_ends_90 ?_
    exact hq _ _ (by simp [enV, cI]) ⟨_, _, _, _, F2, hCA.1.1⟩ G am_fp0
  | succ m ih =>
    intro k hk NA mv1 h O F2 G hCA hKA hq
    refine aw_iload_n (npc := 26) rfl dX7_ends_25 rfl ?_
    refine aw_sipush (npc := 29) (v := 200) (by decide) dX7_ends_26 rfl ?_
    refine aw_icmp_gt (npc := 32) (tgt := 88) dX7_ends_29 rfl (by decide) (fun hc => absurd hc (nI_nlt (a := 200) (b := k) (by omega) (by omega))) (fun _ => ?_)
    refine aw_aload_n (npc := 33) rfl dX7_ends_32 rfl ?_
    refine aw_get (npc := 36) dX7_ends_33 rfl kf_X7_16 O.1 rfl ?_
    refine aw_callV (npc := 39) (N := mX0_isPeace) (b := 13) (mc := 0) (ms := 0) (A := []) (S := []) (L0 := [some (.ref 13)]) dX7_ends_36 rfl km_X0_isPeace kk_X7_169 F2.1 ⟨by decide, rfl⟩ rfl ⟨rfl, by decide⟩ rfl (Nat.le_of_ble_eq_true rfl) (Nat.zero_add _) (Nat.zero_add _) rfl ?_
    refine g_peace F2 (fun hp2 => ?_) (fun hp2 => ?_)
    · refine aw_re (S' := [.int 1]) rfl ?_
      refine aw_if_eq (npc := 42) (tgt := 52) dX7_ends_39 rfl (by decide) (fun hc => absurd hc (by decide)) (fun _ => ?_)
      refine aw_iload_n (npc := 43) rfl dX7_ends_42 rfl ?_
      refine aw_if_ne (npc := 46) (tgt := 50) dX7_ends_43 rfl (by decide) (fun hc3 => ?_) (fun hc3 => ?_)
      · refine aw_iconst (npc := 51) (v := 1) (by decide) dX7_ends_50 rfl ?_
        refine aw_iret rfl dX7_ends_51 ?_
        exact hq _ _ (by simp [enV, cI, hp2, hc3]) ⟨_, _, _, _, F2, hCA.1.1⟩ G am_fp0
      · refine aw_iload_n (npc := 47) rfl dX7_ends_46 rfl ?_
        refine aw_goto (npc := 51) dX7_ends_47 (by decide) ?_
        refine aw_iret rfl dX7_ends_51 ?_
        exact hq _ _ (by simp [enV, cI, hp2, hc3]) ⟨_, _, _, _, F2, hCA.1.1⟩ G am_fp0
    · refine aw_re (S' := [.int 0]) rfl ?_
      refine aw_if_eq (npc := 42) (tgt := 52) dX7_ends_39 rfl (by decide) (fun _ => ?_) (fun hc => absurd (by decide) hc)
      refine aw_aload_n (npc := 53) rfl dX7_ends_52 rfl ?_
      refine aw_get (npc := 56) dX7_ends_53 rfl kf_X7_16 O.1 rfl ?_
      refine aw_callV (npc := 59) (N := mX0_isDuel) (b := 13) (mc := 0) (ms := 0) (A := []) (S := []) (L0 := [some (.ref 13)]) dX7_ends_56 rfl km_X0_isDuel kk_X7_197 F2.1 ⟨by decide, rfl⟩ rfl ⟨rfl, by decide⟩ rfl (Nat.le_of_ble_eq_true rfl) (Nat.zero_add _) (Nat.zero_add _) rfl ?_
      refine g_duel F2 (fun hd4 => ?_) (fun hd4 => ?_)
      · refine aw_re (S' := [.int 1]) rfl ?_
        refine aw_if_eq (npc := 62) (tgt := 72) dX7_ends_59 rfl (by decide) (fun hc => absurd hc (by decide)) (fun _ => ?_)
        refine aw_iload_n (npc := 63) rfl dX7_ends_62 rfl ?_
        refine aw_if_ne (npc := 66) (tgt := 70) dX7_ends_63 rfl (by decide) (fun hc5 => ?_) (fun hc5 => ?_)
        · refine aw_iconst (npc := 71) (v := 2) (by decide) dX7_ends_70 rfl ?_
          refine aw_iret rfl dX7_ends_71 ?_
          exact hq _ _ (by simp [enV, cI, hp2, hd4, hc5]) ⟨_, _, _, _, F2, hCA.1.1⟩ G am_fp0
        · refine aw_iload_n (npc := 67) rfl dX7_ends_66 rfl ?_
          refine aw_goto (npc := 71) dX7_ends_67 (by decide) ?_
          refine aw_iret rfl dX7_ends_71 ?_
          exact hq _ _ (by simp [enV, cI, hp2, hd4, hc5]) ⟨_, _, _, _, F2, hCA.1.1⟩ G am_fp0
      · refine aw_re (S' := [.int 0]) rfl ?_
        refine aw_if_eq (npc := 62) (tgt := 72) dX7_ends_59 rfl (by decide) (fun _ => ?_) (fun hc => absurd (by decide) hc)
        refine aw_aload_n (npc := 73) rfl dX7_ends_72 rfl ?_
        refine aw_get (npc := 76) dX7_ends_73 rfl kf_X7_16 O.1 rfl ?_
        refine aw_iconst (npc := 77) (v := 1) (by decide) dX7_ends_76 rfl ?_
        refine aw_iconst (npc := 78) (v := -1) (by decide) dX7_ends_77 rfl ?_
        refine aw_callV (npc := 81) (N := mX0_runPosts) (b := 13) (mc := 0) (ms := 0) (A := [.int 1, .int (-1)]) (S := []) (L0 := [some (.ref 13), some (.int 1), some (.int (-1)), none, none]) dX7_ends_78 rfl km_X0_runPosts kk_X7_163 F2.1 ⟨by decide, rfl⟩ rfl ⟨rfl, by decide⟩ rfl (Nat.le_of_ble_eq_true rfl) (Nat.zero_add _) (Nat.zero_add _) rfl ?_
        refine g_run (b := 13) (K := 1) (wo := (-1)) F2 G hKA.1 hKA.2.1 hKA.2.2.1 hCA.1 (fun f hf => ⟨(hKA.2.2.2.2.1 f hf).1, (hKA.2.2.2.2.1 f hf).2.1⟩) (by omega) (by omega) (fun N96 s97 m98 h99 hr10 F11 G12 fz13 => ?_)
        have er14 := (run_c 1 _ _ _ _ hCA hKA hr10).1
        rw [er14] at F11
        have fy15 : ∀ k, (k < 92 ∧ (k < 13 ∨ 13 + 12 ≤ k)) → h99 k = _ := fun k hk => fz13 k hk.1 hk.2
        have O16 := ob_frame O (fy15 0 (by omega)) (fy15 43 (by omega)) (fy15 44 (by omega))
        refine aw_re (S' := [.int s97]) rfl ?_
        refine aw_pop (npc := 82) rfl dX7_ends_81 rfl ?_
        refine aw_iinc (npc := 85) (v := nI (k + 1)) (L' := [some (.ref 0), some (.int w), some (.int (nI (k + 1)))]) dX7_ends_82 rfl rfl (nI_1 _) (by decide) rfl rfl ?_
        refine aw_goto (npc := 25) dX7_ends_85 (by decide) ?_
        refine ih (k + 1) (by omega) _ _ _ O16 F11 G12 (tc_go hKA.2.1 hCA) (rk_go _ _ hKA) (fun v9 h9 e9 T9 G9 f9 => hq v9 h9 ?_ T9 G9 (am_fpT f9 (am_fpT (fun k (hk : k < 92 ∧ (k < 13 ∨ 25 ≤ k)) => fy15 k (by omega)) am_fp0)))
        rw [e9]; simp [enV, cI, hp2, hd4]
set_option maxHeartbeats 4000000 in
set_option maxRecDepth 100000 in
theorem C_ends {X : List Int32} {d rc rs n : Nat} {Q : am_Q} {h : am_H} {N : Nat → Int32} {tx : List Value} {lk mv : Nat → Int32} {ik wc : Int32} {fr c : Nat} {w : Int32} {tb : TB} (O : OB ik wc h) (F : QR 1 N tx lk mv h) (T2 : TQ h) (G : TT tb h) (hR : RG N fr c) (hC : TC tb tx lk N c) (hq : ∀ v9 h9, v9 = esV c fr N w → TQ h9 → TT tb h9 → am_fp (fun k => k < 92 ∧ (k < 13 ∨ 25 ≤ k)) h9 h → Q (some (.int v9)) n h9) : AW X mX7_ends (d + 40) rc rs 0 [some (.ref 0), some (.int w), none] [] n h Q := by
  have h8r := hR.2.1
  have h14r := hR.2.2.2.1
  have hK := rg_rk hR
  obtain ⟨N1, tx1, lk1, mv1, F2, hl13⟩ := T2
  refine aw_iload_n (npc := 1) rfl dX7_ends_0 rfl ?_
  refine aw_iconst (npc := 2) (v := 0) (by decide) dX7_ends_1 rfl ?_
  refine aw_iconst (npc := 3) (v := 1) (by decide) dX7_ends_2 rfl ?_
  refine aw_callS (npc := 6) (N := mX7_within) (mc := 0) (ms := 0) (A := [.int w, .int 0, .int 1]) (S := []) (L0 := [some (.int w), some (.int 0), some (.int 1)]) dX7_ends_3 rfl km_X7_within kk_X7_74 rfl ⟨rfl, by decide⟩ rfl (Nat.le_of_ble_eq_true rfl) (Nat.zero_add _) (Nat.zero_add _) rfl ?_
  refine c_X7_within (fun hw1 => ?_) (fun hw1 => ?_)
  · refine aw_re (S' := [.int 1]) rfl ?_
    refine aw_if_ne (npc := 9) (tgt := 12) dX7_ends_6 rfl (by decide) (fun _ => ?_) (fun hc => absurd hc (by decide))
    refine aw_aload_n (npc := 13) rfl dX7_ends_12 rfl ?_
    refine aw_get (npc := 16) dX7_ends_13 rfl kf_X7_16 O.1 rfl ?_
    refine aw_aload_n (npc := 17) rfl dX7_ends_16 rfl ?_
    refine aw_get (npc := 20) dX7_ends_17 rfl kf_X7_10 O.1 rfl ?_
    refine aw_callV (npc := 23) (N := mX0_becomes) (b := 13) (mc := 0) (ms := 0) (A := [.ref 1]) (S := []) (L0 := [some (.ref 13), some (.ref 1), none]) dX7_ends_20 rfl km_X0_becomes kk_X7_193 F2.1 ⟨by decide, rfl⟩ rfl ⟨rfl, by decide⟩ rfl (Nat.le_of_ble_eq_true rfl) (Nat.zero_add _) (Nat.zero_add _) rfl ?_
    refine g_bec (tb := tb) F2 F G (by omega) (by omega) hl13 hC.1.1 hC.1.2.2.1 (fun hp4 F2 fz3 => ?_)
    have O5 := ob_frame O (fz3 0 (by omega)) (fz3 43 (by omega)) (fz3 44 (by omega))
    have F6 := qr_frame F (fun k h1 h2 => fz3 k (by omega))
    have G7 := tt_frame G (fun k hk => fz3 k (by omega))
    refine aw_iconst (npc := 24) (v := 0) (by decide) dX7_ends_23 rfl ?_
    refine aw_istore_n (npc := 25) (L' := [some (.ref 0), some (.int w), some (.int 0)]) dX7_ends_24 rfl (by decide) rfl rfl ?_
    refine aw_locs (L' := [some (.ref 0), some (.int w), some (.int (nI 0))]) rfl ?_
    refine C_endsL hw1 201 0 (by omega) _ _ _ O5 F2 G7 hC hK (fun v9 h9 e9 T9 G9 f9 => hq v9 h9 ?_ T9 G9 (am_fpT f9 (am_fpT (fun k (hk : k < 92 ∧ (k < 13 ∨ 25 ≤ k)) => fz3 k (by omega)) am_fp0)))
    rw [e9]; simp [esV, cI, hw1]
  · refine aw_re (S' := [.int 0]) rfl ?_
    refine aw_if_ne (npc := 9) (tgt := 12) dX7_ends_6 rfl (by decide) (fun hc => absurd (by decide) hc) (fun _ => ?_)
    refine aw_ldc (npc := 11) kc_X7_78 dX7_ends_9 rfl ?_
    refine aw_iret rfl dX7_ends_11 ?_
    exact hq _ _ (by simp [esV, cI, hw1]) ⟨_, _, _, _, F2, hl13⟩ G am_fp0
set_option maxHeartbeats 4000000 in
set_option maxRecDepth 100000 in
theorem c_pw {X : List Int32} {d rc rs n : Nat} {Q : am_Q} {h : am_H} {N : Nat → Int32} {tx : List Value} {lk mv : Nat → Int32} {ik wc : Int32} {fr c : Nat} {fo : Int32} {K : Nat} {tb : TB} (O : OB ik wc h) (F : QR 1 N tx lk mv h) (T2 : TQ h) (G : TT tb h) (hR : RG N fr c) (hC : TC tb tx lk N c) (hK60 : K < 1000) (k1 : peace (goF c fr fo K N) → ∀ h9, TQ h9 → TT tb h9 → am_fp (fun k => k < 92 ∧ (k < 13 ∨ 25 ≤ k)) h9 h → Q (some (.int 1)) n h9) (k0 : ¬ peace (goF c fr fo K N) → ∀ h9, TQ h9 → TT tb h9 → am_fp (fun k => k < 92 ∧ (k < 13 ∨ 25 ≤ k)) h9 h → Q (some (.int 0)) n h9) : AW X mX7_peaceWithout (d + 30) rc rs 0 [some (.ref 0), some (.int fo), some (.int (nI K))] [] n h Q := by
  have h8r := hR.2.1
  have h14r := hR.2.2.2.1
  have hK := rg_rk hR
  obtain ⟨N1, tx1, lk1, mv1, F2, hl13⟩ := T2
  refine aw_aload_n (npc := 1) rfl dX7_peaceWithout_0 rfl ?_
  refine aw_get (npc := 4) dX7_peaceWithout_1 rfl kf_X7_16 O.1 rfl ?_
  refine aw_aload_n (npc := 5) rfl dX7_peaceWithout_4 rfl ?_
  refine aw_get (npc := 8) dX7_peaceWithout_5 rfl kf_X7_10 O.1 rfl ?_
  refine aw_callV (npc := 11) (N := mX0_becomes) (b := 13) (mc := 0) (ms := 0) (A := [.ref 1]) (S := []) (L0 := [some (.ref 13), some (.ref 1), none]) dX7_peaceWithout_8 rfl km_X0_becomes kk_X7_193 F2.1 ⟨by decide, rfl⟩ rfl ⟨rfl, by decide⟩ rfl (Nat.le_of_ble_eq_true rfl) (Nat.zero_add _) (Nat.zero_add _) rfl ?_
  refine g_bec (tb := tb) F2 F G (by omega) (by omega) hl13 hC.1.1 hC.1.2.2.1 (fun hp3 F1 fz2 => ?_)
  have O4 := ob_frame O (fz2 0 (by omega)) (fz2 43 (by omega)) (fz2 44 (by omega))
  have F5 := qr_frame F (fun k h1 h2 => fz2 k (by omega))
  have G6 := tt_frame G (fun k hk => fz2 k (by omega))
  refine aw_aload_n (npc := 12) rfl dX7_peaceWithout_11 rfl ?_
  refine aw_get (npc := 15) dX7_peaceWithout_12 rfl kf_X7_16 O4.1 rfl ?_
  refine aw_iload_n (npc := 16) rfl dX7_peaceWithout_15 rfl ?_
  refine aw_iload_n (npc := 17) rfl dX7_peaceWithout_16 rfl ?_
  refine aw_callV (npc := 20) (N := mX0_runPosts) (b := 13) (mc := 0) (ms := 0) (A := [.int (nI K), .int fo]) (S := []) (L0 := [some (.ref 13), some (.int (nI K)), some (.int fo), none, none]) dX7_peaceWithout_17 rfl km_X0_runPosts kk_X7_163 F1.1 ⟨by decide, rfl⟩ rfl ⟨rfl, by decide⟩ rfl (Nat.le_of_ble_eq_true rfl) (Nat.zero_add _) (Nat.zero_add _) rfl ?_
  refine g_run (b := 13) (K := K) (wo := fo) F1 G6 hK.1 hK.2.1 hK.2.2.1 hC.1 (fun f hf => ⟨(hK.2.2.2.2.1 f hf).1, (hK.2.2.2.2.1 f hf).2.1⟩) (by omega) (by omega) (fun N97 s98 m99 h910 hr11 F12 G13 fz14 => ?_)
  have er15 := (run_c K _ _ _ _ hC hK hr11).1
  rw [er15] at F12
  have fy16 : ∀ k, (k < 92 ∧ (k < 13 ∨ 13 + 12 ≤ k)) → h910 k = _ := fun k hk => fz14 k hk.1 hk.2
  have O17 := ob_frame O4 (fy16 0 (by omega)) (fy16 43 (by omega)) (fy16 44 (by omega))
  have F18 := qr_frame F5 (fun k h1 h2 => fy16 k (by omega))
  refine aw_re (S' := [.int s98]) rfl ?_
  refine aw_pop (npc := 21) rfl dX7_peaceWithout_20 rfl ?_
  refine aw_aload_n (npc := 22) rfl dX7_peaceWithout_21 rfl ?_
  refine aw_get (npc := 25) dX7_peaceWithout_22 rfl kf_X7_16 O17.1 rfl ?_
  refine aw_callV (npc := 28) (N := mX0_isPeace) (b := 13) (mc := 0) (ms := 0) (A := []) (S := []) (L0 := [some (.ref 13)]) dX7_peaceWithout_25 rfl km_X0_isPeace kk_X7_169 F12.1 ⟨by decide, rfl⟩ rfl ⟨rfl, by decide⟩ rfl (Nat.le_of_ble_eq_true rfl) (Nat.zero_add _) (Nat.zero_add _) rfl ?_
  refine g_peace F12 (fun hp19 => ?_) (fun hp19 => ?_)
  · refine aw_re (S' := [.int 1]) rfl ?_
    refine aw_zret rfl rfl dX7_peaceWithout_28 ?_
    exact k1 hp19 _ ⟨_, _, _, _, F12, hC.1.1⟩ G13 (am_fpT (fun k (hk : k < 92 ∧ (k < 13 ∨ 25 ≤ k)) => fy16 k (by omega)) (am_fpT (fun k (hk : k < 92 ∧ (k < 13 ∨ 25 ≤ k)) => fz2 k (by omega)) am_fp0))
  · refine aw_re (S' := [.int 0]) rfl ?_
    refine aw_zret rfl rfl dX7_peaceWithout_28 ?_
    exact k0 hp19 _ ⟨_, _, _, _, F12, hC.1.1⟩ G13 (am_fpT (fun k (hk : k < 92 ∧ (k < 13 ∨ 25 ≤ k)) => fy16 k (by omega)) (am_fpT (fun k (hk : k < 92 ∧ (k < 13 ∨ 25 ≤ k)) => fz2 k (by omega)) am_fp0))
noncomputable def hlM (c fr K : Nat) (N : Nat → Int32) : Nat → Nat → Int32 → Int32
  | 0, _, s => s
  | m + 1, i, s => hlM c fr K N m (i + 1) (cI (peace (goF c fr (nI i) K N)) (s ||| (1 <<< (nI i &&& 31))) s)
noncomputable def heV (c fr : Nat) (N : Nat → Int32) (v : Int32) : Int32 := cI (wi v 1 60) (cI (peace (goF c fr (-1) (fN v) N)) 0 (hlM c fr (fN v) N fr 0 0)) (-1000000001)
set_option maxHeartbeats 4000000 in
set_option maxRecDepth 100000 in
theorem C_heldL {X : List Int32} {d rc rs n : Nat} {Q : am_Q} {tx : List Value} {lk : Nat → Int32} {ik wc : Int32} {fr c : Nat} {tb : TB} {N mv : Nat → Int32} {K : Nat} (hK60 : K < 1000) (hR : RG N fr c) (hC : TC tb tx lk N c) : ∀ (m i : Nat), i + m = fr → ∀ (s : Int32) (h : am_H), OB ik wc h → QR 1 N tx lk mv h → TQ h → TT tb h → (∀ v9 h9, v9 = hlM c fr K N m i s → TQ h9 → TT tb h9 → am_fp (fun k => k < 92 ∧ (k < 13 ∨ 25 ≤ k)) h9 h → Q (some (.int v9)) n h9) → AW X mX7_held (d + 40) rc rs 28 [some (.ref 0), some (.int (nI K)), some (.int s), some (.int (nI i))] [] n h Q := by
  have h8r := hR.2.1
  intro m
  induction m with
  | zero =>
    intro i hi s h O F T2 G hq
    obtain rfl : i = fr := by omega
    refine aw_iload_n (npc := 29) rfl dX7_held_28 rfl ?_
    refine aw_aload_n (npc := 30) rfl dX7_held_29 rfl ?_
    refine aw_get (npc := 33) dX7_held_30 rfl kf_X7_10 O.1 rfl ?_
    refine aw_get (npc := 36) dX7_held_33 rfl kf_X7_79 F.1 rfl ?_
    refine aw_top (y := nI i) (hR.1) ?_
    refine aw_icmp_ge (npc := 39) (tgt := 60) dX7_held_36 rfl (by decide) (fun _ => ?_) (fun hc => absurd (nI_le (a := i) (b := i) (by omega) (by omega)) hc)
    refine aw_iload_n (npc := 61) rfl dX7_held_60 rfl ?_
    refine aw_iret rfl dX7_held_61 ?_
    exact hq _ _ rfl T2 G am_fp0
  | succ m ih =>
    intro i hi s h O F T2 G hq
    refine aw_iload_n (npc := 29) rfl dX7_held_28 rfl ?_
    refine aw_aload_n (npc := 30) rfl dX7_held_29 rfl ?_
    refine aw_get (npc := 33) dX7_held_30 rfl kf_X7_10 O.1 rfl ?_
    refine aw_get (npc := 36) dX7_held_33 rfl kf_X7_79 F.1 rfl ?_
    refine aw_top (y := nI fr) (hR.1) ?_
    refine aw_icmp_ge (npc := 39) (tgt := 60) dX7_held_36 rfl (by decide) (fun hc => absurd hc (nI_ge (a := i) (b := fr) (by omega) (by omega))) (fun _ => ?_)
    refine aw_aload_n (npc := 40) rfl dX7_held_39 rfl ?_
    refine aw_iload_n (npc := 41) rfl dX7_held_40 rfl ?_
    refine aw_iload_n (npc := 42) rfl dX7_held_41 rfl ?_
    refine aw_callV (npc := 45) (N := mX7_peaceWithout) (b := 0) (mc := 0) (ms := 0) (A := [.int (nI i), .int (nI K)]) (S := []) (L0 := [some (.ref 0), some (.int (nI i)), some (.int (nI K))]) dX7_held_42 rfl km_X7_peaceWithout kk_X7_201 O.1 ⟨by decide, rfl⟩ rfl ⟨rfl, by decide⟩ rfl (Nat.le_of_ble_eq_true rfl) (Nat.zero_add _) (Nat.zero_add _) rfl ?_
    refine c_pw (fo := (nI i)) (K := K) O F T2 G hR hC (by omega) (fun hp2 h93 T4 G5 fz6 => ?_) (fun hp2 h93 T4 G5 fz6 => ?_)
    · have fyfz6 : ∀ k, (k < 92 ∧ (k < 13 ∨ 25 ≤ k)) → h93 k = _ := fun k hk => fz6 k hk
      have O7 := ob_frame O (fyfz6 0 (by omega)) (fyfz6 43 (by omega)) (fyfz6 44 (by omega))
      have F8 := qr_frame F (fun k h1 h2 => fyfz6 k (by omega))
      refine aw_re (S' := [.int 1]) rfl ?_
      refine aw_if_eq (npc := 48) (tgt := 54) dX7_held_45 rfl (by decide) (fun hc => absurd hc (by decide)) (fun _ => ?_)
      refine aw_iload_n (npc := 49) rfl dX7_held_48 rfl ?_
      refine aw_iconst (npc := 50) (v := 1) (by decide) dX7_held_49 rfl ?_
      refine aw_iload_n (npc := 51) rfl dX7_held_50 rfl ?_
      refine aw_ishl (npc := 52) dX7_held_51 rfl ?_
      refine aw_ior (npc := 53) dX7_held_52 rfl ?_
      refine aw_istore_n (npc := 54) (L' := [some (.ref 0), some (.int (nI K)), some (.int (s ||| (1 <<< ((nI i) &&& 31)))), some (.int (nI i))]) dX7_held_53 rfl (by decide) rfl rfl ?_
      refine aw_iinc (npc := 57) (v := nI (i + 1)) (L' := [some (.ref 0), some (.int (nI K)), some (.int (s ||| (1 <<< ((nI i) &&& 31)))), some (.int (nI (i + 1)))]) dX7_held_54 rfl rfl (nI_1 _) (by decide) rfl rfl ?_
      refine aw_goto (npc := 28) dX7_held_57 (by decide) ?_
      refine ih (i + 1) (by omega) (s ||| (1 <<< ((nI i) &&& 31))) _ O7 F8 T4 G5 (fun v9 h9 e9 T9 G9 f9 => hq v9 h9 ?_ T9 G9 (am_fpT f9 (am_fpT (fun k (hk : k < 92 ∧ (k < 13 ∨ 25 ≤ k)) => fyfz6 k (by omega)) am_fp0)))
      rw [e9]; simp [hlM, cI, hp2]
    · have fyfz6 : ∀ k, (k < 92 ∧ (k < 13 ∨ 25 ≤ k)) → h93 k = _ := fun k hk => fz6 k hk
      have O9 := ob_frame O (fyfz6 0 (by omega)) (fyfz6 43 (by omega)) (fyfz6 44 (by omega))
      have F10 := qr_frame F (fun k h1 h2 => fyfz6 k (by omega))
      refine aw_re (S' := [.int 0]) rfl ?_
      refine aw_if_eq (npc := 48) (tgt := 54) dX7_held_45 rfl (by decide) (fun _ => ?_) (fun hc => absurd (by decide) hc)
      refine aw_iinc (npc := 57) (v := nI (i + 1)) (L' := [some (.ref 0), some (.int (nI K)), some (.int s), some (.int (nI (i + 1)))]) dX7_held_54 rfl rfl (nI_1 _) (by decide) rfl rfl ?_
      refine aw_goto (npc := 28) dX7_held_57 (by decide) ?_
      refine ih (i + 1) (by omega) s _ O9 F10 T4 G5 (fun v9 h9 e9 T9 G9 f9 => hq v9 h9 ?_ T9 G9 (am_fpT f9 (am_fpT (fun k (hk : k < 92 ∧ (k < 13 ∨ 25 ≤ k)) => fyfz6 k (by omega)) am_fp0)))
      rw [e9]; simp [hlM, cI, hp2]
set_option maxHeartbeats 4000000 in
set_option maxRecDepth 100000 in
theorem C_held {X : List Int32} {d rc rs n : Nat} {Q : am_Q} {h : am_H} {N : Nat → Int32} {tx : List Value} {lk mv : Nat → Int32} {ik wc : Int32} {fr c : Nat} {v : Int32} {tb : TB} (O : OB ik wc h) (F : QR 1 N tx lk mv h) (T2 : TQ h) (G : TT tb h) (hR : RG N fr c) (hC : TC tb tx lk N c) (hq : ∀ v9 h9, v9 = heV c fr N v → TQ h9 → TT tb h9 → am_fp (fun k => k < 92 ∧ (k < 13 ∨ 25 ≤ k)) h9 h → Q (some (.int v9)) n h9) : AW X mX7_held (d + 40) rc rs 0 [some (.ref 0), some (.int v), none, none] [] n h Q := by
  have h8r := hR.2.1
  have h14r := hR.2.2.2.1
  refine aw_iload_n (npc := 1) rfl dX7_held_0 rfl ?_
  refine aw_iconst (npc := 2) (v := 1) (by decide) dX7_held_1 rfl ?_
  refine aw_bipush (npc := 4) (v := 60) (by decide) dX7_held_2 rfl ?_
  refine aw_callS (npc := 7) (N := mX7_within) (mc := 0) (ms := 0) (A := [.int v, .int 1, .int 60]) (S := []) (L0 := [some (.int v), some (.int 1), some (.int 60)]) dX7_held_4 rfl km_X7_within kk_X7_74 rfl ⟨rfl, by decide⟩ rfl (Nat.le_of_ble_eq_true rfl) (Nat.zero_add _) (Nat.zero_add _) rfl ?_
  refine c_X7_within (fun hw1 => ?_) (fun hw1 => ?_)
  · obtain ⟨vn, hvn, evn⟩ := wi_nI (H := 60) (by decide) (by decide) hw1
    subst evn
    have fvn : fN (nI vn) = vn := fN_nI (by omega)
    refine aw_re (S' := [.int 1]) rfl ?_
    refine aw_if_ne (npc := 10) (tgt := 13) dX7_held_7 rfl (by decide) (fun _ => ?_) (fun hc => absurd hc (by decide))
    refine aw_aload_n (npc := 14) rfl dX7_held_13 rfl ?_
    refine aw_iconst (npc := 15) (v := -1) (by decide) dX7_held_14 rfl ?_
    refine aw_iload_n (npc := 16) rfl dX7_held_15 rfl ?_
    refine aw_callV (npc := 19) (N := mX7_peaceWithout) (b := 0) (mc := 0) (ms := 0) (A := [.int (-1), .int (nI vn)]) (S := []) (L0 := [some (.ref 0), some (.int (-1)), some (.int (nI vn))]) dX7_held_16 rfl km_X7_peaceWithout kk_X7_201 O.1 ⟨by decide, rfl⟩ rfl ⟨rfl, by decide⟩ rfl (Nat.le_of_ble_eq_true rfl) (Nat.zero_add _) (Nat.zero_add _) rfl ?_
    refine c_pw (fo := (-1)) (K := vn) O F T2 G hR hC (by omega) (fun hp2 h93 T4 G5 fz6 => ?_) (fun hp2 h93 T4 G5 fz6 => ?_)
    · have fyfz6 : ∀ k, (k < 92 ∧ (k < 13 ∨ 25 ≤ k)) → h93 k = _ := fun k hk => fz6 k hk
      have O7 := ob_frame O (fyfz6 0 (by omega)) (fyfz6 43 (by omega)) (fyfz6 44 (by omega))
      have F8 := qr_frame F (fun k h1 h2 => fyfz6 k (by omega))
      refine aw_re (S' := [.int 1]) rfl ?_
      refine aw_if_eq (npc := 22) (tgt := 24) dX7_held_19 rfl (by decide) (fun hc => absurd hc (by decide)) (fun _ => ?_)
      refine aw_iconst (npc := 23) (v := 0) (by decide) dX7_held_22 rfl ?_
      refine aw_iret rfl dX7_held_23 ?_
      exact hq _ _ (by simp [heV, cI, hw1, hp2, fvn]) T4 G5 (am_fpT (fun k (hk : k < 92 ∧ (k < 13 ∨ 25 ≤ k)) => fyfz6 k (by omega)) am_fp0)
    · have fyfz6 : ∀ k, (k < 92 ∧ (k < 13 ∨ 25 ≤ k)) → h93 k = _ := fun k hk => fz6 k hk
      have O9 := ob_frame O (fyfz6 0 (by omega)) (fyfz6 43 (by omega)) (fyfz6 44 (by omega))
      have F10 := qr_frame F (fun k h1 h2 => fyfz6 k (by omega))
      refine aw_re (S' := [.int 0]) rfl ?_
      refine aw_if_eq (npc := 22) (tgt := 24) dX7_held_19 rfl (by decide) (fun _ => ?_) (fun hc => absurd (by decide) hc)
      refine aw_iconst (npc := 25) (v := 0) (by decide) dX7_held_24 rfl ?_
      refine aw_istore_n (npc := 26) (L' := [some (.ref 0), some (.int (nI vn)), some (.int 0), none]) dX7_held_25 rfl (by decide) rfl rfl ?_
      refine aw_iconst (npc := 27) (v := 0) (by decide) dX7_held_26 rfl ?_
      refine aw_istore_n (npc := 28) (L' := [some (.ref 0), some (.int (nI vn)), some (.int 0), some (.int 0)]) dX7_held_27 rfl (by decide) rfl rfl ?_
      refine aw_locs (L' := [some (.ref 0), some (.int (nI vn)), some (.int 0), some (.int (nI 0))]) rfl ?_
      refine C_heldL (K := vn) (by omega) hR hC fr 0 (by omega) 0 _ O9 F10 T4 G5 (fun v9 h9 e9 T9 G9 f9 => hq v9 h9 ?_ T9 G9 (am_fpT f9 (am_fpT (fun k (hk : k < 92 ∧ (k < 13 ∨ 25 ≤ k)) => fyfz6 k (by omega)) am_fp0)))
      rw [e9]; simp [heV, cI, hw1, hp2, fvn]
  · refine aw_re (S' := [.int 0]) rfl ?_
    refine aw_if_ne (npc := 10) (tgt := 13) dX7_held_7 rfl (by decide) (fun hc => absurd (by decide) hc) (fun _ => ?_)
    refine aw_ldc (npc := 12) kc_X7_78 dX7_held_10 rfl ?_
    refine aw_iret rfl dX7_held_12 ?_
    exact hq _ _ (by simp [heV, cI, hw1]) T2 G am_fp0
noncomputable def clM (c fr K : Nat) (N : Nat → Int32) : Nat → Int32
  | 0 => (-1000000005)
  | v + 1 => cI (peace (goF c fr (-1) K (upd N 3 (nI v)))) (nI v) (clM c fr K N v)
noncomputable def coolV (c fr : Nat) (N : Nat → Int32) (v : Int32) : Int32 := cI (wi v 1 40) (clM c fr (fN v) N 100) (-1000000001)
set_option maxHeartbeats 4000000 in
set_option maxRecDepth 100000 in
theorem C_coolL {X : List Int32} {d rc rs n : Nat} {Q : am_Q} {tx : List Value} {lk : Nat → Int32} {ik wc : Int32} {fr c : Nat} {tb : TB} {N mv : Nat → Int32} {K : Nat} (hK40 : K < 1000) (hC : TC tb tx lk N c) (hK : RK N fr c) : ∀ (m : Nat), m ≤ 100 → ∀ (h : am_H), OB ik wc h → QR 1 N tx lk mv h → TQ h → TT tb h → (∀ v9 h9, v9 = clM c fr K N m → TQ h9 → TT tb h9 → am_fp (fun k => k < 92 ∧ (k < 13 ∨ 25 ≤ k)) h9 h → Q (some (.int v9)) n h9) → AW X mX7_cool (d + 40) rc rs 16 [some (.ref 0), some (.int (nI K)), some (.int (nI m - 1))] [] n h Q := by
  have h8r := hK.2.1
  intro m
  induction m with
  | zero =>
    intro hm h O F T2 G hq
    rw [show nI 0 - 1 = (-1 : Int32) by decide]
    refine aw_iload_n (npc := 17) rfl dX7_cool_16 rfl ?_
    refine aw_if_lt (npc := 20) (tgt := 67) dX7_cool_17 rfl (by decide) (fun _ => ?_) (fun hc => absurd (by decide) hc)
    refine aw_ldc (npc := 69) kc_X7_200 dX7_cool_67 rfl ?_
    refine aw_iret rfl dX7_cool_69 ?_
    exact hq _ _ (by simp [clM, cI]) T2 G am_fp0
  | succ m ih =>
    intro hm h O F T2 G hq
    obtain ⟨N1, tx1, lk1, mv1, F2, hl13⟩ := T2
    rw [nIs1 m (by omega)]
    refine aw_iload_n (npc := 17) rfl dX7_cool_16 rfl ?_
    refine aw_if_lt (npc := 20) (tgt := 67) dX7_cool_17 rfl (by decide) (fun hc => absurd hc (nI_pos (by omega))) (fun _ => ?_)
    refine aw_aload_n (npc := 21) rfl dX7_cool_20 rfl ?_
    refine aw_get (npc := 24) dX7_cool_21 rfl kf_X7_16 O.1 rfl ?_
    refine aw_aload_n (npc := 25) rfl dX7_cool_24 rfl ?_
    refine aw_get (npc := 28) dX7_cool_25 rfl kf_X7_10 O.1 rfl ?_
    refine aw_callV (npc := 31) (N := mX0_becomes) (b := 13) (mc := 0) (ms := 0) (A := [.ref 1]) (S := []) (L0 := [some (.ref 13), some (.ref 1), none]) dX7_cool_28 rfl km_X0_becomes kk_X7_193 F2.1 ⟨by decide, rfl⟩ rfl ⟨rfl, by decide⟩ rfl (Nat.le_of_ble_eq_true rfl) (Nat.zero_add _) (Nat.zero_add _) rfl ?_
    refine g_bec (tb := tb) F2 F G (by omega) (by omega) hl13 hC.1.1 hC.1.2.2.1 (fun hp4 F2 fz3 => ?_)
    have O5 := ob_frame O (fz3 0 (by omega)) (fz3 43 (by omega)) (fz3 44 (by omega))
    have F6 := qr_frame F (fun k h1 h2 => fz3 k (by omega))
    have G7 := tt_frame G (fun k hk => fz3 k (by omega))
    refine aw_aload_n (npc := 32) rfl dX7_cool_31 rfl ?_
    refine aw_get (npc := 35) dX7_cool_32 rfl kf_X7_16 O5.1 rfl ?_
    refine aw_iload_n (npc := 36) rfl dX7_cool_35 rfl ?_
    refine aw_put (npc := 39) dX7_cool_36 rfl kf_X7_139 F2.1 (Nat.le_of_ble_eq_true rfl) (am_ok_int _) rfl ?_
    have F8 := qr_heat (v := nI m) F2
    have O9 := ob_out (a := 13) (c := .inr (0, (QO 13 N).set 3 (.int (nI m)))) (by omega) O5
    have F10 := qr_out (a := 13) (c := .inr (0, (QO 13 N).set 3 (.int (nI m)))) (by omega) F6
    have G11 := tt_out (k := 13) (c := .inr (0, (QO 13 N).set 3 (.int (nI m)))) (by omega) G7
    refine aw_aload_n (npc := 40) rfl dX7_cool_39 rfl ?_
    refine aw_get (npc := 43) dX7_cool_40 rfl kf_X7_16 O9.1 rfl ?_
    refine aw_iload_n (npc := 44) rfl dX7_cool_43 rfl ?_
    refine aw_iconst (npc := 45) (v := -1) (by decide) dX7_cool_44 rfl ?_
    refine aw_callV (npc := 48) (N := mX0_runPosts) (b := 13) (mc := 0) (ms := 0) (A := [.int (nI K), .int (-1)]) (S := []) (L0 := [some (.ref 13), some (.int (nI K)), some (.int (-1)), none, none]) dX7_cool_45 rfl km_X0_runPosts kk_X7_163 F8.1 ⟨by decide, rfl⟩ rfl ⟨rfl, by decide⟩ rfl (Nat.le_of_ble_eq_true rfl) (Nat.zero_add _) (Nat.zero_add _) rfl ?_
    have hT21 : TC tb tx lk (upd N 3 (nI m)) c := (tc_u (by omega) (by omega) hC)
    have hK22 : RK (upd N 3 (nI m)) fr c := (rk_heat (wi_n0 (c := 99) (by omega) (by omega)) hK)
    refine g_run (b := 13) (K := K) (wo := (-1)) F8 G11 hK22.1 hK22.2.1 hK22.2.2.1 hT21.1 (fun f hf => ⟨(hK22.2.2.2.2.1 f hf).1, (hK22.2.2.2.2.1 f hf).2.1⟩) (by omega) (by omega) (fun N912 s913 m914 h915 hr16 F17 G18 fz19 => ?_)
    have er20 := (run_c K _ _ _ _ hT21 hK22 hr16).1
    rw [er20] at F17
    have fy23 : ∀ k, (k < 92 ∧ (k < 13 ∨ 13 + 12 ≤ k)) → h915 k = _ := fun k hk => fz19 k hk.1 hk.2
    have O24 := ob_frame O9 (fy23 0 (by omega)) (fy23 43 (by omega)) (fy23 44 (by omega))
    have F25 := qr_frame F10 (fun k h1 h2 => fy23 k (by omega))
    refine aw_re (S' := [.int s913]) rfl ?_
    refine aw_pop (npc := 49) rfl dX7_cool_48 rfl ?_
    refine aw_aload_n (npc := 50) rfl dX7_cool_49 rfl ?_
    refine aw_get (npc := 53) dX7_cool_50 rfl kf_X7_16 O24.1 rfl ?_
    refine aw_callV (npc := 56) (N := mX0_isPeace) (b := 13) (mc := 0) (ms := 0) (A := []) (S := []) (L0 := [some (.ref 13)]) dX7_cool_53 rfl km_X0_isPeace kk_X7_169 F17.1 ⟨by decide, rfl⟩ rfl ⟨rfl, by decide⟩ rfl (Nat.le_of_ble_eq_true rfl) (Nat.zero_add _) (Nat.zero_add _) rfl ?_
    refine g_peace F17 (fun hp26 => ?_) (fun hp26 => ?_)
    · refine aw_re (S' := [.int 1]) rfl ?_
      refine aw_if_eq (npc := 59) (tgt := 61) dX7_cool_56 rfl (by decide) (fun hc => absurd hc (by decide)) (fun _ => ?_)
      refine aw_iload_n (npc := 60) rfl dX7_cool_59 rfl ?_
      refine aw_iret rfl dX7_cool_60 ?_
      exact hq _ _ (by simp [clM, cI, hp26]) ⟨_, _, _, _, F17, hC.1.1⟩ G18 (am_fpT (fun k (hk : k < 92 ∧ (k < 13 ∨ 25 ≤ k)) => fy23 k (by omega)) (am_fpU (show ¬ (13 < 92 ∧ (13 < 13 ∨ 25 ≤ 13)) by omega) (am_fpT (fun k (hk : k < 92 ∧ (k < 13 ∨ 25 ≤ k)) => fz3 k (by omega)) am_fp0)))
    · refine aw_re (S' := [.int 0]) rfl ?_
      refine aw_if_eq (npc := 59) (tgt := 61) dX7_cool_56 rfl (by decide) (fun _ => ?_) (fun hc => absurd (by decide) hc)
      refine aw_iinc (npc := 64) (v := nI m - 1) (L' := [some (.ref 0), some (.int (nI K)), some (.int (nI m - 1))]) dX7_cool_61 rfl rfl (m1_m1 _) (by decide) rfl rfl ?_
      refine aw_goto (npc := 16) dX7_cool_64 (by decide) ?_
      refine ih (by omega) _ O24 F25 ⟨_, _, _, _, F17, hC.1.1⟩ G18 (fun v9 h9 e9 T9 G9 f9 => hq v9 h9 ?_ T9 G9 (am_fpT f9 (am_fpT (fun k (hk : k < 92 ∧ (k < 13 ∨ 25 ≤ k)) => fy23 k (by omega)) (am_fpU (show ¬ (13 < 92 ∧ (13 < 13 ∨ 25 ≤ 13)) by omega) (am_fpT (fun k (hk : k < 92 ∧ (k < 13 ∨ 25 ≤ k)) => fz3 k (by omega)) am_fp0)))))
      rw [e9]; simp [clM, cI, hp26]
set_option maxHeartbeats 4000000 in
set_option maxRecDepth 100000 in
theorem C_cool {X : List Int32} {d rc rs n : Nat} {Q : am_Q} {h : am_H} {N : Nat → Int32} {tx : List Value} {lk mv : Nat → Int32} {ik wc : Int32} {fr c : Nat} {v : Int32} {tb : TB} (O : OB ik wc h) (F : QR 1 N tx lk mv h) (T2 : TQ h) (G : TT tb h) (hR : RG N fr c) (hC : TC tb tx lk N c) (hq : ∀ v9 h9, v9 = coolV c fr N v → TQ h9 → TT tb h9 → am_fp (fun k => k < 92 ∧ (k < 13 ∨ 25 ≤ k)) h9 h → Q (some (.int v9)) n h9) : AW X mX7_cool (d + 40) rc rs 0 [some (.ref 0), some (.int v), none] [] n h Q := by
  have h8r := hR.2.1
  have h14r := hR.2.2.2.1
  refine aw_iload_n (npc := 1) rfl dX7_cool_0 rfl ?_
  refine aw_iconst (npc := 2) (v := 1) (by decide) dX7_cool_1 rfl ?_
  refine aw_bipush (npc := 4) (v := 40) (by decide) dX7_cool_2 rfl ?_
  refine aw_callS (npc := 7) (N := mX7_within) (mc := 0) (ms := 0) (A := [.int v, .int 1, .int 40]) (S := []) (L0 := [some (.int v), some (.int 1), some (.int 40)]) dX7_cool_4 rfl km_X7_within kk_X7_74 rfl ⟨rfl, by decide⟩ rfl (Nat.le_of_ble_eq_true rfl) (Nat.zero_add _) (Nat.zero_add _) rfl ?_
  refine c_X7_within (fun hw1 => ?_) (fun hw1 => ?_)
  · obtain ⟨vn, hvn, evn⟩ := wi_nI (H := 40) (by decide) (by decide) hw1
    subst evn
    have fvn : fN (nI vn) = vn := fN_nI (by omega)
    refine aw_re (S' := [.int 1]) rfl ?_
    refine aw_if_ne (npc := 10) (tgt := 13) dX7_cool_7 rfl (by decide) (fun _ => ?_) (fun hc => absurd hc (by decide))
    refine aw_bipush (npc := 15) (v := 99) (by decide) dX7_cool_13 rfl ?_
    refine aw_istore_n (npc := 16) (L' := [some (.ref 0), some (.int (nI vn)), some (.int 99)]) dX7_cool_15 rfl (by decide) rfl rfl ?_
    refine aw_locs (L' := [some (.ref 0), some (.int (nI vn)), some (.int (nI 100 - 1))]) rfl ?_
    refine C_coolL (K := vn) (by omega) hC (rg_rk hR) 100 (by omega) _ O F T2 G (fun v9 h9 e9 T9 G9 f9 => hq v9 h9 ?_ T9 G9 f9)
    rw [e9]; simp [coolV, cI, hw1, fvn]
  · refine aw_re (S' := [.int 0]) rfl ?_
    refine aw_if_ne (npc := 10) (tgt := 13) dX7_cool_7 rfl (by decide) (fun hc => absurd (by decide) hc) (fun _ => ?_)
    refine aw_ldc (npc := 12) kc_X7_78 dX7_cool_10 rfl ?_
    refine aw_iret rfl dX7_cool_12 ?_
    exact hq _ _ (by simp [coolV, cI, hw1]) T2 G am_fp0
noncomputable def hsS (s : Int32) (N : Nat → Int32) : Int32 := if s = 0 then hs0 N else hs1 N
noncomputable def btL (c fr K : Nat) (N : Nat → Int32) (i : Nat) : Int32 := hsS (N (23 + 5 * i)) (goF c fr (-1) K (upd N (22 + 5 * i) 5))
noncomputable def btS (c fr K : Nat) (N : Nat → Int32) (i : Nat) : Option (Nat × Int32) → Option (Nat × Int32)
  | none => some (i, btL c fr K N i)
  | some p => if btL c fr K N i < p.2 then some (i, btL c fr K N i) else some p
noncomputable def btM (c fr K : Nat) (N : Nat → Int32) : Nat → Nat → Option (Nat × Int32) → Option (Nat × Int32)
  | 0, _, p => p
  | m + 1, i, p => btM c fr K N m (i + 1) (btS c fr K N i p)
def bt1 : Option (Nat × Int32) → Int32
  | none => (-1000000005)
  | some p => nI p.1
def bt2 : Option (Nat × Int32) → Int32
  | none => (-1000000005)
  | some p => p.2
noncomputable def buV (c fr : Nat) (N : Nat → Int32) (v w : Int32) : Int32 := cI (wi v 1 60 ∧ wi w 0 1) (cI (w = 0) (bt1 (btM c fr (fN v) N fr 0 none)) (bt2 (btM c fr (fN v) N fr 0 none))) (-1000000001)
theorem btS_lt {c fr K i : Nat} {N : Nat → Int32} {p : Option (Nat × Int32)} (hi : i < 8) (hp : ∀ q, p = some q → q.1 < 8) : ∀ q, btS c fr K N i p = some q → q.1 < 8 := by
  intro q hq
  cases p with
  | none =>
    have z : (i, btL c fr K N i) = q := Option.some.inj hq
    rw [← z]; exact hi
  | some r =>
    have hr := hp r rfl
    simp only [btS] at hq
    split at hq
    · have z : (i, btL c fr K N i) = q := Option.some.inj hq
      rw [← z]; exact hi
    · have z : r = q := Option.some.inj hq
      rw [← z]; exact hr
theorem bt_ne {q : Nat} (h : q < 8) : ¬ nI q = (-1000000005) := fun e => nI_pos (n := q) (by omega) (by rw [e]; decide)
set_option maxHeartbeats 4000000 in
set_option maxRecDepth 100000 in
theorem C_boughtL {X : List Int32} {d rc rs n : Nat} {Q : am_Q} {tx : List Value} {lk : Nat → Int32} {ik wc : Int32} {fr c : Nat} {tb : TB} {N mv : Nat → Int32} {K : Nat} {w : Int32} (hK60 : K < 1000) (hC : TC tb tx lk N c) (hK : RK N fr c) : ∀ (m i : Nat), i + m = fr → ∀ (p : Option (Nat × Int32)), (∀ q, p = some q → q.1 < 8) → ∀ (v6 : Option Value) (h : am_H), OB ik wc h → QR 1 N tx lk mv h → TQ h → TT tb h → (∀ v9 h9, v9 = cI (w = 0) (bt1 (btM c fr K N m i p)) (bt2 (btM c fr K N m i p)) → TQ h9 → TT tb h9 → am_fp (fun k => k < 92 ∧ (k < 13 ∨ 25 ≤ k)) h9 h → Q (some (.int v9)) n h9) → AW X mX7_bought (d + 40) rc rs 32 [some (.ref 0), some (.int (nI K)), some (.int w), some (.int (bt1 p)), some (.int (bt2 p)), some (.int (nI i)), v6] [] n h Q := by
  have h8r := hK.2.1
  intro m
  induction m with
  | zero =>
    intro i hi p hp v6 h O F T2 G hq
    obtain rfl : i = fr := by omega
    refine aw_iload (npc := 34) rfl dX7_bought_32 rfl ?_
    refine aw_aload_n (npc := 35) rfl dX7_bought_34 rfl ?_
    refine aw_get (npc := 38) dX7_bought_35 rfl kf_X7_10 O.1 rfl ?_
    refine aw_get (npc := 41) dX7_bought_38 rfl kf_X7_79 F.1 rfl ?_
    refine aw_top (y := nI i) (hK.1) ?_
    refine aw_icmp_ge (npc := 44) (tgt := 121) dX7_bought_41 rfl (by decide) (fun _ => ?_) (fun hc => absurd (nI_le (a := i) (b := i) (by omega) (by omega)) hc)
    refine aw_iload_n (npc := 122) rfl dX7_bought_121 rfl ?_
    refine aw_if_ne (npc := 125) (tgt := 129) dX7_bought_122 rfl (by decide) (fun hc2 => ?_) (fun hc2 => ?_)
    · refine aw_iload (npc := 131) rfl dX7_bought_129 rfl ?_
      refine aw_iret rfl dX7_bought_131 ?_
      exact hq _ _ (by simp [cI, hc2, btM]) T2 G am_fp0
    · refine aw_iload_n (npc := 126) rfl dX7_bought_125 rfl ?_
      refine aw_goto (npc := 131) dX7_bought_126 (by decide) ?_
      refine aw_iret rfl dX7_bought_131 ?_
      exact hq _ _ (by simp [cI, hc2, btM]) T2 G am_fp0
  | succ m ih =>
    intro i hi p hp v6 h O F T2 G hq
    obtain ⟨N1, tx1, lk1, mv1, F2, hl13⟩ := T2
    cases p with
    | none =>
      show AW X mX7_bought (d + 40) rc rs 32 [some (.ref 0), some (.int (nI K)), some (.int w), some (.int (-1000000005)), some (.int (-1000000005)), some (.int (nI i)), v6] [] n h Q
      refine aw_iload (npc := 34) rfl dX7_bought_32 rfl ?_
      refine aw_aload_n (npc := 35) rfl dX7_bought_34 rfl ?_
      refine aw_get (npc := 38) dX7_bought_35 rfl kf_X7_10 O.1 rfl ?_
      refine aw_get (npc := 41) dX7_bought_38 rfl kf_X7_79 F.1 rfl ?_
      refine aw_top (y := nI fr) (hK.1) ?_
      refine aw_icmp_ge (npc := 44) (tgt := 121) dX7_bought_41 rfl (by decide) (fun hc => absurd hc (nI_ge (a := i) (b := fr) (by omega) (by omega))) (fun _ => ?_)
      refine aw_aload_n (npc := 45) rfl dX7_bought_44 rfl ?_
      refine aw_get (npc := 48) dX7_bought_45 rfl kf_X7_16 O.1 rfl ?_
      refine aw_aload_n (npc := 49) rfl dX7_bought_48 rfl ?_
      refine aw_get (npc := 52) dX7_bought_49 rfl kf_X7_10 O.1 rfl ?_
      refine aw_callV (npc := 55) (N := mX0_becomes) (b := 13) (mc := 0) (ms := 0) (A := [.ref 1]) (S := []) (L0 := [some (.ref 13), some (.ref 1), none]) dX7_bought_52 rfl km_X0_becomes kk_X7_193 F2.1 ⟨by decide, rfl⟩ rfl ⟨rfl, by decide⟩ rfl (Nat.le_of_ble_eq_true rfl) (Nat.zero_add _) (Nat.zero_add _) rfl ?_
      refine g_bec (tb := tb) F2 F G (by omega) (by omega) hl13 hC.1.1 hC.1.2.2.1 (fun hp4 F2 fz3 => ?_)
      have O5 := ob_frame O (fz3 0 (by omega)) (fz3 43 (by omega)) (fz3 44 (by omega))
      have F6 := qr_frame F (fun k h1 h2 => fz3 k (by omega))
      have G7 := tt_frame G (fun k hk => fz3 k (by omega))
      refine aw_aload_n (npc := 56) rfl dX7_bought_55 rfl ?_
      refine aw_get (npc := 59) dX7_bought_56 rfl kf_X7_16 O5.1 rfl ?_
      refine aw_get (npc := 62) dX7_bought_59 rfl kf_X7_90 F2.1 rfl ?_
      refine aw_iload (npc := 64) rfl dX7_bought_62 rfl ?_
      refine aw_iconst (npc := 65) (v := 5) (by decide) dX7_bought_64 rfl ?_
      refine aw_iast (npc := 66) (j := i) dX7_bought_65 rfl F2.2.2.2.2.1 (am_ix_nI (by omega)) (by rw [tl_len]; omega) rfl ?_
      have F8 := qr_kind (j := i) (v := 5) F2 (by omega)
      have O9 := ob_out (a := 17) (c := .inl (0, (tl 8 (fun z9 => N (22 + 5 * z9))).set i 5)) (by omega) O5
      have F10 := qr_out (a := 17) (c := .inl (0, (tl 8 (fun z9 => N (22 + 5 * z9))).set i 5)) (by omega) F6
      have G11 := tt_out (k := 17) (c := .inl (0, (tl 8 (fun z9 => N (22 + 5 * z9))).set i 5)) (by omega) G7
      refine aw_aload_n (npc := 67) rfl dX7_bought_66 rfl ?_
      refine aw_get (npc := 70) dX7_bought_67 rfl kf_X7_16 O9.1 rfl ?_
      refine aw_iload_n (npc := 71) rfl dX7_bought_70 rfl ?_
      refine aw_iconst (npc := 72) (v := -1) (by decide) dX7_bought_71 rfl ?_
      refine aw_callV (npc := 75) (N := mX0_runPosts) (b := 13) (mc := 0) (ms := 0) (A := [.int (nI K), .int (-1)]) (S := []) (L0 := [some (.ref 13), some (.int (nI K)), some (.int (-1)), none, none]) dX7_bought_72 rfl km_X0_runPosts kk_X7_163 F8.1 ⟨by decide, rfl⟩ rfl ⟨rfl, by decide⟩ rfl (Nat.le_of_ble_eq_true rfl) (Nat.zero_add _) (Nat.zero_add _) rfl ?_
      have hT21 : TC tb tx lk (upd N (22 + 5 * i) 5) c := (tc_u (by omega) (by omega) hC)
      have hK22 : RK (upd N (22 + 5 * i) 5) fr c := (rk_kind ⟨by decide, by decide⟩ (by omega) hK)
      refine g_run (b := 13) (K := K) (wo := (-1)) F8 G11 hK22.1 hK22.2.1 hK22.2.2.1 hT21.1 (fun f hf => ⟨(hK22.2.2.2.2.1 f hf).1, (hK22.2.2.2.2.1 f hf).2.1⟩) (by omega) (by omega) (fun N912 s913 m914 h915 hr16 F17 G18 fz19 => ?_)
      have er20 := (run_c K _ _ _ _ hT21 hK22 hr16).1
      rw [er20] at F17
      have fy23 : ∀ k, (k < 92 ∧ (k < 13 ∨ 13 + 12 ≤ k)) → h915 k = _ := fun k hk => fz19 k hk.1 hk.2
      have O24 := ob_frame O9 (fy23 0 (by omega)) (fy23 43 (by omega)) (fy23 44 (by omega))
      have F25 := qr_frame F10 (fun k h1 h2 => fy23 k (by omega))
      refine aw_re (S' := [.int s913]) rfl ?_
      refine aw_pop (npc := 76) rfl dX7_bought_75 rfl ?_
      refine aw_aload_n (npc := 77) rfl dX7_bought_76 rfl ?_
      refine aw_get (npc := 80) dX7_bought_77 rfl kf_X7_16 O24.1 rfl ?_
      refine aw_aload_n (npc := 81) rfl dX7_bought_80 rfl ?_
      refine aw_get (npc := 84) dX7_bought_81 rfl kf_X7_16 O24.1 rfl ?_
      refine aw_get (npc := 87) dX7_bought_84 rfl kf_X7_93 F17.1 rfl ?_
      refine aw_iload (npc := 89) rfl dX7_bought_87 rfl ?_
      refine aw_iald (npc := 90) (x := (goF c fr (-1) K (upd N (22 + 5 * i) 5)) (23 + 5 * i)) (j := i) dX7_bought_89 rfl F17.2.2.2.2.2.1 (am_ix_nI (by omega)) (tl_at (by omega)) ?_
      have esd : (goF c fr (-1) K (upd N (22 + 5 * i) 5)) (23 + 5 * i) = N (23 + 5 * i) := (goF_k h8r (by omega) (by omega) (by omega) (by omega) (by omega) (by omega) _ _).trans (pk_un (by omega))
      rcases wi_c0_1 (hK.2.2.2.2.1 i (by omega)).2.1 with eside | eside
      · refine aw_top (y := 0) (esd.trans eside) ?_
        refine aw_callV (npc := 93) (N := mX0_hasOf) (b := 13) (mc := 0) (ms := 0) (A := [.int 0]) (S := []) (L0 := [some (.ref 13), some (.int 0), none, none, none]) dX7_bought_90 rfl km_X0_hasOf kk_X7_166 F17.1 ⟨by decide, rfl⟩ rfl ⟨rfl, by decide⟩ rfl (Nat.le_of_ble_eq_true rfl) (Nat.zero_add _) (Nat.zero_add _) rfl ?_
        refine g_has0 F17 ?_
        refine aw_re (S' := [.int (hs0 (goF c fr (-1) K (upd N (22 + 5 * i) 5)))]) rfl ?_
        refine aw_istore (npc := 95) (L' := [some (.ref 0), some (.int (nI K)), some (.int w), some (.int (-1000000005)), some (.int (-1000000005)), some (.int (nI i)), some (.int (hs0 (goF c fr (-1) K (upd N (22 + 5 * i) 5))))]) dX7_bought_93 rfl (by decide) rfl rfl ?_
        refine aw_iload_n (npc := 96) rfl dX7_bought_95 rfl ?_
        refine aw_ldc (npc := 98) kc_X7_200 dX7_bought_96 rfl ?_
        refine aw_icmp_eq (npc := 101) (tgt := 108) dX7_bought_98 rfl (by decide) (fun _ => ?_) (fun hc => absurd (by decide) hc)
        refine aw_iload (npc := 110) rfl dX7_bought_108 rfl ?_
        refine aw_istore_n (npc := 111) (L' := [some (.ref 0), some (.int (nI K)), some (.int w), some (.int (nI i)), some (.int (-1000000005)), some (.int (nI i)), some (.int (hs0 (goF c fr (-1) K (upd N (22 + 5 * i) 5))))]) dX7_bought_110 rfl (by decide) rfl rfl ?_
        refine aw_iload (npc := 113) rfl dX7_bought_111 rfl ?_
        refine aw_istore (npc := 115) (L' := [some (.ref 0), some (.int (nI K)), some (.int w), some (.int (nI i)), some (.int (hs0 (goF c fr (-1) K (upd N (22 + 5 * i) 5)))), some (.int (nI i)), some (.int (hs0 (goF c fr (-1) K (upd N (22 + 5 * i) 5))))]) dX7_bought_113 rfl (by decide) rfl rfl ?_
        refine aw_iinc (npc := 118) (v := nI (i + 1)) (L' := [some (.ref 0), some (.int (nI K)), some (.int w), some (.int (nI i)), some (.int (hs0 (goF c fr (-1) K (upd N (22 + 5 * i) 5)))), some (.int (nI (i + 1))), some (.int (hs0 (goF c fr (-1) K (upd N (22 + 5 * i) 5))))]) dX7_bought_115 rfl rfl (nI_1 _) (by decide) rfl rfl ?_
        refine aw_goto (npc := 32) dX7_bought_118 (by decide) ?_
        have el : btL c fr K N i = hs0 (goF c fr (-1) K (upd N (22 + 5 * i) 5)) := by unfold btL hsS; rw [eside]; rfl
        have e8 : btS c fr K N i none = some (i, btL c fr K N i) := by
          rfl
        refine aw_locs (L' := [some (.ref 0), some (.int (nI K)), some (.int w), some (.int (bt1 (some (i, btL c fr K N i)))), some (.int (bt2 (some (i, btL c fr K N i)))), some (.int (nI (i + 1))), some (.int (hs0 (goF c fr (-1) K (upd N (22 + 5 * i) 5))))]) (by rw [el]; rfl) ?_
        refine ih (i + 1) (by omega) (some (i, btL c fr K N i)) (e8 ▸ btS_lt (by omega) hp) _ _ O24 F25 ⟨_, _, _, _, F17, hC.1.1⟩ G18 (fun v9 h9 e9 T9 G9 f9 => hq v9 h9 ?_ T9 G9 (am_fpT f9 (am_fpT (fun k (hk : k < 92 ∧ (k < 13 ∨ 25 ≤ k)) => fy23 k (by omega)) (am_fpU (show ¬ (17 < 92 ∧ (17 < 13 ∨ 25 ≤ 17)) by omega) (am_fpT (fun k (hk : k < 92 ∧ (k < 13 ∨ 25 ≤ k)) => fz3 k (by omega)) am_fp0)))))
        rw [e9]; exact congrArg (fun z => cI (w = 0) (bt1 (btM c fr K N m (i + 1) z)) (bt2 (btM c fr K N m (i + 1) z))) e8.symm
      · refine aw_top (y := 1) (esd.trans eside) ?_
        refine aw_callV (npc := 93) (N := mX0_hasOf) (b := 13) (mc := 0) (ms := 0) (A := [.int 1]) (S := []) (L0 := [some (.ref 13), some (.int 1), none, none, none]) dX7_bought_90 rfl km_X0_hasOf kk_X7_166 F17.1 ⟨by decide, rfl⟩ rfl ⟨rfl, by decide⟩ rfl (Nat.le_of_ble_eq_true rfl) (Nat.zero_add _) (Nat.zero_add _) rfl ?_
        refine g_has1 F17 ?_
        refine aw_re (S' := [.int (hs1 (goF c fr (-1) K (upd N (22 + 5 * i) 5)))]) rfl ?_
        refine aw_istore (npc := 95) (L' := [some (.ref 0), some (.int (nI K)), some (.int w), some (.int (-1000000005)), some (.int (-1000000005)), some (.int (nI i)), some (.int (hs1 (goF c fr (-1) K (upd N (22 + 5 * i) 5))))]) dX7_bought_93 rfl (by decide) rfl rfl ?_
        refine aw_iload_n (npc := 96) rfl dX7_bought_95 rfl ?_
        refine aw_ldc (npc := 98) kc_X7_200 dX7_bought_96 rfl ?_
        refine aw_icmp_eq (npc := 101) (tgt := 108) dX7_bought_98 rfl (by decide) (fun _ => ?_) (fun hc => absurd (by decide) hc)
        refine aw_iload (npc := 110) rfl dX7_bought_108 rfl ?_
        refine aw_istore_n (npc := 111) (L' := [some (.ref 0), some (.int (nI K)), some (.int w), some (.int (nI i)), some (.int (-1000000005)), some (.int (nI i)), some (.int (hs1 (goF c fr (-1) K (upd N (22 + 5 * i) 5))))]) dX7_bought_110 rfl (by decide) rfl rfl ?_
        refine aw_iload (npc := 113) rfl dX7_bought_111 rfl ?_
        refine aw_istore (npc := 115) (L' := [some (.ref 0), some (.int (nI K)), some (.int w), some (.int (nI i)), some (.int (hs1 (goF c fr (-1) K (upd N (22 + 5 * i) 5)))), some (.int (nI i)), some (.int (hs1 (goF c fr (-1) K (upd N (22 + 5 * i) 5))))]) dX7_bought_113 rfl (by decide) rfl rfl ?_
        refine aw_iinc (npc := 118) (v := nI (i + 1)) (L' := [some (.ref 0), some (.int (nI K)), some (.int w), some (.int (nI i)), some (.int (hs1 (goF c fr (-1) K (upd N (22 + 5 * i) 5)))), some (.int (nI (i + 1))), some (.int (hs1 (goF c fr (-1) K (upd N (22 + 5 * i) 5))))]) dX7_bought_115 rfl rfl (nI_1 _) (by decide) rfl rfl ?_
        refine aw_goto (npc := 32) dX7_bought_118 (by decide) ?_
        have el : btL c fr K N i = hs1 (goF c fr (-1) K (upd N (22 + 5 * i) 5)) := by unfold btL hsS; rw [eside]; rfl
        have e8 : btS c fr K N i none = some (i, btL c fr K N i) := by
          rfl
        refine aw_locs (L' := [some (.ref 0), some (.int (nI K)), some (.int w), some (.int (bt1 (some (i, btL c fr K N i)))), some (.int (bt2 (some (i, btL c fr K N i)))), some (.int (nI (i + 1))), some (.int (hs1 (goF c fr (-1) K (upd N (22 + 5 * i) 5))))]) (by rw [el]; rfl) ?_
        refine ih (i + 1) (by omega) (some (i, btL c fr K N i)) (e8 ▸ btS_lt (by omega) hp) _ _ O24 F25 ⟨_, _, _, _, F17, hC.1.1⟩ G18 (fun v9 h9 e9 T9 G9 f9 => hq v9 h9 ?_ T9 G9 (am_fpT f9 (am_fpT (fun k (hk : k < 92 ∧ (k < 13 ∨ 25 ≤ k)) => fy23 k (by omega)) (am_fpU (show ¬ (17 < 92 ∧ (17 < 13 ∨ 25 ≤ 17)) by omega) (am_fpT (fun k (hk : k < 92 ∧ (k < 13 ∨ 25 ≤ k)) => fz3 k (by omega)) am_fp0)))))
        rw [e9]; exact congrArg (fun z => cI (w = 0) (bt1 (btM c fr K N m (i + 1) z)) (bt2 (btM c fr K N m (i + 1) z))) e8.symm
    | some p =>
      have hp8 := hp p rfl
      show AW X mX7_bought (d + 40) rc rs 32 [some (.ref 0), some (.int (nI K)), some (.int w), some (.int (nI p.1)), some (.int p.2), some (.int (nI i)), v6] [] n h Q
      refine aw_iload (npc := 34) rfl dX7_bought_32 rfl ?_
      refine aw_aload_n (npc := 35) rfl dX7_bought_34 rfl ?_
      refine aw_get (npc := 38) dX7_bought_35 rfl kf_X7_10 O.1 rfl ?_
      refine aw_get (npc := 41) dX7_bought_38 rfl kf_X7_79 F.1 rfl ?_
      refine aw_top (y := nI fr) (hK.1) ?_
      refine aw_icmp_ge (npc := 44) (tgt := 121) dX7_bought_41 rfl (by decide) (fun hc => absurd hc (nI_ge (a := i) (b := fr) (by omega) (by omega))) (fun _ => ?_)
      refine aw_aload_n (npc := 45) rfl dX7_bought_44 rfl ?_
      refine aw_get (npc := 48) dX7_bought_45 rfl kf_X7_16 O.1 rfl ?_
      refine aw_aload_n (npc := 49) rfl dX7_bought_48 rfl ?_
      refine aw_get (npc := 52) dX7_bought_49 rfl kf_X7_10 O.1 rfl ?_
      refine aw_callV (npc := 55) (N := mX0_becomes) (b := 13) (mc := 0) (ms := 0) (A := [.ref 1]) (S := []) (L0 := [some (.ref 13), some (.ref 1), none]) dX7_bought_52 rfl km_X0_becomes kk_X7_193 F2.1 ⟨by decide, rfl⟩ rfl ⟨rfl, by decide⟩ rfl (Nat.le_of_ble_eq_true rfl) (Nat.zero_add _) (Nat.zero_add _) rfl ?_
      refine g_bec (tb := tb) F2 F G (by omega) (by omega) hl13 hC.1.1 hC.1.2.2.1 (fun hp4 F2 fz3 => ?_)
      have O5 := ob_frame O (fz3 0 (by omega)) (fz3 43 (by omega)) (fz3 44 (by omega))
      have F6 := qr_frame F (fun k h1 h2 => fz3 k (by omega))
      have G7 := tt_frame G (fun k hk => fz3 k (by omega))
      refine aw_aload_n (npc := 56) rfl dX7_bought_55 rfl ?_
      refine aw_get (npc := 59) dX7_bought_56 rfl kf_X7_16 O5.1 rfl ?_
      refine aw_get (npc := 62) dX7_bought_59 rfl kf_X7_90 F2.1 rfl ?_
      refine aw_iload (npc := 64) rfl dX7_bought_62 rfl ?_
      refine aw_iconst (npc := 65) (v := 5) (by decide) dX7_bought_64 rfl ?_
      refine aw_iast (npc := 66) (j := i) dX7_bought_65 rfl F2.2.2.2.2.1 (am_ix_nI (by omega)) (by rw [tl_len]; omega) rfl ?_
      have F8 := qr_kind (j := i) (v := 5) F2 (by omega)
      have O9 := ob_out (a := 17) (c := .inl (0, (tl 8 (fun z9 => N (22 + 5 * z9))).set i 5)) (by omega) O5
      have F10 := qr_out (a := 17) (c := .inl (0, (tl 8 (fun z9 => N (22 + 5 * z9))).set i 5)) (by omega) F6
      have G11 := tt_out (k := 17) (c := .inl (0, (tl 8 (fun z9 => N (22 + 5 * z9))).set i 5)) (by omega) G7
      refine aw_aload_n (npc := 67) rfl dX7_bought_66 rfl ?_
      refine aw_get (npc := 70) dX7_bought_67 rfl kf_X7_16 O9.1 rfl ?_
      refine aw_iload_n (npc := 71) rfl dX7_bought_70 rfl ?_
      refine aw_iconst (npc := 72) (v := -1) (by decide) dX7_bought_71 rfl ?_
      refine aw_callV (npc := 75) (N := mX0_runPosts) (b := 13) (mc := 0) (ms := 0) (A := [.int (nI K), .int (-1)]) (S := []) (L0 := [some (.ref 13), some (.int (nI K)), some (.int (-1)), none, none]) dX7_bought_72 rfl km_X0_runPosts kk_X7_163 F8.1 ⟨by decide, rfl⟩ rfl ⟨rfl, by decide⟩ rfl (Nat.le_of_ble_eq_true rfl) (Nat.zero_add _) (Nat.zero_add _) rfl ?_
      have hT21 : TC tb tx lk (upd N (22 + 5 * i) 5) c := (tc_u (by omega) (by omega) hC)
      have hK22 : RK (upd N (22 + 5 * i) 5) fr c := (rk_kind ⟨by decide, by decide⟩ (by omega) hK)
      refine g_run (b := 13) (K := K) (wo := (-1)) F8 G11 hK22.1 hK22.2.1 hK22.2.2.1 hT21.1 (fun f hf => ⟨(hK22.2.2.2.2.1 f hf).1, (hK22.2.2.2.2.1 f hf).2.1⟩) (by omega) (by omega) (fun N912 s913 m914 h915 hr16 F17 G18 fz19 => ?_)
      have er20 := (run_c K _ _ _ _ hT21 hK22 hr16).1
      rw [er20] at F17
      have fy23 : ∀ k, (k < 92 ∧ (k < 13 ∨ 13 + 12 ≤ k)) → h915 k = _ := fun k hk => fz19 k hk.1 hk.2
      have O24 := ob_frame O9 (fy23 0 (by omega)) (fy23 43 (by omega)) (fy23 44 (by omega))
      have F25 := qr_frame F10 (fun k h1 h2 => fy23 k (by omega))
      refine aw_re (S' := [.int s913]) rfl ?_
      refine aw_pop (npc := 76) rfl dX7_bought_75 rfl ?_
      refine aw_aload_n (npc := 77) rfl dX7_bought_76 rfl ?_
      refine aw_get (npc := 80) dX7_bought_77 rfl kf_X7_16 O24.1 rfl ?_
      refine aw_aload_n (npc := 81) rfl dX7_bought_80 rfl ?_
      refine aw_get (npc := 84) dX7_bought_81 rfl kf_X7_16 O24.1 rfl ?_
      refine aw_get (npc := 87) dX7_bought_84 rfl kf_X7_93 F17.1 rfl ?_
      refine aw_iload (npc := 89) rfl dX7_bought_87 rfl ?_
      refine aw_iald (npc := 90) (x := (goF c fr (-1) K (upd N (22 + 5 * i) 5)) (23 + 5 * i)) (j := i) dX7_bought_89 rfl F17.2.2.2.2.2.1 (am_ix_nI (by omega)) (tl_at (by omega)) ?_
      have esd : (goF c fr (-1) K (upd N (22 + 5 * i) 5)) (23 + 5 * i) = N (23 + 5 * i) := (goF_k h8r (by omega) (by omega) (by omega) (by omega) (by omega) (by omega) _ _).trans (pk_un (by omega))
      rcases wi_c0_1 (hK.2.2.2.2.1 i (by omega)).2.1 with eside | eside
      · refine aw_top (y := 0) (esd.trans eside) ?_
        refine aw_callV (npc := 93) (N := mX0_hasOf) (b := 13) (mc := 0) (ms := 0) (A := [.int 0]) (S := []) (L0 := [some (.ref 13), some (.int 0), none, none, none]) dX7_bought_90 rfl km_X0_hasOf kk_X7_166 F17.1 ⟨by decide, rfl⟩ rfl ⟨rfl, by decide⟩ rfl (Nat.le_of_ble_eq_true rfl) (Nat.zero_add _) (Nat.zero_add _) rfl ?_
        refine g_has0 F17 ?_
        refine aw_re (S' := [.int (hs0 (goF c fr (-1) K (upd N (22 + 5 * i) 5)))]) rfl ?_
        refine aw_istore (npc := 95) (L' := [some (.ref 0), some (.int (nI K)), some (.int w), some (.int (nI p.1)), some (.int p.2), some (.int (nI i)), some (.int (hs0 (goF c fr (-1) K (upd N (22 + 5 * i) 5))))]) dX7_bought_93 rfl (by decide) rfl rfl ?_
        refine aw_iload_n (npc := 96) rfl dX7_bought_95 rfl ?_
        refine aw_ldc (npc := 98) kc_X7_200 dX7_bought_96 rfl ?_
        refine aw_icmp_eq (npc := 101) (tgt := 108) dX7_bought_98 rfl (by decide) (fun hc => absurd hc (bt_ne hp8)) (fun _ => ?_)
        refine aw_iload (npc := 103) rfl dX7_bought_101 rfl ?_
        refine aw_iload (npc := 105) rfl dX7_bought_103 rfl ?_
        refine aw_icmp_ge (npc := 108) (tgt := 115) dX7_bought_105 rfl (by decide) (fun hc27 => ?_) (fun hc27 => ?_)
        · refine aw_iinc (npc := 118) (v := nI (i + 1)) (L' := [some (.ref 0), some (.int (nI K)), some (.int w), some (.int (nI p.1)), some (.int p.2), some (.int (nI (i + 1))), some (.int (hs0 (goF c fr (-1) K (upd N (22 + 5 * i) 5))))]) dX7_bought_115 rfl rfl (nI_1 _) (by decide) rfl rfl ?_
          refine aw_goto (npc := 32) dX7_bought_118 (by decide) ?_
          have el : btL c fr K N i = hs0 (goF c fr (-1) K (upd N (22 + 5 * i) 5)) := by unfold btL hsS; rw [eside]; rfl
          have e8 : btS c fr K N i (some p) = some p := by
            exact if_neg (by rw [el]; exact Int32.not_lt.mpr hc27)
          refine ih (i + 1) (by omega) (some p) (e8 ▸ btS_lt (by omega) hp) _ _ O24 F25 ⟨_, _, _, _, F17, hC.1.1⟩ G18 (fun v9 h9 e9 T9 G9 f9 => hq v9 h9 ?_ T9 G9 (am_fpT f9 (am_fpT (fun k (hk : k < 92 ∧ (k < 13 ∨ 25 ≤ k)) => fy23 k (by omega)) (am_fpU (show ¬ (17 < 92 ∧ (17 < 13 ∨ 25 ≤ 17)) by omega) (am_fpT (fun k (hk : k < 92 ∧ (k < 13 ∨ 25 ≤ k)) => fz3 k (by omega)) am_fp0)))))
          rw [e9]; exact congrArg (fun z => cI (w = 0) (bt1 (btM c fr K N m (i + 1) z)) (bt2 (btM c fr K N m (i + 1) z))) e8.symm
        · refine aw_iload (npc := 110) rfl dX7_bought_108 rfl ?_
          refine aw_istore_n (npc := 111) (L' := [some (.ref 0), some (.int (nI K)), some (.int w), some (.int (nI i)), some (.int p.2), some (.int (nI i)), some (.int (hs0 (goF c fr (-1) K (upd N (22 + 5 * i) 5))))]) dX7_bought_110 rfl (by decide) rfl rfl ?_
          refine aw_iload (npc := 113) rfl dX7_bought_111 rfl ?_
          refine aw_istore (npc := 115) (L' := [some (.ref 0), some (.int (nI K)), some (.int w), some (.int (nI i)), some (.int (hs0 (goF c fr (-1) K (upd N (22 + 5 * i) 5)))), some (.int (nI i)), some (.int (hs0 (goF c fr (-1) K (upd N (22 + 5 * i) 5))))]) dX7_bought_113 rfl (by decide) rfl rfl ?_
          refine aw_iinc (npc := 118) (v := nI (i + 1)) (L' := [some (.ref 0), some (.int (nI K)), some (.int w), some (.int (nI i)), some (.int (hs0 (goF c fr (-1) K (upd N (22 + 5 * i) 5)))), some (.int (nI (i + 1))), some (.int (hs0 (goF c fr (-1) K (upd N (22 + 5 * i) 5))))]) dX7_bought_115 rfl rfl (nI_1 _) (by decide) rfl rfl ?_
          refine aw_goto (npc := 32) dX7_bought_118 (by decide) ?_
          have el : btL c fr K N i = hs0 (goF c fr (-1) K (upd N (22 + 5 * i) 5)) := by unfold btL hsS; rw [eside]; rfl
          have e8 : btS c fr K N i (some p) = some (i, btL c fr K N i) := by
            exact if_pos (by rw [el]; exact Int32.not_le.mp hc27)
          refine aw_locs (L' := [some (.ref 0), some (.int (nI K)), some (.int w), some (.int (bt1 (some (i, btL c fr K N i)))), some (.int (bt2 (some (i, btL c fr K N i)))), some (.int (nI (i + 1))), some (.int (hs0 (goF c fr (-1) K (upd N (22 + 5 * i) 5))))]) (by rw [el]; rfl) ?_
          refine ih (i + 1) (by omega) (some (i, btL c fr K N i)) (e8 ▸ btS_lt (by omega) hp) _ _ O24 F25 ⟨_, _, _, _, F17, hC.1.1⟩ G18 (fun v9 h9 e9 T9 G9 f9 => hq v9 h9 ?_ T9 G9 (am_fpT f9 (am_fpT (fun k (hk : k < 92 ∧ (k < 13 ∨ 25 ≤ k)) => fy23 k (by omega)) (am_fpU (show ¬ (17 < 92 ∧ (17 < 13 ∨ 25 ≤ 17)) by omega) (am_fpT (fun k (hk : k < 92 ∧ (k < 13 ∨ 25 ≤ k)) => fz3 k (by omega)) am_fp0)))))
          rw [e9]; exact congrArg (fun z => cI (w = 0) (bt1 (btM c fr K N m (i + 1) z)) (bt2 (btM c fr K N m (i + 1) z))) e8.symm
      · refine aw_top (y := 1) (esd.trans eside) ?_
        refine aw_callV (npc := 93) (N := mX0_hasOf) (b := 13) (mc := 0) (ms := 0) (A := [.int 1]) (S := []) (L0 := [some (.ref 13), some (.int 1), none, none, none]) dX7_bought_90 rfl km_X0_hasOf kk_X7_166 F17.1 ⟨by decide, rfl⟩ rfl ⟨rfl, by decide⟩ rfl (Nat.le_of_ble_eq_true rfl) (Nat.zero_add _) (Nat.zero_add _) rfl ?_
        refine g_has1 F17 ?_
        refine aw_re (S' := [.int (hs1 (goF c fr (-1) K (upd N (22 + 5 * i) 5)))]) rfl ?_
        refine aw_istore (npc := 95) (L' := [some (.ref 0), some (.int (nI K)), some (.int w), some (.int (nI p.1)), some (.int p.2), some (.int (nI i)), some (.int (hs1 (goF c fr (-1) K (upd N (22 + 5 * i) 5))))]) dX7_bought_93 rfl (by decide) rfl rfl ?_
        refine aw_iload_n (npc := 96) rfl dX7_bought_95 rfl ?_
        refine aw_ldc (npc := 98) kc_X7_200 dX7_bought_96 rfl ?_
        refine aw_icmp_eq (npc := 101) (tgt := 108) dX7_bought_98 rfl (by decide) (fun hc => absurd hc (bt_ne hp8)) (fun _ => ?_)
        refine aw_iload (npc := 103) rfl dX7_bought_101 rfl ?_
        refine aw_iload (npc := 105) rfl dX7_bought_103 rfl ?_
        refine aw_icmp_ge (npc := 108) (tgt := 115) dX7_bought_105 rfl (by decide) (fun hc29 => ?_) (fun hc29 => ?_)
        · refine aw_iinc (npc := 118) (v := nI (i + 1)) (L' := [some (.ref 0), some (.int (nI K)), some (.int w), some (.int (nI p.1)), some (.int p.2), some (.int (nI (i + 1))), some (.int (hs1 (goF c fr (-1) K (upd N (22 + 5 * i) 5))))]) dX7_bought_115 rfl rfl (nI_1 _) (by decide) rfl rfl ?_
          refine aw_goto (npc := 32) dX7_bought_118 (by decide) ?_
          have el : btL c fr K N i = hs1 (goF c fr (-1) K (upd N (22 + 5 * i) 5)) := by unfold btL hsS; rw [eside]; rfl
          have e8 : btS c fr K N i (some p) = some p := by
            exact if_neg (by rw [el]; exact Int32.not_lt.mpr hc29)
          refine ih (i + 1) (by omega) (some p) (e8 ▸ btS_lt (by omega) hp) _ _ O24 F25 ⟨_, _, _, _, F17, hC.1.1⟩ G18 (fun v9 h9 e9 T9 G9 f9 => hq v9 h9 ?_ T9 G9 (am_fpT f9 (am_fpT (fun k (hk : k < 92 ∧ (k < 13 ∨ 25 ≤ k)) => fy23 k (by omega)) (am_fpU (show ¬ (17 < 92 ∧ (17 < 13 ∨ 25 ≤ 17)) by omega) (am_fpT (fun k (hk : k < 92 ∧ (k < 13 ∨ 25 ≤ k)) => fz3 k (by omega)) am_fp0)))))
          rw [e9]; exact congrArg (fun z => cI (w = 0) (bt1 (btM c fr K N m (i + 1) z)) (bt2 (btM c fr K N m (i + 1) z))) e8.symm
        · refine aw_iload (npc := 110) rfl dX7_bought_108 rfl ?_
          refine aw_istore_n (npc := 111) (L' := [some (.ref 0), some (.int (nI K)), some (.int w), some (.int (nI i)), some (.int p.2), some (.int (nI i)), some (.int (hs1 (goF c fr (-1) K (upd N (22 + 5 * i) 5))))]) dX7_bought_110 rfl (by decide) rfl rfl ?_
          refine aw_iload (npc := 113) rfl dX7_bought_111 rfl ?_
          refine aw_istore (npc := 115) (L' := [some (.ref 0), some (.int (nI K)), some (.int w), some (.int (nI i)), some (.int (hs1 (goF c fr (-1) K (upd N (22 + 5 * i) 5)))), some (.int (nI i)), some (.int (hs1 (goF c fr (-1) K (upd N (22 + 5 * i) 5))))]) dX7_bought_113 rfl (by decide) rfl rfl ?_
          refine aw_iinc (npc := 118) (v := nI (i + 1)) (L' := [some (.ref 0), some (.int (nI K)), some (.int w), some (.int (nI i)), some (.int (hs1 (goF c fr (-1) K (upd N (22 + 5 * i) 5)))), some (.int (nI (i + 1))), some (.int (hs1 (goF c fr (-1) K (upd N (22 + 5 * i) 5))))]) dX7_bought_115 rfl rfl (nI_1 _) (by decide) rfl rfl ?_
          refine aw_goto (npc := 32) dX7_bought_118 (by decide) ?_
          have el : btL c fr K N i = hs1 (goF c fr (-1) K (upd N (22 + 5 * i) 5)) := by unfold btL hsS; rw [eside]; rfl
          have e8 : btS c fr K N i (some p) = some (i, btL c fr K N i) := by
            exact if_pos (by rw [el]; exact Int32.not_le.mp hc29)
          refine aw_locs (L' := [some (.ref 0), some (.int (nI K)), some (.int w), some (.int (bt1 (some (i, btL c fr K N i)))), some (.int (bt2 (some (i, btL c fr K N i)))), some (.int (nI (i + 1))), some (.int (hs1 (goF c fr (-1) K (upd N (22 + 5 * i) 5))))]) (by rw [el]; rfl) ?_
          refine ih (i + 1) (by omega) (some (i, btL c fr K N i)) (e8 ▸ btS_lt (by omega) hp) _ _ O24 F25 ⟨_, _, _, _, F17, hC.1.1⟩ G18 (fun v9 h9 e9 T9 G9 f9 => hq v9 h9 ?_ T9 G9 (am_fpT f9 (am_fpT (fun k (hk : k < 92 ∧ (k < 13 ∨ 25 ≤ k)) => fy23 k (by omega)) (am_fpU (show ¬ (17 < 92 ∧ (17 < 13 ∨ 25 ≤ 17)) by omega) (am_fpT (fun k (hk : k < 92 ∧ (k < 13 ∨ 25 ≤ k)) => fz3 k (by omega)) am_fp0)))))
          rw [e9]; exact congrArg (fun z => cI (w = 0) (bt1 (btM c fr K N m (i + 1) z)) (bt2 (btM c fr K N m (i + 1) z))) e8.symm
set_option maxHeartbeats 4000000 in
set_option maxRecDepth 100000 in
theorem C_bought {X : List Int32} {d rc rs n : Nat} {Q : am_Q} {h : am_H} {N : Nat → Int32} {tx : List Value} {lk mv : Nat → Int32} {ik wc : Int32} {fr c : Nat} {v : Int32} {w : Int32} {tb : TB} (O : OB ik wc h) (F : QR 1 N tx lk mv h) (T2 : TQ h) (G : TT tb h) (hR : RG N fr c) (hC : TC tb tx lk N c) (hq : ∀ v9 h9, v9 = buV c fr N v w → TQ h9 → TT tb h9 → am_fp (fun k => k < 92 ∧ (k < 13 ∨ 25 ≤ k)) h9 h → Q (some (.int v9)) n h9) : AW X mX7_bought (d + 40) rc rs 0 [some (.ref 0), some (.int v), some (.int w), none, none, none, none] [] n h Q := by
  have h8r := hR.2.1
  have h14r := hR.2.2.2.1
  refine aw_iload_n (npc := 1) rfl dX7_bought_0 rfl ?_
  refine aw_iconst (npc := 2) (v := 1) (by decide) dX7_bought_1 rfl ?_
  refine aw_bipush (npc := 4) (v := 60) (by decide) dX7_bought_2 rfl ?_
  refine aw_callS (npc := 7) (N := mX7_within) (mc := 0) (ms := 0) (A := [.int v, .int 1, .int 60]) (S := []) (L0 := [some (.int v), some (.int 1), some (.int 60)]) dX7_bought_4 rfl km_X7_within kk_X7_74 rfl ⟨rfl, by decide⟩ rfl (Nat.le_of_ble_eq_true rfl) (Nat.zero_add _) (Nat.zero_add _) rfl ?_
  refine c_X7_within (fun hw1 => ?_) (fun hw1 => ?_)
  · obtain ⟨vn, hvn, evn⟩ := wi_nI (H := 60) (by decide) (by decide) hw1
    subst evn
    have fvn : fN (nI vn) = vn := fN_nI (by omega)
    refine aw_re (S' := [.int 1]) rfl ?_
    refine aw_if_eq (npc := 10) (tgt := 19) dX7_bought_7 rfl (by decide) (fun hc => absurd hc (by decide)) (fun _ => ?_)
    refine aw_iload_n (npc := 11) rfl dX7_bought_10 rfl ?_
    refine aw_iconst (npc := 12) (v := 0) (by decide) dX7_bought_11 rfl ?_
    refine aw_iconst (npc := 13) (v := 1) (by decide) dX7_bought_12 rfl ?_
    refine aw_callS (npc := 16) (N := mX7_within) (mc := 0) (ms := 0) (A := [.int w, .int 0, .int 1]) (S := []) (L0 := [some (.int w), some (.int 0), some (.int 1)]) dX7_bought_13 rfl km_X7_within kk_X7_74 rfl ⟨rfl, by decide⟩ rfl (Nat.le_of_ble_eq_true rfl) (Nat.zero_add _) (Nat.zero_add _) rfl ?_
    refine c_X7_within (fun hw2 => ?_) (fun hw2 => ?_)
    · refine aw_re (S' := [.int 1]) rfl ?_
      refine aw_if_ne (npc := 19) (tgt := 22) dX7_bought_16 rfl (by decide) (fun _ => ?_) (fun hc => absurd hc (by decide))
      refine aw_ldc (npc := 24) kc_X7_200 dX7_bought_22 rfl ?_
      refine aw_istore_n (npc := 25) (L' := [some (.ref 0), some (.int (nI vn)), some (.int w), some (.int (-1000000005)), none, none, none]) dX7_bought_24 rfl (by decide) rfl rfl ?_
      refine aw_ldc (npc := 27) kc_X7_200 dX7_bought_25 rfl ?_
      refine aw_istore (npc := 29) (L' := [some (.ref 0), some (.int (nI vn)), some (.int w), some (.int (-1000000005)), some (.int (-1000000005)), none, none]) dX7_bought_27 rfl (by decide) rfl rfl ?_
      refine aw_iconst (npc := 30) (v := 0) (by decide) dX7_bought_29 rfl ?_
      refine aw_istore (npc := 32) (L' := [some (.ref 0), some (.int (nI vn)), some (.int w), some (.int (-1000000005)), some (.int (-1000000005)), some (.int 0), none]) dX7_bought_30 rfl (by decide) rfl rfl ?_
      refine aw_locs (L' := [some (.ref 0), some (.int (nI vn)), some (.int w), some (.int (bt1 none)), some (.int (bt2 none)), some (.int (nI 0)), none]) rfl ?_
      refine C_boughtL (K := vn) (by omega) hC (rg_rk hR) fr 0 (by omega) none (fun q z => by cases z) none _ O F T2 G (fun v9 h9 e9 T9 G9 f9 => hq v9 h9 ?_ T9 G9 f9)
      rw [e9]; simp [buV, cI, hw1, hw2, fvn]
    · refine aw_re (S' := [.int 0]) rfl ?_
      refine aw_if_ne (npc := 19) (tgt := 22) dX7_bought_16 rfl (by decide) (fun hc => absurd (by decide) hc) (fun _ => ?_)
      refine aw_ldc (npc := 21) kc_X7_78 dX7_bought_19 rfl ?_
      refine aw_iret rfl dX7_bought_21 ?_
      exact hq _ _ (by simp [buV, cI, hw1, hw2, fvn]) T2 G am_fp0
  · refine aw_re (S' := [.int 0]) rfl ?_
    refine aw_if_eq (npc := 10) (tgt := 19) dX7_bought_7 rfl (by decide) (fun _ => ?_) (fun hc => absurd (by decide) hc)
    refine aw_ldc (npc := 21) kc_X7_78 dX7_bought_19 rfl ?_
    refine aw_iret rfl dX7_bought_21 ?_
    exact hq _ _ (by simp [buV, cI, hw1]) T2 G am_fp0
noncomputable def rsM (c fr : Nat) (cl : Nat → Int32) (s : Nat) : Nat → Nat → (Nat → Int32) → Int32
  | 0, _, _ => (-1000000005)
  | m + 1, k, N => cI (cl (24 * s + k) = (-1000000005) ∨ cl (24 * s + k) = snum N) (rsM c fr cl s m (k + 1) (goF c fr (-1) 1 N)) (nI k)
noncomputable def rsV (c fr : Nat) (sr sz cl N : Nat → Int32) (s : Int32) : Int32 := cI (wi s 0 3) (cI (sr (fN s) = -1) (-1000000011) (rsM c fr cl (fN s) (fN (sz (fN s))) 0 N)) (-1000000001)
set_option maxHeartbeats 4000000 in
set_option maxRecDepth 100000 in
theorem C_readsL {X : List Int32} {d rc rs n : Nat} {Q : am_Q} {tx : List Value} {lk : Nat → Int32} {ik wc : Int32} {fr c : Nat} {tb : TB} {sr sz cl : Nat → Int32} {s z : Nat} (hs : s < 4) (hz : z ≤ 24) (ez : sz s = nI z) : ∀ (m k : Nat), k + m = z → ∀ (NA mv1 : Nat → Int32) (h : am_H), OB ik wc h → QR 13 NA tx lk mv1 h → RW sr sz cl h → TT tb h → TC tb tx lk NA c → RK NA fr c → (∀ v9 h9, v9 = rsM c fr cl s m k NA → TQ h9 → TT tb h9 → am_fp (fun k => k < 92 ∧ (k < 13 ∨ 25 ≤ k)) h9 h → Q (some (.int v9)) n h9) → AW X mX7_reads (d + 40) rc rs 40 [some (.ref 0), some (.int (nI s)), some (.ref (46 + 2 * s)), some (.int (nI k))] [] n h Q := by
  intro m
  induction m with
  | zero =>
    intro k hk NA mv1 h O F2 Rw G hCA hKA hq
    obtain rfl : k = z := by omega
    refine aw_iload_n (npc := 41) rfl dX7_reads_40 rfl ?_
    refine aw_aload_n (npc := 42) rfl dX7_reads_41 rfl ?_
    refine aw_get (npc := 45) dX7_reads_42 rfl kf_X7_287 (Rw s (by omega)).1 rfl ?_
    refine aw_top (y := nI k) ez ?_
    refine aw_icmp_ge (npc := 48) (tgt := 90) dX7_reads_45 rfl (by decide) (fun _ => ?_) (fun hc => absurd (nI_le (a := k) (b := k) (by omega) (by omega)) hc)
    refine aw_ldc (npc := 92) kc_X7_200 dX7_reads_90 rfl ?_
    refine aw_iret rfl dX7_reads_92 ?_
    exact hq _ _ (by simp [rsM, cI]) ⟨_, _, _, _, F2, hCA.1.1⟩ G am_fp0
  | succ m ih =>
    intro k hk NA mv1 h O F2 Rw G hCA hKA hq
    refine aw_iload_n (npc := 41) rfl dX7_reads_40 rfl ?_
    refine aw_aload_n (npc := 42) rfl dX7_reads_41 rfl ?_
    refine aw_get (npc := 45) dX7_reads_42 rfl kf_X7_287 (Rw s (by omega)).1 rfl ?_
    refine aw_top (y := nI z) ez ?_
    refine aw_icmp_ge (npc := 48) (tgt := 90) dX7_reads_45 rfl (by decide) (fun hc => absurd hc (nI_ge (a := k) (b := z) (by omega) (by omega))) (fun _ => ?_)
    refine aw_aload_n (npc := 49) rfl dX7_reads_48 rfl ?_
    refine aw_iload_n (npc := 50) rfl dX7_reads_49 rfl ?_
    refine aw_callV (npc := 53) (N := mX2_isNumber) (b := 46 + 2 * s) (mc := 0) (ms := 0) (A := [.int (nI k)]) (S := []) (L0 := [some (.ref (46 + 2 * s)), some (.int (nI k))]) dX7_reads_50 rfl km_X2_isNumber kk_X7_215 (Rw s (by omega)).1 ⟨by decide, rfl⟩ rfl ⟨rfl, by decide⟩ rfl (Nat.le_of_ble_eq_true rfl) (Nat.zero_add _) (Nat.zero_add _) rfl ?_
    refine aw_aload_n (npc := 1) rfl dX2_isNumber_0 rfl ?_
    refine aw_iload_n (npc := 2) rfl dX2_isNumber_1 rfl ?_
    refine aw_callV (npc := 5) (N := mX2_isPlace) (b := 46 + 2 * s) (mc := 0) (ms := 0) (A := [.int (nI k)]) (S := []) (L0 := [some (.ref (46 + 2 * s)), some (.int (nI k))]) dX2_isNumber_2 rfl km_X2_isPlace kk_X2_38 (Rw s (by omega)).1 ⟨by decide, rfl⟩ rfl ⟨rfl, by decide⟩ rfl (Nat.le_of_ble_eq_true rfl) (Nat.zero_add _) (Nat.zero_add _) rfl ?_
    refine aw_iload_n (npc := 1) rfl dX2_isPlace_0 rfl ?_
    refine aw_iconst (npc := 2) (v := 0) (by decide) dX2_isPlace_1 rfl ?_
    refine aw_aload_n (npc := 3) rfl dX2_isPlace_2 rfl ?_
    refine aw_get (npc := 6) dX2_isPlace_3 rfl kf_X2_15 (Rw s (by omega)).1 rfl ?_
    refine aw_iconst (npc := 7) (v := 1) (by decide) dX2_isPlace_6 rfl ?_
    refine aw_isub (npc := 8) dX2_isPlace_7 rfl ?_
    refine aw_callSN (npc := 11) (N := mX7_within) (mc := 0) (ms := 0) (A := [.int (nI k), .int 0, .int ((sz s) - 1)]) (S := []) (L0 := [some (.int (nI k)), some (.int 0), some (.int ((sz s) - 1))]) dX2_isPlace_8 rfl km_X7_within kk_X2_34 rfl ⟨rfl, by decide⟩ rfl (Nat.le_of_ble_eq_true rfl) (Nat.zero_add _) (Nat.zero_add _) rfl ?_
    refine c_X7_within (fun _ => ?_) (fun hw9 => absurd (wi_idx' ez (by omega) (show k < z by omega) rfl) hw9)
    refine aw_re (S' := [.int 1]) rfl ?_
    refine aw_zret rfl rfl dX2_isPlace_11 ?_
    refine aw_re (S' := [.int 1]) rfl ?_
    refine aw_if_eq (npc := 8) (tgt := 23) dX2_isNumber_5 rfl (by decide) (fun hc => absurd hc (by decide)) (fun _ => ?_)
    refine aw_aload_n (npc := 9) rfl dX2_isNumber_8 rfl ?_
    refine aw_get (npc := 12) dX2_isNumber_9 rfl kf_X2_18 (Rw s (by omega)).1 rfl ?_
    refine aw_iload_n (npc := 13) rfl dX2_isNumber_12 rfl ?_
    refine aw_iald (npc := 14) (x := cl (24 * s + k)) (j := k) dX2_isNumber_13 rfl (Rw s (by omega)).2 (am_ix_nI (by omega)) (tl_at (by omega)) ?_
    refine aw_ldc (npc := 16) kc_X2_42 dX2_isNumber_14 rfl ?_
    refine aw_icmp_eq (npc := 19) (tgt := 23) dX2_isNumber_16 rfl (by decide) (fun hc2 => ?_) (fun hc2 => ?_)
    · refine aw_iconst (npc := 24) (v := 0) (by decide) dX2_isNumber_23 rfl ?_
      refine aw_zret rfl rfl dX2_isNumber_24 ?_
      refine aw_re (S' := [.int 0]) rfl ?_
      refine aw_if_eq (npc := 56) (tgt := 74) dX7_reads_53 rfl (by decide) (fun _ => ?_) (fun hc => absurd (by decide) hc)
      refine aw_aload_n (npc := 75) rfl dX7_reads_74 rfl ?_
      refine aw_get (npc := 78) dX7_reads_75 rfl kf_X7_16 O.1 rfl ?_
      refine aw_iconst (npc := 79) (v := 1) (by decide) dX7_reads_78 rfl ?_
      refine aw_iconst (npc := 80) (v := -1) (by decide) dX7_reads_79 rfl ?_
      refine aw_callV (npc := 83) (N := mX0_runPosts) (b := 13) (mc := 0) (ms := 0) (A := [.int 1, .int (-1)]) (S := []) (L0 := [some (.ref 13), some (.int 1), some (.int (-1)), none, none]) dX7_reads_80 rfl km_X0_runPosts kk_X7_163 F2.1 ⟨by decide, rfl⟩ rfl ⟨rfl, by decide⟩ rfl (Nat.le_of_ble_eq_true rfl) (Nat.zero_add _) (Nat.zero_add _) rfl ?_
      refine g_run (b := 13) (K := 1) (wo := (-1)) F2 G hKA.1 hKA.2.1 hKA.2.2.1 hCA.1 (fun f hf => ⟨(hKA.2.2.2.2.1 f hf).1, (hKA.2.2.2.2.1 f hf).2.1⟩) (by omega) (by omega) (fun N93 s94 m95 h96 hr7 F8 G9 fz10 => ?_)
      have er11 := (run_c 1 _ _ _ _ hCA hKA hr7).1
      rw [er11] at F8
      have fy12 : ∀ k, (k < 92 ∧ (k < 13 ∨ 13 + 12 ≤ k)) → h96 k = _ := fun k hk => fz10 k hk.1 hk.2
      have O13 := ob_frame O (fy12 0 (by omega)) (fy12 43 (by omega)) (fy12 44 (by omega))
      have Rw14 := rw_frame Rw (fun k h1 h2 => fy12 k (by omega))
      refine aw_re (S' := [.int s94]) rfl ?_
      refine aw_pop (npc := 84) rfl dX7_reads_83 rfl ?_
      refine aw_iinc (npc := 87) (v := nI (k + 1)) (L' := [some (.ref 0), some (.int (nI s)), some (.ref (46 + 2 * s)), some (.int (nI (k + 1)))]) dX7_reads_84 rfl rfl (nI_1 _) (by decide) rfl rfl ?_
      refine aw_goto (npc := 40) dX7_reads_87 (by decide) ?_
      refine ih (k + 1) (by omega) _ _ _ O13 F8 Rw14 G9 (tc_go hKA.2.1 hCA) (rk_go _ _ hKA) (fun v9 h9 e9 T9 G9 f9 => hq v9 h9 ?_ T9 G9 (am_fpT f9 (am_fpT (fun k (hk : k < 92 ∧ (k < 13 ∨ 25 ≤ k)) => fy12 k (by omega)) am_fp0)))
      rw [e9]; simp [rsM, cI, hc2]
    · refine aw_iconst (npc := 20) (v := 1) (by decide) dX2_isNumber_19 rfl ?_
      refine aw_goto (npc := 24) dX2_isNumber_20 (by decide) ?_
      refine aw_zret rfl rfl dX2_isNumber_24 ?_
      refine aw_re (S' := [.int 1]) rfl ?_
      refine aw_if_eq (npc := 56) (tgt := 74) dX7_reads_53 rfl (by decide) (fun hc => absurd hc (by decide)) (fun _ => ?_)
      refine aw_aload_n (npc := 57) rfl dX7_reads_56 rfl ?_
      refine aw_get (npc := 60) dX7_reads_57 rfl kf_X7_218 (Rw s (by omega)).1 rfl ?_
      refine aw_iload_n (npc := 61) rfl dX7_reads_60 rfl ?_
      refine aw_iald (npc := 62) (x := cl (24 * s + k)) (j := k) dX7_reads_61 rfl (Rw s (by omega)).2 (am_ix_nI (by omega)) (tl_at (by omega)) ?_
      refine aw_aload_n (npc := 63) rfl dX7_reads_62 rfl ?_
      refine aw_get (npc := 66) dX7_reads_63 rfl kf_X7_16 O.1 rfl ?_
      refine aw_callV (npc := 69) (N := mX0_standsAsNumber) (b := 13) (mc := 0) (ms := 0) (A := []) (S := [.int (cl (24 * s + k))]) (L0 := [some (.ref 13), none, none]) dX7_reads_66 rfl km_X0_standsAsNumber kk_X7_173 F2.1 ⟨by decide, rfl⟩ rfl ⟨rfl, by decide⟩ rfl (Nat.le_of_ble_eq_true rfl) (Nat.zero_add _) (Nat.zero_add _) rfl ?_
      refine g_snum F2 ?_
      refine aw_re (S' := [.int (snum NA), .int (cl (24 * s + k))]) rfl ?_
      refine aw_icmp_eq (npc := 72) (tgt := 74) dX7_reads_69 rfl (by decide) (fun hc15 => ?_) (fun hc15 => ?_)
      · refine aw_aload_n (npc := 75) rfl dX7_reads_74 rfl ?_
        refine aw_get (npc := 78) dX7_reads_75 rfl kf_X7_16 O.1 rfl ?_
        refine aw_iconst (npc := 79) (v := 1) (by decide) dX7_reads_78 rfl ?_
        refine aw_iconst (npc := 80) (v := -1) (by decide) dX7_reads_79 rfl ?_
        refine aw_callV (npc := 83) (N := mX0_runPosts) (b := 13) (mc := 0) (ms := 0) (A := [.int 1, .int (-1)]) (S := []) (L0 := [some (.ref 13), some (.int 1), some (.int (-1)), none, none]) dX7_reads_80 rfl km_X0_runPosts kk_X7_163 F2.1 ⟨by decide, rfl⟩ rfl ⟨rfl, by decide⟩ rfl (Nat.le_of_ble_eq_true rfl) (Nat.zero_add _) (Nat.zero_add _) rfl ?_
        refine g_run (b := 13) (K := 1) (wo := (-1)) F2 G hKA.1 hKA.2.1 hKA.2.2.1 hCA.1 (fun f hf => ⟨(hKA.2.2.2.2.1 f hf).1, (hKA.2.2.2.2.1 f hf).2.1⟩) (by omega) (by omega) (fun N916 s917 m918 h919 hr20 F21 G22 fz23 => ?_)
        have er24 := (run_c 1 _ _ _ _ hCA hKA hr20).1
        rw [er24] at F21
        have fy25 : ∀ k, (k < 92 ∧ (k < 13 ∨ 13 + 12 ≤ k)) → h919 k = _ := fun k hk => fz23 k hk.1 hk.2
        have O26 := ob_frame O (fy25 0 (by omega)) (fy25 43 (by omega)) (fy25 44 (by omega))
        have Rw27 := rw_frame Rw (fun k h1 h2 => fy25 k (by omega))
        refine aw_re (S' := [.int s917]) rfl ?_
        refine aw_pop (npc := 84) rfl dX7_reads_83 rfl ?_
        refine aw_iinc (npc := 87) (v := nI (k + 1)) (L' := [some (.ref 0), some (.int (nI s)), some (.ref (46 + 2 * s)), some (.int (nI (k + 1)))]) dX7_reads_84 rfl rfl (nI_1 _) (by decide) rfl rfl ?_
        refine aw_goto (npc := 40) dX7_reads_87 (by decide) ?_
        refine ih (k + 1) (by omega) _ _ _ O26 F21 Rw27 G22 (tc_go hKA.2.1 hCA) (rk_go _ _ hKA) (fun v9 h9 e9 T9 G9 f9 => hq v9 h9 ?_ T9 G9 (am_fpT f9 (am_fpT (fun k (hk : k < 92 ∧ (k < 13 ∨ 25 ≤ k)) => fy25 k (by omega)) am_fp0)))
        rw [e9]; simp [rsM, cI, hc2, hc15]
      · refine aw_iload_n (npc := 73) rfl dX7_reads_72 rfl ?_
        refine aw_iret rfl dX7_reads_73 ?_
        exact hq _ _ (by simp [rsM, cI, hc2, hc15]) ⟨_, _, _, _, F2, hCA.1.1⟩ G am_fp0
set_option maxHeartbeats 4000000 in
set_option maxRecDepth 100000 in
theorem C_reads {X : List Int32} {d rc rs n : Nat} {Q : am_Q} {h : am_H} {N : Nat → Int32} {tx : List Value} {lk mv : Nat → Int32} {ik wc : Int32} {fr c : Nat} {s : Int32} {sr sz cl : Nat → Int32} (Rw : RW sr sz cl h) (hI : RI sr sz) {tb : TB} (O : OB ik wc h) (F : QR 1 N tx lk mv h) (T2 : TQ h) (G : TT tb h) (hR : RG N fr c) (hC : TC tb tx lk N c) (hq : ∀ v9 h9, v9 = rsV c fr sr sz cl N s → TQ h9 → TT tb h9 → am_fp (fun k => k < 92 ∧ (k < 13 ∨ 25 ≤ k)) h9 h → Q (some (.int v9)) n h9) : AW X mX7_reads (d + 40) rc rs 0 [some (.ref 0), some (.int s), none, none] [] n h Q := by
  have h8r := hR.2.1
  have h14r := hR.2.2.2.1
  have hK := rg_rk hR
  obtain ⟨N1, tx1, lk1, mv1, F2, hl13⟩ := T2
  refine aw_iload_n (npc := 1) rfl dX7_reads_0 rfl ?_
  refine aw_callS (npc := 4) (N := mX7_isSheet) (mc := 0) (ms := 0) (A := [.int s]) (S := []) (L0 := [some (.int s)]) dX7_reads_1 rfl km_X7_isSheet kk_X7_204 rfl ⟨rfl, by decide⟩ rfl (Nat.le_of_ble_eq_true rfl) (Nat.zero_add _) (Nat.zero_add _) rfl ?_
  refine c_X7_isSheet (fun hw1 => ?_) (fun hw1 => ?_)
  · obtain ⟨sn, hsn, esn⟩ := wi_nI (H := 3) (by decide) (by decide) hw1
    subst esn
    have fsn : fN (nI sn) = sn := fN_nI (by omega)
    obtain ⟨hsr, z9, hz24, ez9⟩ := hI sn (by omega)
    have fz9 : fN (nI z9) = z9 := fN_nI (by omega)
    refine aw_re (S' := [.int 1]) rfl ?_
    refine aw_if_ne (npc := 7) (tgt := 10) dX7_reads_4 rfl (by decide) (fun _ => ?_) (fun hc => absurd hc (by decide))
    refine aw_aload_n (npc := 11) rfl dX7_reads_10 rfl ?_
    refine aw_get (npc := 14) dX7_reads_11 rfl kf_X7_47 O.1 rfl ?_
    refine aw_iload_n (npc := 15) rfl dX7_reads_14 rfl ?_
    refine aw_aald (npc := 16) (j := sn) dX7_reads_15 rfl (by decide) O.2.1 (am_ix_nI (by omega)) (sh_at (by omega)) ?_
    refine aw_astore_n (npc := 17) (L' := [some (.ref 0), some (.int (nI sn)), some (.ref (46 + 2 * sn)), none]) dX7_reads_16 rfl (by decide) rfl rfl ?_
    refine aw_aload_n (npc := 18) rfl dX7_reads_17 rfl ?_
    refine aw_callV (npc := 21) (N := mX2_isMissing) (b := 46 + 2 * sn) (mc := 0) (ms := 0) (A := []) (S := []) (L0 := [some (.ref (46 + 2 * sn))]) dX7_reads_18 rfl km_X2_isMissing kk_X7_207 (Rw sn (by omega)).1 ⟨by decide, rfl⟩ rfl ⟨rfl, by decide⟩ rfl (Nat.le_of_ble_eq_true rfl) (Nat.zero_add _) (Nat.zero_add _) rfl ?_
    refine aw_aload_n (npc := 1) rfl dX2_isMissing_0 rfl ?_
    refine aw_get (npc := 4) dX2_isMissing_1 rfl kf_X2_9 (Rw sn (by omega)).1 rfl ?_
    rcases wi_cm1_1 hsr with esr | esr | esr
    · refine aw_top (y := -1) esr ?_
      refine aw_iconst (npc := 5) (v := -1) (by decide) dX2_isMissing_4 rfl ?_
      refine aw_icmp_ne (npc := 8) (tgt := 12) dX2_isMissing_5 rfl (by decide) (fun hc => absurd (by decide) hc) (fun _ => ?_)
      refine aw_iconst (npc := 9) (v := 1) (by decide) dX2_isMissing_8 rfl ?_
      refine aw_goto (npc := 13) dX2_isMissing_9 (by decide) ?_
      refine aw_zret rfl rfl dX2_isMissing_13 ?_
      refine aw_re (S' := [.int 1]) rfl ?_
      refine aw_if_eq (npc := 24) (tgt := 27) dX7_reads_21 rfl (by decide) (fun hc => absurd hc (by decide)) (fun _ => ?_)
      refine aw_ldc (npc := 26) kc_X7_210 dX7_reads_24 rfl ?_
      refine aw_iret rfl dX7_reads_26 ?_
      exact hq _ _ (by simp [rsV, cI, hw1, fsn, esr]) ⟨_, _, _, _, F2, hl13⟩ G am_fp0
    · refine aw_top (y := 0) esr ?_
      refine aw_iconst (npc := 5) (v := -1) (by decide) dX2_isMissing_4 rfl ?_
      refine aw_icmp_ne (npc := 8) (tgt := 12) dX2_isMissing_5 rfl (by decide) (fun _ => ?_) (fun hc => absurd hc (by decide))
      refine aw_iconst (npc := 13) (v := 0) (by decide) dX2_isMissing_12 rfl ?_
      refine aw_zret rfl rfl dX2_isMissing_13 ?_
      refine aw_re (S' := [.int 0]) rfl ?_
      refine aw_if_eq (npc := 24) (tgt := 27) dX7_reads_21 rfl (by decide) (fun _ => ?_) (fun hc => absurd (by decide) hc)
      refine aw_aload_n (npc := 28) rfl dX7_reads_27 rfl ?_
      refine aw_get (npc := 31) dX7_reads_28 rfl kf_X7_16 O.1 rfl ?_
      refine aw_aload_n (npc := 32) rfl dX7_reads_31 rfl ?_
      refine aw_get (npc := 35) dX7_reads_32 rfl kf_X7_10 O.1 rfl ?_
      refine aw_callV (npc := 38) (N := mX0_becomes) (b := 13) (mc := 0) (ms := 0) (A := [.ref 1]) (S := []) (L0 := [some (.ref 13), some (.ref 1), none]) dX7_reads_35 rfl km_X0_becomes kk_X7_193 F2.1 ⟨by decide, rfl⟩ rfl ⟨rfl, by decide⟩ rfl (Nat.le_of_ble_eq_true rfl) (Nat.zero_add _) (Nat.zero_add _) rfl ?_
      refine g_bec (tb := tb) F2 F G (by omega) (by omega) hl13 hC.1.1 hC.1.2.2.1 (fun hp4 F2 fz3 => ?_)
      have O5 := ob_frame O (fz3 0 (by omega)) (fz3 43 (by omega)) (fz3 44 (by omega))
      have F6 := qr_frame F (fun k h1 h2 => fz3 k (by omega))
      have Rw7 := rw_frame Rw (fun k h1 h2 => fz3 k (by omega))
      have G8 := tt_frame G (fun k hk => fz3 k (by omega))
      refine aw_iconst (npc := 39) (v := 0) (by decide) dX7_reads_38 rfl ?_
      refine aw_istore_n (npc := 40) (L' := [some (.ref 0), some (.int (nI sn)), some (.ref (46 + 2 * sn)), some (.int 0)]) dX7_reads_39 rfl (by decide) rfl rfl ?_
      refine aw_locs (L' := [some (.ref 0), some (.int (nI sn)), some (.ref (46 + 2 * sn)), some (.int (nI 0))]) rfl ?_
      refine C_readsL (by omega) hz24 ez9 z9 0 (by omega) _ _ _ O5 F2 Rw7 G8 hC hK (fun v9 h9 e9 T9 G9 f9 => hq v9 h9 ?_ T9 G9 (am_fpT f9 (am_fpT (fun k (hk : k < 92 ∧ (k < 13 ∨ 25 ≤ k)) => fz3 k (by omega)) am_fp0)))
      rw [e9]; simp [rsV, cI, hw1, fsn, esr, ez9, fz9]
    · refine aw_top (y := 1) esr ?_
      refine aw_iconst (npc := 5) (v := -1) (by decide) dX2_isMissing_4 rfl ?_
      refine aw_icmp_ne (npc := 8) (tgt := 12) dX2_isMissing_5 rfl (by decide) (fun _ => ?_) (fun hc => absurd hc (by decide))
      refine aw_iconst (npc := 13) (v := 0) (by decide) dX2_isMissing_12 rfl ?_
      refine aw_zret rfl rfl dX2_isMissing_13 ?_
      refine aw_re (S' := [.int 0]) rfl ?_
      refine aw_if_eq (npc := 24) (tgt := 27) dX7_reads_21 rfl (by decide) (fun _ => ?_) (fun hc => absurd (by decide) hc)
      refine aw_aload_n (npc := 28) rfl dX7_reads_27 rfl ?_
      refine aw_get (npc := 31) dX7_reads_28 rfl kf_X7_16 O.1 rfl ?_
      refine aw_aload_n (npc := 32) rfl dX7_reads_31 rfl ?_
      refine aw_get (npc := 35) dX7_reads_32 rfl kf_X7_10 O.1 rfl ?_
      refine aw_callV (npc := 38) (N := mX0_becomes) (b := 13) (mc := 0) (ms := 0) (A := [.ref 1]) (S := []) (L0 := [some (.ref 13), some (.ref 1), none]) dX7_reads_35 rfl km_X0_becomes kk_X7_193 F2.1 ⟨by decide, rfl⟩ rfl ⟨rfl, by decide⟩ rfl (Nat.le_of_ble_eq_true rfl) (Nat.zero_add _) (Nat.zero_add _) rfl ?_
      refine g_bec (tb := tb) F2 F G (by omega) (by omega) hl13 hC.1.1 hC.1.2.2.1 (fun hp11 F9 fz10 => ?_)
      have O12 := ob_frame O (fz10 0 (by omega)) (fz10 43 (by omega)) (fz10 44 (by omega))
      have F13 := qr_frame F (fun k h1 h2 => fz10 k (by omega))
      have Rw14 := rw_frame Rw (fun k h1 h2 => fz10 k (by omega))
      have G15 := tt_frame G (fun k hk => fz10 k (by omega))
      refine aw_iconst (npc := 39) (v := 0) (by decide) dX7_reads_38 rfl ?_
      refine aw_istore_n (npc := 40) (L' := [some (.ref 0), some (.int (nI sn)), some (.ref (46 + 2 * sn)), some (.int 0)]) dX7_reads_39 rfl (by decide) rfl rfl ?_
      refine aw_locs (L' := [some (.ref 0), some (.int (nI sn)), some (.ref (46 + 2 * sn)), some (.int (nI 0))]) rfl ?_
      refine C_readsL (by omega) hz24 ez9 z9 0 (by omega) _ _ _ O12 F9 Rw14 G15 hC hK (fun v9 h9 e9 T9 G9 f9 => hq v9 h9 ?_ T9 G9 (am_fpT f9 (am_fpT (fun k (hk : k < 92 ∧ (k < 13 ∨ 25 ≤ k)) => fz10 k (by omega)) am_fp0)))
      rw [e9]; simp [rsV, cI, hw1, fsn, esr, ez9, fz9]
  · refine aw_re (S' := [.int 0]) rfl ?_
    refine aw_if_ne (npc := 7) (tgt := 10) dX7_reads_4 rfl (by decide) (fun hc => absurd (by decide) hc) (fun _ => ?_)
    refine aw_ldc (npc := 9) kc_X7_78 dX7_reads_7 rfl ?_
    refine aw_iret rfl dX7_reads_9 ?_
    exact hq _ _ (by simp [rsV, cI, hw1]) ⟨_, _, _, _, F2, hl13⟩ G am_fp0
noncomputable def ckM (c fr q : Nat) (wt : Nat → Int32) : Nat → Nat → (Nat → Int32) → Int32
  | 0, k, _ => cI (q = 2 * k) 0 (nI (1 + 2 * k))
  | m + 1, k, N => cI (2 * k < q ∧ wt (2 * k) = snum (goF c fr (-1) 1 N)) (cI (2 * k + 1 < q ∧ wt (2 * k + 1) = goF c fr (-1) 1 N 3) (ckM c fr q wt m (k + 1) (goF c fr (-1) 1 N)) (nI (1 + (2 * k + 1)))) (nI (1 + 2 * k))
noncomputable def ckV (c fr q : Nat) (wt NI : Nat → Int32) (ik v : Int32) : Int32 := cI (wi v 1 30) (cI (ik = 0) (-1000000002) (ckM c fr q wt (min (fN v) (9999 - fN (NI 2))) 0 NI)) (-1000000001)
set_option maxHeartbeats 4000000 in
set_option maxRecDepth 100000 in
theorem C_checkL {X : List Int32} {d rc rs n : Nat} {Q : am_Q} {tx : List Value} {lk : Nat → Int32} {ik : Int32} {fr c : Nat} {tb : TB} {wt : Nat → Int32} {K q : Nat} {v1 : Int32} (hK30 : K ≤ 30) (hq60 : q ≤ 60) : ∀ (m k : Nat), k + m = K → ∀ (NA mv1 : Nat → Int32) (v5 : Option Value) (h : am_H), OB ik 0 h → WT wt h → QR 13 NA tx lk mv1 h → TT tb h → TC tb tx lk NA c → RK NA fr c → (∀ v9 h9, v9 = ckM c fr q wt m k NA → OB ik 0 h9 → TQ h9 → TT tb h9 → am_fp (fun k => k ≠ 0 ∧ k < 92 ∧ (k < 13 ∨ 25 ≤ k)) h9 h → Q (some (.int v9)) n h9) → AW X mX7_check (d + 40) rc rs 66 [some (.ref 0), some (.int v1), some (.int (nI q)), some (.int (nI (2 * K))), some (.int (nI (2 * k))), v5] [] n h Q := by
  intro m
  induction m with
  | zero =>
    intro k hk NA mv1 v5 h O Wt F2 G hCA hKA hq
    obtain rfl : k = K := by omega
    refine aw_iload (npc := 68) rfl dX7_check_66 rfl ?_
    refine aw_iload_n (npc := 69) rfl dX7_check_68 rfl ?_
    refine aw_icmp_ge (npc := 72) (tgt := 144) dX7_check_69 rfl (by decide) (fun _ => ?_) (fun hc => absurd (nI_le (a := 2 * k) (b := 2 * k) (by omega) (by omega)) hc)
    refine aw_iload_n (npc := 145) rfl dX7_check_144 rfl ?_
    refine aw_iload_n (npc := 146) rfl dX7_check_145 rfl ?_
    refine aw_icmp_ne (npc := 149) (tgt := 153) dX7_check_146 rfl (by decide) (fun hc2 => ?_) (fun hc2 => ?_)
    · have hc2N : ¬ q = (2 * k) := fun z9q => hc2 ((nI_eq (a := q) (b := (2 * k)) (by omega) (by omega)).mpr z9q)
      refine aw_iconst (npc := 154) (v := 1) (by decide) dX7_check_153 rfl ?_
      refine aw_iload_n (npc := 155) rfl dX7_check_154 rfl ?_
      refine aw_iaddV (npc := 156) (v := nI (1 + (2 * k))) dX7_check_155 rfl (nI_add 1 _) ?_
      refine aw_iret rfl dX7_check_156 ?_
      exact hq _ _ (by simp [ckM, cI, hc2, hc2N]) O ⟨_, _, _, _, F2, hCA.1.1⟩ G am_fp0
    · have hc2N := (nI_eq (a := q) (b := (2 * k)) (by omega) (by omega)).mp hc2
      refine aw_iconst (npc := 150) (v := 0) (by decide) dX7_check_149 rfl ?_
      refine aw_goto (npc := 156) dX7_check_150 (by decide) ?_
      refine aw_iret rfl dX7_check_156 ?_
      exact hq _ _ (by simp [ckM, cI, hc2, hc2N]) O ⟨_, _, _, _, F2, hCA.1.1⟩ G am_fp0
  | succ m ih =>
    intro k hk NA mv1 v5 h O Wt F2 G hCA hKA hq
    refine aw_iload (npc := 68) rfl dX7_check_66 rfl ?_
    refine aw_iload_n (npc := 69) rfl dX7_check_68 rfl ?_
    refine aw_icmp_ge (npc := 72) (tgt := 144) dX7_check_69 rfl (by decide) (fun hc => absurd hc (nI_ge (a := (2 * k)) (b := 2 * K) (by omega) (by omega))) (fun _ => ?_)
    refine aw_iload (npc := 74) rfl dX7_check_72 rfl ?_
    refine aw_iconst (npc := 75) (v := 2) (by decide) dX7_check_74 rfl ?_
    refine aw_iremV (npc := 76) (v := 0) (by decide) dX7_check_75 rfl ((pk_rem (a := (2 * k)) (d := 2) (by omega) (by omega) (by omega)).trans (congrArg nI (show (2 * k) % 2 = 0 by omega))) ?_
    refine aw_if_ne (npc := 79) (tgt := 89) dX7_check_76 rfl (by decide) (fun hc => absurd (by decide) hc) (fun _ => ?_)
    refine aw_aload_n (npc := 80) rfl dX7_check_79 rfl ?_
    refine aw_get (npc := 83) dX7_check_80 rfl kf_X7_16 O.1 rfl ?_
    refine aw_iconst (npc := 84) (v := 1) (by decide) dX7_check_83 rfl ?_
    refine aw_iconst (npc := 85) (v := -1) (by decide) dX7_check_84 rfl ?_
    refine aw_callV (npc := 88) (N := mX0_runPosts) (b := 13) (mc := 0) (ms := 0) (A := [.int 1, .int (-1)]) (S := []) (L0 := [some (.ref 13), some (.int 1), some (.int (-1)), none, none]) dX7_check_85 rfl km_X0_runPosts kk_X7_163 F2.1 ⟨by decide, rfl⟩ rfl ⟨rfl, by decide⟩ rfl (Nat.le_of_ble_eq_true rfl) (Nat.zero_add _) (Nat.zero_add _) rfl ?_
    refine g_run (b := 13) (K := 1) (wo := (-1)) F2 G hKA.1 hKA.2.1 hKA.2.2.1 hCA.1 (fun f hf => ⟨(hKA.2.2.2.2.1 f hf).1, (hKA.2.2.2.2.1 f hf).2.1⟩) (by omega) (by omega) (fun N92 s93 m94 h95 hr6 F7 G8 fz9 => ?_)
    have er10 := (run_c 1 _ _ _ _ hCA hKA hr6).1
    rw [er10] at F7
    have fy11 : ∀ k, (k < 92 ∧ (k < 13 ∨ 13 + 12 ≤ k)) → h95 k = _ := fun k hk => fz9 k hk.1 hk.2
    have O12 := ob_frame O (fy11 0 (by omega)) (fy11 43 (by omega)) (fy11 44 (by omega))
    have Wt13 : WT wt _ := (fy11 45 (by omega)).trans Wt
    refine aw_re (S' := [.int s93]) rfl ?_
    refine aw_pop (npc := 89) rfl dX7_check_88 rfl ?_
    refine aw_iload (npc := 91) rfl dX7_check_89 rfl ?_
    refine aw_iconst (npc := 92) (v := 2) (by decide) dX7_check_91 rfl ?_
    refine aw_iremV (npc := 93) (v := 0) (by decide) dX7_check_92 rfl ((pk_rem (a := (2 * k)) (d := 2) (by omega) (by omega) (by omega)).trans (congrArg nI (show (2 * k) % 2 = 0 by omega))) ?_
    refine aw_if_ne (npc := 96) (tgt := 106) dX7_check_93 rfl (by decide) (fun hc => absurd (by decide) hc) (fun _ => ?_)
    refine aw_aload_n (npc := 97) rfl dX7_check_96 rfl ?_
    refine aw_get (npc := 100) dX7_check_97 rfl kf_X7_16 O12.1 rfl ?_
    refine aw_callV (npc := 103) (N := mX0_standsAsNumber) (b := 13) (mc := 0) (ms := 0) (A := []) (S := []) (L0 := [some (.ref 13), none, none]) dX7_check_100 rfl km_X0_standsAsNumber kk_X7_173 F7.1 ⟨by decide, rfl⟩ rfl ⟨rfl, by decide⟩ rfl (Nat.le_of_ble_eq_true rfl) (Nat.zero_add _) (Nat.zero_add _) rfl ?_
    refine g_snum F7 ?_
    refine aw_re (S' := [.int (snum (goF c fr (-1) 1 NA))]) rfl ?_
    refine aw_goto (npc := 113) dX7_check_103 (by decide) ?_
    refine aw_istore (npc := 115) (L' := [some (.ref 0), some (.int v1), some (.int (nI q)), some (.int (nI (2 * K))), some (.int (nI (2 * k))), some (.int (snum (goF c fr (-1) 1 NA)))]) dX7_check_113 rfl (by decide) rfl rfl ?_
    refine aw_iload (npc := 117) rfl dX7_check_115 rfl ?_
    refine aw_iload_n (npc := 118) rfl dX7_check_117 rfl ?_
    refine aw_icmp_ge (npc := 121) (tgt := 133) dX7_check_118 rfl (by decide) (fun hc14 => ?_) (fun hc14 => ?_)
    · have hc14N := (nI_leI (a := q) (b := (2 * k)) (by omega) (by omega)).mp hc14
      refine aw_iconst (npc := 134) (v := 1) (by decide) dX7_check_133 rfl ?_
      refine aw_iload (npc := 136) rfl dX7_check_134 rfl ?_
      refine aw_iaddV (npc := 137) (v := nI (1 + (2 * k))) dX7_check_136 rfl (nI_add 1 _) ?_
      refine aw_iret rfl dX7_check_137 ?_
      exact hq _ _ (by simp [ckM, cI, hc14, hc14N, Nat.not_lt.mpr hc14N]) O12 ⟨_, _, _, _, F7, hCA.1.1⟩ G8 (am_fpT (fun k (hk : k ≠ 0 ∧ k < 92 ∧ (k < 13 ∨ 25 ≤ k)) => fy11 k (by omega)) am_fp0)
    · have hc14N : ¬ q ≤ (2 * k) := fun z9q => hc14 ((nI_leI (a := q) (b := (2 * k)) (by omega) (by omega)).mpr z9q)
      refine aw_aload_n (npc := 122) rfl dX7_check_121 rfl ?_
      refine aw_get (npc := 125) dX7_check_122 rfl kf_X7_57 O12.1 rfl ?_
      refine aw_iload (npc := 127) rfl dX7_check_125 rfl ?_
      refine aw_iald (npc := 128) (x := wt (2 * k)) (j := (2 * k)) dX7_check_127 rfl Wt13 (am_ix_nI (by omega)) (tl_at (by omega)) ?_
      refine aw_iload (npc := 130) rfl dX7_check_128 rfl ?_
      refine aw_icmp_eq (npc := 133) (tgt := 138) dX7_check_130 rfl (by decide) (fun hc15 => ?_) (fun hc15 => ?_)
      · refine aw_iinc (npc := 141) (v := nI ((2 * k) + 1)) (L' := [some (.ref 0), some (.int v1), some (.int (nI q)), some (.int (nI (2 * K))), some (.int (nI ((2 * k) + 1))), some (.int (snum (goF c fr (-1) 1 NA)))]) dX7_check_138 rfl rfl (nI_1 _) (by decide) rfl rfl ?_
        refine aw_goto (npc := 66) dX7_check_141 (by decide) ?_
        refine aw_iload (npc := 68) rfl dX7_check_66 rfl ?_
        refine aw_iload_n (npc := 69) rfl dX7_check_68 rfl ?_
        refine aw_icmp_ge (npc := 72) (tgt := 144) dX7_check_69 rfl (by decide) (fun hc => absurd hc (nI_ge (a := ((2 * k) + 1)) (b := 2 * K) (by omega) (by omega))) (fun _ => ?_)
        refine aw_iload (npc := 74) rfl dX7_check_72 rfl ?_
        refine aw_iconst (npc := 75) (v := 2) (by decide) dX7_check_74 rfl ?_
        refine aw_iremV (npc := 76) (v := 1) (by decide) dX7_check_75 rfl ((pk_rem (a := ((2 * k) + 1)) (d := 2) (by omega) (by omega) (by omega)).trans (congrArg nI (show ((2 * k) + 1) % 2 = 1 by omega))) ?_
        refine aw_if_ne (npc := 79) (tgt := 89) dX7_check_76 rfl (by decide) (fun _ => ?_) (fun hc => absurd hc (by decide))
        refine aw_iload (npc := 91) rfl dX7_check_89 rfl ?_
        refine aw_iconst (npc := 92) (v := 2) (by decide) dX7_check_91 rfl ?_
        refine aw_iremV (npc := 93) (v := 1) (by decide) dX7_check_92 rfl ((pk_rem (a := ((2 * k) + 1)) (d := 2) (by omega) (by omega) (by omega)).trans (congrArg nI (show ((2 * k) + 1) % 2 = 1 by omega))) ?_
        refine aw_if_ne (npc := 96) (tgt := 106) dX7_check_93 rfl (by decide) (fun _ => ?_) (fun hc => absurd hc (by decide))
        refine aw_aload_n (npc := 107) rfl dX7_check_106 rfl ?_
        refine aw_get (npc := 110) dX7_check_107 rfl kf_X7_16 O12.1 rfl ?_
        refine aw_get (npc := 113) dX7_check_110 rfl kf_X7_139 F7.1 rfl ?_
        refine aw_istore (npc := 115) (L' := [some (.ref 0), some (.int v1), some (.int (nI q)), some (.int (nI (2 * K))), some (.int (nI ((2 * k) + 1))), some (.int ((goF c fr (-1) 1 NA) 3))]) dX7_check_113 rfl (by decide) rfl rfl ?_
        refine aw_iload (npc := 117) rfl dX7_check_115 rfl ?_
        refine aw_iload_n (npc := 118) rfl dX7_check_117 rfl ?_
        refine aw_icmp_ge (npc := 121) (tgt := 133) dX7_check_118 rfl (by decide) (fun hc17 => ?_) (fun hc17 => ?_)
        · have hc17N := (nI_leI (a := q) (b := ((2 * k) + 1)) (by omega) (by omega)).mp hc17
          refine aw_iconst (npc := 134) (v := 1) (by decide) dX7_check_133 rfl ?_
          refine aw_iload (npc := 136) rfl dX7_check_134 rfl ?_
          refine aw_iaddV (npc := 137) (v := nI (1 + ((2 * k) + 1))) dX7_check_136 rfl (nI_add 1 _) ?_
          refine aw_iret rfl dX7_check_137 ?_
          exact hq _ _ (by simp [ckM, cI, hc14, hc14N, hc15, hc17, hc17N, Nat.lt_of_not_le hc14N, Nat.not_lt.mpr hc17N]) O12 ⟨_, _, _, _, F7, hCA.1.1⟩ G8 (am_fpT (fun k (hk : k ≠ 0 ∧ k < 92 ∧ (k < 13 ∨ 25 ≤ k)) => fy11 k (by omega)) am_fp0)
        · have hc17N : ¬ q ≤ ((2 * k) + 1) := fun z9q => hc17 ((nI_leI (a := q) (b := ((2 * k) + 1)) (by omega) (by omega)).mpr z9q)
          refine aw_aload_n (npc := 122) rfl dX7_check_121 rfl ?_
          refine aw_get (npc := 125) dX7_check_122 rfl kf_X7_57 O12.1 rfl ?_
          refine aw_iload (npc := 127) rfl dX7_check_125 rfl ?_
          refine aw_iald (npc := 128) (x := wt ((2 * k) + 1)) (j := ((2 * k) + 1)) dX7_check_127 rfl Wt13 (am_ix_nI (by omega)) (tl_at (by omega)) ?_
          refine aw_iload (npc := 130) rfl dX7_check_128 rfl ?_
          refine aw_icmp_eq (npc := 133) (tgt := 138) dX7_check_130 rfl (by decide) (fun hc18 => ?_) (fun hc18 => ?_)
          · refine aw_iinc (npc := 141) (v := nI (((2 * k) + 1) + 1)) (L' := [some (.ref 0), some (.int v1), some (.int (nI q)), some (.int (nI (2 * K))), some (.int (nI (((2 * k) + 1) + 1))), some (.int ((goF c fr (-1) 1 NA) 3))]) dX7_check_138 rfl rfl (nI_1 _) (by decide) rfl rfl ?_
            refine aw_goto (npc := 66) dX7_check_141 (by decide) ?_
            refine aw_locs (L' := [some (.ref 0), some (.int v1), some (.int (nI q)), some (.int (nI (2 * K))), some (.int (nI (2 * (k + 1)))), some (.int ((goF c fr (-1) 1 NA) 3))]) rfl ?_
            refine ih (k + 1) (by omega) _ _ _ _ O12 Wt13 F7 G8 (tc_go hKA.2.1 hCA) (rk_go _ _ hKA) (fun v9 h9 e9 O9 T9 G9 f9 => hq v9 h9 ?_ O9 T9 G9 (am_fpT f9 (am_fpT (fun k (hk : k ≠ 0 ∧ k < 92 ∧ (k < 13 ∨ 25 ≤ k)) => fy11 k (by omega)) am_fp0)))
            rw [e9]; simp [ckM, cI, hc14, hc14N, hc15, hc17, hc17N, hc18, Nat.lt_of_not_le hc14N, Nat.lt_of_not_le hc17N]
          · refine aw_iconst (npc := 134) (v := 1) (by decide) dX7_check_133 rfl ?_
            refine aw_iload (npc := 136) rfl dX7_check_134 rfl ?_
            refine aw_iaddV (npc := 137) (v := nI (1 + ((2 * k) + 1))) dX7_check_136 rfl (nI_add 1 _) ?_
            refine aw_iret rfl dX7_check_137 ?_
            exact hq _ _ (by simp [ckM, cI, hc14, hc14N, hc15, hc17, hc17N, hc18, Nat.lt_of_not_le hc14N, Nat.lt_of_not_le hc17N]) O12 ⟨_, _, _, _, F7, hCA.1.1⟩ G8 (am_fpT (fun k (hk : k ≠ 0 ∧ k < 92 ∧ (k < 13 ∨ 25 ≤ k)) => fy11 k (by omega)) am_fp0)
      · refine aw_iconst (npc := 134) (v := 1) (by decide) dX7_check_133 rfl ?_
        refine aw_iload (npc := 136) rfl dX7_check_134 rfl ?_
        refine aw_iaddV (npc := 137) (v := nI (1 + (2 * k))) dX7_check_136 rfl (nI_add 1 _) ?_
        refine aw_iret rfl dX7_check_137 ?_
        exact hq _ _ (by simp [ckM, cI, hc14, hc14N, hc15, Nat.lt_of_not_le hc14N]) O12 ⟨_, _, _, _, F7, hCA.1.1⟩ G8 (am_fpT (fun k (hk : k ≠ 0 ∧ k < 92 ∧ (k < 13 ∨ 25 ≤ k)) => fy11 k (by omega)) am_fp0)
set_option maxHeartbeats 4000000 in
set_option maxRecDepth 100000 in
theorem C_check {X : List Int32} {d rc rs n : Nat} {Q : am_Q} {h : am_H} {ik : Int32} {v : Int32} {wt : Nat → Int32} {q : Nat} {NI : Nat → Int32} {txI : List Value} {lkI mvI : Nat → Int32} {tb : TB} {frI cI9 : Nat} (O : OB ik (nI q) h) (Wt : WT wt h) (FI : QR 25 NI txI lkI mvI h) (T2 : TQ h) (G : TT tb h) (hq60 : q ≤ 60) (hIm : ¬ ik = 0 → RG NI frI cI9 ∧ TC tb txI lkI NI cI9) (hq : ∀ v9 h9, v9 = ckV cI9 frI q wt NI ik v → OB ik 0 h9 → TQ h9 → TT tb h9 → am_fp (fun k => k ≠ 0 ∧ k < 92 ∧ (k < 13 ∨ 25 ≤ k)) h9 h → Q (some (.int v9)) n h9) : AW X mX7_check (d + 40) rc rs 0 [some (.ref 0), some (.int v), none, none, none, none] [] n h Q := by
  obtain ⟨N1, tx1, lk1, mv1, F2, hl13⟩ := T2
  refine aw_aload_n (npc := 1) rfl dX7_check_0 rfl ?_
  refine aw_get (npc := 4) dX7_check_1 rfl kf_X7_61 O.1 rfl ?_
  refine aw_istore_n (npc := 5) (L' := [some (.ref 0), some (.int v), some (.int (nI q)), none, none, none]) dX7_check_4 rfl (by decide) rfl rfl ?_
  refine aw_aload_n (npc := 6) rfl dX7_check_5 rfl ?_
  refine aw_iconst (npc := 7) (v := 0) (by decide) dX7_check_6 rfl ?_
  refine aw_put (npc := 10) dX7_check_7 rfl kf_X7_61 O.1 (Nat.le_of_ble_eq_true rfl) (am_ok_int _) rfl ?_
  have O1 := ob_p10 (v := 0) O
  have Wt2 := wt_out (a := 0) (c := .inr (7, ([.ref 1, .ref 13, .ref 25, .int ik, .ref 37, .ref 39, .ref 40, .ref 43, .ref 44, .ref 45, .int (nI q)] : List Value).set 10 (.int 0))) (by omega) Wt
  have F3 := qr_out (a := 0) (c := .inr (7, ([.ref 1, .ref 13, .ref 25, .int ik, .ref 37, .ref 39, .ref 40, .ref 43, .ref 44, .ref 45, .int (nI q)] : List Value).set 10 (.int 0))) (by omega) F2
  have F4 := qr_out (a := 0) (c := .inr (7, ([.ref 1, .ref 13, .ref 25, .int ik, .ref 37, .ref 39, .ref 40, .ref 43, .ref 44, .ref 45, .int (nI q)] : List Value).set 10 (.int 0))) (by omega) FI
  have G5 := tt_out (k := 0) (c := .inr (7, ([.ref 1, .ref 13, .ref 25, .int ik, .ref 37, .ref 39, .ref 40, .ref 43, .ref 44, .ref 45, .int (nI q)] : List Value).set 10 (.int 0))) (by omega) G
  refine aw_iload_n (npc := 11) rfl dX7_check_10 rfl ?_
  refine aw_iconst (npc := 12) (v := 1) (by decide) dX7_check_11 rfl ?_
  refine aw_bipush (npc := 14) (v := 30) (by decide) dX7_check_12 rfl ?_
  refine aw_callS (npc := 17) (N := mX7_within) (mc := 0) (ms := 0) (A := [.int v, .int 1, .int 30]) (S := []) (L0 := [some (.int v), some (.int 1), some (.int 30)]) dX7_check_14 rfl km_X7_within kk_X7_74 rfl ⟨rfl, by decide⟩ rfl (Nat.le_of_ble_eq_true rfl) (Nat.zero_add _) (Nat.zero_add _) rfl ?_
  refine c_X7_within (fun hw6 => ?_) (fun hw6 => ?_)
  · obtain ⟨vn, hvn, evn⟩ := wi_nI (H := 30) (by decide) (by decide) hw6
    subst evn
    have fvn : fN (nI vn) = vn := fN_nI (by omega)
    refine aw_re (S' := [.int 1]) rfl ?_
    refine aw_if_ne (npc := 20) (tgt := 23) dX7_check_17 rfl (by decide) (fun _ => ?_) (fun hc => absurd hc (by decide))
    refine aw_aload_n (npc := 24) rfl dX7_check_23 rfl ?_
    refine aw_get (npc := 27) dX7_check_24 rfl kf_X7_22 O1.1 rfl ?_
    refine aw_if_ne (npc := 30) (tgt := 34) dX7_check_27 rfl (by decide) (fun hc7 => ?_) (fun hc7 => ?_)
    · obtain ⟨hRI, hCI⟩ := hIm hc7
      have hKI := rg_rk hRI
      obtain ⟨pp, hpp, epp⟩ := wi_nI (H := 9999) (by decide) (by decide) hRI.2.2.2.2.2.2.2.2.1
      have fpp : fN (nI pp) = pp := fN_nI (by omega)
      refine aw_aload_n (npc := 35) rfl dX7_check_34 rfl ?_
      refine aw_get (npc := 38) dX7_check_35 rfl kf_X7_16 O1.1 rfl ?_
      refine aw_aload_n (npc := 39) rfl dX7_check_38 rfl ?_
      refine aw_get (npc := 42) dX7_check_39 rfl kf_X7_19 O1.1 rfl ?_
      refine aw_callV (npc := 45) (N := mX0_becomes) (b := 13) (mc := 0) (ms := 0) (A := [.ref 25]) (S := []) (L0 := [some (.ref 13), some (.ref 25), none]) dX7_check_42 rfl km_X0_becomes kk_X7_193 F3.1 ⟨by decide, rfl⟩ rfl ⟨rfl, by decide⟩ rfl (Nat.le_of_ble_eq_true rfl) (Nat.zero_add _) (Nat.zero_add _) rfl ?_
      refine g_bec (tb := tb) F3 F4 G5 (by omega) (by omega) hl13 hCI.1.1 hCI.1.2.2.1 (fun hp10 F8 fz9 => ?_)
      have O11 := ob_frame O1 (fz9 0 (by omega)) (fz9 43 (by omega)) (fz9 44 (by omega))
      have Wt12 : WT wt _ := (fz9 45 (by omega)).trans Wt2
      have F13 := qr_frame F4 (fun k h1 h2 => fz9 k (by omega))
      have G14 := tt_frame G5 (fun k hk => fz9 k (by omega))
      refine aw_iconst (npc := 46) (v := 2) (by decide) dX7_check_45 rfl ?_
      refine aw_iload_n (npc := 47) rfl dX7_check_46 rfl ?_
      refine aw_sipush (npc := 50) (v := 9999) (by decide) dX7_check_47 rfl ?_
      refine aw_aload_n (npc := 51) rfl dX7_check_50 rfl ?_
      refine aw_get (npc := 54) dX7_check_51 rfl kf_X7_19 O11.1 rfl ?_
      refine aw_get (npc := 57) dX7_check_54 rfl kf_X7_160 F13.1 rfl ?_
      refine aw_top (y := nI pp) (epp) ?_
      refine aw_isubV (npc := 58) (v := nI (9999 - pp)) dX7_check_57 rfl (pk_sub (a := 9999) (by omega)) ?_
      refine aw_mmin (npc := 61) dX7_check_58 rfl kmm_X7_148 kmx_min (Nat.le_of_ble_eq_true rfl) ?_
      refine aw_top (y := nI (min vn (9999 - pp))) (min_nI (by omega) (by omega)) ?_
      refine aw_imulV (npc := 62) (v := nI (2 * (min vn (9999 - pp)))) dX7_check_61 rfl (pk_mul 2 _) ?_
      refine aw_istore_n (npc := 63) (L' := [some (.ref 0), some (.int (nI vn)), some (.int (nI q)), some (.int (nI (2 * (min vn (9999 - pp))))), none, none]) dX7_check_62 rfl (by decide) rfl rfl ?_
      refine aw_iconst (npc := 64) (v := 0) (by decide) dX7_check_63 rfl ?_
      refine aw_istore (npc := 66) (L' := [some (.ref 0), some (.int (nI vn)), some (.int (nI q)), some (.int (nI (2 * (min vn (9999 - pp))))), some (.int 0), none]) dX7_check_64 rfl (by decide) rfl rfl ?_
      refine aw_locs (L' := [some (.ref 0), some (.int (nI vn)), some (.int (nI q)), some (.int (nI (2 * min vn (9999 - pp)))), some (.int (nI (2 * 0))), none]) rfl ?_
      refine C_checkL (K := min vn (9999 - pp)) (by omega) hq60 _ 0 (Nat.zero_add _) _ _ none _ O11 Wt12 F8 G14 hCI hKI (fun v9 h9 e9 O9 T9 G9 f9 => hq v9 h9 ?_ O9 T9 G9 (am_fpT f9 (am_fpT (fun k (hk : k ≠ 0 ∧ k < 92 ∧ (k < 13 ∨ 25 ≤ k)) => fz9 k (by omega)) (am_fpU (show ¬ (0 ≠ 0 ∧ 0 < 92 ∧ (0 < 13 ∨ 25 ≤ 0)) by omega) am_fp0))))
      rw [e9]; simp [ckV, cI, hw6, hc7, fvn, epp, fpp]
    · refine aw_ldcw (npc := 33) kc_X7_321 dX7_check_30 rfl ?_
      refine aw_iret rfl dX7_check_33 ?_
      exact hq _ _ (by simp [ckV, cI, hw6, hc7, fvn]) O1 ⟨_, _, _, _, F3, hl13⟩ G5 (am_fpU (show ¬ (0 ≠ 0 ∧ 0 < 92 ∧ (0 < 13 ∨ 25 ≤ 0)) by omega) am_fp0)
  · refine aw_re (S' := [.int 0]) rfl ?_
    refine aw_if_ne (npc := 20) (tgt := 23) dX7_check_17 rfl (by decide) (fun hc => absurd (by decide) hc) (fun _ => ?_)
    refine aw_ldc (npc := 22) kc_X7_78 dX7_check_20 rfl ?_
    refine aw_iret rfl dX7_check_22 ?_
    exact hq _ _ (by simp [ckV, cI, hw6]) O1 ⟨_, _, _, _, F3, hl13⟩ G5 (am_fpU (show ¬ (0 ≠ 0 ∧ 0 < 92 ∧ (0 < 13 ∨ 25 ≤ 0)) by omega) am_fp0)
set_option maxHeartbeats 4000000 in
set_option maxRecDepth 100000 in
theorem c_diffL {X : List Int32} {d rc rs n : Nat} {Q : am_Q} {h : am_H} {ik wc : Int32} {NA lkA mvA sr sz cl : Nat → Int32} {txA : List Value} {s : Nat} (hs : s < 4) (O : OB ik wc h) (F2 : QR 13 NA txA lkA mvA h) (Rw : RW sr sz cl h) (hq : ∀ v, Q (some (.int v)) n h) : ∀ (m t : Nat), t + m = 4 → ∀ (sm : Int32), AW X mX7_differenceFrom (d + 12) rc rs 4 [some (.ref 0), some (.ref (46 + 2 * s)), some (.int sm), some (.int (nI t))] [] n h Q := by
  intro m
  induction m with
  | zero =>
    intro t ht sm
    obtain rfl : t = 4 := by omega
    refine aw_iload_n (npc := 5) rfl dX7_differenceFrom_4 rfl ?_
    refine aw_iconst (npc := 6) (v := 4) (by decide) dX7_differenceFrom_5 rfl ?_
    refine aw_icmp_ge (npc := 9) (tgt := 45) dX7_differenceFrom_6 rfl (by decide) (fun _ => ?_) (fun hc => absurd (nI_le (a := 4) (b := 4) (by omega) (by omega)) hc)
    refine aw_iload_n (npc := 46) rfl dX7_differenceFrom_45 rfl ?_
    refine aw_iret rfl dX7_differenceFrom_46 ?_
    exact hq _
  | succ m ih =>
    intro t ht sm
    refine aw_iload_n (npc := 5) rfl dX7_differenceFrom_4 rfl ?_
    refine aw_iconst (npc := 6) (v := 4) (by decide) dX7_differenceFrom_5 rfl ?_
    refine aw_icmp_ge (npc := 9) (tgt := 45) dX7_differenceFrom_6 rfl (by decide) (fun hc => absurd hc (nI_ge (a := t) (b := 4) (by omega) (by omega))) (fun _ => ?_)
    refine aw_aload_n (npc := 10) rfl dX7_differenceFrom_9 rfl ?_
    refine aw_iload_n (npc := 11) rfl dX7_differenceFrom_10 rfl ?_
    refine aw_callV (npc := 14) (N := mX2_isNumber) (b := 46 + 2 * s) (mc := 0) (ms := 0) (A := [.int (nI t)]) (S := []) (L0 := [some (.ref (46 + 2 * s)), some (.int (nI t))]) dX7_differenceFrom_11 rfl km_X2_isNumber kk_X7_215 (Rw s (by omega)).1 ⟨by decide, rfl⟩ rfl ⟨rfl, by decide⟩ rfl (Nat.le_of_ble_eq_true rfl) (Nat.zero_add _) (Nat.zero_add _) rfl ?_
    refine aw_aload_n (npc := 1) rfl dX2_isNumber_0 rfl ?_
    refine aw_iload_n (npc := 2) rfl dX2_isNumber_1 rfl ?_
    refine aw_callV (npc := 5) (N := mX2_isPlace) (b := 46 + 2 * s) (mc := 0) (ms := 0) (A := [.int (nI t)]) (S := []) (L0 := [some (.ref (46 + 2 * s)), some (.int (nI t))]) dX2_isNumber_2 rfl km_X2_isPlace kk_X2_38 (Rw s (by omega)).1 ⟨by decide, rfl⟩ rfl ⟨rfl, by decide⟩ rfl (Nat.le_of_ble_eq_true rfl) (Nat.zero_add _) (Nat.zero_add _) rfl ?_
    refine aw_iload_n (npc := 1) rfl dX2_isPlace_0 rfl ?_
    refine aw_iconst (npc := 2) (v := 0) (by decide) dX2_isPlace_1 rfl ?_
    refine aw_aload_n (npc := 3) rfl dX2_isPlace_2 rfl ?_
    refine aw_get (npc := 6) dX2_isPlace_3 rfl kf_X2_15 (Rw s (by omega)).1 rfl ?_
    refine aw_iconst (npc := 7) (v := 1) (by decide) dX2_isPlace_6 rfl ?_
    refine aw_isub (npc := 8) dX2_isPlace_7 rfl ?_
    refine aw_callSN (npc := 11) (N := mX7_within) (mc := 0) (ms := 0) (A := [.int (nI t), .int 0, .int ((sz s) - 1)]) (S := []) (L0 := [some (.int (nI t)), some (.int 0), some (.int ((sz s) - 1))]) dX2_isPlace_8 rfl km_X7_within kk_X2_34 rfl ⟨rfl, by decide⟩ rfl (Nat.le_of_ble_eq_true rfl) (Nat.zero_add _) (Nat.zero_add _) rfl ?_
    refine c_X7_within (fun hw9 => ?_) (fun hw9 => ?_)
    · refine aw_re (S' := [.int 1]) rfl ?_
      refine aw_zret rfl rfl dX2_isPlace_11 ?_
      refine aw_re (S' := [.int 1]) rfl ?_
      refine aw_if_eq (npc := 8) (tgt := 23) dX2_isNumber_5 rfl (by decide) (fun hc => absurd hc (by decide)) (fun _ => ?_)
      refine aw_aload_n (npc := 9) rfl dX2_isNumber_8 rfl ?_
      refine aw_get (npc := 12) dX2_isNumber_9 rfl kf_X2_18 (Rw s (by omega)).1 rfl ?_
      refine aw_iload_n (npc := 13) rfl dX2_isNumber_12 rfl ?_
      refine aw_iald (npc := 14) (x := cl (24 * s + t)) (j := t) dX2_isNumber_13 rfl (Rw s (by omega)).2 (am_ix_nI (by omega)) (tl_at (by omega)) ?_
      refine aw_ldc (npc := 16) kc_X2_42 dX2_isNumber_14 rfl ?_
      refine aw_icmp_eq (npc := 19) (tgt := 23) dX2_isNumber_16 rfl (by decide) (fun hc2 => ?_) (fun hc2 => ?_)
      · refine aw_iconst (npc := 24) (v := 0) (by decide) dX2_isNumber_23 rfl ?_
        refine aw_zret rfl rfl dX2_isNumber_24 ?_
        refine aw_re (S' := [.int 0]) rfl ?_
        refine aw_if_eq (npc := 17) (tgt := 39) dX7_differenceFrom_14 rfl (by decide) (fun _ => ?_) (fun hc => absurd (by decide) hc)
        refine aw_iinc (npc := 42) (v := nI (t + 1)) (L' := [some (.ref 0), some (.ref (46 + 2 * s)), some (.int sm), some (.int (nI (t + 1)))]) dX7_differenceFrom_39 rfl rfl (nI_1 _) (by decide) rfl rfl ?_
        refine aw_goto (npc := 4) dX7_differenceFrom_42 (by decide) ?_
        exact ih (t + 1) (by omega) _
      · refine aw_iconst (npc := 20) (v := 1) (by decide) dX2_isNumber_19 rfl ?_
        refine aw_goto (npc := 24) dX2_isNumber_20 (by decide) ?_
        refine aw_zret rfl rfl dX2_isNumber_24 ?_
        refine aw_re (S' := [.int 1]) rfl ?_
        refine aw_if_eq (npc := 17) (tgt := 39) dX7_differenceFrom_14 rfl (by decide) (fun hc => absurd hc (by decide)) (fun _ => ?_)
        refine aw_iload_n (npc := 18) rfl dX7_differenceFrom_17 rfl ?_
        refine aw_aload_n (npc := 19) rfl dX7_differenceFrom_18 rfl ?_
        refine aw_get (npc := 22) dX7_differenceFrom_19 rfl kf_X7_16 O.1 rfl ?_
        refine aw_get (npc := 25) dX7_differenceFrom_22 rfl kf_X7_127 F2.1 rfl ?_
        refine aw_iload_n (npc := 26) rfl dX7_differenceFrom_25 rfl ?_
        refine aw_iald (npc := 27) (x := NA (8 + 1 * t)) (j := t) dX7_differenceFrom_26 rfl F2.2.1 (am_ix_nI (by omega)) (tl_at (by omega)) ?_
        refine aw_aload_n (npc := 28) rfl dX7_differenceFrom_27 rfl ?_
        refine aw_get (npc := 31) dX7_differenceFrom_28 rfl kf_X7_218 (Rw s (by omega)).1 rfl ?_
        refine aw_iload_n (npc := 32) rfl dX7_differenceFrom_31 rfl ?_
        refine aw_iald (npc := 33) (x := cl (24 * s + t)) (j := t) dX7_differenceFrom_32 rfl (Rw s (by omega)).2 (am_ix_nI (by omega)) (tl_at (by omega)) ?_
        refine aw_isub (npc := 34) dX7_differenceFrom_33 rfl ?_
        refine aw_mabs (npc := 37) dX7_differenceFrom_34 rfl kmm_X7_221 kmx_abs (Nat.le_of_ble_eq_true rfl) ?_
        refine aw_iadd (npc := 38) dX7_differenceFrom_37 rfl ?_
        refine aw_istore_n (npc := 39) (L' := [some (.ref 0), some (.ref (46 + 2 * s)), some (.int (sm + (if 0 ≤ ((NA (8 + 1 * t)) - (cl (24 * s + t))) then (NA (8 + 1 * t)) - (cl (24 * s + t)) else 0 - ((NA (8 + 1 * t)) - (cl (24 * s + t)))))), some (.int (nI t))]) dX7_differenceFrom_38 rfl (by decide) rfl rfl ?_
        refine aw_iinc (npc := 42) (v := nI (t + 1)) (L' := [some (.ref 0), some (.ref (46 + 2 * s)), some (.int (sm + (if 0 ≤ ((NA (8 + 1 * t)) - (cl (24 * s + t))) then (NA (8 + 1 * t)) - (cl (24 * s + t)) else 0 - ((NA (8 + 1 * t)) - (cl (24 * s + t)))))), some (.int (nI (t + 1)))]) dX7_differenceFrom_39 rfl rfl (nI_1 _) (by decide) rfl rfl ?_
        refine aw_goto (npc := 4) dX7_differenceFrom_42 (by decide) ?_
        exact ih (t + 1) (by omega) _
    · refine aw_re (S' := [.int 0]) rfl ?_
      refine aw_zret rfl rfl dX2_isPlace_11 ?_
      refine aw_re (S' := [.int 0]) rfl ?_
      refine aw_if_eq (npc := 8) (tgt := 23) dX2_isNumber_5 rfl (by decide) (fun _ => ?_) (fun hc => absurd (by decide) hc)
      refine aw_iconst (npc := 24) (v := 0) (by decide) dX2_isNumber_23 rfl ?_
      refine aw_zret rfl rfl dX2_isNumber_24 ?_
      refine aw_re (S' := [.int 0]) rfl ?_
      refine aw_if_eq (npc := 17) (tgt := 39) dX7_differenceFrom_14 rfl (by decide) (fun _ => ?_) (fun hc => absurd (by decide) hc)
      refine aw_iinc (npc := 42) (v := nI (t + 1)) (L' := [some (.ref 0), some (.ref (46 + 2 * s)), some (.int sm), some (.int (nI (t + 1)))]) dX7_differenceFrom_39 rfl rfl (nI_1 _) (by decide) rfl rfl ?_
      refine aw_goto (npc := 4) dX7_differenceFrom_42 (by decide) ?_
      exact ih (t + 1) (by omega) _
set_option maxHeartbeats 4000000 in
set_option maxRecDepth 100000 in
theorem c_diff {X : List Int32} {d rc rs n : Nat} {Q : am_Q} {h : am_H} {ik wc : Int32} {NA lkA mvA sr sz cl : Nat → Int32} {txA : List Value} {s : Nat} (hs : s < 4) (O : OB ik wc h) (F2 : QR 13 NA txA lkA mvA h) (Rw : RW sr sz cl h) (hq : ∀ v, Q (some (.int v)) n h) : AW X mX7_differenceFrom (d + 12) rc rs 0 [some (.ref 0), some (.ref (46 + 2 * s)), none, none] [] n h Q := by
  refine aw_iconst (npc := 1) (v := 0) (by decide) dX7_differenceFrom_0 rfl ?_
  refine aw_istore_n (npc := 2) (L' := [some (.ref 0), some (.ref (46 + 2 * s)), some (.int 0), none]) dX7_differenceFrom_1 rfl (by decide) rfl rfl ?_
  refine aw_iconst (npc := 3) (v := 0) (by decide) dX7_differenceFrom_2 rfl ?_
  refine aw_istore_n (npc := 4) (L' := [some (.ref 0), some (.ref (46 + 2 * s)), some (.int 0), some (.int 0)]) dX7_differenceFrom_3 rfl (by decide) rfl rfl ?_
  refine aw_locs (L' := [some (.ref 0), some (.ref (46 + 2 * s)), some (.int 0), some (.int (nI 0))]) rfl ?_
  exact c_diffL hs O F2 Rw hq 4 0 (by omega) 0
set_option maxHeartbeats 4000000 in
set_option maxRecDepth 100000 in
theorem C_caredL {X : List Int32} {d rc rs n : Nat} {Q : am_Q} {tx : List Value} {lk : Nat → Int32} {ik wc : Int32} {fr c : Nat} {tb : TB} {N mv sr sz cl : Nat → Int32} {v1 v3 : Int32} {e s : Nat} (hs : s < 4) (he : e < 2) (hC : TC tb tx lk N c) (hK : RK N fr c) : ∀ (m t : Nat), t + m = 4 → ∀ (b l : Int32) (v8 : Option Value) (h : am_H), OB ik wc h → QR 1 N tx lk mv h → TQ h → RW sr sz cl h → TT tb h → (∀ v9 h9, TQ h9 → TT tb h9 → am_fp (fun k => k < 92 ∧ (k < 13 ∨ 25 ≤ k)) h9 h → Q (some (.int v9)) n h9) → AW X mX7_cared (d + 40) rc rs 56 [some (.ref 0), some (.int v1), some (.int (nI e)), some (.int v3), some (.ref (46 + 2 * s)), some (.int b), some (.int l), some (.int (nI t)), v8] [] n h Q := by
  intro m
  induction m with
  | zero =>
    intro t ht b l v8 h O F T2 Rw G hq
    obtain rfl : t = 4 := by omega
    refine aw_iload (npc := 58) rfl dX7_cared_56 rfl ?_
    refine aw_iconst (npc := 59) (v := 4) (by decide) dX7_cared_58 rfl ?_
    refine aw_icmp_ge (npc := 62) (tgt := 135) dX7_cared_59 rfl (by decide) (fun _ => ?_) (fun hc => absurd (nI_le (a := 4) (b := 4) (by omega) (by omega)) hc)
    refine aw_iload_n (npc := 136) rfl dX7_cared_135 rfl ?_
    refine aw_if_ne (npc := 139) (tgt := 144) dX7_cared_136 rfl (by decide) (fun hc2 => ?_) (fun hc2 => ?_)
    · refine aw_iload (npc := 146) rfl dX7_cared_144 rfl ?_
      refine aw_iret rfl dX7_cared_146 ?_
      exact hq _ _ T2 G am_fp0
    · refine aw_iload (npc := 141) rfl dX7_cared_139 rfl ?_
      refine aw_goto (npc := 146) dX7_cared_141 (by decide) ?_
      refine aw_iret rfl dX7_cared_146 ?_
      exact hq _ _ T2 G am_fp0
  | succ m ih =>
    intro t ht b l v8 h O F T2 Rw G hq
    obtain ⟨N1, tx1, lk1, mv1, F2, hl13⟩ := T2
    refine aw_iload (npc := 58) rfl dX7_cared_56 rfl ?_
    refine aw_iconst (npc := 59) (v := 4) (by decide) dX7_cared_58 rfl ?_
    refine aw_icmp_ge (npc := 62) (tgt := 135) dX7_cared_59 rfl (by decide) (fun hc => absurd hc (nI_ge (a := t) (b := 4) (by omega) (by omega))) (fun _ => ?_)
    refine aw_aload_n (npc := 63) rfl dX7_cared_62 rfl ?_
    refine aw_get (npc := 66) dX7_cared_63 rfl kf_X7_16 O.1 rfl ?_
    refine aw_aload_n (npc := 67) rfl dX7_cared_66 rfl ?_
    refine aw_get (npc := 70) dX7_cared_67 rfl kf_X7_10 O.1 rfl ?_
    refine aw_callV (npc := 73) (N := mX0_becomes) (b := 13) (mc := 0) (ms := 0) (A := [.ref 1]) (S := []) (L0 := [some (.ref 13), some (.ref 1), none]) dX7_cared_70 rfl km_X0_becomes kk_X7_193 F2.1 ⟨by decide, rfl⟩ rfl ⟨rfl, by decide⟩ rfl (Nat.le_of_ble_eq_true rfl) (Nat.zero_add _) (Nat.zero_add _) rfl ?_
    refine g_bec (tb := tb) F2 F G (by omega) (by omega) hl13 hC.1.1 hC.1.2.2.1 (fun hp4 F2 fz3 => ?_)
    have O5 := ob_frame O (fz3 0 (by omega)) (fz3 43 (by omega)) (fz3 44 (by omega))
    have F6 := qr_frame F (fun k h1 h2 => fz3 k (by omega))
    have Rw7 := rw_frame Rw (fun k h1 h2 => fz3 k (by omega))
    have G8 := tt_frame G (fun k hk => fz3 k (by omega))
    refine aw_aload_n (npc := 74) rfl dX7_cared_73 rfl ?_
    refine aw_get (npc := 77) dX7_cared_74 rfl kf_X7_16 O5.1 rfl ?_
    refine aw_get (npc := 80) dX7_cared_77 rfl kf_X7_130 F2.1 rfl ?_
    refine aw_iload_n (npc := 81) rfl dX7_cared_80 rfl ?_
    refine aw_iload (npc := 83) rfl dX7_cared_81 rfl ?_
    refine aw_callS (npc := 86) (N := mX7_carePlace) (mc := 0) (ms := 0) (A := [.int (nI e), .int (nI t)]) (S := [.ref 15]) (L0 := [some (.int (nI e)), some (.int (nI t))]) dX7_cared_83 rfl km_X7_carePlace kk_X7_133 rfl ⟨rfl, by decide⟩ rfl (Nat.le_of_ble_eq_true rfl) (Nat.zero_add _) (Nat.zero_add _) rfl ?_
    refine aw_iload_n (npc := 1) rfl dX7_carePlace_0 rfl ?_
    refine aw_iconst (npc := 2) (v := 4) (by decide) dX7_carePlace_1 rfl ?_
    refine aw_imulV (npc := 3) (v := nI (e * 4)) dX7_carePlace_2 rfl (pk_mul _ 4) ?_
    refine aw_iload_n (npc := 4) rfl dX7_carePlace_3 rfl ?_
    refine aw_iaddV (npc := 5) (v := nI ((e * 4) + t)) dX7_carePlace_4 rfl (nI_add _ _) ?_
    refine aw_iret rfl dX7_carePlace_5 ?_
    refine aw_re (S' := [.int (nI ((e * 4) + t)), .ref 15]) rfl ?_
    refine aw_bipush (npc := 88) (v := 9) (by decide) dX7_cared_86 rfl ?_
    refine aw_iast (npc := 89) (j := ((e * 4) + t)) dX7_cared_88 rfl F2.2.2.1 (am_ix_nI (by omega)) (by rw [tl_len]; omega) rfl ?_
    have F9 := qr_care (j := ((e * 4) + t)) (v := 9) F2 (by omega)
    have O10 := ob_out (a := 15) (c := .inl (0, (tl 8 (fun z9 => N (12 + 1 * z9))).set ((e * 4) + t) 9)) (by omega) O5
    have F11 := qr_out (a := 15) (c := .inl (0, (tl 8 (fun z9 => N (12 + 1 * z9))).set ((e * 4) + t) 9)) (by omega) F6
    have Rw12 := rw_out (a := 15) (c := .inl (0, (tl 8 (fun z9 => N (12 + 1 * z9))).set ((e * 4) + t) 9)) (by omega) Rw7
    have G13 := tt_out (k := 15) (c := .inl (0, (tl 8 (fun z9 => N (12 + 1 * z9))).set ((e * 4) + t) 9)) (by omega) G8
    refine aw_aload_n (npc := 90) rfl dX7_cared_89 rfl ?_
    refine aw_get (npc := 93) dX7_cared_90 rfl kf_X7_16 O10.1 rfl ?_
    refine aw_iconst (npc := 94) (v := 1) (by decide) dX7_cared_93 rfl ?_
    refine aw_iconst (npc := 95) (v := -1) (by decide) dX7_cared_94 rfl ?_
    refine aw_callV (npc := 98) (N := mX0_runPosts) (b := 13) (mc := 0) (ms := 0) (A := [.int 1, .int (-1)]) (S := []) (L0 := [some (.ref 13), some (.int 1), some (.int (-1)), none, none]) dX7_cared_95 rfl km_X0_runPosts kk_X7_163 F9.1 ⟨by decide, rfl⟩ rfl ⟨rfl, by decide⟩ rfl (Nat.le_of_ble_eq_true rfl) (Nat.zero_add _) (Nat.zero_add _) rfl ?_
    have hT23 : TC tb tx lk (upd N (12 + 1 * ((e * 4) + t)) 9) c := (tc_u (by omega) (by omega) hC)
    have hK24 : RK (upd N (12 + 1 * ((e * 4) + t)) 9) fr c := (rk_care (j := 1 * ((e * 4) + t)) ⟨by decide, by decide⟩ (by omega) hK)
    refine g_run (b := 13) (K := 1) (wo := (-1)) F9 G13 hK24.1 hK24.2.1 hK24.2.2.1 hT23.1 (fun f hf => ⟨(hK24.2.2.2.2.1 f hf).1, (hK24.2.2.2.2.1 f hf).2.1⟩) (by omega) (by omega) (fun N914 s915 m916 h917 hr18 F19 G20 fz21 => ?_)
    have er22 := (run_c 1 _ _ _ _ hT23 hK24 hr18).1
    rw [er22] at F19
    have fy25 : ∀ k, (k < 92 ∧ (k < 13 ∨ 13 + 12 ≤ k)) → h917 k = _ := fun k hk => fz21 k hk.1 hk.2
    have O26 := ob_frame O10 (fy25 0 (by omega)) (fy25 43 (by omega)) (fy25 44 (by omega))
    have F27 := qr_frame F11 (fun k h1 h2 => fy25 k (by omega))
    have Rw28 := rw_frame Rw12 (fun k h1 h2 => fy25 k (by omega))
    refine aw_re (S' := [.int s915]) rfl ?_
    refine aw_pop (npc := 99) rfl dX7_cared_98 rfl ?_
    refine aw_aload_n (npc := 100) rfl dX7_cared_99 rfl ?_
    refine aw_aload (npc := 102) rfl dX7_cared_100 rfl ?_
    refine aw_callV (npc := 105) (N := mX7_differenceFrom) (b := 0) (mc := 0) (ms := 0) (A := [.ref (46 + 2 * s)]) (S := []) (L0 := [some (.ref 0), some (.ref (46 + 2 * s)), none, none]) dX7_cared_102 rfl km_X7_differenceFrom kk_X7_211 O26.1 ⟨by decide, rfl⟩ rfl ⟨rfl, by decide⟩ rfl (Nat.le_of_ble_eq_true rfl) (Nat.zero_add _) (Nat.zero_add _) rfl ?_
    refine c_diff (s := s) (by omega) O26 F19 Rw28 (fun dv29 => ?_)
    refine aw_re (S' := [.int dv29]) rfl ?_
    refine aw_istore (npc := 107) (L' := [some (.ref 0), some (.int v1), some (.int (nI e)), some (.int v3), some (.ref (46 + 2 * s)), some (.int b), some (.int l), some (.int (nI t)), some (.int dv29)]) dX7_cared_105 rfl (by decide) rfl rfl ?_
    refine aw_iload (npc := 109) rfl dX7_cared_107 rfl ?_
    refine aw_ldc (npc := 111) kc_X7_200 dX7_cared_109 rfl ?_
    refine aw_icmp_eq (npc := 114) (tgt := 121) dX7_cared_111 rfl (by decide) (fun hc30 => ?_) (fun hc30 => ?_)
    · refine aw_iload (npc := 123) rfl dX7_cared_121 rfl ?_
      refine aw_istore (npc := 125) (L' := [some (.ref 0), some (.int v1), some (.int (nI e)), some (.int v3), some (.ref (46 + 2 * s)), some (.int (nI t)), some (.int l), some (.int (nI t)), some (.int dv29)]) dX7_cared_123 rfl (by decide) rfl rfl ?_
      refine aw_iload (npc := 127) rfl dX7_cared_125 rfl ?_
      refine aw_istore (npc := 129) (L' := [some (.ref 0), some (.int v1), some (.int (nI e)), some (.int v3), some (.ref (46 + 2 * s)), some (.int (nI t)), some (.int dv29), some (.int (nI t)), some (.int dv29)]) dX7_cared_127 rfl (by decide) rfl rfl ?_
      refine aw_iinc (npc := 132) (v := nI (t + 1)) (L' := [some (.ref 0), some (.int v1), some (.int (nI e)), some (.int v3), some (.ref (46 + 2 * s)), some (.int (nI t)), some (.int dv29), some (.int (nI (t + 1))), some (.int dv29)]) dX7_cared_129 rfl rfl (nI_1 _) (by decide) rfl rfl ?_
      refine aw_goto (npc := 56) dX7_cared_132 (by decide) ?_
      exact ih (t + 1) (by omega) _ _ _ _ O26 F27 ⟨_, _, _, _, F19, hC.1.1⟩ Rw28 G20 (fun v9 h9 T9 G9 f9 => hq v9 h9 T9 G9 (am_fpT f9 (am_fpT (fun k (hk : k < 92 ∧ (k < 13 ∨ 25 ≤ k)) => fy25 k (by omega)) (am_fpU (show ¬ (15 < 92 ∧ (15 < 13 ∨ 25 ≤ 15)) by omega) (am_fpT (fun k (hk : k < 92 ∧ (k < 13 ∨ 25 ≤ k)) => fz3 k (by omega)) am_fp0)))))
    · refine aw_iload (npc := 116) rfl dX7_cared_114 rfl ?_
      refine aw_iload (npc := 118) rfl dX7_cared_116 rfl ?_
      refine aw_icmp_ge (npc := 121) (tgt := 129) dX7_cared_118 rfl (by decide) (fun hc31 => ?_) (fun hc31 => ?_)
      · refine aw_iinc (npc := 132) (v := nI (t + 1)) (L' := [some (.ref 0), some (.int v1), some (.int (nI e)), some (.int v3), some (.ref (46 + 2 * s)), some (.int b), some (.int l), some (.int (nI (t + 1))), some (.int dv29)]) dX7_cared_129 rfl rfl (nI_1 _) (by decide) rfl rfl ?_
        refine aw_goto (npc := 56) dX7_cared_132 (by decide) ?_
        exact ih (t + 1) (by omega) _ _ _ _ O26 F27 ⟨_, _, _, _, F19, hC.1.1⟩ Rw28 G20 (fun v9 h9 T9 G9 f9 => hq v9 h9 T9 G9 (am_fpT f9 (am_fpT (fun k (hk : k < 92 ∧ (k < 13 ∨ 25 ≤ k)) => fy25 k (by omega)) (am_fpU (show ¬ (15 < 92 ∧ (15 < 13 ∨ 25 ≤ 15)) by omega) (am_fpT (fun k (hk : k < 92 ∧ (k < 13 ∨ 25 ≤ k)) => fz3 k (by omega)) am_fp0)))))
      · refine aw_iload (npc := 123) rfl dX7_cared_121 rfl ?_
        refine aw_istore (npc := 125) (L' := [some (.ref 0), some (.int v1), some (.int (nI e)), some (.int v3), some (.ref (46 + 2 * s)), some (.int (nI t)), some (.int l), some (.int (nI t)), some (.int dv29)]) dX7_cared_123 rfl (by decide) rfl rfl ?_
        refine aw_iload (npc := 127) rfl dX7_cared_125 rfl ?_
        refine aw_istore (npc := 129) (L' := [some (.ref 0), some (.int v1), some (.int (nI e)), some (.int v3), some (.ref (46 + 2 * s)), some (.int (nI t)), some (.int dv29), some (.int (nI t)), some (.int dv29)]) dX7_cared_127 rfl (by decide) rfl rfl ?_
        refine aw_iinc (npc := 132) (v := nI (t + 1)) (L' := [some (.ref 0), some (.int v1), some (.int (nI e)), some (.int v3), some (.ref (46 + 2 * s)), some (.int (nI t)), some (.int dv29), some (.int (nI (t + 1))), some (.int dv29)]) dX7_cared_129 rfl rfl (nI_1 _) (by decide) rfl rfl ?_
        refine aw_goto (npc := 56) dX7_cared_132 (by decide) ?_
        exact ih (t + 1) (by omega) _ _ _ _ O26 F27 ⟨_, _, _, _, F19, hC.1.1⟩ Rw28 G20 (fun v9 h9 T9 G9 f9 => hq v9 h9 T9 G9 (am_fpT f9 (am_fpT (fun k (hk : k < 92 ∧ (k < 13 ∨ 25 ≤ k)) => fy25 k (by omega)) (am_fpU (show ¬ (15 < 92 ∧ (15 < 13 ∨ 25 ≤ 15)) by omega) (am_fpT (fun k (hk : k < 92 ∧ (k < 13 ∨ 25 ≤ k)) => fz3 k (by omega)) am_fp0)))))
set_option maxHeartbeats 4000000 in
set_option maxRecDepth 100000 in
theorem C_cared {X : List Int32} {d rc rs n : Nat} {Q : am_Q} {h : am_H} {N : Nat → Int32} {tx : List Value} {lk mv : Nat → Int32} {ik wc : Int32} {fr c : Nat} {s : Int32} {e : Int32} {w : Int32} {sr sz cl : Nat → Int32} (Rw : RW sr sz cl h) (hI : RI sr sz) {tb : TB} (O : OB ik wc h) (F : QR 1 N tx lk mv h) (T2 : TQ h) (G : TT tb h) (hR : RG N fr c) (hC : TC tb tx lk N c) (hq : ∀ v9 h9, TQ h9 → TT tb h9 → am_fp (fun k => k < 92 ∧ (k < 13 ∨ 25 ≤ k)) h9 h → Q (some (.int v9)) n h9) : AW X mX7_cared (d + 40) rc rs 0 [some (.ref 0), some (.int s), some (.int e), some (.int w), none, none, none, none, none] [] n h Q := by
  have h8r := hR.2.1
  have h14r := hR.2.2.2.1
  refine aw_iload_n (npc := 1) rfl dX7_cared_0 rfl ?_
  refine aw_callS (npc := 4) (N := mX7_isSheet) (mc := 0) (ms := 0) (A := [.int s]) (S := []) (L0 := [some (.int s)]) dX7_cared_1 rfl km_X7_isSheet kk_X7_204 rfl ⟨rfl, by decide⟩ rfl (Nat.le_of_ble_eq_true rfl) (Nat.zero_add _) (Nat.zero_add _) rfl ?_
  refine c_X7_isSheet (fun hw1 => ?_) (fun hw1 => ?_)
  · obtain ⟨sn, hsn, esn⟩ := wi_nI (H := 3) (by decide) (by decide) hw1
    subst esn
    have fsn : fN (nI sn) = sn := fN_nI (by omega)
    obtain ⟨hsr, z9, hz24, ez9⟩ := hI sn (by omega)
    have fz9 : fN (nI z9) = z9 := fN_nI (by omega)
    refine aw_re (S' := [.int 1]) rfl ?_
    refine aw_if_eq (npc := 7) (tgt := 23) dX7_cared_4 rfl (by decide) (fun hc => absurd hc (by decide)) (fun _ => ?_)
    refine aw_iload_n (npc := 8) rfl dX7_cared_7 rfl ?_
    refine aw_callS (npc := 11) (N := mX7_isSide) (mc := 0) (ms := 0) (A := [.int e]) (S := []) (L0 := [some (.int e)]) dX7_cared_8 rfl km_X7_isSide kk_X7_71 rfl ⟨rfl, by decide⟩ rfl (Nat.le_of_ble_eq_true rfl) (Nat.zero_add _) (Nat.zero_add _) rfl ?_
    refine c_X7_isSide (fun hw2 => ?_) (fun hw2 => ?_)
    · obtain ⟨en, hen, een⟩ := wi_nI (H := 1) (by decide) (by decide) hw2
      subst een
      have fen : fN (nI en) = en := fN_nI (by omega)
      refine aw_re (S' := [.int 1]) rfl ?_
      refine aw_if_eq (npc := 14) (tgt := 23) dX7_cared_11 rfl (by decide) (fun hc => absurd hc (by decide)) (fun _ => ?_)
      refine aw_iload_n (npc := 15) rfl dX7_cared_14 rfl ?_
      refine aw_iconst (npc := 16) (v := 0) (by decide) dX7_cared_15 rfl ?_
      refine aw_iconst (npc := 17) (v := 1) (by decide) dX7_cared_16 rfl ?_
      refine aw_callS (npc := 20) (N := mX7_within) (mc := 0) (ms := 0) (A := [.int w, .int 0, .int 1]) (S := []) (L0 := [some (.int w), some (.int 0), some (.int 1)]) dX7_cared_17 rfl km_X7_within kk_X7_74 rfl ⟨rfl, by decide⟩ rfl (Nat.le_of_ble_eq_true rfl) (Nat.zero_add _) (Nat.zero_add _) rfl ?_
      refine c_X7_within (fun hw3 => ?_) (fun hw3 => ?_)
      · refine aw_re (S' := [.int 1]) rfl ?_
        refine aw_if_ne (npc := 23) (tgt := 26) dX7_cared_20 rfl (by decide) (fun _ => ?_) (fun hc => absurd hc (by decide))
        refine aw_aload_n (npc := 27) rfl dX7_cared_26 rfl ?_
        refine aw_get (npc := 30) dX7_cared_27 rfl kf_X7_47 O.1 rfl ?_
        refine aw_iload_n (npc := 31) rfl dX7_cared_30 rfl ?_
        refine aw_aald (npc := 32) (j := sn) dX7_cared_31 rfl (by decide) O.2.1 (am_ix_nI (by omega)) (sh_at (by omega)) ?_
        refine aw_astore (npc := 34) (L' := [some (.ref 0), some (.int (nI sn)), some (.int (nI en)), some (.int w), some (.ref (46 + 2 * sn)), none, none, none, none]) dX7_cared_32 rfl (by decide) rfl rfl ?_
        refine aw_aload (npc := 36) rfl dX7_cared_34 rfl ?_
        refine aw_callV (npc := 39) (N := mX2_isMissing) (b := 46 + 2 * sn) (mc := 0) (ms := 0) (A := []) (S := []) (L0 := [some (.ref (46 + 2 * sn))]) dX7_cared_36 rfl km_X2_isMissing kk_X7_207 (Rw sn (by omega)).1 ⟨by decide, rfl⟩ rfl ⟨rfl, by decide⟩ rfl (Nat.le_of_ble_eq_true rfl) (Nat.zero_add _) (Nat.zero_add _) rfl ?_
        refine aw_aload_n (npc := 1) rfl dX2_isMissing_0 rfl ?_
        refine aw_get (npc := 4) dX2_isMissing_1 rfl kf_X2_9 (Rw sn (by omega)).1 rfl ?_
        rcases wi_cm1_1 hsr with esr | esr | esr
        · refine aw_top (y := -1) esr ?_
          refine aw_iconst (npc := 5) (v := -1) (by decide) dX2_isMissing_4 rfl ?_
          refine aw_icmp_ne (npc := 8) (tgt := 12) dX2_isMissing_5 rfl (by decide) (fun hc => absurd (by decide) hc) (fun _ => ?_)
          refine aw_iconst (npc := 9) (v := 1) (by decide) dX2_isMissing_8 rfl ?_
          refine aw_goto (npc := 13) dX2_isMissing_9 (by decide) ?_
          refine aw_zret rfl rfl dX2_isMissing_13 ?_
          refine aw_re (S' := [.int 1]) rfl ?_
          refine aw_if_eq (npc := 42) (tgt := 45) dX7_cared_39 rfl (by decide) (fun hc => absurd hc (by decide)) (fun _ => ?_)
          refine aw_ldc (npc := 44) kc_X7_210 dX7_cared_42 rfl ?_
          refine aw_iret rfl dX7_cared_44 ?_
          exact hq _ _ T2 G am_fp0
        · refine aw_top (y := 0) esr ?_
          refine aw_iconst (npc := 5) (v := -1) (by decide) dX2_isMissing_4 rfl ?_
          refine aw_icmp_ne (npc := 8) (tgt := 12) dX2_isMissing_5 rfl (by decide) (fun _ => ?_) (fun hc => absurd hc (by decide))
          refine aw_iconst (npc := 13) (v := 0) (by decide) dX2_isMissing_12 rfl ?_
          refine aw_zret rfl rfl dX2_isMissing_13 ?_
          refine aw_re (S' := [.int 0]) rfl ?_
          refine aw_if_eq (npc := 42) (tgt := 45) dX7_cared_39 rfl (by decide) (fun _ => ?_) (fun hc => absurd (by decide) hc)
          refine aw_ldc (npc := 47) kc_X7_200 dX7_cared_45 rfl ?_
          refine aw_istore (npc := 49) (L' := [some (.ref 0), some (.int (nI sn)), some (.int (nI en)), some (.int w), some (.ref (46 + 2 * sn)), some (.int (-1000000005)), none, none, none]) dX7_cared_47 rfl (by decide) rfl rfl ?_
          refine aw_ldc (npc := 51) kc_X7_200 dX7_cared_49 rfl ?_
          refine aw_istore (npc := 53) (L' := [some (.ref 0), some (.int (nI sn)), some (.int (nI en)), some (.int w), some (.ref (46 + 2 * sn)), some (.int (-1000000005)), some (.int (-1000000005)), none, none]) dX7_cared_51 rfl (by decide) rfl rfl ?_
          refine aw_iconst (npc := 54) (v := 0) (by decide) dX7_cared_53 rfl ?_
          refine aw_istore (npc := 56) (L' := [some (.ref 0), some (.int (nI sn)), some (.int (nI en)), some (.int w), some (.ref (46 + 2 * sn)), some (.int (-1000000005)), some (.int (-1000000005)), some (.int 0), none]) dX7_cared_54 rfl (by decide) rfl rfl ?_
          refine aw_locs (L' := [some (.ref 0), some (.int (nI sn)), some (.int (nI en)), some (.int w), some (.ref (46 + 2 * sn)), some (.int (-1000000005)), some (.int (-1000000005)), some (.int (nI 0)), none]) rfl ?_
          exact C_caredL (s := sn) (e := en) (by omega) (by omega) hC (rg_rk hR) 4 0 (by omega) _ _ none _ O F T2 Rw G (fun v9 h9 T9 G9 f9 => hq v9 h9 T9 G9 f9)
        · refine aw_top (y := 1) esr ?_
          refine aw_iconst (npc := 5) (v := -1) (by decide) dX2_isMissing_4 rfl ?_
          refine aw_icmp_ne (npc := 8) (tgt := 12) dX2_isMissing_5 rfl (by decide) (fun _ => ?_) (fun hc => absurd hc (by decide))
          refine aw_iconst (npc := 13) (v := 0) (by decide) dX2_isMissing_12 rfl ?_
          refine aw_zret rfl rfl dX2_isMissing_13 ?_
          refine aw_re (S' := [.int 0]) rfl ?_
          refine aw_if_eq (npc := 42) (tgt := 45) dX7_cared_39 rfl (by decide) (fun _ => ?_) (fun hc => absurd (by decide) hc)
          refine aw_ldc (npc := 47) kc_X7_200 dX7_cared_45 rfl ?_
          refine aw_istore (npc := 49) (L' := [some (.ref 0), some (.int (nI sn)), some (.int (nI en)), some (.int w), some (.ref (46 + 2 * sn)), some (.int (-1000000005)), none, none, none]) dX7_cared_47 rfl (by decide) rfl rfl ?_
          refine aw_ldc (npc := 51) kc_X7_200 dX7_cared_49 rfl ?_
          refine aw_istore (npc := 53) (L' := [some (.ref 0), some (.int (nI sn)), some (.int (nI en)), some (.int w), some (.ref (46 + 2 * sn)), some (.int (-1000000005)), some (.int (-1000000005)), none, none]) dX7_cared_51 rfl (by decide) rfl rfl ?_
          refine aw_iconst (npc := 54) (v := 0) (by decide) dX7_cared_53 rfl ?_
          refine aw_istore (npc := 56) (L' := [some (.ref 0), some (.int (nI sn)), some (.int (nI en)), some (.int w), some (.ref (46 + 2 * sn)), some (.int (-1000000005)), some (.int (-1000000005)), some (.int 0), none]) dX7_cared_54 rfl (by decide) rfl rfl ?_
          refine aw_locs (L' := [some (.ref 0), some (.int (nI sn)), some (.int (nI en)), some (.int w), some (.ref (46 + 2 * sn)), some (.int (-1000000005)), some (.int (-1000000005)), some (.int (nI 0)), none]) rfl ?_
          exact C_caredL (s := sn) (e := en) (by omega) (by omega) hC (rg_rk hR) 4 0 (by omega) _ _ none _ O F T2 Rw G (fun v9 h9 T9 G9 f9 => hq v9 h9 T9 G9 f9)
      · refine aw_re (S' := [.int 0]) rfl ?_
        refine aw_if_ne (npc := 23) (tgt := 26) dX7_cared_20 rfl (by decide) (fun hc => absurd (by decide) hc) (fun _ => ?_)
        refine aw_ldc (npc := 25) kc_X7_78 dX7_cared_23 rfl ?_
        refine aw_iret rfl dX7_cared_25 ?_
        exact hq _ _ T2 G am_fp0
    · refine aw_re (S' := [.int 0]) rfl ?_
      refine aw_if_eq (npc := 14) (tgt := 23) dX7_cared_11 rfl (by decide) (fun _ => ?_) (fun hc => absurd (by decide) hc)
      refine aw_ldc (npc := 25) kc_X7_78 dX7_cared_23 rfl ?_
      refine aw_iret rfl dX7_cared_25 ?_
      exact hq _ _ T2 G am_fp0
  · refine aw_re (S' := [.int 0]) rfl ?_
    refine aw_if_eq (npc := 7) (tgt := 23) dX7_cared_4 rfl (by decide) (fun _ => ?_) (fun hc => absurd (by decide) hc)
    refine aw_ldc (npc := 25) kc_X7_78 dX7_cared_23 rfl ?_
    refine aw_iret rfl dX7_cared_25 ?_
    exact hq _ _ T2 G am_fp0
def alT (a9 a : Nat → Nat → Int32) : Prop := ∀ k, k ≠ 73 → k ≠ 74 → k ≠ 81 → k ≠ 82 → a9 k = a k
theorem alT_t {x y z : Nat → Nat → Int32} (h1 : alT x y) (h2 : alT y z) : alT x z := fun k a b c d => (h1 k a b c d).trans (h2 k a b c d)
theorem al3_t {x y z : Nat → Nat → Int32} (h1 : al3 x y) (h2 : al3 y z) : al3 x z := fun k a b c => (h1 k a b c).trans (h2 k a b c)
theorem al3_0 {x : Nat → Nat → Int32} : al3 x x := fun _ _ _ _ => rfl
theorem alT_0 {x : Nat → Nat → Int32} : alT x x := fun _ _ _ _ _ => rfl
theorem alT_3 {x y : Nat → Nat → Int32} (h : al3 x y) : alT x y := fun k a _ c d => h k a c d
theorem alT_4 {x y : Nat → Nat → Int32} (h : ∀ c, c ≠ 74 → x c = y c) : alT x y := fun k _ b _ _ => h k b
def olT (o9 o : Nat → Int32) : Prop := ∀ k, k ≠ 4 → k ≠ 6 → o9 k = o k
theorem olT_t {x y z : Nat → Int32} (h1 : olT x y) (h2 : olT y z) : olT x z := fun k a b => (h1 k a b).trans (h2 k a b)
theorem olT_0 {x : Nat → Int32} : olT x x := fun _ _ _ => rfl
theorem olT_6 {x y : Nat → Int32} (h : ol6 x y) : olT x y := fun k _ b => h k b
theorem olT_u {x y : Nat → Int32} {v : Int32} (h : olT x y) : olT (upd x 4 v) y := fun k a b => (pk_un a).trans (h k a b)
theorem ol_end {x y : Nat → Int32} (h : olT x y) (h4 : x 4 = y 4) : ol6 x y := fun k b => by
  by_cases q : k = 4
  · subst q; exact h4
  · exact h k q b
theorem mi_rk {N : Nat → Int32} {fr c : Nat} (hK : RK N fr c) (hT : TXM N c) : MI N c fr := ⟨hT, hK.1, hK.2.1, fun f hf => ⟨(hK.2.2.2.2.1 f (by have z := hK.2.1; omega)).1, (hK.2.2.2.2.1 f (by have z := hK.2.1; omega)).2.1⟩⟩
set_option maxHeartbeats 4000000 in
set_option maxRecDepth 100000 in
theorem M_behind {X : List Int32} {d rc rs n : Nat} {Q : am_Q} {h : am_H} {o N : Nat → Int32} {a : Nat → Nat → Int32} {fr c : Nat} {v : Int32} {w : Int32} {tb : TB} {tx : List Value} {lk : Nat → Int32} (F : MR o N a h) (hR : RG N fr c) (hC : TC tb tx lk N c) (ho4 : o 4 = -1) (hq : ∀ v9 o9 a9 h9, v9 = bhV c fr N v w → MR o9 N a9 h9 → ol6 o9 o → alT a9 a → am_fp (fun k => k < 69 ∨ 92 ≤ k) h9 h → Q (some (.int v9)) n h9) : AW X mX8_behind (d + 40) rc rs 0 [some (.ref 69), some (.int v), some (.int w), none] [] n h Q := by
  have h8r := hR.2.1
  have h14r := hR.2.2.2.1
  have hK := rg_rk hR
  refine aw_iload_n (npc := 1) rfl dX8_behind_0 rfl ?_
  refine aw_iconst (npc := 2) (v := 0) (by decide) dX8_behind_1 rfl ?_
  refine aw_bipush (npc := 4) (v := 100) (by decide) dX8_behind_2 rfl ?_
  refine aw_callS (npc := 7) (N := mX8_in) (mc := 0) (ms := 0) (A := [.int v, .int 0, .int 100]) (S := []) (L0 := [some (.int v), some (.int 0), some (.int 100)]) dX8_behind_4 rfl km_X8_in kk_X8_83 rfl ⟨rfl, by decide⟩ rfl (Nat.le_of_ble_eq_true rfl) (Nat.zero_add _) (Nat.zero_add _) rfl ?_
  refine c_X8_in (fun hw1 => ?_) (fun hw1 => ?_)
  · obtain ⟨vn, hvn, evn⟩ := wi_nI (H := 100) (by decide) (by decide) hw1
    subst evn
    have fvn : fN (nI vn) = vn := fN_nI (by omega)
    refine aw_re (S' := [.int 1]) rfl ?_
    refine aw_if_eq (npc := 10) (tgt := 19) dX8_behind_7 rfl (by decide) (fun hc => absurd hc (by decide)) (fun _ => ?_)
    refine aw_iload_n (npc := 11) rfl dX8_behind_10 rfl ?_
    refine aw_iconst (npc := 12) (v := 0) (by decide) dX8_behind_11 rfl ?_
    refine aw_iconst (npc := 13) (v := 3) (by decide) dX8_behind_12 rfl ?_
    refine aw_callS (npc := 16) (N := mX8_in) (mc := 0) (ms := 0) (A := [.int w, .int 0, .int 3]) (S := []) (L0 := [some (.int w), some (.int 0), some (.int 3)]) dX8_behind_13 rfl km_X8_in kk_X8_83 rfl ⟨rfl, by decide⟩ rfl (Nat.le_of_ble_eq_true rfl) (Nat.zero_add _) (Nat.zero_add _) rfl ?_
    refine c_X8_in (fun hw2 => ?_) (fun hw2 => ?_)
    · rcases wi_c0_3 hw2 with rfl | rfl | rfl | rfl
      · refine aw_re (S' := [.int 1]) rfl ?_
        refine aw_if_ne (npc := 19) (tgt := 22) dX8_behind_16 rfl (by decide) (fun _ => ?_) (fun hc => absurd hc (by decide))
        refine aw_aload_n (npc := 23) rfl dX8_behind_22 rfl ?_
        refine aw_callV (npc := 26) (N := mX8_thinks) (b := 69) (mc := 0) (ms := 0) (A := []) (S := []) (L0 := [some (.ref 69), none]) dX8_behind_23 rfl km_X8_thinks kk_X8_169 F.1 ⟨by decide, rfl⟩ rfl ⟨rfl, by decide⟩ rfl (Nat.le_of_ble_eq_true rfl) (Nat.zero_add _) (Nat.zero_add _) rfl ?_
        refine m_thinks F (fun aT3 hp4 F5 eT6 cT7 fz8 => ?_)
        refine aw_aload_n (npc := 27) rfl dX8_behind_26 rfl ?_
        refine aw_iload_n (npc := 28) rfl dX8_behind_27 rfl ?_
        refine aw_callV (npc := 31) (N := mX8_goesOn) (b := 69) (mc := 0) (ms := 0) (A := [.int (nI vn)]) (S := []) (L0 := [some (.ref 69), some (.int (nI vn)), none]) dX8_behind_28 rfl km_X8_goesOn kk_X8_163 F5.1 ⟨by decide, rfl⟩ rfl ⟨rfl, by decide⟩ rfl (Nat.le_of_ble_eq_true rfl) (Nat.zero_add _) (Nat.zero_add _) rfl ?_
        have o4x := ho4
        refine m_go (p := vn) (c := c) (fr := fr) (by omega) F5 (mi_rk hK (tc_txm hC)) (fun o9x9 N9x10 a9x11 h9x12 hrx13 Fx14 olx15 alx16 fzx17 => ?_)
        have eNx18 : N9x10 = goF c fr (-1) vn N := go_m _ _ _ hC hK (o4x ▸ hrx13)
        subst eNx18
        have o419 := ((olx15 4 (by decide)).trans o4x)
        have h7420 : ∀ j, j < 62 → a9x11 74 j = N j := (fun j hj => (congrFun (alx16 74 (by decide) (by decide) (by decide)) j).trans (eT6 j hj))
        refine aw_iload_n (npc := 32) rfl dX8_behind_31 rfl ?_
        refine aw_if_ne (npc := 35) (tgt := 44) dX8_behind_32 rfl (by decide) (fun hc => absurd (by decide) hc) (fun _ => ?_)
        refine aw_aload_n (npc := 36) rfl dX8_behind_35 rfl ?_
        refine aw_get (npc := 39) dX8_behind_36 rfl kf_X8_9 Fx14.1 rfl ?_
        refine aw_iconst (npc := 40) (v := 3) (by decide) dX8_behind_39 rfl ?_
        refine aw_iald (npc := 41) (x := (goF c fr (-1) vn N) 3) (j := 3) dX8_behind_40 rfl Fx14.2.1 ⟨by decide, by decide⟩ (tl_at (by omega)) ?_
        refine aw_goto (npc := 83) dX8_behind_41 (by decide) ?_
        refine aw_istore_n (npc := 84) (L' := [some (.ref 69), some (.int (nI vn)), some (.int 0), some (.int ((goF c fr (-1) vn N) 3))]) dX8_behind_83 rfl (by decide) rfl rfl ?_
        refine aw_aload_n (npc := 85) rfl dX8_behind_84 rfl ?_
        refine aw_callV (npc := 88) (N := mX8_putsBack) (b := 69) (mc := 0) (ms := 0) (A := []) (S := []) (L0 := [some (.ref 69), none]) dX8_behind_85 rfl km_X8_putsBack kk_X8_175 Fx14.1 ⟨by decide, rfl⟩ rfl ⟨rfl, by decide⟩ rfl (Nat.le_of_ble_eq_true rfl) (Nat.zero_add _) (Nat.zero_add _) rfl ?_
        refine m_puts Fx14 (fun N821 hp22 F23 e824 c825 fz26 => ?_)
        have eN27 : N821 = N := funext (fun j => by
          by_cases hj : j < 62
          · exact (e824 j hj).trans (h7420 j hj)
          · have hj : 62 ≤ j := by omega
            exact (c825 j hj).trans ((goF_62 hK.2.1 hj).trans rfl))
        rw [eN27] at F23
        refine aw_iload_n (npc := 89) rfl dX8_behind_88 rfl ?_
        refine aw_iret rfl dX8_behind_89 ?_
        exact hq _ _ _ _ (by simp [bhV, cI, hw1, hw2, fvn]) F23 (ol_end (olT_u (olT_t (olT_6 olx15) olT_0)) (Eq.trans pk_us ho4.symm)) (alT_t (alT_3 alx16) (alT_t (alT_4 cT7) alT_0)) (am_fpT (fun k (hk : k < 69 ∨ 92 ≤ k) => fz26 k (by omega)) (am_fpT (fun k (hk : k < 69 ∨ 92 ≤ k) => fzx17 k (by omega)) (am_fpT (fun k (hk : k < 69 ∨ 92 ≤ k) => fz8 k (by omega)) am_fp0)))
      · refine aw_re (S' := [.int 1]) rfl ?_
        refine aw_if_ne (npc := 19) (tgt := 22) dX8_behind_16 rfl (by decide) (fun _ => ?_) (fun hc => absurd hc (by decide))
        refine aw_aload_n (npc := 23) rfl dX8_behind_22 rfl ?_
        refine aw_callV (npc := 26) (N := mX8_thinks) (b := 69) (mc := 0) (ms := 0) (A := []) (S := []) (L0 := [some (.ref 69), none]) dX8_behind_23 rfl km_X8_thinks kk_X8_169 F.1 ⟨by decide, rfl⟩ rfl ⟨rfl, by decide⟩ rfl (Nat.le_of_ble_eq_true rfl) (Nat.zero_add _) (Nat.zero_add _) rfl ?_
        refine m_thinks F (fun aT28 hp29 F30 eT31 cT32 fz33 => ?_)
        refine aw_aload_n (npc := 27) rfl dX8_behind_26 rfl ?_
        refine aw_iload_n (npc := 28) rfl dX8_behind_27 rfl ?_
        refine aw_callV (npc := 31) (N := mX8_goesOn) (b := 69) (mc := 0) (ms := 0) (A := [.int (nI vn)]) (S := []) (L0 := [some (.ref 69), some (.int (nI vn)), none]) dX8_behind_28 rfl km_X8_goesOn kk_X8_163 F30.1 ⟨by decide, rfl⟩ rfl ⟨rfl, by decide⟩ rfl (Nat.le_of_ble_eq_true rfl) (Nat.zero_add _) (Nat.zero_add _) rfl ?_
        have o4x := ho4
        refine m_go (p := vn) (c := c) (fr := fr) (by omega) F30 (mi_rk hK (tc_txm hC)) (fun o9x34 N9x35 a9x36 h9x37 hrx38 Fx39 olx40 alx41 fzx42 => ?_)
        have eNx43 : N9x35 = goF c fr (-1) vn N := go_m _ _ _ hC hK (o4x ▸ hrx38)
        subst eNx43
        have o444 := ((olx40 4 (by decide)).trans o4x)
        have h7445 : ∀ j, j < 62 → a9x36 74 j = N j := (fun j hj => (congrFun (alx41 74 (by decide) (by decide) (by decide)) j).trans (eT31 j hj))
        refine aw_iload_n (npc := 32) rfl dX8_behind_31 rfl ?_
        refine aw_if_ne (npc := 35) (tgt := 44) dX8_behind_32 rfl (by decide) (fun _ => ?_) (fun hc => absurd hc (by decide))
        refine aw_iload_n (npc := 45) rfl dX8_behind_44 rfl ?_
        refine aw_iconst (npc := 46) (v := 1) (by decide) dX8_behind_45 rfl ?_
        refine aw_icmp_ne (npc := 49) (tgt := 56) dX8_behind_46 rfl (by decide) (fun hc => absurd (by decide) hc) (fun _ => ?_)
        refine aw_aload_n (npc := 50) rfl dX8_behind_49 rfl ?_
        refine aw_callV (npc := 53) (N := mX8_stands) (b := 69) (mc := 0) (ms := 0) (A := []) (S := []) (L0 := [some (.ref 69), none, none]) dX8_behind_50 rfl km_X8_stands kk_X8_166 Fx39.1 ⟨by decide, rfl⟩ rfl ⟨rfl, by decide⟩ rfl (Nat.le_of_ble_eq_true rfl) (Nat.zero_add _) (Nat.zero_add _) rfl ?_
        refine m_stands Fx39 ?_
        refine aw_re (S' := [.int (snum (goF c fr (-1) vn N))]) rfl ?_
        refine aw_goto (npc := 83) dX8_behind_53 (by decide) ?_
        refine aw_istore_n (npc := 84) (L' := [some (.ref 69), some (.int (nI vn)), some (.int 1), some (.int (snum (goF c fr (-1) vn N)))]) dX8_behind_83 rfl (by decide) rfl rfl ?_
        refine aw_aload_n (npc := 85) rfl dX8_behind_84 rfl ?_
        refine aw_callV (npc := 88) (N := mX8_putsBack) (b := 69) (mc := 0) (ms := 0) (A := []) (S := []) (L0 := [some (.ref 69), none]) dX8_behind_85 rfl km_X8_putsBack kk_X8_175 Fx39.1 ⟨by decide, rfl⟩ rfl ⟨rfl, by decide⟩ rfl (Nat.le_of_ble_eq_true rfl) (Nat.zero_add _) (Nat.zero_add _) rfl ?_
        refine m_puts Fx39 (fun N846 hp47 F48 e849 c850 fz51 => ?_)
        have eN52 : N846 = N := funext (fun j => by
          by_cases hj : j < 62
          · exact (e849 j hj).trans (h7445 j hj)
          · have hj : 62 ≤ j := by omega
            exact (c850 j hj).trans ((goF_62 hK.2.1 hj).trans rfl))
        rw [eN52] at F48
        refine aw_iload_n (npc := 89) rfl dX8_behind_88 rfl ?_
        refine aw_iret rfl dX8_behind_89 ?_
        exact hq _ _ _ _ (by simp [bhV, cI, hw1, hw2, fvn]) F48 (ol_end (olT_u (olT_t (olT_6 olx40) olT_0)) (Eq.trans pk_us ho4.symm)) (alT_t (alT_3 alx41) (alT_t (alT_4 cT32) alT_0)) (am_fpT (fun k (hk : k < 69 ∨ 92 ≤ k) => fz51 k (by omega)) (am_fpT (fun k (hk : k < 69 ∨ 92 ≤ k) => fzx42 k (by omega)) (am_fpT (fun k (hk : k < 69 ∨ 92 ≤ k) => fz33 k (by omega)) am_fp0)))
      · refine aw_re (S' := [.int 1]) rfl ?_
        refine aw_if_ne (npc := 19) (tgt := 22) dX8_behind_16 rfl (by decide) (fun _ => ?_) (fun hc => absurd hc (by decide))
        refine aw_aload_n (npc := 23) rfl dX8_behind_22 rfl ?_
        refine aw_callV (npc := 26) (N := mX8_thinks) (b := 69) (mc := 0) (ms := 0) (A := []) (S := []) (L0 := [some (.ref 69), none]) dX8_behind_23 rfl km_X8_thinks kk_X8_169 F.1 ⟨by decide, rfl⟩ rfl ⟨rfl, by decide⟩ rfl (Nat.le_of_ble_eq_true rfl) (Nat.zero_add _) (Nat.zero_add _) rfl ?_
        refine m_thinks F (fun aT53 hp54 F55 eT56 cT57 fz58 => ?_)
        refine aw_aload_n (npc := 27) rfl dX8_behind_26 rfl ?_
        refine aw_iload_n (npc := 28) rfl dX8_behind_27 rfl ?_
        refine aw_callV (npc := 31) (N := mX8_goesOn) (b := 69) (mc := 0) (ms := 0) (A := [.int (nI vn)]) (S := []) (L0 := [some (.ref 69), some (.int (nI vn)), none]) dX8_behind_28 rfl km_X8_goesOn kk_X8_163 F55.1 ⟨by decide, rfl⟩ rfl ⟨rfl, by decide⟩ rfl (Nat.le_of_ble_eq_true rfl) (Nat.zero_add _) (Nat.zero_add _) rfl ?_
        have o4x := ho4
        refine m_go (p := vn) (c := c) (fr := fr) (by omega) F55 (mi_rk hK (tc_txm hC)) (fun o9x59 N9x60 a9x61 h9x62 hrx63 Fx64 olx65 alx66 fzx67 => ?_)
        have eNx68 : N9x60 = goF c fr (-1) vn N := go_m _ _ _ hC hK (o4x ▸ hrx63)
        subst eNx68
        have o469 := ((olx65 4 (by decide)).trans o4x)
        have h7470 : ∀ j, j < 62 → a9x61 74 j = N j := (fun j hj => (congrFun (alx66 74 (by decide) (by decide) (by decide)) j).trans (eT56 j hj))
        refine aw_iload_n (npc := 32) rfl dX8_behind_31 rfl ?_
        refine aw_if_ne (npc := 35) (tgt := 44) dX8_behind_32 rfl (by decide) (fun _ => ?_) (fun hc => absurd hc (by decide))
        refine aw_iload_n (npc := 45) rfl dX8_behind_44 rfl ?_
        refine aw_iconst (npc := 46) (v := 1) (by decide) dX8_behind_45 rfl ?_
        refine aw_icmp_ne (npc := 49) (tgt := 56) dX8_behind_46 rfl (by decide) (fun _ => ?_) (fun hc => absurd hc (by decide))
        refine aw_iload_n (npc := 57) rfl dX8_behind_56 rfl ?_
        refine aw_iconst (npc := 58) (v := 2) (by decide) dX8_behind_57 rfl ?_
        refine aw_icmp_ne (npc := 61) (tgt := 76) dX8_behind_58 rfl (by decide) (fun hc => absurd (by decide) hc) (fun _ => ?_)
        refine aw_aload_n (npc := 62) rfl dX8_behind_61 rfl ?_
        refine aw_callV (npc := 65) (N := mX8_isPeace) (b := 69) (mc := 0) (ms := 0) (A := []) (S := []) (L0 := [some (.ref 69)]) dX8_behind_62 rfl km_X8_isPeace kk_X8_149 Fx64.1 ⟨by decide, rfl⟩ rfl ⟨rfl, by decide⟩ rfl (Nat.le_of_ble_eq_true rfl) (Nat.zero_add _) (Nat.zero_add _) rfl ?_
        refine m_peace Fx64 (fun hp71 => ?_) (fun hp71 => ?_)
        · refine aw_re (S' := [.int 1]) rfl ?_
          refine aw_if_eq (npc := 68) (tgt := 72) dX8_behind_65 rfl (by decide) (fun hc => absurd hc (by decide)) (fun _ => ?_)
          refine aw_iconst (npc := 69) (v := 1) (by decide) dX8_behind_68 rfl ?_
          refine aw_goto (npc := 83) dX8_behind_69 (by decide) ?_
          refine aw_istore_n (npc := 84) (L' := [some (.ref 69), some (.int (nI vn)), some (.int 2), some (.int 1)]) dX8_behind_83 rfl (by decide) rfl rfl ?_
          refine aw_aload_n (npc := 85) rfl dX8_behind_84 rfl ?_
          refine aw_callV (npc := 88) (N := mX8_putsBack) (b := 69) (mc := 0) (ms := 0) (A := []) (S := []) (L0 := [some (.ref 69), none]) dX8_behind_85 rfl km_X8_putsBack kk_X8_175 Fx64.1 ⟨by decide, rfl⟩ rfl ⟨rfl, by decide⟩ rfl (Nat.le_of_ble_eq_true rfl) (Nat.zero_add _) (Nat.zero_add _) rfl ?_
          refine m_puts Fx64 (fun N872 hp73 F74 e875 c876 fz77 => ?_)
          have eN78 : N872 = N := funext (fun j => by
            by_cases hj : j < 62
            · exact (e875 j hj).trans (h7470 j hj)
            · have hj : 62 ≤ j := by omega
              exact (c876 j hj).trans ((goF_62 hK.2.1 hj).trans rfl))
          rw [eN78] at F74
          refine aw_iload_n (npc := 89) rfl dX8_behind_88 rfl ?_
          refine aw_iret rfl dX8_behind_89 ?_
          exact hq _ _ _ _ (by simp [bhV, cI, hw1, hw2, hp71, fvn]) F74 (ol_end (olT_u (olT_t (olT_6 olx65) olT_0)) (Eq.trans pk_us ho4.symm)) (alT_t (alT_3 alx66) (alT_t (alT_4 cT57) alT_0)) (am_fpT (fun k (hk : k < 69 ∨ 92 ≤ k) => fz77 k (by omega)) (am_fpT (fun k (hk : k < 69 ∨ 92 ≤ k) => fzx67 k (by omega)) (am_fpT (fun k (hk : k < 69 ∨ 92 ≤ k) => fz58 k (by omega)) am_fp0)))
        · refine aw_re (S' := [.int 0]) rfl ?_
          refine aw_if_eq (npc := 68) (tgt := 72) dX8_behind_65 rfl (by decide) (fun _ => ?_) (fun hc => absurd (by decide) hc)
          refine aw_iconst (npc := 73) (v := 0) (by decide) dX8_behind_72 rfl ?_
          refine aw_goto (npc := 83) dX8_behind_73 (by decide) ?_
          refine aw_istore_n (npc := 84) (L' := [some (.ref 69), some (.int (nI vn)), some (.int 2), some (.int 0)]) dX8_behind_83 rfl (by decide) rfl rfl ?_
          refine aw_aload_n (npc := 85) rfl dX8_behind_84 rfl ?_
          refine aw_callV (npc := 88) (N := mX8_putsBack) (b := 69) (mc := 0) (ms := 0) (A := []) (S := []) (L0 := [some (.ref 69), none]) dX8_behind_85 rfl km_X8_putsBack kk_X8_175 Fx64.1 ⟨by decide, rfl⟩ rfl ⟨rfl, by decide⟩ rfl (Nat.le_of_ble_eq_true rfl) (Nat.zero_add _) (Nat.zero_add _) rfl ?_
          refine m_puts Fx64 (fun N879 hp80 F81 e882 c883 fz84 => ?_)
          have eN85 : N879 = N := funext (fun j => by
            by_cases hj : j < 62
            · exact (e882 j hj).trans (h7470 j hj)
            · have hj : 62 ≤ j := by omega
              exact (c883 j hj).trans ((goF_62 hK.2.1 hj).trans rfl))
          rw [eN85] at F81
          refine aw_iload_n (npc := 89) rfl dX8_behind_88 rfl ?_
          refine aw_iret rfl dX8_behind_89 ?_
          exact hq _ _ _ _ (by simp [bhV, cI, hw1, hw2, hp71, fvn]) F81 (ol_end (olT_u (olT_t (olT_6 olx65) olT_0)) (Eq.trans pk_us ho4.symm)) (alT_t (alT_3 alx66) (alT_t (alT_4 cT57) alT_0)) (am_fpT (fun k (hk : k < 69 ∨ 92 ≤ k) => fz84 k (by omega)) (am_fpT (fun k (hk : k < 69 ∨ 92 ≤ k) => fzx67 k (by omega)) (am_fpT (fun k (hk : k < 69 ∨ 92 ≤ k) => fz58 k (by omega)) am_fp0)))
      · refine aw_re (S' := [.int 1]) rfl ?_
        refine aw_if_ne (npc := 19) (tgt := 22) dX8_behind_16 rfl (by decide) (fun _ => ?_) (fun hc => absurd hc (by decide))
        refine aw_aload_n (npc := 23) rfl dX8_behind_22 rfl ?_
        refine aw_callV (npc := 26) (N := mX8_thinks) (b := 69) (mc := 0) (ms := 0) (A := []) (S := []) (L0 := [some (.ref 69), none]) dX8_behind_23 rfl km_X8_thinks kk_X8_169 F.1 ⟨by decide, rfl⟩ rfl ⟨rfl, by decide⟩ rfl (Nat.le_of_ble_eq_true rfl) (Nat.zero_add _) (Nat.zero_add _) rfl ?_
        refine m_thinks F (fun aT86 hp87 F88 eT89 cT90 fz91 => ?_)
        refine aw_aload_n (npc := 27) rfl dX8_behind_26 rfl ?_
        refine aw_iload_n (npc := 28) rfl dX8_behind_27 rfl ?_
        refine aw_callV (npc := 31) (N := mX8_goesOn) (b := 69) (mc := 0) (ms := 0) (A := [.int (nI vn)]) (S := []) (L0 := [some (.ref 69), some (.int (nI vn)), none]) dX8_behind_28 rfl km_X8_goesOn kk_X8_163 F88.1 ⟨by decide, rfl⟩ rfl ⟨rfl, by decide⟩ rfl (Nat.le_of_ble_eq_true rfl) (Nat.zero_add _) (Nat.zero_add _) rfl ?_
        have o4x := ho4
        refine m_go (p := vn) (c := c) (fr := fr) (by omega) F88 (mi_rk hK (tc_txm hC)) (fun o9x92 N9x93 a9x94 h9x95 hrx96 Fx97 olx98 alx99 fzx100 => ?_)
        have eNx101 : N9x93 = goF c fr (-1) vn N := go_m _ _ _ hC hK (o4x ▸ hrx96)
        subst eNx101
        have o4102 := ((olx98 4 (by decide)).trans o4x)
        have h74103 : ∀ j, j < 62 → a9x94 74 j = N j := (fun j hj => (congrFun (alx99 74 (by decide) (by decide) (by decide)) j).trans (eT89 j hj))
        refine aw_iload_n (npc := 32) rfl dX8_behind_31 rfl ?_
        refine aw_if_ne (npc := 35) (tgt := 44) dX8_behind_32 rfl (by decide) (fun _ => ?_) (fun hc => absurd hc (by decide))
        refine aw_iload_n (npc := 45) rfl dX8_behind_44 rfl ?_
        refine aw_iconst (npc := 46) (v := 1) (by decide) dX8_behind_45 rfl ?_
        refine aw_icmp_ne (npc := 49) (tgt := 56) dX8_behind_46 rfl (by decide) (fun _ => ?_) (fun hc => absurd hc (by decide))
        refine aw_iload_n (npc := 57) rfl dX8_behind_56 rfl ?_
        refine aw_iconst (npc := 58) (v := 2) (by decide) dX8_behind_57 rfl ?_
        refine aw_icmp_ne (npc := 61) (tgt := 76) dX8_behind_58 rfl (by decide) (fun _ => ?_) (fun hc => absurd hc (by decide))
        refine aw_aload_n (npc := 77) rfl dX8_behind_76 rfl ?_
        refine aw_get (npc := 80) dX8_behind_77 rfl kf_X8_9 Fx97.1 rfl ?_
        refine aw_bipush (npc := 82) (v := 6) (by decide) dX8_behind_80 rfl ?_
        refine aw_iald (npc := 83) (x := (goF c fr (-1) vn N) 6) (j := 6) dX8_behind_82 rfl Fx97.2.1 ⟨by decide, by decide⟩ (tl_at (by omega)) ?_
        refine aw_istore_n (npc := 84) (L' := [some (.ref 69), some (.int (nI vn)), some (.int 3), some (.int ((goF c fr (-1) vn N) 6))]) dX8_behind_83 rfl (by decide) rfl rfl ?_
        refine aw_aload_n (npc := 85) rfl dX8_behind_84 rfl ?_
        refine aw_callV (npc := 88) (N := mX8_putsBack) (b := 69) (mc := 0) (ms := 0) (A := []) (S := []) (L0 := [some (.ref 69), none]) dX8_behind_85 rfl km_X8_putsBack kk_X8_175 Fx97.1 ⟨by decide, rfl⟩ rfl ⟨rfl, by decide⟩ rfl (Nat.le_of_ble_eq_true rfl) (Nat.zero_add _) (Nat.zero_add _) rfl ?_
        refine m_puts Fx97 (fun N8104 hp105 F106 e8107 c8108 fz109 => ?_)
        have eN110 : N8104 = N := funext (fun j => by
          by_cases hj : j < 62
          · exact (e8107 j hj).trans (h74103 j hj)
          · have hj : 62 ≤ j := by omega
            exact (c8108 j hj).trans ((goF_62 hK.2.1 hj).trans rfl))
        rw [eN110] at F106
        refine aw_iload_n (npc := 89) rfl dX8_behind_88 rfl ?_
        refine aw_iret rfl dX8_behind_89 ?_
        exact hq _ _ _ _ (by simp [bhV, cI, hw1, hw2, fvn]) F106 (ol_end (olT_u (olT_t (olT_6 olx98) olT_0)) (Eq.trans pk_us ho4.symm)) (alT_t (alT_3 alx99) (alT_t (alT_4 cT90) alT_0)) (am_fpT (fun k (hk : k < 69 ∨ 92 ≤ k) => fz109 k (by omega)) (am_fpT (fun k (hk : k < 69 ∨ 92 ≤ k) => fzx100 k (by omega)) (am_fpT (fun k (hk : k < 69 ∨ 92 ≤ k) => fz91 k (by omega)) am_fp0)))
    · refine aw_re (S' := [.int 0]) rfl ?_
      refine aw_if_ne (npc := 19) (tgt := 22) dX8_behind_16 rfl (by decide) (fun hc => absurd (by decide) hc) (fun _ => ?_)
      refine aw_ldc (npc := 21) kc_X8_91 dX8_behind_19 rfl ?_
      refine aw_iret rfl dX8_behind_21 ?_
      exact hq _ _ _ _ (by simp [bhV, cI, hw1, hw2, fvn, nwi_1 hw2 (k := 0) ⟨by decide, by decide⟩, nwi_1 hw2 (k := 1) ⟨by decide, by decide⟩, nwi_1 hw2 (k := 2) ⟨by decide, by decide⟩, nwi_1 hw2 (k := 3) ⟨by decide, by decide⟩]) F (ol_end olT_0 (Eq.trans ho4 ho4.symm)) alT_0 am_fp0
  · refine aw_re (S' := [.int 0]) rfl ?_
    refine aw_if_eq (npc := 10) (tgt := 19) dX8_behind_7 rfl (by decide) (fun _ => ?_) (fun hc => absurd (by decide) hc)
    refine aw_ldc (npc := 21) kc_X8_91 dX8_behind_19 rfl ?_
    refine aw_iret rfl dX8_behind_21 ?_
    exact hq _ _ _ _ (by simp [bhV, cI, hw1]) F (ol_end olT_0 (Eq.trans ho4 ho4.symm)) alT_0 am_fp0
set_option maxHeartbeats 4000000 in
set_option maxRecDepth 100000 in
theorem m_ew {X : List Int32} {d rc rs n : Nat} {Q : am_Q} {h : am_H} {o N : Nat → Int32} {a : Nat → Nat → Int32} {fr c : Nat} {tb : TB} {tx : List Value} {lk N0 : Nat → Int32} {K : Nat} {wo : Int32} (hK60 : K < 1000) (F : MR o N a h) (hC : TC tb tx lk N c) (hK : RK N fr c) (h74 : ∀ j, j < 62 → a 74 j = N0 j) (h62 : ∀ j, 62 ≤ j → N j = N0 j) (ho : o 4 = wo) (k1 : peace (goF c fr wo K N) → ∀ o9 a9 h9, MR o9 N0 a9 h9 → o9 4 = -1 → olT o9 o → al3 a9 a → am_fp (fun k => k < 69 ∨ 92 ≤ k) h9 h → Q (some (.int 1)) n h9) (k0 : ¬ peace (goF c fr wo K N) → ∀ o9 a9 h9, MR o9 N0 a9 h9 → o9 4 = -1 → olT o9 o → al3 a9 a → am_fp (fun k => k < 69 ∨ 92 ≤ k) h9 h → Q (some (.int 0)) n h9) : AW X mX8_endsWell (d + 30) rc rs 0 [some (.ref 69), some (.int (nI K)), none] [] n h Q := by
  refine aw_aload_n (npc := 1) rfl dX8_endsWell_0 rfl ?_
  refine aw_iload_n (npc := 2) rfl dX8_endsWell_1 rfl ?_
  refine aw_callV (npc := 5) (N := mX8_goesOn) (b := 69) (mc := 0) (ms := 0) (A := [.int (nI K)]) (S := []) (L0 := [some (.ref 69), some (.int (nI K)), none]) dX8_endsWell_2 rfl km_X8_goesOn kk_X8_163 F.1 ⟨by decide, rfl⟩ rfl ⟨rfl, by decide⟩ rfl (Nat.le_of_ble_eq_true rfl) (Nat.zero_add _) (Nat.zero_add _) rfl ?_
  have o4x := ho
  refine m_go (p := K) (c := c) (fr := fr) (by omega) F (mi_rk hK (tc_txm hC)) (fun o9x1 N9x2 a9x3 h9x4 hrx5 Fx6 olx7 alx8 fzx9 => ?_)
  have eNx10 : N9x2 = goF c fr wo K N := go_m _ _ _ hC hK (o4x ▸ hrx5)
  subst eNx10
  have o411 := ((olx7 4 (by decide)).trans o4x)
  have h7412 : ∀ j, j < 62 → a9x3 74 j = N0 j := (fun j hj => (congrFun (alx8 74 (by decide) (by decide) (by decide)) j).trans (h74 j hj))
  refine aw_aload_n (npc := 6) rfl dX8_endsWell_5 rfl ?_
  refine aw_callV (npc := 9) (N := mX8_isPeace) (b := 69) (mc := 0) (ms := 0) (A := []) (S := []) (L0 := [some (.ref 69)]) dX8_endsWell_6 rfl km_X8_isPeace kk_X8_149 Fx6.1 ⟨by decide, rfl⟩ rfl ⟨rfl, by decide⟩ rfl (Nat.le_of_ble_eq_true rfl) (Nat.zero_add _) (Nat.zero_add _) rfl ?_
  refine m_peace Fx6 (fun hp13 => ?_) (fun hp13 => ?_)
  · refine aw_re (S' := [.int 1]) rfl ?_
    refine aw_istore_n (npc := 10) (L' := [some (.ref 69), some (.int (nI K)), some (.int 1)]) dX8_endsWell_9 rfl (by decide) rfl rfl ?_
    refine aw_aload_n (npc := 11) rfl dX8_endsWell_10 rfl ?_
    refine aw_callV (npc := 14) (N := mX8_putsBack) (b := 69) (mc := 0) (ms := 0) (A := []) (S := []) (L0 := [some (.ref 69), none]) dX8_endsWell_11 rfl km_X8_putsBack kk_X8_175 Fx6.1 ⟨by decide, rfl⟩ rfl ⟨rfl, by decide⟩ rfl (Nat.le_of_ble_eq_true rfl) (Nat.zero_add _) (Nat.zero_add _) rfl ?_
    refine m_puts Fx6 (fun N814 hp15 F16 e817 c818 fz19 => ?_)
    have eN20 : N814 = N0 := funext (fun j => by
      by_cases hj : j < 62
      · exact (e817 j hj).trans (h7412 j hj)
      · have hj : 62 ≤ j := by omega
        exact (c818 j hj).trans ((goF_62 hK.2.1 hj).trans (h62 j hj)))
    subst eN20
    refine aw_iload_n (npc := 15) rfl dX8_endsWell_14 rfl ?_
    refine aw_zret rfl rfl dX8_endsWell_15 ?_
    exact k1 hp13 _ _ _ F16 pk_us (olT_u (olT_t (olT_6 olx7) olT_0)) (al3_t alx8 al3_0) (am_fpT (fun k (hk : k < 69 ∨ 92 ≤ k) => fz19 k (by omega)) (am_fpT (fun k (hk : k < 69 ∨ 92 ≤ k) => fzx9 k (by omega)) am_fp0))
  · refine aw_re (S' := [.int 0]) rfl ?_
    refine aw_istore_n (npc := 10) (L' := [some (.ref 69), some (.int (nI K)), some (.int 0)]) dX8_endsWell_9 rfl (by decide) rfl rfl ?_
    refine aw_aload_n (npc := 11) rfl dX8_endsWell_10 rfl ?_
    refine aw_callV (npc := 14) (N := mX8_putsBack) (b := 69) (mc := 0) (ms := 0) (A := []) (S := []) (L0 := [some (.ref 69), none]) dX8_endsWell_11 rfl km_X8_putsBack kk_X8_175 Fx6.1 ⟨by decide, rfl⟩ rfl ⟨rfl, by decide⟩ rfl (Nat.le_of_ble_eq_true rfl) (Nat.zero_add _) (Nat.zero_add _) rfl ?_
    refine m_puts Fx6 (fun N821 hp22 F23 e824 c825 fz26 => ?_)
    have eN27 : N821 = N0 := funext (fun j => by
      by_cases hj : j < 62
      · exact (e824 j hj).trans (h7412 j hj)
      · have hj : 62 ≤ j := by omega
        exact (c825 j hj).trans ((goF_62 hK.2.1 hj).trans (h62 j hj)))
    subst eN27
    refine aw_iload_n (npc := 15) rfl dX8_endsWell_14 rfl ?_
    refine aw_zret rfl rfl dX8_endsWell_15 ?_
    exact k0 hp13 _ _ _ F23 pk_us (olT_u (olT_t (olT_6 olx7) olT_0)) (al3_t alx8 al3_0) (am_fpT (fun k (hk : k < 69 ∨ 92 ≤ k) => fz26 k (by omega)) (am_fpT (fun k (hk : k < 69 ∨ 92 ≤ k) => fzx9 k (by omega)) am_fp0))
set_option maxHeartbeats 4000000 in
set_option maxRecDepth 100000 in
theorem M_endsL {X : List Int32} {d rc rs n : Nat} {Q : am_Q} {fr c : Nat} {tb : TB} {tx : List Value} {lk : Nat → Int32} {N : Nat → Int32} {w : Int32} (hw01 : wi w 0 1) : ∀ (m k : Nat), k + m = 201 → ∀ (v3 : Option Value) (NA o : Nat → Int32) (a : Nat → Nat → Int32) (h : am_H), MR o NA a h → TC tb tx lk NA c → RK NA fr c → (∀ j, j < 62 → a 74 j = N j) → (∀ j, 62 ≤ j → NA j = N j) → o 4 = -1 → (∀ v9 o9 a9 h9, v9 = enV c fr w m k NA → MR o9 N a9 h9 → olT o9 o → o9 4 = -1 → alT a9 a → am_fp (fun k => k < 69 ∨ 92 ≤ k) h9 h → Q (some (.int v9)) n h9) → AW X mX8_ends (d + 40) rc rs 18 [some (.ref 69), some (.int w), some (.int (nI k)), v3] [] n h Q := by
  intro m
  induction m with
  | zero =>
    intro k hk v3 NA o a h F hCA hKA h74 h62 ho4 hq
    obtain rfl : k = 201 := by omega
    refine aw_iload_n (npc := 19) rfl dX8_ends_18 rfl ?_
    refine aw_sipush (npc := 22) (v := 200) (by decide) dX8_ends_19 rfl ?_
    refine aw_icmp_gt (npc := 25) (tgt := 57) dX8_ends_22 rfl (by decide) (fun _ => ?_) (fun hc => absurd (nI_lt (a := 200) (b := 201) (by omega) (by omega)) hc)
    refine aw_aload_n (npc := 58) rfl dX8_ends_57 rfl ?_
    refine aw_callV (npc := 61) (N := mX8_isPeace) (b := 69) (mc := 0) (ms := 0) (A := []) (S := []) (L0 := [some (.ref 69)]) dX8_ends_58 rfl km_X8_isPeace kk_X8_149 F.1 ⟨by decide, rfl⟩ rfl ⟨rfl, by decide⟩ rfl (Nat.le_of_ble_eq_true rfl) (Nat.zero_add _) (Nat.zero_add _) rfl ?_
    refine m_peace F (fun hp2 => ?_) (fun hp2 => ?_)
    · refine aw_re (S' := [.int 1]) rfl ?_
      refine aw_if_eq (npc := 64) (tgt := 68) dX8_ends_61 rfl (by decide) (fun hc => absurd hc (by decide)) (fun _ => ?_)
      refine aw_iconst (npc := 65) (v := 1) (by decide) dX8_ends_64 rfl ?_
      refine aw_goto (npc := 69) dX8_ends_65 (by decide) ?_
      refine aw_istore_n (npc := 70) (L' := [some (.ref 69), some (.int w), some (.int (nI 201)), some (.int 1)]) dX8_ends_69 rfl (by decide) rfl rfl ?_
      refine aw_aload_n (npc := 71) rfl dX8_ends_70 rfl ?_
      refine aw_callV (npc := 74) (N := mX8_putsBack) (b := 69) (mc := 0) (ms := 0) (A := []) (S := []) (L0 := [some (.ref 69), none]) dX8_ends_71 rfl km_X8_putsBack kk_X8_175 F.1 ⟨by decide, rfl⟩ rfl ⟨rfl, by decide⟩ rfl (Nat.le_of_ble_eq_true rfl) (Nat.zero_add _) (Nat.zero_add _) rfl ?_
      refine m_puts F (fun N83 hp4 F5 e86 c87 fz8 => ?_)
      have eN9 : N83 = N := funext (fun j => by
        by_cases hj : j < 62
        · exact (e86 j hj).trans (h74 j hj)
        · have hj : 62 ≤ j := by omega
          exact (c87 j hj).trans (h62 j hj))
      rw [eN9] at F5
      refine aw_iload_n (npc := 75) rfl dX8_ends_74 rfl ?_
      refine aw_sipush (npc := 78) (v := 200) (by decide) dX8_ends_75 rfl ?_
      refine aw_icmp_le (npc := 81) (tgt := 86) dX8_ends_78 rfl (by decide) (fun hc => absurd hc (nI_ge (a := 200) (b := 201) (by omega) (by omega))) (fun _ => ?_)
      refine aw_ldc (npc := 83) kc_X8_82 dX8_ends_81 rfl ?_
      refine aw_goto (npc := 95) dX8_ends_83 (by decide) ?_
      refine aw_iret rfl dX8_ends_95 ?_
      exact hq _ _ _ _ (by simp [enV, cI, hp2]) F5 (olT_u olT_0) pk_us alT_0 (am_fpT (fun k (hk : k < 69 ∨ 92 ≤ k) => fz8 k (by omega)) am_fp0)
    · refine aw_re (S' := [.int 0]) rfl ?_
      refine aw_if_eq (npc := 64) (tgt := 68) dX8_ends_61 rfl (by decide) (fun _ => ?_) (fun hc => absurd (by decide) hc)
      refine aw_iconst (npc := 69) (v := 2) (by decide) dX8_ends_68 rfl ?_
      refine aw_istore_n (npc := 70) (L' := [some (.ref 69), some (.int w), some (.int (nI 201)), some (.int 2)]) dX8_ends_69 rfl (by decide) rfl rfl ?_
      refine aw_aload_n (npc := 71) rfl dX8_ends_70 rfl ?_
      refine aw_callV (npc := 74) (N := mX8_putsBack) (b := 69) (mc := 0) (ms := 0) (A := []) (S := []) (L0 := [some (.ref 69), none]) dX8_ends_71 rfl km_X8_putsBack kk_X8_175 F.1 ⟨by decide, rfl⟩ rfl ⟨rfl, by decide⟩ rfl (Nat.le_of_ble_eq_true rfl) (Nat.zero_add _) (Nat.zero_add _) rfl ?_
      refine m_puts F (fun N811 hp12 F13 e814 c815 fz16 => ?_)
      have eN17 : N811 = N := funext (fun j => by
        by_cases hj : j < 62
        · exact (e814 j hj).trans (h74 j hj)
        · have hj : 62 ≤ j := by omega
          exact (c815 j hj).trans (h62 j hj))
      rw [eN17] at F13
      refine aw_iload_n (npc := 75) rfl dX8_ends_74 rfl ?_
      refine aw_sipush (npc := 78) (v := 200) (by decide) dX8_ends_75 rfl ?_
      refine aw_icmp_le (npc := 81) (tgt := 86) dX8_ends_78 rfl (by decide) (fun hc => absurd hc (nI_ge (a := 200) (b := 201) (by omega) (by omega))) (fun _ => ?_)
      refine aw_ldc (npc := 83) kc_X8_82 dX8_ends_81 rfl ?_
      refine aw_goto (npc := 95) dX8_ends_83 (by decide) ?_
      refine aw_iret rfl dX8_ends_95 ?_
      exact hq _ _ _ _ (by simp [enV, cI, hp2]) F13 (olT_u olT_0) pk_us alT_0 (am_fpT (fun k (hk : k < 69 ∨ 92 ≤ k) => fz16 k (by omega)) am_fp0)
  | succ m ih =>
    intro k hk v3 NA o a h F hCA hKA h74 h62 ho4 hq
    refine aw_iload_n (npc := 19) rfl dX8_ends_18 rfl ?_
    refine aw_sipush (npc := 22) (v := 200) (by decide) dX8_ends_19 rfl ?_
    refine aw_icmp_gt (npc := 25) (tgt := 57) dX8_ends_22 rfl (by decide) (fun hc => absurd hc (nI_nlt (a := 200) (b := k) (by omega) (by omega))) (fun _ => ?_)
    refine aw_aload_n (npc := 26) rfl dX8_ends_25 rfl ?_
    refine aw_callV (npc := 29) (N := mX8_isPeace) (b := 69) (mc := 0) (ms := 0) (A := []) (S := []) (L0 := [some (.ref 69)]) dX8_ends_26 rfl km_X8_isPeace kk_X8_149 F.1 ⟨by decide, rfl⟩ rfl ⟨rfl, by decide⟩ rfl (Nat.le_of_ble_eq_true rfl) (Nat.zero_add _) (Nat.zero_add _) rfl ?_
    refine m_peace F (fun hp2 => ?_) (fun hp2 => ?_)
    · refine aw_re (S' := [.int 1]) rfl ?_
      refine aw_if_ne (npc := 32) (tgt := 57) dX8_ends_29 rfl (by decide) (fun _ => ?_) (fun hc => absurd hc (by decide))
      refine aw_aload_n (npc := 58) rfl dX8_ends_57 rfl ?_
      refine aw_callV (npc := 61) (N := mX8_isPeace) (b := 69) (mc := 0) (ms := 0) (A := []) (S := []) (L0 := [some (.ref 69)]) dX8_ends_58 rfl km_X8_isPeace kk_X8_149 F.1 ⟨by decide, rfl⟩ rfl ⟨rfl, by decide⟩ rfl (Nat.le_of_ble_eq_true rfl) (Nat.zero_add _) (Nat.zero_add _) rfl ?_
      refine m_peace F (fun hp9 => ?_) (fun hp9 => ?_)
      · refine aw_re (S' := [.int 1]) rfl ?_
        refine aw_if_eq (npc := 64) (tgt := 68) dX8_ends_61 rfl (by decide) (fun hc => absurd hc (by decide)) (fun _ => ?_)
        refine aw_iconst (npc := 65) (v := 1) (by decide) dX8_ends_64 rfl ?_
        refine aw_goto (npc := 69) dX8_ends_65 (by decide) ?_
        refine aw_istore_n (npc := 70) (L' := [some (.ref 69), some (.int w), some (.int (nI k)), some (.int 1)]) dX8_ends_69 rfl (by decide) rfl rfl ?_
        refine aw_aload_n (npc := 71) rfl dX8_ends_70 rfl ?_
        refine aw_callV (npc := 74) (N := mX8_putsBack) (b := 69) (mc := 0) (ms := 0) (A := []) (S := []) (L0 := [some (.ref 69), none]) dX8_ends_71 rfl km_X8_putsBack kk_X8_175 F.1 ⟨by decide, rfl⟩ rfl ⟨rfl, by decide⟩ rfl (Nat.le_of_ble_eq_true rfl) (Nat.zero_add _) (Nat.zero_add _) rfl ?_
        refine m_puts F (fun N83 hp4 F5 e86 c87 fz8 => ?_)
        have eN9 : N83 = N := funext (fun j => by
          by_cases hj : j < 62
          · exact (e86 j hj).trans (h74 j hj)
          · have hj : 62 ≤ j := by omega
            exact (c87 j hj).trans (h62 j hj))
        rw [eN9] at F5
        refine aw_iload_n (npc := 75) rfl dX8_ends_74 rfl ?_
        refine aw_sipush (npc := 78) (v := 200) (by decide) dX8_ends_75 rfl ?_
        refine aw_icmp_le (npc := 81) (tgt := 86) dX8_ends_78 rfl (by decide) (fun _ => ?_) (fun hc => absurd (nI_le (a := k) (b := 200) (by omega) (by omega)) hc)
        refine aw_iload_n (npc := 87) rfl dX8_ends_86 rfl ?_
        refine aw_if_ne (npc := 90) (tgt := 94) dX8_ends_87 rfl (by decide) (fun hc11 => ?_) (fun hc11 => ?_)
        · refine aw_iload_n (npc := 95) rfl dX8_ends_94 rfl ?_
          refine aw_iret rfl dX8_ends_95 ?_
          exact hq _ _ _ _ (by simp [enV, cI, hp2, hc11]) F5 (olT_u olT_0) pk_us alT_0 (am_fpT (fun k (hk : k < 69 ∨ 92 ≤ k) => fz8 k (by omega)) am_fp0)
        · refine aw_iload_n (npc := 91) rfl dX8_ends_90 rfl ?_
          refine aw_goto (npc := 95) dX8_ends_91 (by decide) ?_
          refine aw_iret rfl dX8_ends_95 ?_
          exact hq _ _ _ _ (by simp [enV, cI, hp2, hc11]) F5 (olT_u olT_0) pk_us alT_0 (am_fpT (fun k (hk : k < 69 ∨ 92 ≤ k) => fz8 k (by omega)) am_fp0)
      · exact absurd hp2 hp9
    · refine aw_re (S' := [.int 0]) rfl ?_
      refine aw_if_ne (npc := 32) (tgt := 57) dX8_ends_29 rfl (by decide) (fun hc => absurd (by decide) hc) (fun _ => ?_)
      refine aw_aload_n (npc := 33) rfl dX8_ends_32 rfl ?_
      refine aw_get (npc := 36) dX8_ends_33 rfl kf_X8_9 F.1 rfl ?_
      refine aw_iconst (npc := 37) (v := 3) (by decide) dX8_ends_36 rfl ?_
      refine aw_iald (npc := 38) (x := NA 3) (j := 3) dX8_ends_37 rfl F.2.1 ⟨by decide, by decide⟩ (tl_at (by omega)) ?_
      refine aw_aload_n (npc := 39) rfl dX8_ends_38 rfl ?_
      refine aw_get (npc := 42) dX8_ends_39 rfl kf_X8_9 F.1 rfl ?_
      refine aw_iconst (npc := 43) (v := 4) (by decide) dX8_ends_42 rfl ?_
      refine aw_iald (npc := 44) (x := NA 4) (j := 4) dX8_ends_43 rfl F.2.1 ⟨by decide, by decide⟩ (tl_at (by omega)) ?_
      refine aw_icmp_ge (npc := 47) (tgt := 57) dX8_ends_44 rfl (by decide) (fun hc12 => ?_) (fun hc12 => ?_)
      · refine aw_aload_n (npc := 58) rfl dX8_ends_57 rfl ?_
        refine aw_callV (npc := 61) (N := mX8_isPeace) (b := 69) (mc := 0) (ms := 0) (A := []) (S := []) (L0 := [some (.ref 69)]) dX8_ends_58 rfl km_X8_isPeace kk_X8_149 F.1 ⟨by decide, rfl⟩ rfl ⟨rfl, by decide⟩ rfl (Nat.le_of_ble_eq_true rfl) (Nat.zero_add _) (Nat.zero_add _) rfl ?_
        refine m_peace F (fun hp9 => ?_) (fun hp9 => ?_)
        · exact absurd hp9 hp2
        · refine aw_re (S' := [.int 0]) rfl ?_
          refine aw_if_eq (npc := 64) (tgt := 68) dX8_ends_61 rfl (by decide) (fun _ => ?_) (fun hc => absurd (by decide) hc)
          refine aw_iconst (npc := 69) (v := 2) (by decide) dX8_ends_68 rfl ?_
          refine aw_istore_n (npc := 70) (L' := [some (.ref 69), some (.int w), some (.int (nI k)), some (.int 2)]) dX8_ends_69 rfl (by decide) rfl rfl ?_
          refine aw_aload_n (npc := 71) rfl dX8_ends_70 rfl ?_
          refine aw_callV (npc := 74) (N := mX8_putsBack) (b := 69) (mc := 0) (ms := 0) (A := []) (S := []) (L0 := [some (.ref 69), none]) dX8_ends_71 rfl km_X8_putsBack kk_X8_175 F.1 ⟨by decide, rfl⟩ rfl ⟨rfl, by decide⟩ rfl (Nat.le_of_ble_eq_true rfl) (Nat.zero_add _) (Nat.zero_add _) rfl ?_
          refine m_puts F (fun N813 hp14 F15 e816 c817 fz18 => ?_)
          have eN19 : N813 = N := funext (fun j => by
            by_cases hj : j < 62
            · exact (e816 j hj).trans (h74 j hj)
            · have hj : 62 ≤ j := by omega
              exact (c817 j hj).trans (h62 j hj))
          rw [eN19] at F15
          refine aw_iload_n (npc := 75) rfl dX8_ends_74 rfl ?_
          refine aw_sipush (npc := 78) (v := 200) (by decide) dX8_ends_75 rfl ?_
          refine aw_icmp_le (npc := 81) (tgt := 86) dX8_ends_78 rfl (by decide) (fun _ => ?_) (fun hc => absurd (nI_le (a := k) (b := 200) (by omega) (by omega)) hc)
          refine aw_iload_n (npc := 87) rfl dX8_ends_86 rfl ?_
          refine aw_if_ne (npc := 90) (tgt := 94) dX8_ends_87 rfl (by decide) (fun hc21 => ?_) (fun hc21 => ?_)
          · refine aw_iload_n (npc := 95) rfl dX8_ends_94 rfl ?_
            refine aw_iret rfl dX8_ends_95 ?_
            exact hq _ _ _ _ (by simp [enV, cI, hp2, hc12, hc21, (show duel NA from Int32.not_lt.mpr hc12)]) F15 (olT_u olT_0) pk_us alT_0 (am_fpT (fun k (hk : k < 69 ∨ 92 ≤ k) => fz18 k (by omega)) am_fp0)
          · refine aw_iload_n (npc := 91) rfl dX8_ends_90 rfl ?_
            refine aw_goto (npc := 95) dX8_ends_91 (by decide) ?_
            refine aw_iret rfl dX8_ends_95 ?_
            exact hq _ _ _ _ (by simp [enV, cI, hp2, hc12, hc21, (show duel NA from Int32.not_lt.mpr hc12)]) F15 (olT_u olT_0) pk_us alT_0 (am_fpT (fun k (hk : k < 69 ∨ 92 ≤ k) => fz18 k (by omega)) am_fp0)
      · refine aw_aload_n (npc := 48) rfl dX8_ends_47 rfl ?_
        refine aw_callV (npc := 51) (N := mX8_post) (b := 69) (mc := 0) (ms := 0) (A := []) (S := []) (L0 := [some (.ref 69), none]) dX8_ends_48 rfl km_X8_post kk_X8_157 F.1 ⟨by decide, rfl⟩ rfl ⟨rfl, by decide⟩ rfl (Nat.le_of_ble_eq_true rfl) (Nat.zero_add _) (Nat.zero_add _) rfl ?_
        have o4x := ho4
        refine m_post (c := c) (fr := fr) F (mi_rk hKA (tc_txm hCA)) (fun o9x22 N9x23 a9x24 h9x25 hrx26 Fx27 olx28 alx29 fzx30 => ?_)
        have eNx31 : N9x23 = goF c fr (-1) 1 NA := post_m hCA hKA (o4x ▸ hrx26)
        subst eNx31
        have o432 := ((olx28 4 (by decide)).trans o4x)
        have h7433 : ∀ j, j < 62 → a9x24 74 j = N j := (fun j hj => (congrFun (alx29 74 (by decide) (by decide) (by decide)) j).trans (h74 j hj))
        refine aw_iinc (npc := 54) (v := nI (k + 1)) (L' := [some (.ref 69), some (.int w), some (.int (nI (k + 1))), v3]) dX8_ends_51 rfl rfl (nI_1 _) (by decide) rfl rfl ?_
        refine aw_goto (npc := 18) dX8_ends_54 (by decide) ?_
        refine ih (k + 1) (by omega) _ _ _ _ _ Fx27 (tc_go hKA.2.1 hCA) (rk_go _ _ hKA) h7433 (fun j hj => ((goF_62 hKA.2.1 hj).trans (h62 j hj))) o432 (fun v9 o9 a9 h9 e9 F9 ol9 o49 al9 f9 => hq v9 o9 a9 h9 ?_ F9 (olT_t ol9 (olT_t (olT_6 olx28) olT_0)) o49 (alT_t al9 (alT_t (alT_3 alx29) alT_0)) (am_fpT f9 (am_fpT (fun k (hk : k < 69 ∨ 92 ≤ k) => fzx30 k (by omega)) am_fp0)))
        rw [e9]; simp [enV, cI, hp2, hc12, (show ¬ duel NA from fun z => z (Int32.not_le.mp hc12))]
set_option maxHeartbeats 4000000 in
set_option maxRecDepth 100000 in
theorem M_ends {X : List Int32} {d rc rs n : Nat} {Q : am_Q} {h : am_H} {o N : Nat → Int32} {a : Nat → Nat → Int32} {fr c : Nat} {w : Int32} {tb : TB} {tx : List Value} {lk : Nat → Int32} (F : MR o N a h) (hR : RG N fr c) (hC : TC tb tx lk N c) (ho4 : o 4 = -1) (hq : ∀ v9 o9 a9 h9, v9 = esV c fr N w → MR o9 N a9 h9 → ol6 o9 o → alT a9 a → am_fp (fun k => k < 69 ∨ 92 ≤ k) h9 h → Q (some (.int v9)) n h9) : AW X mX8_ends (d + 40) rc rs 0 [some (.ref 69), some (.int w), none, none] [] n h Q := by
  have h8r := hR.2.1
  have h14r := hR.2.2.2.1
  have hK := rg_rk hR
  refine aw_iload_n (npc := 1) rfl dX8_ends_0 rfl ?_
  refine aw_iconst (npc := 2) (v := 0) (by decide) dX8_ends_1 rfl ?_
  refine aw_iconst (npc := 3) (v := 1) (by decide) dX8_ends_2 rfl ?_
  refine aw_callS (npc := 6) (N := mX8_in) (mc := 0) (ms := 0) (A := [.int w, .int 0, .int 1]) (S := []) (L0 := [some (.int w), some (.int 0), some (.int 1)]) dX8_ends_3 rfl km_X8_in kk_X8_83 rfl ⟨rfl, by decide⟩ rfl (Nat.le_of_ble_eq_true rfl) (Nat.zero_add _) (Nat.zero_add _) rfl ?_
  refine c_X8_in (fun hw1 => ?_) (fun hw1 => ?_)
  · refine aw_re (S' := [.int 1]) rfl ?_
    refine aw_if_ne (npc := 9) (tgt := 12) dX8_ends_6 rfl (by decide) (fun _ => ?_) (fun hc => absurd hc (by decide))
    refine aw_aload_n (npc := 13) rfl dX8_ends_12 rfl ?_
    refine aw_callV (npc := 16) (N := mX8_thinks) (b := 69) (mc := 0) (ms := 0) (A := []) (S := []) (L0 := [some (.ref 69), none]) dX8_ends_13 rfl km_X8_thinks kk_X8_169 F.1 ⟨by decide, rfl⟩ rfl ⟨rfl, by decide⟩ rfl (Nat.le_of_ble_eq_true rfl) (Nat.zero_add _) (Nat.zero_add _) rfl ?_
    refine m_thinks F (fun aT2 hp3 F4 eT5 cT6 fz7 => ?_)
    refine aw_iconst (npc := 17) (v := 0) (by decide) dX8_ends_16 rfl ?_
    refine aw_istore_n (npc := 18) (L' := [some (.ref 69), some (.int w), some (.int 0), none]) dX8_ends_17 rfl (by decide) rfl rfl ?_
    refine aw_locs (L' := [some (.ref 69), some (.int w), some (.int (nI 0)), none]) rfl ?_
    refine M_endsL (N := N) hw1 201 0 (by omega) none _ _ _ _ F4 hC hK eT5 (fun _ _ => rfl) ho4 (fun v9 o9 a9 h9 e9 F9 ol9 o49 al9 f9 => hq v9 o9 a9 h9 ?_ F9 (ol_end ol9 (o49.trans ho4.symm)) (alT_t al9 (alT_t (alT_4 cT6) alT_0)) (am_fpT f9 (am_fpT (fun k (hk : k < 69 ∨ 92 ≤ k) => fz7 k (by omega)) am_fp0)))
    rw [e9]; simp [esV, cI, hw1]
  · refine aw_re (S' := [.int 0]) rfl ?_
    refine aw_if_ne (npc := 9) (tgt := 12) dX8_ends_6 rfl (by decide) (fun hc => absurd (by decide) hc) (fun _ => ?_)
    refine aw_ldc (npc := 11) kc_X8_91 dX8_ends_9 rfl ?_
    refine aw_iret rfl dX8_ends_11 ?_
    exact hq _ _ _ _ (by simp [esV, cI, hw1]) F (ol_end olT_0 (Eq.trans ho4 ho4.symm)) alT_0 am_fp0
theorem or_0 (x : Int32) : x ||| 0 = x := Int32.or_zero
set_option maxHeartbeats 4000000 in
set_option maxRecDepth 100000 in
theorem M_heldL {X : List Int32} {d rc rs n : Nat} {Q : am_Q} {fr c : Nat} {tb : TB} {tx : List Value} {lk : Nat → Int32} {N : Nat → Int32} {K : Nat} (hK60 : K < 1000) (hC : TC tb tx lk N c) (hK : RK N fr c) : ∀ (m i : Nat), i + m = fr → ∀ (s : Int32) (o : Nat → Int32) (a : Nat → Nat → Int32) (h : am_H), MR o N a h → (∀ j, j < 62 → a 74 j = N j) → o 4 = -1 → (∀ v9 o9 a9 h9, v9 = hlM c fr K N m i s → MR o9 N a9 h9 → olT o9 o → o9 4 = -1 → alT a9 a → am_fp (fun k => k < 69 ∨ 92 ≤ k) h9 h → Q (some (.int v9)) n h9) → AW X mX8_held (d + 40) rc rs 28 [some (.ref 69), some (.int (nI K)), some (.int s), some (.int 0), some (.int (nI i))] [] n h Q := by
  have h8r := hK.2.1
  intro m
  induction m with
  | zero =>
    intro i hi s o a h F h74 ho4 hq
    obtain rfl : i = fr := by omega
    refine aw_iload (npc := 30) rfl dX8_held_28 rfl ?_
    refine aw_aload_n (npc := 31) rfl dX8_held_30 rfl ?_
    refine aw_get (npc := 34) dX8_held_31 rfl kf_X8_9 F.1 rfl ?_
    refine aw_iconst (npc := 35) (v := 1) (by decide) dX8_held_34 rfl ?_
    refine aw_iald (npc := 36) (x := N 1) (j := 1) dX8_held_35 rfl F.2.1 ⟨by decide, by decide⟩ (tl_at (by omega)) ?_
    refine aw_top (y := nI i) (hK.1) ?_
    refine aw_icmp_ge (npc := 39) (tgt := 74) dX8_held_36 rfl (by decide) (fun _ => ?_) (fun hc => absurd (nI_le (a := i) (b := i) (by omega) (by omega)) hc)
    refine aw_iload_n (npc := 75) rfl dX8_held_74 rfl ?_
    refine aw_iret rfl dX8_held_75 ?_
    exact hq _ _ _ _ rfl F olT_0 ho4 alT_0 am_fp0
  | succ m ih =>
    intro i hi s o a h F h74 ho4 hq
    refine aw_iload (npc := 30) rfl dX8_held_28 rfl ?_
    refine aw_aload_n (npc := 31) rfl dX8_held_30 rfl ?_
    refine aw_get (npc := 34) dX8_held_31 rfl kf_X8_9 F.1 rfl ?_
    refine aw_iconst (npc := 35) (v := 1) (by decide) dX8_held_34 rfl ?_
    refine aw_iald (npc := 36) (x := N 1) (j := 1) dX8_held_35 rfl F.2.1 ⟨by decide, by decide⟩ (tl_at (by omega)) ?_
    refine aw_top (y := nI fr) (hK.1) ?_
    refine aw_icmp_ge (npc := 39) (tgt := 74) dX8_held_36 rfl (by decide) (fun hc => absurd hc (nI_ge (a := i) (b := fr) (by omega) (by omega))) (fun _ => ?_)
    refine aw_iload_n (npc := 40) rfl dX8_held_39 rfl ?_
    refine aw_if_ne (npc := 43) (tgt := 74) dX8_held_40 rfl (by decide) (fun hc => absurd (by decide) hc) (fun _ => ?_)
    refine aw_aload_n (npc := 44) rfl dX8_held_43 rfl ?_
    refine aw_iload (npc := 46) rfl dX8_held_44 rfl ?_
    refine aw_put (npc := 49) dX8_held_46 rfl kf_X8_19 F.1 (Nat.le_of_ble_eq_true rfl) (am_ok_int _) rfl ?_
    have F2 := mr_o4 (v := nI i) F
    refine aw_iload_n (npc := 50) rfl dX8_held_49 rfl ?_
    refine aw_aload_n (npc := 51) rfl dX8_held_50 rfl ?_
    refine aw_iload_n (npc := 52) rfl dX8_held_51 rfl ?_
    refine aw_callV (npc := 55) (N := mX8_endsWell) (b := 69) (mc := 0) (ms := 0) (A := [.int (nI K)]) (S := [.int s]) (L0 := [some (.ref 69), some (.int (nI K)), none]) dX8_held_52 rfl km_X8_endsWell kk_X8_181 F2.1 ⟨by decide, rfl⟩ rfl ⟨rfl, by decide⟩ rfl (Nat.le_of_ble_eq_true rfl) (Nat.zero_add _) (Nat.zero_add _) rfl ?_
    refine m_ew (N0 := N) (K := K) (wo := (nI i)) (by omega) F2 hC hK h74 (fun j hj => rfl) pk_us (fun hp3 oE4 aE5 h9x6 Fx7 o4x8 olx9 alx10 fzx11 => ?_) (fun hp3 oE4 aE5 h9x6 Fx7 o4x8 olx9 alx10 fzx11 => ?_)
    · have h7h9x6 : ∀ j, j < 62 → aE5 74 j = N j := fun j hj => (congrFun (alx10 74 (by decide) (by decide) (by decide)) j).trans (h74 j hj)
      have fyfzx11 : ∀ k, (k < 69 ∨ 92 ≤ k) → h9x6 k = _ := fun k hk => fzx11 k hk
      refine aw_re (S' := [.int 1, .int s]) rfl ?_
      refine aw_if_eq (npc := 58) (tgt := 65) dX8_held_55 rfl (by decide) (fun hc => absurd hc (by decide)) (fun _ => ?_)
      refine aw_iconst (npc := 59) (v := 1) (by decide) dX8_held_58 rfl ?_
      refine aw_iload (npc := 61) rfl dX8_held_59 rfl ?_
      refine aw_ishl (npc := 62) dX8_held_61 rfl ?_
      refine aw_goto (npc := 66) dX8_held_62 (by decide) ?_
      refine aw_ior (npc := 67) dX8_held_66 rfl ?_
      refine aw_istore_n (npc := 68) (L' := [some (.ref 69), some (.int (nI K)), some (.int (s ||| (1 <<< ((nI i) &&& 31)))), some (.int 0), some (.int (nI i))]) dX8_held_67 rfl (by decide) rfl rfl ?_
      refine aw_iinc (npc := 71) (v := nI (i + 1)) (L' := [some (.ref 69), some (.int (nI K)), some (.int (s ||| (1 <<< ((nI i) &&& 31)))), some (.int 0), some (.int (nI (i + 1)))]) dX8_held_68 rfl rfl (nI_1 _) (by decide) rfl rfl ?_
      refine aw_goto (npc := 28) dX8_held_71 (by decide) ?_
      refine ih (i + 1) (by omega) (s ||| (1 <<< ((nI i) &&& 31))) _ _ _ Fx7 h7h9x6 o4x8 (fun v9 o9 a9 h9 e9 F9 ol9 o49 al9 f9 => hq v9 o9 a9 h9 ?_ F9 (olT_t ol9 (olT_t olx9 (olT_u olT_0))) o49 (alT_t al9 (alT_t (alT_3 alx10) alT_0)) (am_fpT f9 (am_fpT (fun k (hk : k < 69 ∨ 92 ≤ k) => fyfzx11 k (by omega)) (am_fpU (show ¬ (69 < 69 ∨ 92 ≤ 69) by omega) am_fp0))))
      rw [e9]; simp [hlM, cI, hp3]
    · have h7h9x6 : ∀ j, j < 62 → aE5 74 j = N j := fun j hj => (congrFun (alx10 74 (by decide) (by decide) (by decide)) j).trans (h74 j hj)
      have fyfzx11 : ∀ k, (k < 69 ∨ 92 ≤ k) → h9x6 k = _ := fun k hk => fzx11 k hk
      refine aw_re (S' := [.int 0, .int s]) rfl ?_
      refine aw_if_eq (npc := 58) (tgt := 65) dX8_held_55 rfl (by decide) (fun _ => ?_) (fun hc => absurd (by decide) hc)
      refine aw_iconst (npc := 66) (v := 0) (by decide) dX8_held_65 rfl ?_
      refine aw_ior (npc := 67) dX8_held_66 rfl ?_
      refine aw_istore_n (npc := 68) (L' := [some (.ref 69), some (.int (nI K)), some (.int (s ||| 0)), some (.int 0), some (.int (nI i))]) dX8_held_67 rfl (by decide) rfl rfl ?_
      refine aw_iinc (npc := 71) (v := nI (i + 1)) (L' := [some (.ref 69), some (.int (nI K)), some (.int (s ||| 0)), some (.int 0), some (.int (nI (i + 1)))]) dX8_held_68 rfl rfl (nI_1 _) (by decide) rfl rfl ?_
      refine aw_goto (npc := 28) dX8_held_71 (by decide) ?_
      refine aw_locs (L' := [some (.ref 69), some (.int (nI K)), some (.int s), some (.int 0), some (.int (nI (i + 1)))]) (by rw [or_0]) ?_
      refine ih (i + 1) (by omega) s _ _ _ Fx7 h7h9x6 o4x8 (fun v9 o9 a9 h9 e9 F9 ol9 o49 al9 f9 => hq v9 o9 a9 h9 ?_ F9 (olT_t ol9 (olT_t olx9 (olT_u olT_0))) o49 (alT_t al9 (alT_t (alT_3 alx10) alT_0)) (am_fpT f9 (am_fpT (fun k (hk : k < 69 ∨ 92 ≤ k) => fyfzx11 k (by omega)) (am_fpU (show ¬ (69 < 69 ∨ 92 ≤ 69) by omega) am_fp0))))
      rw [e9]; simp [hlM, cI, hp3]
set_option maxHeartbeats 4000000 in
set_option maxRecDepth 100000 in
theorem M_held {X : List Int32} {d rc rs n : Nat} {Q : am_Q} {h : am_H} {o N : Nat → Int32} {a : Nat → Nat → Int32} {fr c : Nat} {v : Int32} {tb : TB} {tx : List Value} {lk : Nat → Int32} (F : MR o N a h) (hR : RG N fr c) (hC : TC tb tx lk N c) (ho4 : o 4 = -1) (hq : ∀ v9 o9 a9 h9, v9 = heV c fr N v → MR o9 N a9 h9 → ol6 o9 o → alT a9 a → am_fp (fun k => k < 69 ∨ 92 ≤ k) h9 h → Q (some (.int v9)) n h9) : AW X mX8_held (d + 40) rc rs 0 [some (.ref 69), some (.int v), none, none, none] [] n h Q := by
  have h8r := hR.2.1
  have h14r := hR.2.2.2.1
  have hK := rg_rk hR
  refine aw_iload_n (npc := 1) rfl dX8_held_0 rfl ?_
  refine aw_iconst (npc := 2) (v := 1) (by decide) dX8_held_1 rfl ?_
  refine aw_bipush (npc := 4) (v := 60) (by decide) dX8_held_2 rfl ?_
  refine aw_callS (npc := 7) (N := mX8_in) (mc := 0) (ms := 0) (A := [.int v, .int 1, .int 60]) (S := []) (L0 := [some (.int v), some (.int 1), some (.int 60)]) dX8_held_4 rfl km_X8_in kk_X8_83 rfl ⟨rfl, by decide⟩ rfl (Nat.le_of_ble_eq_true rfl) (Nat.zero_add _) (Nat.zero_add _) rfl ?_
  refine c_X8_in (fun hw1 => ?_) (fun hw1 => ?_)
  · obtain ⟨vn, hvn, evn⟩ := wi_nI (H := 60) (by decide) (by decide) hw1
    subst evn
    have fvn : fN (nI vn) = vn := fN_nI (by omega)
    refine aw_re (S' := [.int 1]) rfl ?_
    refine aw_if_ne (npc := 10) (tgt := 13) dX8_held_7 rfl (by decide) (fun _ => ?_) (fun hc => absurd hc (by decide))
    refine aw_aload_n (npc := 14) rfl dX8_held_13 rfl ?_
    refine aw_callV (npc := 17) (N := mX8_thinks) (b := 69) (mc := 0) (ms := 0) (A := []) (S := []) (L0 := [some (.ref 69), none]) dX8_held_14 rfl km_X8_thinks kk_X8_169 F.1 ⟨by decide, rfl⟩ rfl ⟨rfl, by decide⟩ rfl (Nat.le_of_ble_eq_true rfl) (Nat.zero_add _) (Nat.zero_add _) rfl ?_
    refine m_thinks F (fun aT2 hp3 F4 eT5 cT6 fz7 => ?_)
    refine aw_iconst (npc := 18) (v := 0) (by decide) dX8_held_17 rfl ?_
    refine aw_istore_n (npc := 19) (L' := [some (.ref 69), some (.int (nI vn)), some (.int 0), none, none]) dX8_held_18 rfl (by decide) rfl rfl ?_
    refine aw_aload_n (npc := 20) rfl dX8_held_19 rfl ?_
    refine aw_iload_n (npc := 21) rfl dX8_held_20 rfl ?_
    refine aw_callV (npc := 24) (N := mX8_endsWell) (b := 69) (mc := 0) (ms := 0) (A := [.int (nI vn)]) (S := []) (L0 := [some (.ref 69), some (.int (nI vn)), none]) dX8_held_21 rfl km_X8_endsWell kk_X8_181 F4.1 ⟨by decide, rfl⟩ rfl ⟨rfl, by decide⟩ rfl (Nat.le_of_ble_eq_true rfl) (Nat.zero_add _) (Nat.zero_add _) rfl ?_
    refine m_ew (N0 := N) (K := vn) (wo := (-1)) (by omega) F4 hC hK eT5 (fun j hj => rfl) ho4 (fun hp8 oE9 aE10 h9x11 Fx12 o4x13 olx14 alx15 fzx16 => ?_) (fun hp8 oE9 aE10 h9x11 Fx12 o4x13 olx14 alx15 fzx16 => ?_)
    · have h7h9x11 : ∀ j, j < 62 → aE10 74 j = N j := fun j hj => (congrFun (alx15 74 (by decide) (by decide) (by decide)) j).trans (eT5 j hj)
      have fyfzx16 : ∀ k, (k < 69 ∨ 92 ≤ k) → h9x11 k = _ := fun k hk => fzx16 k hk
      refine aw_re (S' := [.int 1]) rfl ?_
      refine aw_istore_n (npc := 25) (L' := [some (.ref 69), some (.int (nI vn)), some (.int 0), some (.int 1), none]) dX8_held_24 rfl (by decide) rfl rfl ?_
      refine aw_iconst (npc := 26) (v := 0) (by decide) dX8_held_25 rfl ?_
      refine aw_istore (npc := 28) (L' := [some (.ref 69), some (.int (nI vn)), some (.int 0), some (.int 1), some (.int 0)]) dX8_held_26 rfl (by decide) rfl rfl ?_
      refine aw_iload (npc := 30) rfl dX8_held_28 rfl ?_
      refine aw_aload_n (npc := 31) rfl dX8_held_30 rfl ?_
      refine aw_get (npc := 34) dX8_held_31 rfl kf_X8_9 Fx12.1 rfl ?_
      refine aw_iconst (npc := 35) (v := 1) (by decide) dX8_held_34 rfl ?_
      refine aw_iald (npc := 36) (x := N 1) (j := 1) dX8_held_35 rfl Fx12.2.1 ⟨by decide, by decide⟩ (tl_at (by omega)) ?_
      refine aw_top (y := nI fr) (hK.1) ?_
      refine aw_icmp_ge (npc := 39) (tgt := 74) dX8_held_36 rfl (by decide) (fun hc17 => ?_) (fun hc17 => ?_)
      · have hc17N := (nI_leI (a := fr) (b := 0) (by omega) (by omega)).mp hc17
        refine aw_iload_n (npc := 75) rfl dX8_held_74 rfl ?_
        refine aw_iret rfl dX8_held_75 ?_
        exact hq _ _ _ _ (by simp [heV, cI, hw1, hp8, hc17, hc17N, fvn, Int32.not_lt.mpr hc17]) Fx12 (ol_end (olT_t olx14 olT_0) (Eq.trans o4x13 ho4.symm)) (alT_t (alT_3 alx15) (alT_t (alT_4 cT6) alT_0)) (am_fpT (fun k (hk : k < 69 ∨ 92 ≤ k) => fyfzx16 k (by omega)) (am_fpT (fun k (hk : k < 69 ∨ 92 ≤ k) => fz7 k (by omega)) am_fp0))
      · have hc17N : ¬ fr ≤ 0 := fun z9q => hc17 ((nI_leI (a := fr) (b := 0) (by omega) (by omega)).mpr z9q)
        refine aw_iload_n (npc := 40) rfl dX8_held_39 rfl ?_
        refine aw_if_ne (npc := 43) (tgt := 74) dX8_held_40 rfl (by decide) (fun _ => ?_) (fun hc => absurd hc (by decide))
        refine aw_iload_n (npc := 75) rfl dX8_held_74 rfl ?_
        refine aw_iret rfl dX8_held_75 ?_
        exact hq _ _ _ _ (by simp [heV, cI, hw1, hp8, hc17, hc17N, fvn, Int32.not_le.mp hc17]) Fx12 (ol_end (olT_t olx14 olT_0) (Eq.trans o4x13 ho4.symm)) (alT_t (alT_3 alx15) (alT_t (alT_4 cT6) alT_0)) (am_fpT (fun k (hk : k < 69 ∨ 92 ≤ k) => fyfzx16 k (by omega)) (am_fpT (fun k (hk : k < 69 ∨ 92 ≤ k) => fz7 k (by omega)) am_fp0))
    · have h7h9x11 : ∀ j, j < 62 → aE10 74 j = N j := fun j hj => (congrFun (alx15 74 (by decide) (by decide) (by decide)) j).trans (eT5 j hj)
      have fyfzx16 : ∀ k, (k < 69 ∨ 92 ≤ k) → h9x11 k = _ := fun k hk => fzx16 k hk
      refine aw_re (S' := [.int 0]) rfl ?_
      refine aw_istore_n (npc := 25) (L' := [some (.ref 69), some (.int (nI vn)), some (.int 0), some (.int 0), none]) dX8_held_24 rfl (by decide) rfl rfl ?_
      refine aw_iconst (npc := 26) (v := 0) (by decide) dX8_held_25 rfl ?_
      refine aw_istore (npc := 28) (L' := [some (.ref 69), some (.int (nI vn)), some (.int 0), some (.int 0), some (.int 0)]) dX8_held_26 rfl (by decide) rfl rfl ?_
      refine aw_locs (L' := [some (.ref 69), some (.int (nI vn)), some (.int 0), some (.int 0), some (.int (nI 0))]) rfl ?_
      refine M_heldL (K := vn) (by omega) hC hK fr 0 (by omega) 0 _ _ _ Fx12 h7h9x11 o4x13 (fun v9 o9 a9 h9 e9 F9 ol9 o49 al9 f9 => hq v9 o9 a9 h9 ?_ F9 (ol_end (olT_t ol9 (olT_t olx14 olT_0)) (o49.trans ho4.symm)) (alT_t al9 (alT_t (alT_3 alx15) (alT_t (alT_4 cT6) alT_0))) (am_fpT f9 (am_fpT (fun k (hk : k < 69 ∨ 92 ≤ k) => fyfzx16 k (by omega)) (am_fpT (fun k (hk : k < 69 ∨ 92 ≤ k) => fz7 k (by omega)) am_fp0))))
      rw [e9]; simp [heV, cI, hw1, hp8, fvn]
  · refine aw_re (S' := [.int 0]) rfl ?_
    refine aw_if_ne (npc := 10) (tgt := 13) dX8_held_7 rfl (by decide) (fun hc => absurd (by decide) hc) (fun _ => ?_)
    refine aw_ldc (npc := 12) kc_X8_91 dX8_held_10 rfl ?_
    refine aw_iret rfl dX8_held_12 ?_
    exact hq _ _ _ _ (by simp [heV, cI, hw1]) F (ol_end olT_0 (Eq.trans ho4 ho4.symm)) alT_0 am_fp0
theorem orN_n {v : Nat} (h : v < 1000) : orN (nI v) = nI v := if_neg (nI_pos (by omega))
set_option maxHeartbeats 4000000 in
set_option maxRecDepth 100000 in
theorem M_coolL {X : List Int32} {d rc rs n : Nat} {Q : am_Q} {fr c : Nat} {tb : TB} {tx : List Value} {lk : Nat → Int32} {N : Nat → Int32} {K : Nat} (hK40 : K < 1000) (hC : TC tb tx lk N c) (hK : RK N fr c) : ∀ (m : Nat), m ≤ 100 → ∀ (o : Nat → Int32) (a : Nat → Nat → Int32) (h : am_H), MR o N a h → (∀ j, j < 62 → a 74 j = N j) → o 4 = -1 → (∀ v9 o9 a9 h9, v9 = clM c fr K N m → MR o9 N a9 h9 → olT o9 o → o9 4 = -1 → alT a9 a → am_fp (fun k => k < 69 ∨ 92 ≤ k) h9 h → Q (some (.int v9)) n h9) → AW X mX8_cool (d + 40) rc rs 22 [some (.ref 69), some (.int (nI K)), some (.int (-1)), some (.int (nI m - 1))] [] n h Q := by
  have h8r := hK.2.1
  intro m
  induction m with
  | zero =>
    intro hm o a h F h74 ho4 hq
    rw [show nI 0 - 1 = (-1 : Int32) by decide]
    refine aw_iload_n (npc := 23) rfl dX8_cool_22 rfl ?_
    refine aw_if_lt (npc := 26) (tgt := 57) dX8_cool_23 rfl (by decide) (fun _ => ?_) (fun hc => absurd (by decide) hc)
    refine aw_iload_n (npc := 58) rfl dX8_cool_57 rfl ?_
    refine aw_callS (npc := 61) (N := mX8_told0) (mc := 0) (ms := 0) (A := [.int (-1)]) (S := []) (L0 := [some (.int (-1))]) dX8_cool_58 rfl km_X8_told0 kk_X8_124 rfl ⟨rfl, by decide⟩ rfl (Nat.le_of_ble_eq_true rfl) (Nat.zero_add _) (Nat.zero_add _) rfl ?_
    refine c_X8_told0 ?_
    refine aw_re (S' := [.int (orN (-1))]) rfl ?_
    refine aw_iret rfl dX8_cool_61 ?_
    exact hq _ _ _ _ (by simp [clM, orN]) F olT_0 ho4 alT_0 am_fp0
  | succ m ih =>
    intro hm o a h F h74 ho4 hq
    rw [nIs1 m (by omega)]
    refine aw_iload_n (npc := 23) rfl dX8_cool_22 rfl ?_
    refine aw_if_lt (npc := 26) (tgt := 57) dX8_cool_23 rfl (by decide) (fun hc => absurd hc (nI_pos (by omega))) (fun _ => ?_)
    refine aw_iload_n (npc := 27) rfl dX8_cool_26 rfl ?_
    refine aw_if_ge (npc := 30) (tgt := 57) dX8_cool_27 rfl (by decide) (fun hc => absurd hc (by decide)) (fun _ => ?_)
    refine aw_aload_n (npc := 31) rfl dX8_cool_30 rfl ?_
    refine aw_get (npc := 34) dX8_cool_31 rfl kf_X8_9 F.1 rfl ?_
    refine aw_iconst (npc := 35) (v := 3) (by decide) dX8_cool_34 rfl ?_
    refine aw_iload_n (npc := 36) rfl dX8_cool_35 rfl ?_
    refine aw_iast (npc := 37) (j := 3) dX8_cool_36 rfl F.2.1 ⟨by decide, by decide⟩ (by rw [tl_len]; omega) rfl ?_
    have F2 := mr_70 (j := 3) (v := nI m) F
    refine aw_aload_n (npc := 38) rfl dX8_cool_37 rfl ?_
    refine aw_iload_n (npc := 39) rfl dX8_cool_38 rfl ?_
    refine aw_callV (npc := 42) (N := mX8_endsWell) (b := 69) (mc := 0) (ms := 0) (A := [.int (nI K)]) (S := []) (L0 := [some (.ref 69), some (.int (nI K)), none]) dX8_cool_39 rfl km_X8_endsWell kk_X8_181 F2.1 ⟨by decide, rfl⟩ rfl ⟨rfl, by decide⟩ rfl (Nat.le_of_ble_eq_true rfl) (Nat.zero_add _) (Nat.zero_add _) rfl ?_
    refine m_ew (N0 := N) (K := K) (wo := (-1)) (by omega) F2 (tc_u (by omega) (by omega) hC) (rk_heat (wi_n0 (c := 99) (by omega) (by omega)) hK) h74 (fun j hj => ((pk_un (by omega)).trans rfl)) ho4 (fun hp3 oE4 aE5 h9x6 Fx7 o4x8 olx9 alx10 fzx11 => ?_) (fun hp3 oE4 aE5 h9x6 Fx7 o4x8 olx9 alx10 fzx11 => ?_)
    · have h7h9x6 : ∀ j, j < 62 → aE5 74 j = N j := fun j hj => (congrFun (alx10 74 (by decide) (by decide) (by decide)) j).trans (h74 j hj)
      have fyfzx11 : ∀ k, (k < 69 ∨ 92 ≤ k) → h9x6 k = _ := fun k hk => fzx11 k hk
      refine aw_re (S' := [.int 1]) rfl ?_
      refine aw_if_eq (npc := 45) (tgt := 49) dX8_cool_42 rfl (by decide) (fun hc => absurd hc (by decide)) (fun _ => ?_)
      refine aw_iload_n (npc := 46) rfl dX8_cool_45 rfl ?_
      refine aw_goto (npc := 50) dX8_cool_46 (by decide) ?_
      refine aw_istore_n (npc := 51) (L' := [some (.ref 69), some (.int (nI K)), some (.int (nI m)), some (.int (nI m))]) dX8_cool_50 rfl (by decide) rfl rfl ?_
      refine aw_iinc (npc := 54) (v := (nI m - 1)) (L' := [some (.ref 69), some (.int (nI K)), some (.int (nI m)), some (.int (nI m - 1))]) dX8_cool_51 rfl rfl (m1_m1 _) (by decide) rfl rfl ?_
      refine aw_goto (npc := 22) dX8_cool_54 (by decide) ?_
      refine aw_iload_n (npc := 23) rfl dX8_cool_22 rfl ?_
      refine aw_if_lt (npc := 26) (tgt := 57) dX8_cool_23 rfl (by decide) (fun hc12 => ?_) (fun hc12 => ?_)
      · refine aw_iload_n (npc := 58) rfl dX8_cool_57 rfl ?_
        refine aw_callS (npc := 61) (N := mX8_told0) (mc := 0) (ms := 0) (A := [.int (nI m)]) (S := []) (L0 := [some (.int (nI m))]) dX8_cool_58 rfl km_X8_told0 kk_X8_124 rfl ⟨rfl, by decide⟩ rfl (Nat.le_of_ble_eq_true rfl) (Nat.zero_add _) (Nat.zero_add _) rfl ?_
        refine c_X8_told0 ?_
        refine aw_re (S' := [.int (orN (nI m))]) rfl ?_
        refine aw_iret rfl dX8_cool_61 ?_
        exact hq _ _ _ _ (by simp [clM, cI, hp3, hc12, orN_n (show m < 1000 by omega)]) Fx7 (olT_t olx9 olT_0) o4x8 (alT_t (alT_3 alx10) alT_0) (am_fpT (fun k (hk : k < 69 ∨ 92 ≤ k) => fyfzx11 k (by omega)) (am_fpU (show ¬ (70 < 69 ∨ 92 ≤ 70) by omega) am_fp0))
      · refine aw_iload_n (npc := 27) rfl dX8_cool_26 rfl ?_
        refine aw_if_ge (npc := 30) (tgt := 57) dX8_cool_27 rfl (by decide) (fun _ => ?_) (fun hc => absurd (nI_pos' (by omega)) hc)
        refine aw_iload_n (npc := 58) rfl dX8_cool_57 rfl ?_
        refine aw_callS (npc := 61) (N := mX8_told0) (mc := 0) (ms := 0) (A := [.int (nI m)]) (S := []) (L0 := [some (.int (nI m))]) dX8_cool_58 rfl km_X8_told0 kk_X8_124 rfl ⟨rfl, by decide⟩ rfl (Nat.le_of_ble_eq_true rfl) (Nat.zero_add _) (Nat.zero_add _) rfl ?_
        refine c_X8_told0 ?_
        refine aw_re (S' := [.int (orN (nI m))]) rfl ?_
        refine aw_iret rfl dX8_cool_61 ?_
        exact hq _ _ _ _ (by simp [clM, cI, hp3, hc12, orN_n (show m < 1000 by omega)]) Fx7 (olT_t olx9 olT_0) o4x8 (alT_t (alT_3 alx10) alT_0) (am_fpT (fun k (hk : k < 69 ∨ 92 ≤ k) => fyfzx11 k (by omega)) (am_fpU (show ¬ (70 < 69 ∨ 92 ≤ 70) by omega) am_fp0))
    · have h7h9x6 : ∀ j, j < 62 → aE5 74 j = N j := fun j hj => (congrFun (alx10 74 (by decide) (by decide) (by decide)) j).trans (h74 j hj)
      have fyfzx11 : ∀ k, (k < 69 ∨ 92 ≤ k) → h9x6 k = _ := fun k hk => fzx11 k hk
      refine aw_re (S' := [.int 0]) rfl ?_
      refine aw_if_eq (npc := 45) (tgt := 49) dX8_cool_42 rfl (by decide) (fun _ => ?_) (fun hc => absurd (by decide) hc)
      refine aw_iconst (npc := 50) (v := -1) (by decide) dX8_cool_49 rfl ?_
      refine aw_istore_n (npc := 51) (L' := [some (.ref 69), some (.int (nI K)), some (.int (-1)), some (.int (nI m))]) dX8_cool_50 rfl (by decide) rfl rfl ?_
      refine aw_iinc (npc := 54) (v := (nI m - 1)) (L' := [some (.ref 69), some (.int (nI K)), some (.int (-1)), some (.int (nI m - 1))]) dX8_cool_51 rfl rfl (m1_m1 _) (by decide) rfl rfl ?_
      refine aw_goto (npc := 22) dX8_cool_54 (by decide) ?_
      refine ih (by omega) _ _ _ Fx7 h7h9x6 o4x8 (fun v9 o9 a9 h9 e9 F9 ol9 o49 al9 f9 => hq v9 o9 a9 h9 ?_ F9 (olT_t ol9 (olT_t olx9 olT_0)) o49 (alT_t al9 (alT_t (alT_3 alx10) alT_0)) (am_fpT f9 (am_fpT (fun k (hk : k < 69 ∨ 92 ≤ k) => fyfzx11 k (by omega)) (am_fpU (show ¬ (70 < 69 ∨ 92 ≤ 70) by omega) am_fp0))))
      rw [e9]; simp [clM, cI, hp3]
set_option maxHeartbeats 4000000 in
set_option maxRecDepth 100000 in
theorem M_cool {X : List Int32} {d rc rs n : Nat} {Q : am_Q} {h : am_H} {o N : Nat → Int32} {a : Nat → Nat → Int32} {fr c : Nat} {v : Int32} {tb : TB} {tx : List Value} {lk : Nat → Int32} (F : MR o N a h) (hR : RG N fr c) (hC : TC tb tx lk N c) (ho4 : o 4 = -1) (hq : ∀ v9 o9 a9 h9, v9 = coolV c fr N v → MR o9 N a9 h9 → ol6 o9 o → alT a9 a → am_fp (fun k => k < 69 ∨ 92 ≤ k) h9 h → Q (some (.int v9)) n h9) : AW X mX8_cool (d + 40) rc rs 0 [some (.ref 69), some (.int v), none, none] [] n h Q := by
  have h8r := hR.2.1
  have h14r := hR.2.2.2.1
  have hK := rg_rk hR
  refine aw_iload_n (npc := 1) rfl dX8_cool_0 rfl ?_
  refine aw_iconst (npc := 2) (v := 1) (by decide) dX8_cool_1 rfl ?_
  refine aw_bipush (npc := 4) (v := 40) (by decide) dX8_cool_2 rfl ?_
  refine aw_callS (npc := 7) (N := mX8_in) (mc := 0) (ms := 0) (A := [.int v, .int 1, .int 40]) (S := []) (L0 := [some (.int v), some (.int 1), some (.int 40)]) dX8_cool_4 rfl km_X8_in kk_X8_83 rfl ⟨rfl, by decide⟩ rfl (Nat.le_of_ble_eq_true rfl) (Nat.zero_add _) (Nat.zero_add _) rfl ?_
  refine c_X8_in (fun hw1 => ?_) (fun hw1 => ?_)
  · obtain ⟨vn, hvn, evn⟩ := wi_nI (H := 40) (by decide) (by decide) hw1
    subst evn
    have fvn : fN (nI vn) = vn := fN_nI (by omega)
    refine aw_re (S' := [.int 1]) rfl ?_
    refine aw_if_ne (npc := 10) (tgt := 13) dX8_cool_7 rfl (by decide) (fun _ => ?_) (fun hc => absurd hc (by decide))
    refine aw_aload_n (npc := 14) rfl dX8_cool_13 rfl ?_
    refine aw_callV (npc := 17) (N := mX8_thinks) (b := 69) (mc := 0) (ms := 0) (A := []) (S := []) (L0 := [some (.ref 69), none]) dX8_cool_14 rfl km_X8_thinks kk_X8_169 F.1 ⟨by decide, rfl⟩ rfl ⟨rfl, by decide⟩ rfl (Nat.le_of_ble_eq_true rfl) (Nat.zero_add _) (Nat.zero_add _) rfl ?_
    refine m_thinks F (fun aT2 hp3 F4 eT5 cT6 fz7 => ?_)
    refine aw_iconst (npc := 18) (v := -1) (by decide) dX8_cool_17 rfl ?_
    refine aw_istore_n (npc := 19) (L' := [some (.ref 69), some (.int (nI vn)), some (.int (-1)), none]) dX8_cool_18 rfl (by decide) rfl rfl ?_
    refine aw_bipush (npc := 21) (v := 99) (by decide) dX8_cool_19 rfl ?_
    refine aw_istore_n (npc := 22) (L' := [some (.ref 69), some (.int (nI vn)), some (.int (-1)), some (.int 99)]) dX8_cool_21 rfl (by decide) rfl rfl ?_
    refine aw_locs (L' := [some (.ref 69), some (.int (nI vn)), some (.int (-1)), some (.int (nI 100 - 1))]) rfl ?_
    refine M_coolL (K := vn) (by omega) hC hK 100 (by omega) _ _ _ F4 eT5 ho4 (fun v9 o9 a9 h9 e9 F9 ol9 o49 al9 f9 => hq v9 o9 a9 h9 ?_ F9 (ol_end ol9 (o49.trans ho4.symm)) (alT_t al9 (alT_t (alT_4 cT6) alT_0)) (am_fpT f9 (am_fpT (fun k (hk : k < 69 ∨ 92 ≤ k) => fz7 k (by omega)) am_fp0)))
    rw [e9]; simp [coolV, cI, hw1, fvn]
  · refine aw_re (S' := [.int 0]) rfl ?_
    refine aw_if_ne (npc := 10) (tgt := 13) dX8_cool_7 rfl (by decide) (fun hc => absurd (by decide) hc) (fun _ => ?_)
    refine aw_ldc (npc := 12) kc_X8_91 dX8_cool_10 rfl ?_
    refine aw_iret rfl dX8_cool_12 ?_
    exact hq _ _ _ _ (by simp [coolV, cI, hw1]) F (ol_end olT_0 (Eq.trans ho4 ho4.symm)) alT_0 am_fp0
def mb1 : Option (Nat × Int32) → Int32
  | none => -1
  | some p => nI p.1
def mb2 : Option (Nat × Int32) → Int32
  | none => 0
  | some p => p.2
set_option maxHeartbeats 4000000 in
set_option maxRecDepth 100000 in
theorem M_boughtL {X : List Int32} {d rc rs n : Nat} {Q : am_Q} {fr c : Nat} {tb : TB} {tx : List Value} {lk : Nat → Int32} {N : Nat → Int32} {K : Nat} {w : Int32} (hK60 : K < 1000) (hC : TC tb tx lk N c) (hK : RK N fr c) : ∀ (m i : Nat), i + m = fr → ∀ (p : Option (Nat × Int32)), (∀ q, p = some q → q.1 < 8) → ∀ (v6 : Option Value) (o : Nat → Int32) (a : Nat → Nat → Int32) (h : am_H), MR o N a h → (∀ j, j < 62 → a 74 j = N j) → o 4 = -1 → (∀ v9 o9 a9 h9, v9 = cI (w = 0) (bt1 (btM c fr K N m i p)) (bt2 (btM c fr K N m i p)) → MR o9 N a9 h9 → olT o9 o → o9 4 = -1 → alT a9 a → am_fp (fun k => k < 69 ∨ 92 ≤ k) h9 h → Q (some (.int v9)) n h9) → AW X mX8_bought (d + 40) rc rs 34 [some (.ref 69), some (.int (nI K)), some (.int w), some (.int (mb1 p)), some (.int (mb2 p)), some (.int (nI i)), v6] [] n h Q := by
  have h8r := hK.2.1
  intro m
  induction m with
  | zero =>
    intro i hi p hp v6 o a h F h74 ho4 hq
    obtain rfl : i = fr := by omega
    cases p with
    | none =>
      show AW X mX8_bought (d + 40) rc rs 34 [some (.ref 69), some (.int (nI K)), some (.int w), some (.int (-1)), some (.int 0), some (.int (nI i)), v6] [] n h Q
      refine aw_iload (npc := 36) rfl dX8_bought_34 rfl ?_
      refine aw_aload_n (npc := 37) rfl dX8_bought_36 rfl ?_
      refine aw_get (npc := 40) dX8_bought_37 rfl kf_X8_9 F.1 rfl ?_
      refine aw_iconst (npc := 41) (v := 1) (by decide) dX8_bought_40 rfl ?_
      refine aw_iald (npc := 42) (x := N 1) (j := 1) dX8_bought_41 rfl F.2.1 ⟨by decide, by decide⟩ (tl_at (by omega)) ?_
      refine aw_top (y := nI i) (hK.1) ?_
      refine aw_icmp_ge (npc := 45) (tgt := 99) dX8_bought_42 rfl (by decide) (fun _ => ?_) (fun hc => absurd (nI_le (a := i) (b := i) (by omega) (by omega)) hc)
      refine aw_iload_n (npc := 100) rfl dX8_bought_99 rfl ?_
      refine aw_if_ge (npc := 103) (tgt := 108) dX8_bought_100 rfl (by decide) (fun hc => absurd hc (by decide)) (fun _ => ?_)
      refine aw_ldc (npc := 105) kc_X8_82 dX8_bought_103 rfl ?_
      refine aw_goto (npc := 118) dX8_bought_105 (by decide) ?_
      refine aw_iret rfl dX8_bought_118 ?_
      exact hq _ _ _ _ (by simp [cI, btM, bt1, bt2]) F olT_0 ho4 alT_0 am_fp0
    | some p =>
      have hp8 := hp p rfl
      show AW X mX8_bought (d + 40) rc rs 34 [some (.ref 69), some (.int (nI K)), some (.int w), some (.int (nI p.1)), some (.int p.2), some (.int (nI i)), v6] [] n h Q
      refine aw_iload (npc := 36) rfl dX8_bought_34 rfl ?_
      refine aw_aload_n (npc := 37) rfl dX8_bought_36 rfl ?_
      refine aw_get (npc := 40) dX8_bought_37 rfl kf_X8_9 F.1 rfl ?_
      refine aw_iconst (npc := 41) (v := 1) (by decide) dX8_bought_40 rfl ?_
      refine aw_iald (npc := 42) (x := N 1) (j := 1) dX8_bought_41 rfl F.2.1 ⟨by decide, by decide⟩ (tl_at (by omega)) ?_
      refine aw_top (y := nI i) (hK.1) ?_
      refine aw_icmp_ge (npc := 45) (tgt := 99) dX8_bought_42 rfl (by decide) (fun _ => ?_) (fun hc => absurd (nI_le (a := i) (b := i) (by omega) (by omega)) hc)
      refine aw_iload_n (npc := 100) rfl dX8_bought_99 rfl ?_
      refine aw_if_ge (npc := 103) (tgt := 108) dX8_bought_100 rfl (by decide) (fun _ => ?_) (fun hc => absurd (nI_pos' (by omega)) hc)
      refine aw_iload_n (npc := 109) rfl dX8_bought_108 rfl ?_
      refine aw_if_ne (npc := 112) (tgt := 116) dX8_bought_109 rfl (by decide) (fun hc3 => ?_) (fun hc3 => ?_)
      · refine aw_iload (npc := 118) rfl dX8_bought_116 rfl ?_
        refine aw_iret rfl dX8_bought_118 ?_
        exact hq _ _ _ _ (by simp [cI, btM, bt1, bt2, hc3]) F olT_0 ho4 alT_0 am_fp0
      · refine aw_iload_n (npc := 113) rfl dX8_bought_112 rfl ?_
        refine aw_goto (npc := 118) dX8_bought_113 (by decide) ?_
        refine aw_iret rfl dX8_bought_118 ?_
        exact hq _ _ _ _ (by simp [cI, btM, bt1, bt2, hc3]) F olT_0 ho4 alT_0 am_fp0
  | succ m ih =>
    intro i hi p hp v6 o a h F h74 ho4 hq
    cases p with
    | none =>
      show AW X mX8_bought (d + 40) rc rs 34 [some (.ref 69), some (.int (nI K)), some (.int w), some (.int (-1)), some (.int 0), some (.int (nI i)), v6] [] n h Q
      refine aw_iload (npc := 36) rfl dX8_bought_34 rfl ?_
      refine aw_aload_n (npc := 37) rfl dX8_bought_36 rfl ?_
      refine aw_get (npc := 40) dX8_bought_37 rfl kf_X8_9 F.1 rfl ?_
      refine aw_iconst (npc := 41) (v := 1) (by decide) dX8_bought_40 rfl ?_
      refine aw_iald (npc := 42) (x := N 1) (j := 1) dX8_bought_41 rfl F.2.1 ⟨by decide, by decide⟩ (tl_at (by omega)) ?_
      refine aw_top (y := nI fr) (hK.1) ?_
      refine aw_icmp_ge (npc := 45) (tgt := 99) dX8_bought_42 rfl (by decide) (fun hc => absurd hc (nI_ge (a := i) (b := fr) (by omega) (by omega))) (fun _ => ?_)
      refine aw_aload_n (npc := 46) rfl dX8_bought_45 rfl ?_
      refine aw_iload (npc := 48) rfl dX8_bought_46 rfl ?_
      refine aw_iconst (npc := 49) (v := 0) (by decide) dX8_bought_48 rfl ?_
      refine aw_iconst (npc := 50) (v := 5) (by decide) dX8_bought_49 rfl ?_
      refine aw_callV (npc := 53) (N := mX8_put) (b := 69) (mc := 0) (ms := 0) (A := [.int (nI i), .int 0, .int 5]) (S := []) (L0 := [some (.ref 69), some (.int (nI i)), some (.int 0), some (.int 5)]) dX8_bought_50 rfl km_X8_put kk_X8_87 F.1 ⟨by decide, rfl⟩ rfl ⟨rfl, by decide⟩ rfl (Nat.le_of_ble_eq_true rfl) (Nat.zero_add _) (Nat.zero_add _) rfl ?_
      refine m_put0 (f := i) (v := 5) F (by omega) (fun hp4 F2 fb3 => ?_)
      refine aw_aload_n (npc := 54) rfl dX8_bought_53 rfl ?_
      refine aw_iload_n (npc := 55) rfl dX8_bought_54 rfl ?_
      refine aw_callV (npc := 58) (N := mX8_goesOn) (b := 69) (mc := 0) (ms := 0) (A := [.int (nI K)]) (S := []) (L0 := [some (.ref 69), some (.int (nI K)), none]) dX8_bought_55 rfl km_X8_goesOn kk_X8_163 F2.1 ⟨by decide, rfl⟩ rfl ⟨rfl, by decide⟩ rfl (Nat.le_of_ble_eq_true rfl) (Nat.zero_add _) (Nat.zero_add _) rfl ?_
      have hT5 : TC tb tx lk (upd N (22 + 5 * i) 5) c := (tc_u (by omega) (by omega) hC)
      have hK6 : RK (upd N (22 + 5 * i) 5) fr c := (rk_kind ⟨by decide, by decide⟩ (by omega) hK)
      have o4x := ho4
      refine m_go (p := K) (c := c) (fr := fr) (by omega) F2 (mi_rk hK6 (tc_txm hT5)) (fun o9x7 N9x8 a9x9 h9x10 hrx11 Fx12 olx13 alx14 fzx15 => ?_)
      have eNx16 : N9x8 = goF c fr (-1) K (upd N (22 + 5 * i) 5) := go_m _ _ _ hT5 hK6 (o4x ▸ hrx11)
      subst eNx16
      have o417 := ((olx13 4 (by decide)).trans o4x)
      have h7418 : ∀ j, j < 62 → a9x9 74 j = N j := (fun j hj => (congrFun (alx14 74 (by decide) (by decide) (by decide)) j).trans (h74 j hj))
      refine aw_aload_n (npc := 59) rfl dX8_bought_58 rfl ?_
      refine aw_aload_n (npc := 60) rfl dX8_bought_59 rfl ?_
      refine aw_iload (npc := 62) rfl dX8_bought_60 rfl ?_
      refine aw_iconst (npc := 63) (v := 1) (by decide) dX8_bought_62 rfl ?_
      refine aw_callV (npc := 66) (N := mX8_of) (b := 69) (mc := 0) (ms := 0) (A := [.int (nI i), .int 1]) (S := [.ref 69]) (L0 := [some (.ref 69), some (.int (nI i)), some (.int 1)]) dX8_bought_63 rfl km_X8_of kk_X8_101 Fx12.1 ⟨by decide, rfl⟩ rfl ⟨rfl, by decide⟩ rfl (Nat.le_of_ble_eq_true rfl) (Nat.zero_add _) (Nat.zero_add _) rfl ?_
      refine m_of1 (f := i) Fx12 (by omega) ?_
      refine aw_re (S' := [.int ((goF c fr (-1) K (upd N (22 + 5 * i) 5)) (23 + 5 * i)), .ref 69]) rfl ?_
      have esd : (goF c fr (-1) K (upd N (22 + 5 * i) 5)) (23 + 5 * i) = N (23 + 5 * i) := (goF_k h8r (by omega) (by omega) (by omega) (by omega) (by omega) (by omega) _ _).trans (pk_un (by omega))
      rcases wi_c0_1 (hK.2.2.2.2.1 i (by omega)).2.1 with eside | eside
      · refine aw_top (y := 0) (esd.trans eside) ?_
        refine aw_callV (npc := 69) (N := mX8_has) (b := 69) (mc := 0) (ms := 0) (A := [.int 0]) (S := []) (L0 := [some (.ref 69), some (.int 0), none, none, none]) dX8_bought_66 rfl km_X8_has kk_X8_143 Fx12.1 ⟨by decide, rfl⟩ rfl ⟨rfl, by decide⟩ rfl (Nat.le_of_ble_eq_true rfl) (Nat.zero_add _) (Nat.zero_add _) rfl ?_
        refine m_has0 Fx12 ?_
        refine aw_re (S' := [.int (hs0 (goF c fr (-1) K (upd N (22 + 5 * i) 5)))]) rfl ?_
        refine aw_istore (npc := 71) (L' := [some (.ref 69), some (.int (nI K)), some (.int w), some (.int (-1)), some (.int 0), some (.int (nI i)), some (.int (hs0 (goF c fr (-1) K (upd N (22 + 5 * i) 5))))]) dX8_bought_69 rfl (by decide) rfl rfl ?_
        refine aw_aload_n (npc := 72) rfl dX8_bought_71 rfl ?_
        refine aw_callV (npc := 75) (N := mX8_putsBack) (b := 69) (mc := 0) (ms := 0) (A := []) (S := []) (L0 := [some (.ref 69), none]) dX8_bought_72 rfl km_X8_putsBack kk_X8_175 Fx12.1 ⟨by decide, rfl⟩ rfl ⟨rfl, by decide⟩ rfl (Nat.le_of_ble_eq_true rfl) (Nat.zero_add _) (Nat.zero_add _) rfl ?_
        refine m_puts Fx12 (fun N819 hp20 F21 e822 c823 fz24 => ?_)
        have eN25 : N819 = N := funext (fun j => by
          by_cases hj : j < 62
          · exact (e822 j hj).trans (h7418 j hj)
          · have hj : 62 ≤ j := by omega
            exact (c823 j hj).trans ((goF_62 hK6.2.1 hj).trans ((pk_un (by omega)).trans rfl)))
        rw [eN25] at F21
        refine aw_iload_n (npc := 76) rfl dX8_bought_75 rfl ?_
        refine aw_if_lt (npc := 79) (tgt := 86) dX8_bought_76 rfl (by decide) (fun _ => ?_) (fun hc => absurd (by decide) hc)
        refine aw_iload (npc := 88) rfl dX8_bought_86 rfl ?_
        refine aw_istore_n (npc := 89) (L' := [some (.ref 69), some (.int (nI K)), some (.int w), some (.int (nI i)), some (.int 0), some (.int (nI i)), some (.int (hs0 (goF c fr (-1) K (upd N (22 + 5 * i) 5))))]) dX8_bought_88 rfl (by decide) rfl rfl ?_
        refine aw_iload (npc := 91) rfl dX8_bought_89 rfl ?_
        refine aw_istore (npc := 93) (L' := [some (.ref 69), some (.int (nI K)), some (.int w), some (.int (nI i)), some (.int (hs0 (goF c fr (-1) K (upd N (22 + 5 * i) 5)))), some (.int (nI i)), some (.int (hs0 (goF c fr (-1) K (upd N (22 + 5 * i) 5))))]) dX8_bought_91 rfl (by decide) rfl rfl ?_
        refine aw_iinc (npc := 96) (v := nI (i + 1)) (L' := [some (.ref 69), some (.int (nI K)), some (.int w), some (.int (nI i)), some (.int (hs0 (goF c fr (-1) K (upd N (22 + 5 * i) 5)))), some (.int (nI (i + 1))), some (.int (hs0 (goF c fr (-1) K (upd N (22 + 5 * i) 5))))]) dX8_bought_93 rfl rfl (nI_1 _) (by decide) rfl rfl ?_
        refine aw_goto (npc := 34) dX8_bought_96 (by decide) ?_
        have el : btL c fr K N i = hs0 (goF c fr (-1) K (upd N (22 + 5 * i) 5)) := by unfold btL hsS; rw [eside]; rfl
        have e8 : btS c fr K N i none = some (i, btL c fr K N i) := by
          rfl
        refine aw_locs (L' := [some (.ref 69), some (.int (nI K)), some (.int w), some (.int (mb1 (some (i, btL c fr K N i)))), some (.int (mb2 (some (i, btL c fr K N i)))), some (.int (nI (i + 1))), some (.int (hs0 (goF c fr (-1) K (upd N (22 + 5 * i) 5))))]) (by rw [el]; rfl) ?_
        refine ih (i + 1) (by omega) (some (i, btL c fr K N i)) (e8 ▸ btS_lt (by omega) hp) _ _ _ _ F21 h7418 pk_us (fun v9 o9 a9 h9 e9 F9 ol9 o49 al9 f9 => hq v9 o9 a9 h9 ?_ F9 (olT_t ol9 (olT_u (olT_t (olT_6 olx13) olT_0))) o49 (alT_t al9 (alT_t (alT_3 alx14) alT_0)) (am_fpT f9 (am_fpT (fun k (hk : k < 69 ∨ 92 ≤ k) => fz24 k (by omega)) (am_fpT (fun k (hk : k < 69 ∨ 92 ≤ k) => fzx15 k (by omega)) (am_fpT (fun k (hk : k < 69 ∨ 92 ≤ k) => fb3 k (by omega)) am_fp0)))))
        rw [e9]; exact congrArg (fun z => cI (w = 0) (bt1 (btM c fr K N m (i + 1) z)) (bt2 (btM c fr K N m (i + 1) z))) e8.symm
      · refine aw_top (y := 1) (esd.trans eside) ?_
        refine aw_callV (npc := 69) (N := mX8_has) (b := 69) (mc := 0) (ms := 0) (A := [.int 1]) (S := []) (L0 := [some (.ref 69), some (.int 1), none, none, none]) dX8_bought_66 rfl km_X8_has kk_X8_143 Fx12.1 ⟨by decide, rfl⟩ rfl ⟨rfl, by decide⟩ rfl (Nat.le_of_ble_eq_true rfl) (Nat.zero_add _) (Nat.zero_add _) rfl ?_
        refine m_has1 Fx12 ?_
        refine aw_re (S' := [.int (hs1 (goF c fr (-1) K (upd N (22 + 5 * i) 5)))]) rfl ?_
        refine aw_istore (npc := 71) (L' := [some (.ref 69), some (.int (nI K)), some (.int w), some (.int (-1)), some (.int 0), some (.int (nI i)), some (.int (hs1 (goF c fr (-1) K (upd N (22 + 5 * i) 5))))]) dX8_bought_69 rfl (by decide) rfl rfl ?_
        refine aw_aload_n (npc := 72) rfl dX8_bought_71 rfl ?_
        refine aw_callV (npc := 75) (N := mX8_putsBack) (b := 69) (mc := 0) (ms := 0) (A := []) (S := []) (L0 := [some (.ref 69), none]) dX8_bought_72 rfl km_X8_putsBack kk_X8_175 Fx12.1 ⟨by decide, rfl⟩ rfl ⟨rfl, by decide⟩ rfl (Nat.le_of_ble_eq_true rfl) (Nat.zero_add _) (Nat.zero_add _) rfl ?_
        refine m_puts Fx12 (fun N826 hp27 F28 e829 c830 fz31 => ?_)
        have eN32 : N826 = N := funext (fun j => by
          by_cases hj : j < 62
          · exact (e829 j hj).trans (h7418 j hj)
          · have hj : 62 ≤ j := by omega
            exact (c830 j hj).trans ((goF_62 hK6.2.1 hj).trans ((pk_un (by omega)).trans rfl)))
        rw [eN32] at F28
        refine aw_iload_n (npc := 76) rfl dX8_bought_75 rfl ?_
        refine aw_if_lt (npc := 79) (tgt := 86) dX8_bought_76 rfl (by decide) (fun _ => ?_) (fun hc => absurd (by decide) hc)
        refine aw_iload (npc := 88) rfl dX8_bought_86 rfl ?_
        refine aw_istore_n (npc := 89) (L' := [some (.ref 69), some (.int (nI K)), some (.int w), some (.int (nI i)), some (.int 0), some (.int (nI i)), some (.int (hs1 (goF c fr (-1) K (upd N (22 + 5 * i) 5))))]) dX8_bought_88 rfl (by decide) rfl rfl ?_
        refine aw_iload (npc := 91) rfl dX8_bought_89 rfl ?_
        refine aw_istore (npc := 93) (L' := [some (.ref 69), some (.int (nI K)), some (.int w), some (.int (nI i)), some (.int (hs1 (goF c fr (-1) K (upd N (22 + 5 * i) 5)))), some (.int (nI i)), some (.int (hs1 (goF c fr (-1) K (upd N (22 + 5 * i) 5))))]) dX8_bought_91 rfl (by decide) rfl rfl ?_
        refine aw_iinc (npc := 96) (v := nI (i + 1)) (L' := [some (.ref 69), some (.int (nI K)), some (.int w), some (.int (nI i)), some (.int (hs1 (goF c fr (-1) K (upd N (22 + 5 * i) 5)))), some (.int (nI (i + 1))), some (.int (hs1 (goF c fr (-1) K (upd N (22 + 5 * i) 5))))]) dX8_bought_93 rfl rfl (nI_1 _) (by decide) rfl rfl ?_
        refine aw_goto (npc := 34) dX8_bought_96 (by decide) ?_
        have el : btL c fr K N i = hs1 (goF c fr (-1) K (upd N (22 + 5 * i) 5)) := by unfold btL hsS; rw [eside]; rfl
        have e8 : btS c fr K N i none = some (i, btL c fr K N i) := by
          rfl
        refine aw_locs (L' := [some (.ref 69), some (.int (nI K)), some (.int w), some (.int (mb1 (some (i, btL c fr K N i)))), some (.int (mb2 (some (i, btL c fr K N i)))), some (.int (nI (i + 1))), some (.int (hs1 (goF c fr (-1) K (upd N (22 + 5 * i) 5))))]) (by rw [el]; rfl) ?_
        refine ih (i + 1) (by omega) (some (i, btL c fr K N i)) (e8 ▸ btS_lt (by omega) hp) _ _ _ _ F28 h7418 pk_us (fun v9 o9 a9 h9 e9 F9 ol9 o49 al9 f9 => hq v9 o9 a9 h9 ?_ F9 (olT_t ol9 (olT_u (olT_t (olT_6 olx13) olT_0))) o49 (alT_t al9 (alT_t (alT_3 alx14) alT_0)) (am_fpT f9 (am_fpT (fun k (hk : k < 69 ∨ 92 ≤ k) => fz31 k (by omega)) (am_fpT (fun k (hk : k < 69 ∨ 92 ≤ k) => fzx15 k (by omega)) (am_fpT (fun k (hk : k < 69 ∨ 92 ≤ k) => fb3 k (by omega)) am_fp0)))))
        rw [e9]; exact congrArg (fun z => cI (w = 0) (bt1 (btM c fr K N m (i + 1) z)) (bt2 (btM c fr K N m (i + 1) z))) e8.symm
    | some p =>
      have hp8 := hp p rfl
      show AW X mX8_bought (d + 40) rc rs 34 [some (.ref 69), some (.int (nI K)), some (.int w), some (.int (nI p.1)), some (.int p.2), some (.int (nI i)), v6] [] n h Q
      refine aw_iload (npc := 36) rfl dX8_bought_34 rfl ?_
      refine aw_aload_n (npc := 37) rfl dX8_bought_36 rfl ?_
      refine aw_get (npc := 40) dX8_bought_37 rfl kf_X8_9 F.1 rfl ?_
      refine aw_iconst (npc := 41) (v := 1) (by decide) dX8_bought_40 rfl ?_
      refine aw_iald (npc := 42) (x := N 1) (j := 1) dX8_bought_41 rfl F.2.1 ⟨by decide, by decide⟩ (tl_at (by omega)) ?_
      refine aw_top (y := nI fr) (hK.1) ?_
      refine aw_icmp_ge (npc := 45) (tgt := 99) dX8_bought_42 rfl (by decide) (fun hc => absurd hc (nI_ge (a := i) (b := fr) (by omega) (by omega))) (fun _ => ?_)
      refine aw_aload_n (npc := 46) rfl dX8_bought_45 rfl ?_
      refine aw_iload (npc := 48) rfl dX8_bought_46 rfl ?_
      refine aw_iconst (npc := 49) (v := 0) (by decide) dX8_bought_48 rfl ?_
      refine aw_iconst (npc := 50) (v := 5) (by decide) dX8_bought_49 rfl ?_
      refine aw_callV (npc := 53) (N := mX8_put) (b := 69) (mc := 0) (ms := 0) (A := [.int (nI i), .int 0, .int 5]) (S := []) (L0 := [some (.ref 69), some (.int (nI i)), some (.int 0), some (.int 5)]) dX8_bought_50 rfl km_X8_put kk_X8_87 F.1 ⟨by decide, rfl⟩ rfl ⟨rfl, by decide⟩ rfl (Nat.le_of_ble_eq_true rfl) (Nat.zero_add _) (Nat.zero_add _) rfl ?_
      refine m_put0 (f := i) (v := 5) F (by omega) (fun hp4 F2 fb3 => ?_)
      refine aw_aload_n (npc := 54) rfl dX8_bought_53 rfl ?_
      refine aw_iload_n (npc := 55) rfl dX8_bought_54 rfl ?_
      refine aw_callV (npc := 58) (N := mX8_goesOn) (b := 69) (mc := 0) (ms := 0) (A := [.int (nI K)]) (S := []) (L0 := [some (.ref 69), some (.int (nI K)), none]) dX8_bought_55 rfl km_X8_goesOn kk_X8_163 F2.1 ⟨by decide, rfl⟩ rfl ⟨rfl, by decide⟩ rfl (Nat.le_of_ble_eq_true rfl) (Nat.zero_add _) (Nat.zero_add _) rfl ?_
      have hT5 : TC tb tx lk (upd N (22 + 5 * i) 5) c := (tc_u (by omega) (by omega) hC)
      have hK6 : RK (upd N (22 + 5 * i) 5) fr c := (rk_kind ⟨by decide, by decide⟩ (by omega) hK)
      have o4x := ho4
      refine m_go (p := K) (c := c) (fr := fr) (by omega) F2 (mi_rk hK6 (tc_txm hT5)) (fun o9x7 N9x8 a9x9 h9x10 hrx11 Fx12 olx13 alx14 fzx15 => ?_)
      have eNx16 : N9x8 = goF c fr (-1) K (upd N (22 + 5 * i) 5) := go_m _ _ _ hT5 hK6 (o4x ▸ hrx11)
      subst eNx16
      have o417 := ((olx13 4 (by decide)).trans o4x)
      have h7418 : ∀ j, j < 62 → a9x9 74 j = N j := (fun j hj => (congrFun (alx14 74 (by decide) (by decide) (by decide)) j).trans (h74 j hj))
      refine aw_aload_n (npc := 59) rfl dX8_bought_58 rfl ?_
      refine aw_aload_n (npc := 60) rfl dX8_bought_59 rfl ?_
      refine aw_iload (npc := 62) rfl dX8_bought_60 rfl ?_
      refine aw_iconst (npc := 63) (v := 1) (by decide) dX8_bought_62 rfl ?_
      refine aw_callV (npc := 66) (N := mX8_of) (b := 69) (mc := 0) (ms := 0) (A := [.int (nI i), .int 1]) (S := [.ref 69]) (L0 := [some (.ref 69), some (.int (nI i)), some (.int 1)]) dX8_bought_63 rfl km_X8_of kk_X8_101 Fx12.1 ⟨by decide, rfl⟩ rfl ⟨rfl, by decide⟩ rfl (Nat.le_of_ble_eq_true rfl) (Nat.zero_add _) (Nat.zero_add _) rfl ?_
      refine m_of1 (f := i) Fx12 (by omega) ?_
      refine aw_re (S' := [.int ((goF c fr (-1) K (upd N (22 + 5 * i) 5)) (23 + 5 * i)), .ref 69]) rfl ?_
      have esd : (goF c fr (-1) K (upd N (22 + 5 * i) 5)) (23 + 5 * i) = N (23 + 5 * i) := (goF_k h8r (by omega) (by omega) (by omega) (by omega) (by omega) (by omega) _ _).trans (pk_un (by omega))
      rcases wi_c0_1 (hK.2.2.2.2.1 i (by omega)).2.1 with eside | eside
      · refine aw_top (y := 0) (esd.trans eside) ?_
        refine aw_callV (npc := 69) (N := mX8_has) (b := 69) (mc := 0) (ms := 0) (A := [.int 0]) (S := []) (L0 := [some (.ref 69), some (.int 0), none, none, none]) dX8_bought_66 rfl km_X8_has kk_X8_143 Fx12.1 ⟨by decide, rfl⟩ rfl ⟨rfl, by decide⟩ rfl (Nat.le_of_ble_eq_true rfl) (Nat.zero_add _) (Nat.zero_add _) rfl ?_
        refine m_has0 Fx12 ?_
        refine aw_re (S' := [.int (hs0 (goF c fr (-1) K (upd N (22 + 5 * i) 5)))]) rfl ?_
        refine aw_istore (npc := 71) (L' := [some (.ref 69), some (.int (nI K)), some (.int w), some (.int (nI p.1)), some (.int p.2), some (.int (nI i)), some (.int (hs0 (goF c fr (-1) K (upd N (22 + 5 * i) 5))))]) dX8_bought_69 rfl (by decide) rfl rfl ?_
        refine aw_aload_n (npc := 72) rfl dX8_bought_71 rfl ?_
        refine aw_callV (npc := 75) (N := mX8_putsBack) (b := 69) (mc := 0) (ms := 0) (A := []) (S := []) (L0 := [some (.ref 69), none]) dX8_bought_72 rfl km_X8_putsBack kk_X8_175 Fx12.1 ⟨by decide, rfl⟩ rfl ⟨rfl, by decide⟩ rfl (Nat.le_of_ble_eq_true rfl) (Nat.zero_add _) (Nat.zero_add _) rfl ?_
        refine m_puts Fx12 (fun N819 hp20 F21 e822 c823 fz24 => ?_)
        have eN25 : N819 = N := funext (fun j => by
          by_cases hj : j < 62
          · exact (e822 j hj).trans (h7418 j hj)
          · have hj : 62 ≤ j := by omega
            exact (c823 j hj).trans ((goF_62 hK6.2.1 hj).trans ((pk_un (by omega)).trans rfl)))
        rw [eN25] at F21
        refine aw_iload_n (npc := 76) rfl dX8_bought_75 rfl ?_
        refine aw_if_lt (npc := 79) (tgt := 86) dX8_bought_76 rfl (by decide) (fun hc => absurd hc (nI_pos (by omega))) (fun _ => ?_)
        refine aw_iload (npc := 81) rfl dX8_bought_79 rfl ?_
        refine aw_iload (npc := 83) rfl dX8_bought_81 rfl ?_
        refine aw_icmp_ge (npc := 86) (tgt := 93) dX8_bought_83 rfl (by decide) (fun hc27 => ?_) (fun hc27 => ?_)
        · refine aw_iinc (npc := 96) (v := nI (i + 1)) (L' := [some (.ref 69), some (.int (nI K)), some (.int w), some (.int (nI p.1)), some (.int p.2), some (.int (nI (i + 1))), some (.int (hs0 (goF c fr (-1) K (upd N (22 + 5 * i) 5))))]) dX8_bought_93 rfl rfl (nI_1 _) (by decide) rfl rfl ?_
          refine aw_goto (npc := 34) dX8_bought_96 (by decide) ?_
          have el : btL c fr K N i = hs0 (goF c fr (-1) K (upd N (22 + 5 * i) 5)) := by unfold btL hsS; rw [eside]; rfl
          have e8 : btS c fr K N i (some p) = some p := by
            exact if_neg (by rw [el]; exact Int32.not_lt.mpr hc27)
          refine ih (i + 1) (by omega) (some p) (e8 ▸ btS_lt (by omega) hp) _ _ _ _ F21 h7418 pk_us (fun v9 o9 a9 h9 e9 F9 ol9 o49 al9 f9 => hq v9 o9 a9 h9 ?_ F9 (olT_t ol9 (olT_u (olT_t (olT_6 olx13) olT_0))) o49 (alT_t al9 (alT_t (alT_3 alx14) alT_0)) (am_fpT f9 (am_fpT (fun k (hk : k < 69 ∨ 92 ≤ k) => fz24 k (by omega)) (am_fpT (fun k (hk : k < 69 ∨ 92 ≤ k) => fzx15 k (by omega)) (am_fpT (fun k (hk : k < 69 ∨ 92 ≤ k) => fb3 k (by omega)) am_fp0)))))
          rw [e9]; exact congrArg (fun z => cI (w = 0) (bt1 (btM c fr K N m (i + 1) z)) (bt2 (btM c fr K N m (i + 1) z))) e8.symm
        · refine aw_iload (npc := 88) rfl dX8_bought_86 rfl ?_
          refine aw_istore_n (npc := 89) (L' := [some (.ref 69), some (.int (nI K)), some (.int w), some (.int (nI i)), some (.int p.2), some (.int (nI i)), some (.int (hs0 (goF c fr (-1) K (upd N (22 + 5 * i) 5))))]) dX8_bought_88 rfl (by decide) rfl rfl ?_
          refine aw_iload (npc := 91) rfl dX8_bought_89 rfl ?_
          refine aw_istore (npc := 93) (L' := [some (.ref 69), some (.int (nI K)), some (.int w), some (.int (nI i)), some (.int (hs0 (goF c fr (-1) K (upd N (22 + 5 * i) 5)))), some (.int (nI i)), some (.int (hs0 (goF c fr (-1) K (upd N (22 + 5 * i) 5))))]) dX8_bought_91 rfl (by decide) rfl rfl ?_
          refine aw_iinc (npc := 96) (v := nI (i + 1)) (L' := [some (.ref 69), some (.int (nI K)), some (.int w), some (.int (nI i)), some (.int (hs0 (goF c fr (-1) K (upd N (22 + 5 * i) 5)))), some (.int (nI (i + 1))), some (.int (hs0 (goF c fr (-1) K (upd N (22 + 5 * i) 5))))]) dX8_bought_93 rfl rfl (nI_1 _) (by decide) rfl rfl ?_
          refine aw_goto (npc := 34) dX8_bought_96 (by decide) ?_
          have el : btL c fr K N i = hs0 (goF c fr (-1) K (upd N (22 + 5 * i) 5)) := by unfold btL hsS; rw [eside]; rfl
          have e8 : btS c fr K N i (some p) = some (i, btL c fr K N i) := by
            exact if_pos (by rw [el]; exact Int32.not_le.mp hc27)
          refine aw_locs (L' := [some (.ref 69), some (.int (nI K)), some (.int w), some (.int (mb1 (some (i, btL c fr K N i)))), some (.int (mb2 (some (i, btL c fr K N i)))), some (.int (nI (i + 1))), some (.int (hs0 (goF c fr (-1) K (upd N (22 + 5 * i) 5))))]) (by rw [el]; rfl) ?_
          refine ih (i + 1) (by omega) (some (i, btL c fr K N i)) (e8 ▸ btS_lt (by omega) hp) _ _ _ _ F21 h7418 pk_us (fun v9 o9 a9 h9 e9 F9 ol9 o49 al9 f9 => hq v9 o9 a9 h9 ?_ F9 (olT_t ol9 (olT_u (olT_t (olT_6 olx13) olT_0))) o49 (alT_t al9 (alT_t (alT_3 alx14) alT_0)) (am_fpT f9 (am_fpT (fun k (hk : k < 69 ∨ 92 ≤ k) => fz24 k (by omega)) (am_fpT (fun k (hk : k < 69 ∨ 92 ≤ k) => fzx15 k (by omega)) (am_fpT (fun k (hk : k < 69 ∨ 92 ≤ k) => fb3 k (by omega)) am_fp0)))))
          rw [e9]; exact congrArg (fun z => cI (w = 0) (bt1 (btM c fr K N m (i + 1) z)) (bt2 (btM c fr K N m (i + 1) z))) e8.symm
      · refine aw_top (y := 1) (esd.trans eside) ?_
        refine aw_callV (npc := 69) (N := mX8_has) (b := 69) (mc := 0) (ms := 0) (A := [.int 1]) (S := []) (L0 := [some (.ref 69), some (.int 1), none, none, none]) dX8_bought_66 rfl km_X8_has kk_X8_143 Fx12.1 ⟨by decide, rfl⟩ rfl ⟨rfl, by decide⟩ rfl (Nat.le_of_ble_eq_true rfl) (Nat.zero_add _) (Nat.zero_add _) rfl ?_
        refine m_has1 Fx12 ?_
        refine aw_re (S' := [.int (hs1 (goF c fr (-1) K (upd N (22 + 5 * i) 5)))]) rfl ?_
        refine aw_istore (npc := 71) (L' := [some (.ref 69), some (.int (nI K)), some (.int w), some (.int (nI p.1)), some (.int p.2), some (.int (nI i)), some (.int (hs1 (goF c fr (-1) K (upd N (22 + 5 * i) 5))))]) dX8_bought_69 rfl (by decide) rfl rfl ?_
        refine aw_aload_n (npc := 72) rfl dX8_bought_71 rfl ?_
        refine aw_callV (npc := 75) (N := mX8_putsBack) (b := 69) (mc := 0) (ms := 0) (A := []) (S := []) (L0 := [some (.ref 69), none]) dX8_bought_72 rfl km_X8_putsBack kk_X8_175 Fx12.1 ⟨by decide, rfl⟩ rfl ⟨rfl, by decide⟩ rfl (Nat.le_of_ble_eq_true rfl) (Nat.zero_add _) (Nat.zero_add _) rfl ?_
        refine m_puts Fx12 (fun N828 hp29 F30 e831 c832 fz33 => ?_)
        have eN34 : N828 = N := funext (fun j => by
          by_cases hj : j < 62
          · exact (e831 j hj).trans (h7418 j hj)
          · have hj : 62 ≤ j := by omega
            exact (c832 j hj).trans ((goF_62 hK6.2.1 hj).trans ((pk_un (by omega)).trans rfl)))
        rw [eN34] at F30
        refine aw_iload_n (npc := 76) rfl dX8_bought_75 rfl ?_
        refine aw_if_lt (npc := 79) (tgt := 86) dX8_bought_76 rfl (by decide) (fun hc => absurd hc (nI_pos (by omega))) (fun _ => ?_)
        refine aw_iload (npc := 81) rfl dX8_bought_79 rfl ?_
        refine aw_iload (npc := 83) rfl dX8_bought_81 rfl ?_
        refine aw_icmp_ge (npc := 86) (tgt := 93) dX8_bought_83 rfl (by decide) (fun hc36 => ?_) (fun hc36 => ?_)
        · refine aw_iinc (npc := 96) (v := nI (i + 1)) (L' := [some (.ref 69), some (.int (nI K)), some (.int w), some (.int (nI p.1)), some (.int p.2), some (.int (nI (i + 1))), some (.int (hs1 (goF c fr (-1) K (upd N (22 + 5 * i) 5))))]) dX8_bought_93 rfl rfl (nI_1 _) (by decide) rfl rfl ?_
          refine aw_goto (npc := 34) dX8_bought_96 (by decide) ?_
          have el : btL c fr K N i = hs1 (goF c fr (-1) K (upd N (22 + 5 * i) 5)) := by unfold btL hsS; rw [eside]; rfl
          have e8 : btS c fr K N i (some p) = some p := by
            exact if_neg (by rw [el]; exact Int32.not_lt.mpr hc36)
          refine ih (i + 1) (by omega) (some p) (e8 ▸ btS_lt (by omega) hp) _ _ _ _ F30 h7418 pk_us (fun v9 o9 a9 h9 e9 F9 ol9 o49 al9 f9 => hq v9 o9 a9 h9 ?_ F9 (olT_t ol9 (olT_u (olT_t (olT_6 olx13) olT_0))) o49 (alT_t al9 (alT_t (alT_3 alx14) alT_0)) (am_fpT f9 (am_fpT (fun k (hk : k < 69 ∨ 92 ≤ k) => fz33 k (by omega)) (am_fpT (fun k (hk : k < 69 ∨ 92 ≤ k) => fzx15 k (by omega)) (am_fpT (fun k (hk : k < 69 ∨ 92 ≤ k) => fb3 k (by omega)) am_fp0)))))
          rw [e9]; exact congrArg (fun z => cI (w = 0) (bt1 (btM c fr K N m (i + 1) z)) (bt2 (btM c fr K N m (i + 1) z))) e8.symm
        · refine aw_iload (npc := 88) rfl dX8_bought_86 rfl ?_
          refine aw_istore_n (npc := 89) (L' := [some (.ref 69), some (.int (nI K)), some (.int w), some (.int (nI i)), some (.int p.2), some (.int (nI i)), some (.int (hs1 (goF c fr (-1) K (upd N (22 + 5 * i) 5))))]) dX8_bought_88 rfl (by decide) rfl rfl ?_
          refine aw_iload (npc := 91) rfl dX8_bought_89 rfl ?_
          refine aw_istore (npc := 93) (L' := [some (.ref 69), some (.int (nI K)), some (.int w), some (.int (nI i)), some (.int (hs1 (goF c fr (-1) K (upd N (22 + 5 * i) 5)))), some (.int (nI i)), some (.int (hs1 (goF c fr (-1) K (upd N (22 + 5 * i) 5))))]) dX8_bought_91 rfl (by decide) rfl rfl ?_
          refine aw_iinc (npc := 96) (v := nI (i + 1)) (L' := [some (.ref 69), some (.int (nI K)), some (.int w), some (.int (nI i)), some (.int (hs1 (goF c fr (-1) K (upd N (22 + 5 * i) 5)))), some (.int (nI (i + 1))), some (.int (hs1 (goF c fr (-1) K (upd N (22 + 5 * i) 5))))]) dX8_bought_93 rfl rfl (nI_1 _) (by decide) rfl rfl ?_
          refine aw_goto (npc := 34) dX8_bought_96 (by decide) ?_
          have el : btL c fr K N i = hs1 (goF c fr (-1) K (upd N (22 + 5 * i) 5)) := by unfold btL hsS; rw [eside]; rfl
          have e8 : btS c fr K N i (some p) = some (i, btL c fr K N i) := by
            exact if_pos (by rw [el]; exact Int32.not_le.mp hc36)
          refine aw_locs (L' := [some (.ref 69), some (.int (nI K)), some (.int w), some (.int (mb1 (some (i, btL c fr K N i)))), some (.int (mb2 (some (i, btL c fr K N i)))), some (.int (nI (i + 1))), some (.int (hs1 (goF c fr (-1) K (upd N (22 + 5 * i) 5))))]) (by rw [el]; rfl) ?_
          refine ih (i + 1) (by omega) (some (i, btL c fr K N i)) (e8 ▸ btS_lt (by omega) hp) _ _ _ _ F30 h7418 pk_us (fun v9 o9 a9 h9 e9 F9 ol9 o49 al9 f9 => hq v9 o9 a9 h9 ?_ F9 (olT_t ol9 (olT_u (olT_t (olT_6 olx13) olT_0))) o49 (alT_t al9 (alT_t (alT_3 alx14) alT_0)) (am_fpT f9 (am_fpT (fun k (hk : k < 69 ∨ 92 ≤ k) => fz33 k (by omega)) (am_fpT (fun k (hk : k < 69 ∨ 92 ≤ k) => fzx15 k (by omega)) (am_fpT (fun k (hk : k < 69 ∨ 92 ≤ k) => fb3 k (by omega)) am_fp0)))))
          rw [e9]; exact congrArg (fun z => cI (w = 0) (bt1 (btM c fr K N m (i + 1) z)) (bt2 (btM c fr K N m (i + 1) z))) e8.symm
set_option maxHeartbeats 4000000 in
set_option maxRecDepth 100000 in
theorem M_bought {X : List Int32} {d rc rs n : Nat} {Q : am_Q} {h : am_H} {o N : Nat → Int32} {a : Nat → Nat → Int32} {fr c : Nat} {v : Int32} {w : Int32} {tb : TB} {tx : List Value} {lk : Nat → Int32} (F : MR o N a h) (hR : RG N fr c) (hC : TC tb tx lk N c) (ho4 : o 4 = -1) (hq : ∀ v9 o9 a9 h9, v9 = buV c fr N v w → MR o9 N a9 h9 → ol6 o9 o → alT a9 a → am_fp (fun k => k < 69 ∨ 92 ≤ k) h9 h → Q (some (.int v9)) n h9) : AW X mX8_bought (d + 40) rc rs 0 [some (.ref 69), some (.int v), some (.int w), none, none, none, none] [] n h Q := by
  have h8r := hR.2.1
  have h14r := hR.2.2.2.1
  have hK := rg_rk hR
  refine aw_iload_n (npc := 1) rfl dX8_bought_0 rfl ?_
  refine aw_iconst (npc := 2) (v := 1) (by decide) dX8_bought_1 rfl ?_
  refine aw_bipush (npc := 4) (v := 60) (by decide) dX8_bought_2 rfl ?_
  refine aw_callS (npc := 7) (N := mX8_in) (mc := 0) (ms := 0) (A := [.int v, .int 1, .int 60]) (S := []) (L0 := [some (.int v), some (.int 1), some (.int 60)]) dX8_bought_4 rfl km_X8_in kk_X8_83 rfl ⟨rfl, by decide⟩ rfl (Nat.le_of_ble_eq_true rfl) (Nat.zero_add _) (Nat.zero_add _) rfl ?_
  refine c_X8_in (fun hw1 => ?_) (fun hw1 => ?_)
  · obtain ⟨vn, hvn, evn⟩ := wi_nI (H := 60) (by decide) (by decide) hw1
    subst evn
    have fvn : fN (nI vn) = vn := fN_nI (by omega)
    refine aw_re (S' := [.int 1]) rfl ?_
    refine aw_if_eq (npc := 10) (tgt := 19) dX8_bought_7 rfl (by decide) (fun hc => absurd hc (by decide)) (fun _ => ?_)
    refine aw_iload_n (npc := 11) rfl dX8_bought_10 rfl ?_
    refine aw_iconst (npc := 12) (v := 0) (by decide) dX8_bought_11 rfl ?_
    refine aw_iconst (npc := 13) (v := 1) (by decide) dX8_bought_12 rfl ?_
    refine aw_callS (npc := 16) (N := mX8_in) (mc := 0) (ms := 0) (A := [.int w, .int 0, .int 1]) (S := []) (L0 := [some (.int w), some (.int 0), some (.int 1)]) dX8_bought_13 rfl km_X8_in kk_X8_83 rfl ⟨rfl, by decide⟩ rfl (Nat.le_of_ble_eq_true rfl) (Nat.zero_add _) (Nat.zero_add _) rfl ?_
    refine c_X8_in (fun hw2 => ?_) (fun hw2 => ?_)
    · refine aw_re (S' := [.int 1]) rfl ?_
      refine aw_if_ne (npc := 19) (tgt := 22) dX8_bought_16 rfl (by decide) (fun _ => ?_) (fun hc => absurd hc (by decide))
      refine aw_aload_n (npc := 23) rfl dX8_bought_22 rfl ?_
      refine aw_callV (npc := 26) (N := mX8_thinks) (b := 69) (mc := 0) (ms := 0) (A := []) (S := []) (L0 := [some (.ref 69), none]) dX8_bought_23 rfl km_X8_thinks kk_X8_169 F.1 ⟨by decide, rfl⟩ rfl ⟨rfl, by decide⟩ rfl (Nat.le_of_ble_eq_true rfl) (Nat.zero_add _) (Nat.zero_add _) rfl ?_
      refine m_thinks F (fun aT3 hp4 F5 eT6 cT7 fz8 => ?_)
      refine aw_iconst (npc := 27) (v := -1) (by decide) dX8_bought_26 rfl ?_
      refine aw_istore_n (npc := 28) (L' := [some (.ref 69), some (.int (nI vn)), some (.int w), some (.int (-1)), none, none, none]) dX8_bought_27 rfl (by decide) rfl rfl ?_
      refine aw_iconst (npc := 29) (v := 0) (by decide) dX8_bought_28 rfl ?_
      refine aw_istore (npc := 31) (L' := [some (.ref 69), some (.int (nI vn)), some (.int w), some (.int (-1)), some (.int 0), none, none]) dX8_bought_29 rfl (by decide) rfl rfl ?_
      refine aw_iconst (npc := 32) (v := 0) (by decide) dX8_bought_31 rfl ?_
      refine aw_istore (npc := 34) (L' := [some (.ref 69), some (.int (nI vn)), some (.int w), some (.int (-1)), some (.int 0), some (.int 0), none]) dX8_bought_32 rfl (by decide) rfl rfl ?_
      refine aw_locs (L' := [some (.ref 69), some (.int (nI vn)), some (.int w), some (.int (mb1 none)), some (.int (mb2 none)), some (.int (nI 0)), none]) rfl ?_
      refine M_boughtL (K := vn) (by omega) hC hK fr 0 (by omega) none (fun q z => by cases z) none _ _ _ F5 eT6 ho4 (fun v9 o9 a9 h9 e9 F9 ol9 o49 al9 f9 => hq v9 o9 a9 h9 ?_ F9 (ol_end ol9 (o49.trans ho4.symm)) (alT_t al9 (alT_t (alT_4 cT7) alT_0)) (am_fpT f9 (am_fpT (fun k (hk : k < 69 ∨ 92 ≤ k) => fz8 k (by omega)) am_fp0)))
      rw [e9]; simp [buV, cI, hw1, hw2, fvn]
    · refine aw_re (S' := [.int 0]) rfl ?_
      refine aw_if_ne (npc := 19) (tgt := 22) dX8_bought_16 rfl (by decide) (fun hc => absurd (by decide) hc) (fun _ => ?_)
      refine aw_ldc (npc := 21) kc_X8_91 dX8_bought_19 rfl ?_
      refine aw_iret rfl dX8_bought_21 ?_
      exact hq _ _ _ _ (by simp [buV, cI, hw1, hw2, fvn]) F (ol_end olT_0 (Eq.trans ho4 ho4.symm)) alT_0 am_fp0
  · refine aw_re (S' := [.int 0]) rfl ?_
    refine aw_if_eq (npc := 10) (tgt := 19) dX8_bought_7 rfl (by decide) (fun _ => ?_) (fun hc => absurd (by decide) hc)
    refine aw_ldc (npc := 21) kc_X8_91 dX8_bought_19 rfl ?_
    refine aw_iret rfl dX8_bought_21 ?_
    exact hq _ _ _ _ (by simp [buV, cI, hw1]) F (ol_end olT_0 (Eq.trans ho4 ho4.symm)) alT_0 am_fp0
theorem alrd {a9 a : Nat → Nat → Int32} {s : Nat} (h : alT a9 a) : a9 84 s = a 84 s := congrFun (h 84 (by decide) (by decide) (by decide) (by decide)) s
set_option maxHeartbeats 4000000 in
set_option maxRecDepth 100000 in
theorem M_readsL {X : List Int32} {d rc rs n : Nat} {Q : am_Q} {fr c : Nat} {tb : TB} {tx : List Value} {lk : Nat → Int32} {N : Nat → Int32} {s z : Nat} (hs : s < 4) (hz : z ≤ 24) : ∀ (m k : Nat), k + m = z → ∀ (NA o : Nat → Int32) (a : Nat → Nat → Int32) (h : am_H), MR o NA a h → TC tb tx lk NA c → RK NA fr c → (∀ j, j < 62 → a 74 j = N j) → (∀ j, 62 ≤ j → NA j = N j) → o 4 = -1 → a 84 s = nI z → (∀ v9 o9 a9 h9, v9 = rsM c fr (a 85) s m k NA → MR o9 N a9 h9 → olT o9 o → o9 4 = -1 → alT a9 a → am_fp (fun k => k < 69 ∨ 92 ≤ k) h9 h → Q (some (.int v9)) n h9) → AW X mX8_reads (d + 40) rc rs 28 [some (.ref 69), some (.int (nI s)), some (.int (nI k))] [] n h Q := by
  intro m
  induction m with
  | zero =>
    intro k hk NA o a h F hCA hKA h74 h62 ho4 ez hq
    obtain rfl : k = z := by omega
    refine aw_iload_n (npc := 29) rfl dX8_reads_28 rfl ?_
    refine aw_aload_n (npc := 30) rfl dX8_reads_29 rfl ?_
    refine aw_get (npc := 33) dX8_reads_30 rfl kf_X8_58 F.1 rfl ?_
    refine aw_iload_n (npc := 34) rfl dX8_reads_33 rfl ?_
    refine aw_iald (npc := 35) (x := (a 84) s) (j := s) dX8_reads_34 rfl F.2.2.2.2.2.2.2.2.2.2.2.2.2.2.2.1 (am_ix_nI (by omega)) (tl_at (by omega)) ?_
    refine aw_top (y := nI k) (ez) ?_
    refine aw_icmp_ge (npc := 38) (tgt := 82) dX8_reads_35 rfl (by decide) (fun _ => ?_) (fun hc => absurd (nI_le (a := k) (b := k) (by omega) (by omega)) hc)
    refine aw_aload_n (npc := 83) rfl dX8_reads_82 rfl ?_
    refine aw_callV (npc := 86) (N := mX8_putsBack) (b := 69) (mc := 0) (ms := 0) (A := []) (S := []) (L0 := [some (.ref 69), none]) dX8_reads_83 rfl km_X8_putsBack kk_X8_175 F.1 ⟨by decide, rfl⟩ rfl ⟨rfl, by decide⟩ rfl (Nat.le_of_ble_eq_true rfl) (Nat.zero_add _) (Nat.zero_add _) rfl ?_
    refine m_puts F (fun N82 hp3 F4 e85 c86 fz7 => ?_)
    have eN8 : N82 = N := funext (fun j => by
      by_cases hj : j < 62
      · exact (e85 j hj).trans (h74 j hj)
      · have hj : 62 ≤ j := by omega
        exact (c86 j hj).trans (h62 j hj))
    rw [eN8] at F4
    refine aw_iload_n (npc := 87) rfl dX8_reads_86 rfl ?_
    refine aw_aload_n (npc := 88) rfl dX8_reads_87 rfl ?_
    refine aw_get (npc := 91) dX8_reads_88 rfl kf_X8_58 F4.1 rfl ?_
    refine aw_iload_n (npc := 92) rfl dX8_reads_91 rfl ?_
    refine aw_iald (npc := 93) (x := (a 84) s) (j := s) dX8_reads_92 rfl F4.2.2.2.2.2.2.2.2.2.2.2.2.2.2.2.1 (am_ix_nI (by omega)) (tl_at (by omega)) ?_
    refine aw_top (y := nI k) (ez) ?_
    refine aw_icmp_ge (npc := 96) (tgt := 100) dX8_reads_93 rfl (by decide) (fun _ => ?_) (fun hc => absurd (nI_le (a := k) (b := k) (by omega) (by omega)) hc)
    refine aw_ldc (npc := 102) kc_X8_82 dX8_reads_100 rfl ?_
    refine aw_iret rfl dX8_reads_102 ?_
    exact hq _ _ _ _ (by simp [rsM, cI]) F4 (olT_u olT_0) pk_us alT_0 (am_fpT (fun k (hk : k < 69 ∨ 92 ≤ k) => fz7 k (by omega)) am_fp0)
  | succ m ih =>
    intro k hk NA o a h F hCA hKA h74 h62 ho4 ez hq
    refine aw_iload_n (npc := 29) rfl dX8_reads_28 rfl ?_
    refine aw_aload_n (npc := 30) rfl dX8_reads_29 rfl ?_
    refine aw_get (npc := 33) dX8_reads_30 rfl kf_X8_58 F.1 rfl ?_
    refine aw_iload_n (npc := 34) rfl dX8_reads_33 rfl ?_
    refine aw_iald (npc := 35) (x := (a 84) s) (j := s) dX8_reads_34 rfl F.2.2.2.2.2.2.2.2.2.2.2.2.2.2.2.1 (am_ix_nI (by omega)) (tl_at (by omega)) ?_
    refine aw_top (y := nI z) (ez) ?_
    refine aw_icmp_ge (npc := 38) (tgt := 82) dX8_reads_35 rfl (by decide) (fun hc => absurd hc (nI_ge (a := k) (b := z) (by omega) (by omega))) (fun _ => ?_)
    refine aw_aload_n (npc := 39) rfl dX8_reads_38 rfl ?_
    refine aw_get (npc := 42) dX8_reads_39 rfl kf_X8_61 F.1 rfl ?_
    refine aw_bipush (npc := 44) (v := 24) (by decide) dX8_reads_42 rfl ?_
    refine aw_iload_n (npc := 45) rfl dX8_reads_44 rfl ?_
    refine aw_imulV (npc := 46) (v := nI (24 * s)) dX8_reads_45 rfl (pk_mul 24 _) ?_
    refine aw_iload_n (npc := 47) rfl dX8_reads_46 rfl ?_
    refine aw_iaddV (npc := 48) (v := nI ((24 * s) + k)) dX8_reads_47 rfl (nI_add _ _) ?_
    refine aw_iald (npc := 49) (x := (a 85) ((24 * s) + k)) (j := ((24 * s) + k)) dX8_reads_48 rfl F.2.2.2.2.2.2.2.2.2.2.2.2.2.2.2.2.1 (am_ix_nI (by omega)) (tl_at (by omega)) ?_
    refine aw_ldc (npc := 51) kc_X8_82 dX8_reads_49 rfl ?_
    refine aw_icmp_eq (npc := 54) (tgt := 72) dX8_reads_51 rfl (by decide) (fun hc2 => ?_) (fun hc2 => ?_)
    · refine aw_aload_n (npc := 73) rfl dX8_reads_72 rfl ?_
      refine aw_callV (npc := 76) (N := mX8_post) (b := 69) (mc := 0) (ms := 0) (A := []) (S := []) (L0 := [some (.ref 69), none]) dX8_reads_73 rfl km_X8_post kk_X8_157 F.1 ⟨by decide, rfl⟩ rfl ⟨rfl, by decide⟩ rfl (Nat.le_of_ble_eq_true rfl) (Nat.zero_add _) (Nat.zero_add _) rfl ?_
      have o4x := ho4
      refine m_post (c := c) (fr := fr) F (mi_rk hKA (tc_txm hCA)) (fun o9x3 N9x4 a9x5 h9x6 hrx7 Fx8 olx9 alx10 fzx11 => ?_)
      have eNx12 : N9x4 = goF c fr (-1) 1 NA := post_m hCA hKA (o4x ▸ hrx7)
      subst eNx12
      have o413 := ((olx9 4 (by decide)).trans o4x)
      have h7414 : ∀ j, j < 62 → a9x5 74 j = N j := (fun j hj => (congrFun (alx10 74 (by decide) (by decide) (by decide)) j).trans (h74 j hj))
      refine aw_iinc (npc := 79) (v := nI (k + 1)) (L' := [some (.ref 69), some (.int (nI s)), some (.int (nI (k + 1)))]) dX8_reads_76 rfl rfl (nI_1 _) (by decide) rfl rfl ?_
      refine aw_goto (npc := 28) dX8_reads_79 (by decide) ?_
      refine ih (k + 1) (by omega) _ _ _ _ Fx8 (tc_go hKA.2.1 hCA) (rk_go _ _ hKA) h7414 (fun j hj => ((goF_62 hKA.2.1 hj).trans (h62 j hj))) o413 ((alrd (alT_t (alT_3 alx10) alT_0)).trans ez) (fun v9 o9 a9 h9 e9 F9 ol9 o49 al9 f9 => hq v9 o9 a9 h9 ?_ F9 (olT_t ol9 (olT_t (olT_6 olx9) olT_0)) o49 (alT_t al9 (alT_t (alT_3 alx10) alT_0)) (am_fpT f9 (am_fpT (fun k (hk : k < 69 ∨ 92 ≤ k) => fzx11 k (by omega)) am_fp0)))
      rw [e9, (alT_t (alT_3 alx10) alT_0) 85 (by decide) (by decide) (by decide) (by decide)]; simp [rsM, cI, hc2]
    · refine aw_aload_n (npc := 55) rfl dX8_reads_54 rfl ?_
      refine aw_get (npc := 58) dX8_reads_55 rfl kf_X8_61 F.1 rfl ?_
      refine aw_bipush (npc := 60) (v := 24) (by decide) dX8_reads_58 rfl ?_
      refine aw_iload_n (npc := 61) rfl dX8_reads_60 rfl ?_
      refine aw_imulV (npc := 62) (v := nI (24 * s)) dX8_reads_61 rfl (pk_mul 24 _) ?_
      refine aw_iload_n (npc := 63) rfl dX8_reads_62 rfl ?_
      refine aw_iaddV (npc := 64) (v := nI ((24 * s) + k)) dX8_reads_63 rfl (nI_add _ _) ?_
      refine aw_iald (npc := 65) (x := (a 85) ((24 * s) + k)) (j := ((24 * s) + k)) dX8_reads_64 rfl F.2.2.2.2.2.2.2.2.2.2.2.2.2.2.2.2.1 (am_ix_nI (by omega)) (tl_at (by omega)) ?_
      refine aw_aload_n (npc := 66) rfl dX8_reads_65 rfl ?_
      refine aw_callV (npc := 69) (N := mX8_stands) (b := 69) (mc := 0) (ms := 0) (A := []) (S := [.int ((a 85) ((24 * s) + k))]) (L0 := [some (.ref 69), none, none]) dX8_reads_66 rfl km_X8_stands kk_X8_166 F.1 ⟨by decide, rfl⟩ rfl ⟨rfl, by decide⟩ rfl (Nat.le_of_ble_eq_true rfl) (Nat.zero_add _) (Nat.zero_add _) rfl ?_
      refine m_stands F ?_
      refine aw_re (S' := [.int (snum NA), .int ((a 85) ((24 * s) + k))]) rfl ?_
      refine aw_icmp_ne (npc := 72) (tgt := 82) dX8_reads_69 rfl (by decide) (fun hc15 => ?_) (fun hc15 => ?_)
      · refine aw_aload_n (npc := 83) rfl dX8_reads_82 rfl ?_
        refine aw_callV (npc := 86) (N := mX8_putsBack) (b := 69) (mc := 0) (ms := 0) (A := []) (S := []) (L0 := [some (.ref 69), none]) dX8_reads_83 rfl km_X8_putsBack kk_X8_175 F.1 ⟨by decide, rfl⟩ rfl ⟨rfl, by decide⟩ rfl (Nat.le_of_ble_eq_true rfl) (Nat.zero_add _) (Nat.zero_add _) rfl ?_
        refine m_puts F (fun N816 hp17 F18 e819 c820 fz21 => ?_)
        have eN22 : N816 = N := funext (fun j => by
          by_cases hj : j < 62
          · exact (e819 j hj).trans (h74 j hj)
          · have hj : 62 ≤ j := by omega
            exact (c820 j hj).trans (h62 j hj))
        rw [eN22] at F18
        refine aw_iload_n (npc := 87) rfl dX8_reads_86 rfl ?_
        refine aw_aload_n (npc := 88) rfl dX8_reads_87 rfl ?_
        refine aw_get (npc := 91) dX8_reads_88 rfl kf_X8_58 F18.1 rfl ?_
        refine aw_iload_n (npc := 92) rfl dX8_reads_91 rfl ?_
        refine aw_iald (npc := 93) (x := (a 84) s) (j := s) dX8_reads_92 rfl F18.2.2.2.2.2.2.2.2.2.2.2.2.2.2.2.1 (am_ix_nI (by omega)) (tl_at (by omega)) ?_
        refine aw_top (y := nI z) (ez) ?_
        refine aw_icmp_ge (npc := 96) (tgt := 100) dX8_reads_93 rfl (by decide) (fun hc => absurd hc (nI_ge (a := k) (b := z) (by omega) (by omega))) (fun _ => ?_)
        refine aw_iload_n (npc := 97) rfl dX8_reads_96 rfl ?_
        refine aw_goto (npc := 102) dX8_reads_97 (by decide) ?_
        refine aw_iret rfl dX8_reads_102 ?_
        exact hq _ _ _ _ (by simp [rsM, cI, hc2, hc15]) F18 (olT_u olT_0) pk_us alT_0 (am_fpT (fun k (hk : k < 69 ∨ 92 ≤ k) => fz21 k (by omega)) am_fp0)
      · refine aw_aload_n (npc := 73) rfl dX8_reads_72 rfl ?_
        refine aw_callV (npc := 76) (N := mX8_post) (b := 69) (mc := 0) (ms := 0) (A := []) (S := []) (L0 := [some (.ref 69), none]) dX8_reads_73 rfl km_X8_post kk_X8_157 F.1 ⟨by decide, rfl⟩ rfl ⟨rfl, by decide⟩ rfl (Nat.le_of_ble_eq_true rfl) (Nat.zero_add _) (Nat.zero_add _) rfl ?_
        have o4x := ho4
        refine m_post (c := c) (fr := fr) F (mi_rk hKA (tc_txm hCA)) (fun o9x24 N9x25 a9x26 h9x27 hrx28 Fx29 olx30 alx31 fzx32 => ?_)
        have eNx33 : N9x25 = goF c fr (-1) 1 NA := post_m hCA hKA (o4x ▸ hrx28)
        subst eNx33
        have o434 := ((olx30 4 (by decide)).trans o4x)
        have h7435 : ∀ j, j < 62 → a9x26 74 j = N j := (fun j hj => (congrFun (alx31 74 (by decide) (by decide) (by decide)) j).trans (h74 j hj))
        refine aw_iinc (npc := 79) (v := nI (k + 1)) (L' := [some (.ref 69), some (.int (nI s)), some (.int (nI (k + 1)))]) dX8_reads_76 rfl rfl (nI_1 _) (by decide) rfl rfl ?_
        refine aw_goto (npc := 28) dX8_reads_79 (by decide) ?_
        refine ih (k + 1) (by omega) _ _ _ _ Fx29 (tc_go hKA.2.1 hCA) (rk_go _ _ hKA) h7435 (fun j hj => ((goF_62 hKA.2.1 hj).trans (h62 j hj))) o434 ((alrd (alT_t (alT_3 alx31) alT_0)).trans ez) (fun v9 o9 a9 h9 e9 F9 ol9 o49 al9 f9 => hq v9 o9 a9 h9 ?_ F9 (olT_t ol9 (olT_t (olT_6 olx30) olT_0)) o49 (alT_t al9 (alT_t (alT_3 alx31) alT_0)) (am_fpT f9 (am_fpT (fun k (hk : k < 69 ∨ 92 ≤ k) => fzx32 k (by omega)) am_fp0)))
        rw [e9, (alT_t (alT_3 alx31) alT_0) 85 (by decide) (by decide) (by decide) (by decide)]; simp [rsM, cI, hc2, hc15]
set_option maxHeartbeats 4000000 in
set_option maxRecDepth 100000 in
theorem M_reads {X : List Int32} {d rc rs n : Nat} {Q : am_Q} {h : am_H} {o N : Nat → Int32} {a : Nat → Nat → Int32} {fr c : Nat} {s : Int32} {tb : TB} {tx : List Value} {lk : Nat → Int32} (F : MR o N a h) (hR : RG N fr c) (hC : TC tb tx lk N c) (ho4 : o 4 = -1) (hI : RI (a 83) (a 84)) (hq : ∀ v9 o9 a9 h9, v9 = rsV c fr (a 83) (a 84) (a 85) N s → MR o9 N a9 h9 → ol6 o9 o → alT a9 a → am_fp (fun k => k < 69 ∨ 92 ≤ k) h9 h → Q (some (.int v9)) n h9) : AW X mX8_reads (d + 40) rc rs 0 [some (.ref 69), some (.int s), none] [] n h Q := by
  have h8r := hR.2.1
  have h14r := hR.2.2.2.1
  have hK := rg_rk hR
  refine aw_iload_n (npc := 1) rfl dX8_reads_0 rfl ?_
  refine aw_callS (npc := 4) (N := mX8_isSheet) (mc := 0) (ms := 0) (A := [.int s]) (S := []) (L0 := [some (.int s)]) dX8_reads_1 rfl km_X8_isSheet kk_X8_184 rfl ⟨rfl, by decide⟩ rfl (Nat.le_of_ble_eq_true rfl) (Nat.zero_add _) (Nat.zero_add _) rfl ?_
  refine c_X8_isSheet (fun hw1 => ?_) (fun hw1 => ?_)
  · obtain ⟨sn, hsn, esn⟩ := wi_nI (H := 3) (by decide) (by decide) hw1
    subst esn
    have fsn : fN (nI sn) = sn := fN_nI (by omega)
    obtain ⟨hsr, z9, hz24, ez9⟩ := hI sn (by omega)
    have fz9 : fN (nI z9) = z9 := fN_nI (by omega)
    refine aw_re (S' := [.int 1]) rfl ?_
    refine aw_if_ne (npc := 7) (tgt := 10) dX8_reads_4 rfl (by decide) (fun _ => ?_) (fun hc => absurd hc (by decide))
    refine aw_aload_n (npc := 11) rfl dX8_reads_10 rfl ?_
    refine aw_get (npc := 14) dX8_reads_11 rfl kf_X8_55 F.1 rfl ?_
    refine aw_iload_n (npc := 15) rfl dX8_reads_14 rfl ?_
    refine aw_iald (npc := 16) (x := (a 83) sn) (j := sn) dX8_reads_15 rfl F.2.2.2.2.2.2.2.2.2.2.2.2.2.2.1 (am_ix_nI (by omega)) (tl_at (by omega)) ?_
    rcases wi_cm1_1 hsr with esr | esr | esr
    · refine aw_top (y := -1) esr ?_
      refine aw_if_ge (npc := 19) (tgt := 22) dX8_reads_16 rfl (by decide) (fun hc => absurd hc (by decide)) (fun _ => ?_)
      refine aw_ldc (npc := 21) kc_X8_187 dX8_reads_19 rfl ?_
      refine aw_iret rfl dX8_reads_21 ?_
      exact hq _ _ _ _ (by simp [rsV, cI, hw1, fsn, esr]) F (ol_end olT_0 (Eq.trans ho4 ho4.symm)) alT_0 am_fp0
    · refine aw_top (y := 0) esr ?_
      refine aw_if_ge (npc := 19) (tgt := 22) dX8_reads_16 rfl (by decide) (fun _ => ?_) (fun hc => absurd (by decide) hc)
      refine aw_aload_n (npc := 23) rfl dX8_reads_22 rfl ?_
      refine aw_callV (npc := 26) (N := mX8_thinks) (b := 69) (mc := 0) (ms := 0) (A := []) (S := []) (L0 := [some (.ref 69), none]) dX8_reads_23 rfl km_X8_thinks kk_X8_169 F.1 ⟨by decide, rfl⟩ rfl ⟨rfl, by decide⟩ rfl (Nat.le_of_ble_eq_true rfl) (Nat.zero_add _) (Nat.zero_add _) rfl ?_
      refine m_thinks F (fun aT2 hp3 F4 eT5 cT6 fz7 => ?_)
      refine aw_iconst (npc := 27) (v := 0) (by decide) dX8_reads_26 rfl ?_
      refine aw_istore_n (npc := 28) (L' := [some (.ref 69), some (.int (nI sn)), some (.int 0)]) dX8_reads_27 rfl (by decide) rfl rfl ?_
      refine aw_locs (L' := [some (.ref 69), some (.int (nI sn)), some (.int (nI 0))]) rfl ?_
      refine M_readsL (N := N) (s := sn) (by omega) hz24 z9 0 (by omega) _ _ _ _ F4 hC hK eT5 (fun _ _ => rfl) ho4 ((alrd (alT_t (alT_4 cT6) alT_0)).trans ez9) (fun v9 o9 a9 h9 e9 F9 ol9 o49 al9 f9 => hq v9 o9 a9 h9 ?_ F9 (ol_end ol9 (o49.trans ho4.symm)) (alT_t al9 (alT_t (alT_4 cT6) alT_0)) (am_fpT f9 (am_fpT (fun k (hk : k < 69 ∨ 92 ≤ k) => fz7 k (by omega)) am_fp0)))
      rw [e9, (alT_t (alT_4 cT6) alT_0) 85 (by decide) (by decide) (by decide) (by decide)]; simp [rsV, cI, hw1, fsn, esr, ez9, fz9]
    · refine aw_top (y := 1) esr ?_
      refine aw_if_ge (npc := 19) (tgt := 22) dX8_reads_16 rfl (by decide) (fun _ => ?_) (fun hc => absurd (by decide) hc)
      refine aw_aload_n (npc := 23) rfl dX8_reads_22 rfl ?_
      refine aw_callV (npc := 26) (N := mX8_thinks) (b := 69) (mc := 0) (ms := 0) (A := []) (S := []) (L0 := [some (.ref 69), none]) dX8_reads_23 rfl km_X8_thinks kk_X8_169 F.1 ⟨by decide, rfl⟩ rfl ⟨rfl, by decide⟩ rfl (Nat.le_of_ble_eq_true rfl) (Nat.zero_add _) (Nat.zero_add _) rfl ?_
      refine m_thinks F (fun aT8 hp9 F10 eT11 cT12 fz13 => ?_)
      refine aw_iconst (npc := 27) (v := 0) (by decide) dX8_reads_26 rfl ?_
      refine aw_istore_n (npc := 28) (L' := [some (.ref 69), some (.int (nI sn)), some (.int 0)]) dX8_reads_27 rfl (by decide) rfl rfl ?_
      refine aw_locs (L' := [some (.ref 69), some (.int (nI sn)), some (.int (nI 0))]) rfl ?_
      refine M_readsL (N := N) (s := sn) (by omega) hz24 z9 0 (by omega) _ _ _ _ F10 hC hK eT11 (fun _ _ => rfl) ho4 ((alrd (alT_t (alT_4 cT12) alT_0)).trans ez9) (fun v9 o9 a9 h9 e9 F9 ol9 o49 al9 f9 => hq v9 o9 a9 h9 ?_ F9 (ol_end ol9 (o49.trans ho4.symm)) (alT_t al9 (alT_t (alT_4 cT12) alT_0)) (am_fpT f9 (am_fpT (fun k (hk : k < 69 ∨ 92 ≤ k) => fz13 k (by omega)) am_fp0)))
      rw [e9, (alT_t (alT_4 cT12) alT_0) 85 (by decide) (by decide) (by decide) (by decide)]; simp [rsV, cI, hw1, fsn, esr, ez9, fz9]
  · refine aw_re (S' := [.int 0]) rfl ?_
    refine aw_if_ne (npc := 7) (tgt := 10) dX8_reads_4 rfl (by decide) (fun hc => absurd (by decide) hc) (fun _ => ?_)
    refine aw_ldc (npc := 9) kc_X8_91 dX8_reads_7 rfl ?_
    refine aw_iret rfl dX8_reads_9 ?_
    exact hq _ _ _ _ (by simp [rsV, cI, hw1]) F (ol_end olT_0 (Eq.trans ho4 ho4.symm)) alT_0 am_fp0
theorem mr_N {o N M : Nat → Int32} {a : Nat → Nat → Int32} {h : am_H} (e : M = N) (F : MR o M a h) : MR o N a h := by
  subst e; exact F
set_option maxHeartbeats 4000000 in
set_option maxRecDepth 100000 in
theorem M_checkL {X : List Int32} {d rc rs n : Nat} {Q : am_Q} {fr c : Nat} {tb : TB} {tx : List Value} {lk : Nat → Int32} {wt : Nat → Int32} {K q : Nat} {v1 : Int32} (hK30 : K ≤ 30) (hq60 : q ≤ 60) : ∀ (m k : Nat), k + m = K → ∀ (NA o : Nat → Int32) (a : Nat → Nat → Int32) (h : am_H), MR o NA a h → TC tb tx lk NA c → RK NA fr c → o 4 = -1 → a 91 = wt → (∀ r9 k9 N9 o9 a9 h9, cI (r9 = q ∧ r9 = 2 * K) 0 (nI (1 + r9)) = ckM c fr q wt m k NA → r9 ≤ 60 → MR o9 N9 a9 h9 → olT o9 o → o9 4 = -1 → al3 a9 a → am_fp (fun k => k < 69 ∨ 92 ≤ k) h9 h → AW X mX8_check (d + 40) rc rs 180 [some (.ref 69), some (.int v1), some (.int (nI q)), some (.int (nI (2 * K))), some (.int (nI r9)), some (.int (nI k9))] [] n h9 Q) → AW X mX8_check (d + 40) rc rs 80 [some (.ref 69), some (.int v1), some (.int (nI q)), some (.int (nI (2 * K))), some (.int (nI (2 * k))), some (.int (nI k))] [] n h Q := by
  intro m
  induction m with
  | zero =>
    intro k hk NA o a h F hCA hKA ho4 hwt hq
    obtain rfl : k = K := by omega
    refine aw_iconst (npc := 81) (v := 2) (by decide) dX8_check_80 rfl ?_
    refine aw_iload (npc := 83) rfl dX8_check_81 rfl ?_
    refine aw_imulV (npc := 84) (v := nI (2 * k)) dX8_check_83 rfl (pk_mul 2 _) ?_
    refine aw_iload_n (npc := 85) rfl dX8_check_84 rfl ?_
    refine aw_icmp_ge (npc := 88) (tgt := 180) dX8_check_85 rfl (by decide) (fun _ => ?_) (fun hc => absurd (nI_le (a := 2 * k) (b := 2 * k) (by omega) (by omega)) hc)
    refine hq (2 * k) k _ _ _ _ ?_ (by omega) F olT_0 ho4 al3_0 am_fp0
    simp [ckM, cI, eq_comm]
  | succ m ih =>
    intro k hk NA o a h F hCA hKA ho4 hwt hq
    refine aw_iconst (npc := 81) (v := 2) (by decide) dX8_check_80 rfl ?_
    refine aw_iload (npc := 83) rfl dX8_check_81 rfl ?_
    refine aw_imulV (npc := 84) (v := nI (2 * k)) dX8_check_83 rfl (pk_mul 2 _) ?_
    refine aw_iload_n (npc := 85) rfl dX8_check_84 rfl ?_
    refine aw_icmp_ge (npc := 88) (tgt := 180) dX8_check_85 rfl (by decide) (fun hc => absurd hc (nI_ge (a := 2 * k) (b := 2 * K) (by omega) (by omega))) (fun _ => ?_)
    refine aw_iload (npc := 90) rfl dX8_check_88 rfl ?_
    refine aw_iconst (npc := 91) (v := 2) (by decide) dX8_check_90 rfl ?_
    refine aw_iload (npc := 93) rfl dX8_check_91 rfl ?_
    refine aw_imulV (npc := 94) (v := nI (2 * k)) dX8_check_93 rfl (pk_mul 2 _) ?_
    refine aw_icmp_ne (npc := 97) (tgt := 180) dX8_check_94 rfl (by decide) (fun hc => absurd (rfl) hc) (fun _ => ?_)
    refine aw_aload_n (npc := 98) rfl dX8_check_97 rfl ?_
    refine aw_callV (npc := 101) (N := mX8_post) (b := 69) (mc := 0) (ms := 0) (A := []) (S := []) (L0 := [some (.ref 69), none]) dX8_check_98 rfl km_X8_post kk_X8_157 F.1 ⟨by decide, rfl⟩ rfl ⟨rfl, by decide⟩ rfl (Nat.le_of_ble_eq_true rfl) (Nat.zero_add _) (Nat.zero_add _) rfl ?_
    have o4x := ho4
    refine m_post (c := c) (fr := fr) F (mi_rk hKA (tc_txm hCA)) (fun o9x3 N9x4 a9x5 h9x6 hrx7 Fx8 olx9 alx10 fzx11 => ?_)
    have eNx12 : N9x4 = goF c fr (-1) 1 NA := post_m hCA hKA (o4x ▸ hrx7)
    subst eNx12
    have o413 := ((olx9 4 (by decide)).trans o4x)
    have e91 : a9x5 91 = wt := ((al3_t alx10 al3_0) 91 (by decide) (by decide) (by decide)).trans hwt
    refine aw_iload (npc := 103) rfl dX8_check_101 rfl ?_
    refine aw_iload (npc := 105) rfl dX8_check_103 rfl ?_
    refine aw_iload_n (npc := 106) rfl dX8_check_105 rfl ?_
    refine aw_icmp_ge (npc := 109) (tgt := 127) dX8_check_106 rfl (by decide) (fun hc14 => ?_) (fun hc14 => ?_)
    · have hc14N := (nI_leI (a := q) (b := (2 * k)) (by omega) (by omega)).mp hc14
      refine aw_iconst (npc := 128) (v := 0) (by decide) dX8_check_127 rfl ?_
      refine aw_iaddV (npc := 129) (v := nI (2 * k)) dX8_check_128 rfl (Int32.add_zero _) ?_
      refine aw_istore (npc := 131) (L' := [some (.ref 69), some (.int v1), some (.int (nI q)), some (.int (nI (2 * K))), some (.int (nI (2 * k))), some (.int (nI k))]) dX8_check_129 rfl (by decide) rfl rfl ?_
      refine aw_iload (npc := 133) rfl dX8_check_131 rfl ?_
      refine aw_iload (npc := 135) rfl dX8_check_133 rfl ?_
      refine aw_iconst (npc := 136) (v := 2) (by decide) dX8_check_135 rfl ?_
      refine aw_iload (npc := 138) rfl dX8_check_136 rfl ?_
      refine aw_imulV (npc := 139) (v := nI (2 * k)) dX8_check_138 rfl (pk_mul 2 _) ?_
      refine aw_iconst (npc := 140) (v := 1) (by decide) dX8_check_139 rfl ?_
      refine aw_iaddV (npc := 141) (v := nI ((2 * k) + 1)) dX8_check_140 rfl (nI_add _ 1) ?_
      refine aw_icmp_ne (npc := 144) (tgt := 170) dX8_check_141 rfl (by decide) (fun _ => ?_) (fun hc => absurd hc (fun z9q => absurd ((nI_eq (a := (2 * k)) (b := ((2 * k) + 1)) (by omega) (by omega)).mp z9q) (by omega)))
      refine aw_iconst (npc := 171) (v := 0) (by decide) dX8_check_170 rfl ?_
      refine aw_iaddV (npc := 172) (v := nI (2 * k)) dX8_check_171 rfl (Int32.add_zero _) ?_
      refine aw_istore (npc := 174) (L' := [some (.ref 69), some (.int v1), some (.int (nI q)), some (.int (nI (2 * K))), some (.int (nI (2 * k))), some (.int (nI k))]) dX8_check_172 rfl (by decide) rfl rfl ?_
      refine aw_iinc (npc := 177) (v := nI (k + 1)) (L' := [some (.ref 69), some (.int v1), some (.int (nI q)), some (.int (nI (2 * K))), some (.int (nI (2 * k))), some (.int (nI (k + 1)))]) dX8_check_174 rfl rfl (nI_1 _) (by decide) rfl rfl ?_
      refine aw_goto (npc := 80) dX8_check_177 (by decide) ?_
      refine aw_iconst (npc := 81) (v := 2) (by decide) dX8_check_80 rfl ?_
      refine aw_iload (npc := 83) rfl dX8_check_81 rfl ?_
      refine aw_imulV (npc := 84) (v := nI (2 * (k + 1))) dX8_check_83 rfl (pk_mul 2 _) ?_
      refine aw_iload_n (npc := 85) rfl dX8_check_84 rfl ?_
      refine aw_icmp_ge (npc := 88) (tgt := 180) dX8_check_85 rfl (by decide) (fun hc16 => ?_) (fun hc16 => ?_)
      · have hc16N := (nI_leI (a := (2 * K)) (b := (2 * (k + 1))) (by omega) (by omega)).mp hc16
        refine hq (2 * k) (k + 1) _ _ _ _ ?_ (by omega) Fx8 (olT_t (olT_6 olx9) olT_0) o413 (al3_t alx10 al3_0) (am_fpT (fun k (hk : k < 69 ∨ 92 ≤ k) => fzx11 k (by omega)) am_fp0)
        rw [cI_f (show ¬ ((2 * k) = q ∧ (2 * k) = 2 * K) by omega)]
        simp [ckM, cI, hc14, hc14N, hc16, hc16N, Nat.not_lt.mpr hc14N, ← e91]
      · have hc16N : ¬ (2 * K) ≤ (2 * (k + 1)) := fun z9q => hc16 ((nI_leI (a := (2 * K)) (b := (2 * (k + 1))) (by omega) (by omega)).mpr z9q)
        refine aw_iload (npc := 90) rfl dX8_check_88 rfl ?_
        refine aw_iconst (npc := 91) (v := 2) (by decide) dX8_check_90 rfl ?_
        refine aw_iload (npc := 93) rfl dX8_check_91 rfl ?_
        refine aw_imulV (npc := 94) (v := nI (2 * (k + 1))) dX8_check_93 rfl (pk_mul 2 _) ?_
        refine aw_icmp_ne (npc := 97) (tgt := 180) dX8_check_94 rfl (by decide) (fun _ => ?_) (fun hc => absurd hc (fun z9q => absurd ((nI_eq (a := (2 * k)) (b := (2 * (k + 1))) (by omega) (by omega)).mp z9q) (by omega)))
        refine hq (2 * k) (k + 1) _ _ _ _ ?_ (by omega) Fx8 (olT_t (olT_6 olx9) olT_0) o413 (al3_t alx10 al3_0) (am_fpT (fun k (hk : k < 69 ∨ 92 ≤ k) => fzx11 k (by omega)) am_fp0)
        rw [cI_f (show ¬ ((2 * k) = q ∧ (2 * k) = 2 * K) by omega)]
        simp [ckM, cI, hc14, hc14N, hc16, hc16N, Nat.not_lt.mpr hc14N, ← e91]
    · have hc14N : ¬ q ≤ (2 * k) := fun z9q => hc14 ((nI_leI (a := q) (b := (2 * k)) (by omega) (by omega)).mpr z9q)
      refine aw_aload_n (npc := 110) rfl dX8_check_109 rfl ?_
      refine aw_get (npc := 113) dX8_check_110 rfl kf_X8_79 Fx8.1 rfl ?_
      refine aw_iload (npc := 115) rfl dX8_check_113 rfl ?_
      refine aw_iald (npc := 116) (x := (a9x5 91) (2 * k)) (j := (2 * k)) dX8_check_115 rfl Fx8.2.2.2.2.2.2.2.2.2.2.2.2.2.2.2.2.2.2.2.2.2.2 (am_ix_nI (by omega)) (tl_at (by omega)) ?_
      refine aw_aload_n (npc := 117) rfl dX8_check_116 rfl ?_
      refine aw_callV (npc := 120) (N := mX8_stands) (b := 69) (mc := 0) (ms := 0) (A := []) (S := [.int ((a9x5 91) (2 * k)), .int (nI (2 * k))]) (L0 := [some (.ref 69), none, none]) dX8_check_117 rfl km_X8_stands kk_X8_166 Fx8.1 ⟨by decide, rfl⟩ rfl ⟨rfl, by decide⟩ rfl (Nat.le_of_ble_eq_true rfl) (Nat.zero_add _) (Nat.zero_add _) rfl ?_
      refine m_stands Fx8 ?_
      refine aw_re (S' := [.int (snum (goF c fr (-1) 1 NA)), .int ((a9x5 91) (2 * k)), .int (nI (2 * k))]) rfl ?_
      refine aw_icmp_ne (npc := 123) (tgt := 127) dX8_check_120 rfl (by decide) (fun hc18 => ?_) (fun hc18 => ?_)
      · refine aw_iconst (npc := 128) (v := 0) (by decide) dX8_check_127 rfl ?_
        refine aw_iaddV (npc := 129) (v := nI (2 * k)) dX8_check_128 rfl (Int32.add_zero _) ?_
        refine aw_istore (npc := 131) (L' := [some (.ref 69), some (.int v1), some (.int (nI q)), some (.int (nI (2 * K))), some (.int (nI (2 * k))), some (.int (nI k))]) dX8_check_129 rfl (by decide) rfl rfl ?_
        refine aw_iload (npc := 133) rfl dX8_check_131 rfl ?_
        refine aw_iload (npc := 135) rfl dX8_check_133 rfl ?_
        refine aw_iconst (npc := 136) (v := 2) (by decide) dX8_check_135 rfl ?_
        refine aw_iload (npc := 138) rfl dX8_check_136 rfl ?_
        refine aw_imulV (npc := 139) (v := nI (2 * k)) dX8_check_138 rfl (pk_mul 2 _) ?_
        refine aw_iconst (npc := 140) (v := 1) (by decide) dX8_check_139 rfl ?_
        refine aw_iaddV (npc := 141) (v := nI ((2 * k) + 1)) dX8_check_140 rfl (nI_add _ 1) ?_
        refine aw_icmp_ne (npc := 144) (tgt := 170) dX8_check_141 rfl (by decide) (fun _ => ?_) (fun hc => absurd hc (fun z9q => absurd ((nI_eq (a := (2 * k)) (b := ((2 * k) + 1)) (by omega) (by omega)).mp z9q) (by omega)))
        refine aw_iconst (npc := 171) (v := 0) (by decide) dX8_check_170 rfl ?_
        refine aw_iaddV (npc := 172) (v := nI (2 * k)) dX8_check_171 rfl (Int32.add_zero _) ?_
        refine aw_istore (npc := 174) (L' := [some (.ref 69), some (.int v1), some (.int (nI q)), some (.int (nI (2 * K))), some (.int (nI (2 * k))), some (.int (nI k))]) dX8_check_172 rfl (by decide) rfl rfl ?_
        refine aw_iinc (npc := 177) (v := nI (k + 1)) (L' := [some (.ref 69), some (.int v1), some (.int (nI q)), some (.int (nI (2 * K))), some (.int (nI (2 * k))), some (.int (nI (k + 1)))]) dX8_check_174 rfl rfl (nI_1 _) (by decide) rfl rfl ?_
        refine aw_goto (npc := 80) dX8_check_177 (by decide) ?_
        refine aw_iconst (npc := 81) (v := 2) (by decide) dX8_check_80 rfl ?_
        refine aw_iload (npc := 83) rfl dX8_check_81 rfl ?_
        refine aw_imulV (npc := 84) (v := nI (2 * (k + 1))) dX8_check_83 rfl (pk_mul 2 _) ?_
        refine aw_iload_n (npc := 85) rfl dX8_check_84 rfl ?_
        refine aw_icmp_ge (npc := 88) (tgt := 180) dX8_check_85 rfl (by decide) (fun hc20 => ?_) (fun hc20 => ?_)
        · have hc20N := (nI_leI (a := (2 * K)) (b := (2 * (k + 1))) (by omega) (by omega)).mp hc20
          refine hq (2 * k) (k + 1) _ _ _ _ ?_ (by omega) Fx8 (olT_t (olT_6 olx9) olT_0) o413 (al3_t alx10 al3_0) (am_fpT (fun k (hk : k < 69 ∨ 92 ≤ k) => fzx11 k (by omega)) am_fp0)
          rw [cI_f (show ¬ ((2 * k) = q ∧ (2 * k) = 2 * K) by omega)]
          simp [ckM, cI, hc14, hc14N, hc18, hc20, hc20N, Nat.lt_of_not_le hc14N, ← e91]
        · have hc20N : ¬ (2 * K) ≤ (2 * (k + 1)) := fun z9q => hc20 ((nI_leI (a := (2 * K)) (b := (2 * (k + 1))) (by omega) (by omega)).mpr z9q)
          refine aw_iload (npc := 90) rfl dX8_check_88 rfl ?_
          refine aw_iconst (npc := 91) (v := 2) (by decide) dX8_check_90 rfl ?_
          refine aw_iload (npc := 93) rfl dX8_check_91 rfl ?_
          refine aw_imulV (npc := 94) (v := nI (2 * (k + 1))) dX8_check_93 rfl (pk_mul 2 _) ?_
          refine aw_icmp_ne (npc := 97) (tgt := 180) dX8_check_94 rfl (by decide) (fun _ => ?_) (fun hc => absurd hc (fun z9q => absurd ((nI_eq (a := (2 * k)) (b := (2 * (k + 1))) (by omega) (by omega)).mp z9q) (by omega)))
          refine hq (2 * k) (k + 1) _ _ _ _ ?_ (by omega) Fx8 (olT_t (olT_6 olx9) olT_0) o413 (al3_t alx10 al3_0) (am_fpT (fun k (hk : k < 69 ∨ 92 ≤ k) => fzx11 k (by omega)) am_fp0)
          rw [cI_f (show ¬ ((2 * k) = q ∧ (2 * k) = 2 * K) by omega)]
          simp [ckM, cI, hc14, hc14N, hc18, hc20, hc20N, Nat.lt_of_not_le hc14N, ← e91]
      · refine aw_iconst (npc := 124) (v := 1) (by decide) dX8_check_123 rfl ?_
        refine aw_goto (npc := 128) dX8_check_124 (by decide) ?_
        refine aw_iaddV (npc := 129) (v := nI ((2 * k) + 1)) dX8_check_128 rfl (nI_add _ 1) ?_
        refine aw_istore (npc := 131) (L' := [some (.ref 69), some (.int v1), some (.int (nI q)), some (.int (nI (2 * K))), some (.int (nI ((2 * k) + 1))), some (.int (nI k))]) dX8_check_129 rfl (by decide) rfl rfl ?_
        refine aw_iload (npc := 133) rfl dX8_check_131 rfl ?_
        refine aw_iload (npc := 135) rfl dX8_check_133 rfl ?_
        refine aw_iconst (npc := 136) (v := 2) (by decide) dX8_check_135 rfl ?_
        refine aw_iload (npc := 138) rfl dX8_check_136 rfl ?_
        refine aw_imulV (npc := 139) (v := nI (2 * k)) dX8_check_138 rfl (pk_mul 2 _) ?_
        refine aw_iconst (npc := 140) (v := 1) (by decide) dX8_check_139 rfl ?_
        refine aw_iaddV (npc := 141) (v := nI ((2 * k) + 1)) dX8_check_140 rfl (nI_add _ 1) ?_
        refine aw_icmp_ne (npc := 144) (tgt := 170) dX8_check_141 rfl (by decide) (fun hc => absurd (rfl) hc) (fun _ => ?_)
        refine aw_iload (npc := 146) rfl dX8_check_144 rfl ?_
        refine aw_iload_n (npc := 147) rfl dX8_check_146 rfl ?_
        refine aw_icmp_ge (npc := 150) (tgt := 170) dX8_check_147 rfl (by decide) (fun hc23 => ?_) (fun hc23 => ?_)
        · have hc23N := (nI_leI (a := q) (b := ((2 * k) + 1)) (by omega) (by omega)).mp hc23
          refine aw_iconst (npc := 171) (v := 0) (by decide) dX8_check_170 rfl ?_
          refine aw_iaddV (npc := 172) (v := nI ((2 * k) + 1)) dX8_check_171 rfl (Int32.add_zero _) ?_
          refine aw_istore (npc := 174) (L' := [some (.ref 69), some (.int v1), some (.int (nI q)), some (.int (nI (2 * K))), some (.int (nI ((2 * k) + 1))), some (.int (nI k))]) dX8_check_172 rfl (by decide) rfl rfl ?_
          refine aw_iinc (npc := 177) (v := nI (k + 1)) (L' := [some (.ref 69), some (.int v1), some (.int (nI q)), some (.int (nI (2 * K))), some (.int (nI ((2 * k) + 1))), some (.int (nI (k + 1)))]) dX8_check_174 rfl rfl (nI_1 _) (by decide) rfl rfl ?_
          refine aw_goto (npc := 80) dX8_check_177 (by decide) ?_
          refine aw_iconst (npc := 81) (v := 2) (by decide) dX8_check_80 rfl ?_
          refine aw_iload (npc := 83) rfl dX8_check_81 rfl ?_
          refine aw_imulV (npc := 84) (v := nI (2 * (k + 1))) dX8_check_83 rfl (pk_mul 2 _) ?_
          refine aw_iload_n (npc := 85) rfl dX8_check_84 rfl ?_
          refine aw_icmp_ge (npc := 88) (tgt := 180) dX8_check_85 rfl (by decide) (fun hc24 => ?_) (fun hc24 => ?_)
          · have hc24N := (nI_leI (a := (2 * K)) (b := (2 * (k + 1))) (by omega) (by omega)).mp hc24
            refine hq ((2 * k) + 1) (k + 1) _ _ _ _ ?_ (by omega) Fx8 (olT_t (olT_6 olx9) olT_0) o413 (al3_t alx10 al3_0) (am_fpT (fun k (hk : k < 69 ∨ 92 ≤ k) => fzx11 k (by omega)) am_fp0)
            rw [cI_f (show ¬ (((2 * k) + 1) = q ∧ ((2 * k) + 1) = 2 * K) by omega)]
            simp [ckM, cI, hc14, hc14N, hc18, hc23, hc23N, hc24, hc24N, Nat.lt_of_not_le hc14N, Nat.not_lt.mpr hc23N, ← e91]
          · have hc24N : ¬ (2 * K) ≤ (2 * (k + 1)) := fun z9q => hc24 ((nI_leI (a := (2 * K)) (b := (2 * (k + 1))) (by omega) (by omega)).mpr z9q)
            refine aw_iload (npc := 90) rfl dX8_check_88 rfl ?_
            refine aw_iconst (npc := 91) (v := 2) (by decide) dX8_check_90 rfl ?_
            refine aw_iload (npc := 93) rfl dX8_check_91 rfl ?_
            refine aw_imulV (npc := 94) (v := nI (2 * (k + 1))) dX8_check_93 rfl (pk_mul 2 _) ?_
            refine aw_icmp_ne (npc := 97) (tgt := 180) dX8_check_94 rfl (by decide) (fun _ => ?_) (fun hc => absurd hc (fun z9q => absurd ((nI_eq (a := ((2 * k) + 1)) (b := (2 * (k + 1))) (by omega) (by omega)).mp z9q) (by omega)))
            refine hq ((2 * k) + 1) (k + 1) _ _ _ _ ?_ (by omega) Fx8 (olT_t (olT_6 olx9) olT_0) o413 (al3_t alx10 al3_0) (am_fpT (fun k (hk : k < 69 ∨ 92 ≤ k) => fzx11 k (by omega)) am_fp0)
            rw [cI_f (show ¬ (((2 * k) + 1) = q ∧ ((2 * k) + 1) = 2 * K) by omega)]
            simp [ckM, cI, hc14, hc14N, hc18, hc23, hc23N, hc24, hc24N, Nat.lt_of_not_le hc14N, Nat.not_lt.mpr hc23N, ← e91]
        · have hc23N : ¬ q ≤ ((2 * k) + 1) := fun z9q => hc23 ((nI_leI (a := q) (b := ((2 * k) + 1)) (by omega) (by omega)).mpr z9q)
          refine aw_aload_n (npc := 151) rfl dX8_check_150 rfl ?_
          refine aw_get (npc := 154) dX8_check_151 rfl kf_X8_79 Fx8.1 rfl ?_
          refine aw_iload (npc := 156) rfl dX8_check_154 rfl ?_
          refine aw_iald (npc := 157) (x := (a9x5 91) ((2 * k) + 1)) (j := ((2 * k) + 1)) dX8_check_156 rfl Fx8.2.2.2.2.2.2.2.2.2.2.2.2.2.2.2.2.2.2.2.2.2.2 (am_ix_nI (by omega)) (tl_at (by omega)) ?_
          refine aw_aload_n (npc := 158) rfl dX8_check_157 rfl ?_
          refine aw_get (npc := 161) dX8_check_158 rfl kf_X8_9 Fx8.1 rfl ?_
          refine aw_iconst (npc := 162) (v := 3) (by decide) dX8_check_161 rfl ?_
          refine aw_iald (npc := 163) (x := (goF c fr (-1) 1 NA) 3) (j := 3) dX8_check_162 rfl Fx8.2.1 ⟨by decide, by decide⟩ (tl_at (by omega)) ?_
          refine aw_icmp_ne (npc := 166) (tgt := 170) dX8_check_163 rfl (by decide) (fun hc26 => ?_) (fun hc26 => ?_)
          · refine aw_iconst (npc := 171) (v := 0) (by decide) dX8_check_170 rfl ?_
            refine aw_iaddV (npc := 172) (v := nI ((2 * k) + 1)) dX8_check_171 rfl (Int32.add_zero _) ?_
            refine aw_istore (npc := 174) (L' := [some (.ref 69), some (.int v1), some (.int (nI q)), some (.int (nI (2 * K))), some (.int (nI ((2 * k) + 1))), some (.int (nI k))]) dX8_check_172 rfl (by decide) rfl rfl ?_
            refine aw_iinc (npc := 177) (v := nI (k + 1)) (L' := [some (.ref 69), some (.int v1), some (.int (nI q)), some (.int (nI (2 * K))), some (.int (nI ((2 * k) + 1))), some (.int (nI (k + 1)))]) dX8_check_174 rfl rfl (nI_1 _) (by decide) rfl rfl ?_
            refine aw_goto (npc := 80) dX8_check_177 (by decide) ?_
            refine aw_iconst (npc := 81) (v := 2) (by decide) dX8_check_80 rfl ?_
            refine aw_iload (npc := 83) rfl dX8_check_81 rfl ?_
            refine aw_imulV (npc := 84) (v := nI (2 * (k + 1))) dX8_check_83 rfl (pk_mul 2 _) ?_
            refine aw_iload_n (npc := 85) rfl dX8_check_84 rfl ?_
            refine aw_icmp_ge (npc := 88) (tgt := 180) dX8_check_85 rfl (by decide) (fun hc27 => ?_) (fun hc27 => ?_)
            · have hc27N := (nI_leI (a := (2 * K)) (b := (2 * (k + 1))) (by omega) (by omega)).mp hc27
              refine hq ((2 * k) + 1) (k + 1) _ _ _ _ ?_ (by omega) Fx8 (olT_t (olT_6 olx9) olT_0) o413 (al3_t alx10 al3_0) (am_fpT (fun k (hk : k < 69 ∨ 92 ≤ k) => fzx11 k (by omega)) am_fp0)
              rw [cI_f (show ¬ (((2 * k) + 1) = q ∧ ((2 * k) + 1) = 2 * K) by omega)]
              simp [ckM, cI, hc14, hc14N, hc18, hc23, hc23N, hc26, hc27, hc27N, Nat.lt_of_not_le hc14N, Nat.lt_of_not_le hc23N, ← e91]
            · have hc27N : ¬ (2 * K) ≤ (2 * (k + 1)) := fun z9q => hc27 ((nI_leI (a := (2 * K)) (b := (2 * (k + 1))) (by omega) (by omega)).mpr z9q)
              refine aw_iload (npc := 90) rfl dX8_check_88 rfl ?_
              refine aw_iconst (npc := 91) (v := 2) (by decide) dX8_check_90 rfl ?_
              refine aw_iload (npc := 93) rfl dX8_check_91 rfl ?_
              refine aw_imulV (npc := 94) (v := nI (2 * (k + 1))) dX8_check_93 rfl (pk_mul 2 _) ?_
              refine aw_icmp_ne (npc := 97) (tgt := 180) dX8_check_94 rfl (by decide) (fun _ => ?_) (fun hc => absurd hc (fun z9q => absurd ((nI_eq (a := ((2 * k) + 1)) (b := (2 * (k + 1))) (by omega) (by omega)).mp z9q) (by omega)))
              refine hq ((2 * k) + 1) (k + 1) _ _ _ _ ?_ (by omega) Fx8 (olT_t (olT_6 olx9) olT_0) o413 (al3_t alx10 al3_0) (am_fpT (fun k (hk : k < 69 ∨ 92 ≤ k) => fzx11 k (by omega)) am_fp0)
              rw [cI_f (show ¬ (((2 * k) + 1) = q ∧ ((2 * k) + 1) = 2 * K) by omega)]
              simp [ckM, cI, hc14, hc14N, hc18, hc23, hc23N, hc26, hc27, hc27N, Nat.lt_of_not_le hc14N, Nat.lt_of_not_le hc23N, ← e91]
          · refine aw_iconst (npc := 167) (v := 1) (by decide) dX8_check_166 rfl ?_
            refine aw_goto (npc := 171) dX8_check_167 (by decide) ?_
            refine aw_iaddV (npc := 172) (v := nI (((2 * k) + 1) + 1)) dX8_check_171 rfl (nI_add _ 1) ?_
            refine aw_istore (npc := 174) (L' := [some (.ref 69), some (.int v1), some (.int (nI q)), some (.int (nI (2 * K))), some (.int (nI (((2 * k) + 1) + 1))), some (.int (nI k))]) dX8_check_172 rfl (by decide) rfl rfl ?_
            refine aw_iinc (npc := 177) (v := nI (k + 1)) (L' := [some (.ref 69), some (.int v1), some (.int (nI q)), some (.int (nI (2 * K))), some (.int (nI (((2 * k) + 1) + 1))), some (.int (nI (k + 1)))]) dX8_check_174 rfl rfl (nI_1 _) (by decide) rfl rfl ?_
            refine aw_goto (npc := 80) dX8_check_177 (by decide) ?_
            refine aw_locs (L' := [some (.ref 69), some (.int v1), some (.int (nI q)), some (.int (nI (2 * K))), some (.int (nI (2 * (k + 1)))), some (.int (nI (k + 1)))]) rfl ?_
            refine ih (k + 1) (by omega) _ _ _ _ Fx8 (tc_go hKA.2.1 hCA) (rk_go _ _ hKA) o413 e91 (fun r9 k9 N9 o9 a9 h9 e9 l9 F9 ol9 o49 al9 f9 => hq r9 k9 N9 o9 a9 h9 (e9.trans ?_) l9 F9 (olT_t ol9 (olT_t (olT_6 olx9) olT_0)) o49 (al3_t al9 (al3_t alx10 al3_0)) (am_fpT f9 (am_fpT (fun k (hk : k < 69 ∨ 92 ≤ k) => fzx11 k (by omega)) am_fp0)))
            simp [ckM, cI, hc14, hc14N, hc18, hc23, hc23N, hc26, Nat.lt_of_not_le hc14N, Nat.lt_of_not_le hc23N, ← e91]
set_option maxHeartbeats 4000000 in
set_option maxRecDepth 100000 in
theorem M_check {X : List Int32} {d rc rs n : Nat} {Q : am_Q} {h : am_H} {o N : Nat → Int32} {a : Nat → Nat → Int32} {fr c : Nat} {v : Int32} {q : Nat} {tb : TB} {tx : List Value} {lk : Nat → Int32} (F : MR o N a h) (hq35 : o 35 = nI q) (hq60 : q ≤ 60) (ho4 : o 4 = -1) (hIm : ¬ o 3 = 0 → RG (a 71) fr c ∧ TC tb tx lk (a 71) c) (hq : ∀ v9 o9 a9 h9, v9 = ckV c fr q (a 91) (a 71) (o 3) v → MR o9 N a9 h9 → o9 35 = 0 → (∀ k, k ≠ 6 → k ≠ 35 → o9 k = o k) → (∀ k, k ≠ 72 → k ≠ 73 → k ≠ 81 → k ≠ 82 → a9 k = a k) → am_fp (fun k => k < 69 ∨ 92 ≤ k) h9 h → Q (some (.int v9)) n h9) : AW X mX8_check (d + 41) rc rs 0 [some (.ref 69), some (.int v), none, none, none, none] [] n h Q := by
  refine aw_aload_n (npc := 1) rfl dX8_check_0 rfl ?_
  refine aw_get (npc := 4) dX8_check_1 rfl kf_X8_266 F.1 rfl ?_
  refine aw_top (y := nI q) (hq35) ?_
  refine aw_istore_n (npc := 5) (L' := [some (.ref 69), some (.int v), some (.int (nI q)), none, none, none]) dX8_check_4 rfl (by decide) rfl rfl ?_
  refine aw_aload_n (npc := 6) rfl dX8_check_5 rfl ?_
  refine aw_iconst (npc := 7) (v := 0) (by decide) dX8_check_6 rfl ?_
  refine aw_put (npc := 10) dX8_check_7 rfl kf_X8_266 F.1 (Nat.le_of_ble_eq_true rfl) (am_ok_int _) rfl ?_
  have F1 := mr_o35 (v := 0) F
  refine aw_iload_n (npc := 11) rfl dX8_check_10 rfl ?_
  refine aw_iconst (npc := 12) (v := 1) (by decide) dX8_check_11 rfl ?_
  refine aw_bipush (npc := 14) (v := 30) (by decide) dX8_check_12 rfl ?_
  refine aw_callS (npc := 17) (N := mX8_in) (mc := 0) (ms := 0) (A := [.int v, .int 1, .int 30]) (S := []) (L0 := [some (.int v), some (.int 1), some (.int 30)]) dX8_check_14 rfl km_X8_in kk_X8_83 rfl ⟨rfl, by decide⟩ rfl (Nat.le_of_ble_eq_true rfl) (Nat.zero_add _) (Nat.zero_add _) rfl ?_
  refine c_X8_in (fun hw2 => ?_) (fun hw2 => ?_)
  · obtain ⟨vn, hvn, evn⟩ := wi_nI (H := 30) (by decide) (by decide) hw2
    subst evn
    have fvn : fN (nI vn) = vn := fN_nI (by omega)
    refine aw_re (S' := [.int 1]) rfl ?_
    refine aw_if_ne (npc := 20) (tgt := 23) dX8_check_17 rfl (by decide) (fun _ => ?_) (fun hc => absurd hc (by decide))
    refine aw_aload_n (npc := 24) rfl dX8_check_23 rfl ?_
    refine aw_get (npc := 27) dX8_check_24 rfl kf_X8_269 F1.1 rfl ?_
    refine aw_top (y := o 3) ((pk_un (by omega))) ?_
    refine aw_if_ne (npc := 30) (tgt := 34) dX8_check_27 rfl (by decide) (fun hc3 => ?_) (fun hc3 => ?_)
    · obtain ⟨hRI, hCI⟩ := hIm hc3
      have hKI := rg_rk hRI
      obtain ⟨pp, hpp, epp⟩ := wi_nI (H := 9999) (by decide) (by decide) hRI.2.2.2.2.2.2.2.2.1
      have fpp : fN (nI pp) = pp := fN_nI (by omega)
      refine aw_aload_n (npc := 35) rfl dX8_check_34 rfl ?_
      refine aw_get (npc := 38) dX8_check_35 rfl kf_X8_9 F1.1 rfl ?_
      refine aw_aload_n (npc := 39) rfl dX8_check_38 rfl ?_
      refine aw_get (npc := 42) dX8_check_39 rfl kf_X8_16 F1.1 rfl ?_
      refine aw_callS (npc := 45) (N := mX8_copyAll) (mc := 0) (ms := 0) (A := [.ref 70, .ref 72]) (S := []) (L0 := [some (.ref 70), some (.ref 72), none]) dX8_check_42 rfl km_X8_copyAll kk_X8_273 rfl ⟨rfl, by decide⟩ rfl (Nat.le_of_ble_eq_true rfl) (Nat.zero_add _) (Nat.zero_add _) rfl ?_
      refine m_copyAll (by decide) F1.2.1 F1.2.2.2.1 ?_
      have Fc4 := mr_all72 (f := N) F1
      refine aw_aload_n (npc := 46) rfl dX8_check_45 rfl ?_
      refine aw_get (npc := 49) dX8_check_46 rfl kf_X8_13 Fc4.1 rfl ?_
      refine aw_aload_n (npc := 50) rfl dX8_check_49 rfl ?_
      refine aw_get (npc := 53) dX8_check_50 rfl kf_X8_9 Fc4.1 rfl ?_
      refine aw_callS (npc := 56) (N := mX8_copyAll) (mc := 0) (ms := 0) (A := [.ref 71, .ref 70]) (S := []) (L0 := [some (.ref 71), some (.ref 70), none]) dX8_check_53 rfl km_X8_copyAll kk_X8_273 rfl ⟨rfl, by decide⟩ rfl (Nat.le_of_ble_eq_true rfl) (Nat.zero_add _) (Nat.zero_add _) rfl ?_
      refine m_copyAll (by decide) Fc4.2.2.1 Fc4.2.1 ?_
      have Fc5 := mr_all70 (f := (aset a 72 N) 71) Fc4
      have Fd6 : MR (upd o 35 0) (a 71) (aset a 72 N) _ := Fc5
      refine aw_iconst (npc := 57) (v := 2) (by decide) dX8_check_56 rfl ?_
      refine aw_sipush (npc := 60) (v := 9999) (by decide) dX8_check_57 rfl ?_
      refine aw_aload_n (npc := 61) rfl dX8_check_60 rfl ?_
      refine aw_get (npc := 64) dX8_check_61 rfl kf_X8_9 Fd6.1 rfl ?_
      refine aw_iconst (npc := 65) (v := 2) (by decide) dX8_check_64 rfl ?_
      refine aw_iald (npc := 66) (x := (a 71) 2) (j := 2) dX8_check_65 rfl Fd6.2.1 ⟨by decide, by decide⟩ (tl_at (by omega)) ?_
      refine aw_top (y := nI pp) (epp) ?_
      refine aw_isubV (npc := 67) (v := nI (9999 - pp)) dX8_check_66 rfl (pk_sub (a := 9999) (by omega)) ?_
      refine aw_iconst (npc := 68) (v := 0) (by decide) dX8_check_67 rfl ?_
      refine aw_iload_n (npc := 69) rfl dX8_check_68 rfl ?_
      refine aw_callS (npc := 72) (N := mX8_within) (mc := 0) (ms := 0) (A := [.int (nI (9999 - pp)), .int 0, .int (nI vn)]) (S := [.int 2]) (L0 := [some (.int (nI (9999 - pp))), some (.int 0), some (.int (nI vn))]) dX8_check_69 rfl km_X8_within kk_X8_108 rfl ⟨rfl, by decide⟩ rfl (Nat.le_of_ble_eq_true rfl) (Nat.zero_add _) (Nat.zero_add _) rfl ?_
      refine m_within ?_
      refine aw_re (S' := [.int (wn (nI (9999 - pp)) 0 (nI vn)), .int 2]) rfl ?_
      refine aw_top (y := nI (min vn (9999 - pp))) (wn_min (by omega) (by omega)) ?_
      refine aw_imulV (npc := 73) (v := nI (2 * (min vn (9999 - pp)))) dX8_check_72 rfl (pk_mul 2 _) ?_
      refine aw_istore_n (npc := 74) (L' := [some (.ref 69), some (.int (nI vn)), some (.int (nI q)), some (.int (nI (2 * (min vn (9999 - pp))))), none, none]) dX8_check_73 rfl (by decide) rfl rfl ?_
      refine aw_iconst (npc := 75) (v := 0) (by decide) dX8_check_74 rfl ?_
      refine aw_istore (npc := 77) (L' := [some (.ref 69), some (.int (nI vn)), some (.int (nI q)), some (.int (nI (2 * (min vn (9999 - pp))))), some (.int 0), none]) dX8_check_75 rfl (by decide) rfl rfl ?_
      refine aw_iconst (npc := 78) (v := 0) (by decide) dX8_check_77 rfl ?_
      refine aw_istore (npc := 80) (L' := [some (.ref 69), some (.int (nI vn)), some (.int (nI q)), some (.int (nI (2 * (min vn (9999 - pp))))), some (.int 0), some (.int 0)]) dX8_check_78 rfl (by decide) rfl rfl ?_
      refine aw_locs (L' := [some (.ref 69), some (.int (nI vn)), some (.int (nI q)), some (.int (nI (2 * min vn (9999 - pp)))), some (.int (nI (2 * 0))), some (.int (nI 0))]) rfl ?_
      refine M_checkL (K := min vn (9999 - pp)) (wt := a 91) (by omega) hq60 _ 0 (Nat.zero_add _) _ _ _ _ Fd6 hCI hKI ho4 (aset_n (by decide)) (fun r9 k9 N9 o9 a9 h9 e9 l9 F9 ol9 o49 al9 f9 => ?_)
      have e72 : a9 72 = N := (al9 72 (by decide) (by decide) (by decide)).trans aset_s
      refine aw_aload_n (npc := 181) rfl dX8_check_180 rfl ?_
      refine aw_get (npc := 184) dX8_check_181 rfl kf_X8_16 F9.1 rfl ?_
      refine aw_aload_n (npc := 185) rfl dX8_check_184 rfl ?_
      refine aw_get (npc := 188) dX8_check_185 rfl kf_X8_9 F9.1 rfl ?_
      refine aw_callS (npc := 191) (N := mX8_copyAll) (mc := 0) (ms := 0) (A := [.ref 72, .ref 70]) (S := []) (L0 := [some (.ref 72), some (.ref 70), none]) dX8_check_188 rfl km_X8_copyAll kk_X8_273 rfl ⟨rfl, by decide⟩ rfl (Nat.le_of_ble_eq_true rfl) (Nat.zero_add _) (Nat.zero_add _) rfl ?_
      refine m_copyAll (by decide) F9.2.2.2.1 F9.2.1 ?_
      have Fc7 := mr_all70 (f := a9 72) F9
      have Fe8 : MR o9 N a9 _ := mr_N e72 Fc7
      refine aw_iload (npc := 193) rfl dX8_check_191 rfl ?_
      refine aw_iload_n (npc := 194) rfl dX8_check_193 rfl ?_
      refine aw_icmp_ne (npc := 197) (tgt := 207) dX8_check_194 rfl (by decide) (fun hc9 => ?_) (fun hc9 => ?_)
      · have hc9N : ¬ r9 = q := fun z9q => hc9 ((nI_eq (a := r9) (b := q) (by omega) (by omega)).mpr z9q)
        refine aw_iconst (npc := 208) (v := 1) (by decide) dX8_check_207 rfl ?_
        refine aw_iload (npc := 210) rfl dX8_check_208 rfl ?_
        refine aw_iaddV (npc := 211) (v := nI (1 + r9)) dX8_check_210 rfl (nI_add 1 _) ?_
        refine aw_iret rfl dX8_check_211 ?_
        have ev : (nI (1 + r9)) = ckM c fr q (a 91) (min vn (9999 - pp)) 0 (a 71) := (cI_f (fun z => hc9N z.1)).symm.trans e9
        exact hq _ _ _ _ (by rw [ev]; simp [ckV, cI, hw2, hc3, hc9, hc9N, fvn, epp, fpp]) Fe8 ((ol9 35 (by decide) (by decide)).trans pk_us) (fun k h6 h35 => by
          by_cases q4 : k = 4
          · subst q4; exact o49.trans ho4.symm
          · exact (ol9 k q4 h6).trans (pk_un h35)) (fun k h72 h73 h81 h82 => (al9 k h73 h81 h82).trans (aset_n h72)) (am_fpU (show ¬ (70 < 69 ∨ 92 ≤ 70) by omega) (am_fpT f9 (am_fpU (show ¬ (70 < 69 ∨ 92 ≤ 70) by omega) (am_fpU (show ¬ (72 < 69 ∨ 92 ≤ 72) by omega) (am_fpU (show ¬ (69 < 69 ∨ 92 ≤ 69) by omega) am_fp0)))))
      · have hc9N := (nI_eq (a := r9) (b := q) (by omega) (by omega)).mp hc9
        refine aw_iload (npc := 199) rfl dX8_check_197 rfl ?_
        refine aw_iload_n (npc := 200) rfl dX8_check_199 rfl ?_
        refine aw_icmp_ne (npc := 203) (tgt := 207) dX8_check_200 rfl (by decide) (fun hc10 => ?_) (fun hc10 => ?_)
        · have hc10N : ¬ r9 = (2 * min vn (9999 - pp)) := fun z9q => hc10 ((nI_eq (a := r9) (b := (2 * min vn (9999 - pp))) (by omega) (by omega)).mpr z9q)
          refine aw_iconst (npc := 208) (v := 1) (by decide) dX8_check_207 rfl ?_
          refine aw_iload (npc := 210) rfl dX8_check_208 rfl ?_
          refine aw_iaddV (npc := 211) (v := nI (1 + r9)) dX8_check_210 rfl (nI_add 1 _) ?_
          refine aw_iret rfl dX8_check_211 ?_
          have ev : (nI (1 + r9)) = ckM c fr q (a 91) (min vn (9999 - pp)) 0 (a 71) := (cI_f (fun z => hc10N z.2)).symm.trans e9
          exact hq _ _ _ _ (by rw [ev]; simp [ckV, cI, hw2, hc3, hc9, hc9N, hc10, hc10N, fvn, epp, fpp]) Fe8 ((ol9 35 (by decide) (by decide)).trans pk_us) (fun k h6 h35 => by
            by_cases q4 : k = 4
            · subst q4; exact o49.trans ho4.symm
            · exact (ol9 k q4 h6).trans (pk_un h35)) (fun k h72 h73 h81 h82 => (al9 k h73 h81 h82).trans (aset_n h72)) (am_fpU (show ¬ (70 < 69 ∨ 92 ≤ 70) by omega) (am_fpT f9 (am_fpU (show ¬ (70 < 69 ∨ 92 ≤ 70) by omega) (am_fpU (show ¬ (72 < 69 ∨ 92 ≤ 72) by omega) (am_fpU (show ¬ (69 < 69 ∨ 92 ≤ 69) by omega) am_fp0)))))
        · have hc10N := (nI_eq (a := r9) (b := (2 * min vn (9999 - pp))) (by omega) (by omega)).mp hc10
          refine aw_iconst (npc := 204) (v := 0) (by decide) dX8_check_203 rfl ?_
          refine aw_goto (npc := 211) dX8_check_204 (by decide) ?_
          refine aw_iret rfl dX8_check_211 ?_
          have ev : 0 = ckM c fr q (a 91) (min vn (9999 - pp)) 0 (a 71) := (cI_t ⟨hc9N, hc10N⟩).symm.trans e9
          exact hq _ _ _ _ (by rw [ev]; simp [ckV, cI, hw2, hc3, hc9, hc9N, hc10, hc10N, fvn, epp, fpp]) Fe8 ((ol9 35 (by decide) (by decide)).trans pk_us) (fun k h6 h35 => by
            by_cases q4 : k = 4
            · subst q4; exact o49.trans ho4.symm
            · exact (ol9 k q4 h6).trans (pk_un h35)) (fun k h72 h73 h81 h82 => (al9 k h73 h81 h82).trans (aset_n h72)) (am_fpU (show ¬ (70 < 69 ∨ 92 ≤ 70) by omega) (am_fpT f9 (am_fpU (show ¬ (70 < 69 ∨ 92 ≤ 70) by omega) (am_fpU (show ¬ (72 < 69 ∨ 92 ≤ 72) by omega) (am_fpU (show ¬ (69 < 69 ∨ 92 ≤ 69) by omega) am_fp0)))))
    · refine aw_ldcw (npc := 33) kc_X8_265 dX8_check_30 rfl ?_
      refine aw_iret rfl dX8_check_33 ?_
      exact hq _ _ _ _ (by simp [ckV, cI, hw2, hc3, fvn]) F1 pk_us (fun k _ h35 => pk_un h35) (fun _ _ _ _ _ => rfl) (am_fpU (show ¬ (69 < 69 ∨ 92 ≤ 69) by omega) am_fp0)
  · refine aw_re (S' := [.int 0]) rfl ?_
    refine aw_if_ne (npc := 20) (tgt := 23) dX8_check_17 rfl (by decide) (fun hc => absurd (by decide) hc) (fun _ => ?_)
    refine aw_ldc (npc := 22) kc_X8_91 dX8_check_20 rfl ?_
    refine aw_iret rfl dX8_check_22 ?_
    exact hq _ _ _ _ (by simp [ckV, cI, hw2]) F1 pk_us (fun k _ h35 => pk_un h35) (fun _ _ _ _ _ => rfl) (am_fpU (show ¬ (69 < 69 ∨ 92 ≤ 69) by omega) am_fp0)
set_option maxHeartbeats 4000000 in
set_option maxRecDepth 100000 in
theorem M_offL {X : List Int32} {d rc rs n : Nat} {Q : am_Q} {o NA : Nat → Int32} {a : Nat → Nat → Int32} {h : am_H} {s e t z : Nat} (hs : s < 4) (hz : z ≤ 24) (F : MR o NA a h) (ez : a 84 s = nI z) (hq : ∀ (sm : Int64) (v6 v7 v8 v9 : Option Value), AW X mX8_offBy (d + 40) rc rs 114 [some (.ref 69), some (.int (nI s)), some (.int (nI e)), some (.int (nI t)), some (.long sm), none, v6, v7, v8, v9] [] n h Q) : ∀ (m k : Nat), k + m = z → ∀ (sm : Int64) (v7 v8 v9 : Option Value), AW X mX8_offBy (d + 40) rc rs 25 [some (.ref 69), some (.int (nI s)), some (.int (nI e)), some (.int (nI t)), some (.long sm), none, some (.int (nI k)), v7, v8, v9] [] n h Q := by
  intro m
  induction m with
  | zero =>
    intro k hk sm v7 v8 v9
    obtain rfl : k = z := by omega
    refine aw_iload (npc := 27) rfl dX8_offBy_25 rfl ?_
    refine aw_aload_n (npc := 28) rfl dX8_offBy_27 rfl ?_
    refine aw_get (npc := 31) dX8_offBy_28 rfl kf_X8_58 F.1 rfl ?_
    refine aw_iload_n (npc := 32) rfl dX8_offBy_31 rfl ?_
    refine aw_iald (npc := 33) (x := (a 84) s) (j := s) dX8_offBy_32 rfl F.2.2.2.2.2.2.2.2.2.2.2.2.2.2.2.1 (am_ix_nI (by omega)) (tl_at (by omega)) ?_
    refine aw_top (y := nI k) (ez) ?_
    refine aw_icmp_ge (npc := 36) (tgt := 114) dX8_offBy_33 rfl (by decide) (fun _ => ?_) (fun hc => absurd (nI_le (a := k) (b := k) (by omega) (by omega)) hc)
    exact hq _ _ _ _ _
  | succ m ih =>
    intro k hk sm v7 v8 v9
    refine aw_iload (npc := 27) rfl dX8_offBy_25 rfl ?_
    refine aw_aload_n (npc := 28) rfl dX8_offBy_27 rfl ?_
    refine aw_get (npc := 31) dX8_offBy_28 rfl kf_X8_58 F.1 rfl ?_
    refine aw_iload_n (npc := 32) rfl dX8_offBy_31 rfl ?_
    refine aw_iald (npc := 33) (x := (a 84) s) (j := s) dX8_offBy_32 rfl F.2.2.2.2.2.2.2.2.2.2.2.2.2.2.2.1 (am_ix_nI (by omega)) (tl_at (by omega)) ?_
    refine aw_top (y := nI z) (ez) ?_
    refine aw_icmp_ge (npc := 36) (tgt := 114) dX8_offBy_33 rfl (by decide) (fun hc => absurd hc (nI_ge (a := k) (b := z) (by omega) (by omega))) (fun _ => ?_)
    refine aw_aload_n (npc := 37) rfl dX8_offBy_36 rfl ?_
    refine aw_get (npc := 40) dX8_offBy_37 rfl kf_X8_61 F.1 rfl ?_
    refine aw_bipush (npc := 42) (v := 24) (by decide) dX8_offBy_40 rfl ?_
    refine aw_iload_n (npc := 43) rfl dX8_offBy_42 rfl ?_
    refine aw_imulV (npc := 44) (v := nI (24 * s)) dX8_offBy_43 rfl (pk_mul 24 _) ?_
    refine aw_iload (npc := 46) rfl dX8_offBy_44 rfl ?_
    refine aw_iaddV (npc := 47) (v := nI ((24 * s) + k)) dX8_offBy_46 rfl (nI_add _ _) ?_
    refine aw_iald (npc := 48) (x := (a 85) ((24 * s) + k)) (j := ((24 * s) + k)) dX8_offBy_47 rfl F.2.2.2.2.2.2.2.2.2.2.2.2.2.2.2.2.1 (am_ix_nI (by omega)) (tl_at (by omega)) ?_
    refine aw_istore (npc := 50) (L' := [some (.ref 69), some (.int (nI s)), some (.int (nI e)), some (.int (nI t)), some (.long sm), none, some (.int (nI k)), some (.int ((a 85) ((24 * s) + k))), v8, v9]) dX8_offBy_48 rfl (by decide) rfl rfl ?_
    refine aw_iload (npc := 52) rfl dX8_offBy_50 rfl ?_
    refine aw_i2l (npc := 53) dX8_offBy_52 rfl ?_
    refine aw_iload (npc := 55) rfl dX8_offBy_53 rfl ?_
    refine aw_iconst (npc := 56) (v := 4) (by decide) dX8_offBy_55 rfl ?_
    refine aw_icmp_ge (npc := 59) (tgt := 72) dX8_offBy_56 rfl (by decide) (fun hc2 => ?_) (fun hc2 => ?_)
    · have hc2N := (nI_leI (a := 4) (b := k) (by omega) (by omega)).mp hc2
      refine aw_iconst (npc := 73) (v := 0) (by decide) dX8_offBy_72 rfl ?_
      refine aw_i2l (npc := 74) dX8_offBy_73 rfl ?_
      refine aw_lsub (npc := 75) dX8_offBy_74 rfl ?_
      refine aw_lstore (npc := 77) (L' := [some (.ref 69), some (.int (nI s)), some (.int (nI e)), some (.int (nI t)), some (.long sm), none, some (.int (nI k)), some (.int ((a 85) ((24 * s) + k))), some (.long ((((a 85) ((24 * s) + k)).toInt64) - ((0 : Int32).toInt64))), none]) dX8_offBy_75 rfl (by decide) rfl rfl ?_
      refine aw_lload (npc := 79) rfl dX8_offBy_77 rfl ?_
      refine aw_iload (npc := 81) rfl dX8_offBy_79 rfl ?_
      refine aw_ldc (npc := 83) kc_X8_82 dX8_offBy_81 rfl ?_
      refine aw_icmp_ne (npc := 86) (tgt := 90) dX8_offBy_83 rfl (by decide) (fun hc3 => ?_) (fun hc3 => ?_)
      · refine aw_lload (npc := 92) rfl dX8_offBy_90 rfl ?_
        refine aw_lconst (npc := 93) (v := 0) (by decide) dX8_offBy_92 rfl ?_
        refine aw_lcmp (npc := 94) dX8_offBy_93 rfl ?_
        refine aw_if_ge (npc := 97) (tgt := 103) dX8_offBy_94 rfl (by decide) (fun hc4 => ?_) (fun hc4 => ?_)
        · refine aw_lload (npc := 105) rfl dX8_offBy_103 rfl ?_
          refine aw_ladd (npc := 106) dX8_offBy_105 rfl ?_
          refine aw_lstore (npc := 108) (L' := [some (.ref 69), some (.int (nI s)), some (.int (nI e)), some (.int (nI t)), some (.long (sm + ((((a 85) ((24 * s) + k)).toInt64) - ((0 : Int32).toInt64)))), none, some (.int (nI k)), some (.int ((a 85) ((24 * s) + k))), some (.long ((((a 85) ((24 * s) + k)).toInt64) - ((0 : Int32).toInt64))), none]) dX8_offBy_106 rfl (by decide) rfl rfl ?_
          refine aw_iinc (npc := 111) (v := nI (k + 1)) (L' := [some (.ref 69), some (.int (nI s)), some (.int (nI e)), some (.int (nI t)), some (.long (sm + ((((a 85) ((24 * s) + k)).toInt64) - ((0 : Int32).toInt64)))), none, some (.int (nI (k + 1))), some (.int ((a 85) ((24 * s) + k))), some (.long ((((a 85) ((24 * s) + k)).toInt64) - ((0 : Int32).toInt64))), none]) dX8_offBy_108 rfl rfl (nI_1 _) (by decide) rfl rfl ?_
          refine aw_goto (npc := 25) dX8_offBy_111 (by decide) ?_
          exact ih (k + 1) (by omega) _ _ _ _
        · refine aw_lload (npc := 99) rfl dX8_offBy_97 rfl ?_
          refine aw_lneg (npc := 100) dX8_offBy_99 rfl ?_
          refine aw_goto (npc := 105) dX8_offBy_100 (by decide) ?_
          refine aw_ladd (npc := 106) dX8_offBy_105 rfl ?_
          refine aw_lstore (npc := 108) (L' := [some (.ref 69), some (.int (nI s)), some (.int (nI e)), some (.int (nI t)), some (.long (sm + (-((((a 85) ((24 * s) + k)).toInt64) - ((0 : Int32).toInt64))))), none, some (.int (nI k)), some (.int ((a 85) ((24 * s) + k))), some (.long ((((a 85) ((24 * s) + k)).toInt64) - ((0 : Int32).toInt64))), none]) dX8_offBy_106 rfl (by decide) rfl rfl ?_
          refine aw_iinc (npc := 111) (v := nI (k + 1)) (L' := [some (.ref 69), some (.int (nI s)), some (.int (nI e)), some (.int (nI t)), some (.long (sm + (-((((a 85) ((24 * s) + k)).toInt64) - ((0 : Int32).toInt64))))), none, some (.int (nI (k + 1))), some (.int ((a 85) ((24 * s) + k))), some (.long ((((a 85) ((24 * s) + k)).toInt64) - ((0 : Int32).toInt64))), none]) dX8_offBy_108 rfl rfl (nI_1 _) (by decide) rfl rfl ?_
          refine aw_goto (npc := 25) dX8_offBy_111 (by decide) ?_
          exact ih (k + 1) (by omega) _ _ _ _
      · refine aw_lconst (npc := 87) (v := 0) (by decide) dX8_offBy_86 rfl ?_
        refine aw_goto (npc := 105) dX8_offBy_87 (by decide) ?_
        refine aw_ladd (npc := 106) dX8_offBy_105 rfl ?_
        refine aw_lstore (npc := 108) (L' := [some (.ref 69), some (.int (nI s)), some (.int (nI e)), some (.int (nI t)), some (.long (sm + 0)), none, some (.int (nI k)), some (.int ((a 85) ((24 * s) + k))), some (.long ((((a 85) ((24 * s) + k)).toInt64) - ((0 : Int32).toInt64))), none]) dX8_offBy_106 rfl (by decide) rfl rfl ?_
        refine aw_iinc (npc := 111) (v := nI (k + 1)) (L' := [some (.ref 69), some (.int (nI s)), some (.int (nI e)), some (.int (nI t)), some (.long (sm + 0)), none, some (.int (nI (k + 1))), some (.int ((a 85) ((24 * s) + k))), some (.long ((((a 85) ((24 * s) + k)).toInt64) - ((0 : Int32).toInt64))), none]) dX8_offBy_108 rfl rfl (nI_1 _) (by decide) rfl rfl ?_
        refine aw_goto (npc := 25) dX8_offBy_111 (by decide) ?_
        exact ih (k + 1) (by omega) _ _ _ _
    · have hc2N : ¬ 4 ≤ k := fun z9q => hc2 ((nI_leI (a := 4) (b := k) (by omega) (by omega)).mpr z9q)
      refine aw_aload_n (npc := 60) rfl dX8_offBy_59 rfl ?_
      refine aw_get (npc := 63) dX8_offBy_60 rfl kf_X8_9 F.1 rfl ?_
      refine aw_bipush (npc := 65) (v := 8) (by decide) dX8_offBy_63 rfl ?_
      refine aw_iload (npc := 67) rfl dX8_offBy_65 rfl ?_
      refine aw_iaddV (npc := 68) (v := nI (8 + k)) dX8_offBy_67 rfl (nI_add 8 _) ?_
      refine aw_iald (npc := 69) (x := NA (8 + k)) (j := (8 + k)) dX8_offBy_68 rfl F.2.1 (am_ix_nI (by omega)) (tl_at (by omega)) ?_
      refine aw_goto (npc := 73) dX8_offBy_69 (by decide) ?_
      refine aw_i2l (npc := 74) dX8_offBy_73 rfl ?_
      refine aw_lsub (npc := 75) dX8_offBy_74 rfl ?_
      refine aw_lstore (npc := 77) (L' := [some (.ref 69), some (.int (nI s)), some (.int (nI e)), some (.int (nI t)), some (.long sm), none, some (.int (nI k)), some (.int ((a 85) ((24 * s) + k))), some (.long ((((a 85) ((24 * s) + k)).toInt64) - ((NA (8 + k)).toInt64))), none]) dX8_offBy_75 rfl (by decide) rfl rfl ?_
      refine aw_lload (npc := 79) rfl dX8_offBy_77 rfl ?_
      refine aw_iload (npc := 81) rfl dX8_offBy_79 rfl ?_
      refine aw_ldc (npc := 83) kc_X8_82 dX8_offBy_81 rfl ?_
      refine aw_icmp_ne (npc := 86) (tgt := 90) dX8_offBy_83 rfl (by decide) (fun hc5 => ?_) (fun hc5 => ?_)
      · refine aw_lload (npc := 92) rfl dX8_offBy_90 rfl ?_
        refine aw_lconst (npc := 93) (v := 0) (by decide) dX8_offBy_92 rfl ?_
        refine aw_lcmp (npc := 94) dX8_offBy_93 rfl ?_
        refine aw_if_ge (npc := 97) (tgt := 103) dX8_offBy_94 rfl (by decide) (fun hc6 => ?_) (fun hc6 => ?_)
        · refine aw_lload (npc := 105) rfl dX8_offBy_103 rfl ?_
          refine aw_ladd (npc := 106) dX8_offBy_105 rfl ?_
          refine aw_lstore (npc := 108) (L' := [some (.ref 69), some (.int (nI s)), some (.int (nI e)), some (.int (nI t)), some (.long (sm + ((((a 85) ((24 * s) + k)).toInt64) - ((NA (8 + k)).toInt64)))), none, some (.int (nI k)), some (.int ((a 85) ((24 * s) + k))), some (.long ((((a 85) ((24 * s) + k)).toInt64) - ((NA (8 + k)).toInt64))), none]) dX8_offBy_106 rfl (by decide) rfl rfl ?_
          refine aw_iinc (npc := 111) (v := nI (k + 1)) (L' := [some (.ref 69), some (.int (nI s)), some (.int (nI e)), some (.int (nI t)), some (.long (sm + ((((a 85) ((24 * s) + k)).toInt64) - ((NA (8 + k)).toInt64)))), none, some (.int (nI (k + 1))), some (.int ((a 85) ((24 * s) + k))), some (.long ((((a 85) ((24 * s) + k)).toInt64) - ((NA (8 + k)).toInt64))), none]) dX8_offBy_108 rfl rfl (nI_1 _) (by decide) rfl rfl ?_
          refine aw_goto (npc := 25) dX8_offBy_111 (by decide) ?_
          exact ih (k + 1) (by omega) _ _ _ _
        · refine aw_lload (npc := 99) rfl dX8_offBy_97 rfl ?_
          refine aw_lneg (npc := 100) dX8_offBy_99 rfl ?_
          refine aw_goto (npc := 105) dX8_offBy_100 (by decide) ?_
          refine aw_ladd (npc := 106) dX8_offBy_105 rfl ?_
          refine aw_lstore (npc := 108) (L' := [some (.ref 69), some (.int (nI s)), some (.int (nI e)), some (.int (nI t)), some (.long (sm + (-((((a 85) ((24 * s) + k)).toInt64) - ((NA (8 + k)).toInt64))))), none, some (.int (nI k)), some (.int ((a 85) ((24 * s) + k))), some (.long ((((a 85) ((24 * s) + k)).toInt64) - ((NA (8 + k)).toInt64))), none]) dX8_offBy_106 rfl (by decide) rfl rfl ?_
          refine aw_iinc (npc := 111) (v := nI (k + 1)) (L' := [some (.ref 69), some (.int (nI s)), some (.int (nI e)), some (.int (nI t)), some (.long (sm + (-((((a 85) ((24 * s) + k)).toInt64) - ((NA (8 + k)).toInt64))))), none, some (.int (nI (k + 1))), some (.int ((a 85) ((24 * s) + k))), some (.long ((((a 85) ((24 * s) + k)).toInt64) - ((NA (8 + k)).toInt64))), none]) dX8_offBy_108 rfl rfl (nI_1 _) (by decide) rfl rfl ?_
          refine aw_goto (npc := 25) dX8_offBy_111 (by decide) ?_
          exact ih (k + 1) (by omega) _ _ _ _
      · refine aw_lconst (npc := 87) (v := 0) (by decide) dX8_offBy_86 rfl ?_
        refine aw_goto (npc := 105) dX8_offBy_87 (by decide) ?_
        refine aw_ladd (npc := 106) dX8_offBy_105 rfl ?_
        refine aw_lstore (npc := 108) (L' := [some (.ref 69), some (.int (nI s)), some (.int (nI e)), some (.int (nI t)), some (.long (sm + 0)), none, some (.int (nI k)), some (.int ((a 85) ((24 * s) + k))), some (.long ((((a 85) ((24 * s) + k)).toInt64) - ((NA (8 + k)).toInt64))), none]) dX8_offBy_106 rfl (by decide) rfl rfl ?_
        refine aw_iinc (npc := 111) (v := nI (k + 1)) (L' := [some (.ref 69), some (.int (nI s)), some (.int (nI e)), some (.int (nI t)), some (.long (sm + 0)), none, some (.int (nI (k + 1))), some (.int ((a 85) ((24 * s) + k))), some (.long ((((a 85) ((24 * s) + k)).toInt64) - ((NA (8 + k)).toInt64))), none]) dX8_offBy_108 rfl rfl (nI_1 _) (by decide) rfl rfl ?_
        refine aw_goto (npc := 25) dX8_offBy_111 (by decide) ?_
        exact ih (k + 1) (by omega) _ _ _ _
set_option maxHeartbeats 4000000 in
set_option maxRecDepth 100000 in
theorem m_off {X : List Int32} {d rc rs n : Nat} {Q : am_Q} {h : am_H} {o N : Nat → Int32} {a : Nat → Nat → Int32} {fr c : Nat} {tb : TB} {tx : List Value} {lk : Nat → Int32} {s e t z : Nat} (hs : s < 4) (he : e < 2) (ht : t < 4) (hz : z ≤ 24) (F : MR o N a h) (ez : a 84 s = nI z) (hC : TC tb tx lk N c) (hK : RK N fr c) (h74 : ∀ j, j < 62 → a 74 j = N j) (ho4 : o 4 = -1) (hq : ∀ (v : Int64) o9 a9 h9, MR o9 N a9 h9 → o9 4 = -1 → olT o9 o → al3 a9 a → am_fp (fun k => k < 69 ∨ 92 ≤ k) h9 h → Q (some (.long v)) n h9) : AW X mX8_offBy (d + 40) rc rs 0 [some (.ref 69), some (.int (nI s)), some (.int (nI e)), some (.int (nI t)), none, none, none, none, none, none] [] n h Q := by
  refine aw_aload_n (npc := 1) rfl dX8_offBy_0 rfl ?_
  refine aw_get (npc := 4) dX8_offBy_1 rfl kf_X8_9 F.1 rfl ?_
  refine aw_bipush (npc := 6) (v := 12) (by decide) dX8_offBy_4 rfl ?_
  refine aw_iconst (npc := 7) (v := 4) (by decide) dX8_offBy_6 rfl ?_
  refine aw_iload_n (npc := 8) rfl dX8_offBy_7 rfl ?_
  refine aw_imulV (npc := 9) (v := nI (4 * e)) dX8_offBy_8 rfl (pk_mul 4 _) ?_
  refine aw_iaddV (npc := 10) (v := nI (12 + (4 * e))) dX8_offBy_9 rfl (nI_add 12 _) ?_
  refine aw_iload_n (npc := 11) rfl dX8_offBy_10 rfl ?_
  refine aw_iaddV (npc := 12) (v := nI ((12 + (4 * e)) + t)) dX8_offBy_11 rfl (nI_add _ _) ?_
  refine aw_bipush (npc := 14) (v := 9) (by decide) dX8_offBy_12 rfl ?_
  refine aw_iast (npc := 15) (j := ((12 + (4 * e)) + t)) dX8_offBy_14 rfl F.2.1 (am_ix_nI (by omega)) (by rw [tl_len]; omega) rfl ?_
  have F1 := mr_70 (j := ((12 + (4 * e)) + t)) (v := 9) F
  refine aw_aload_n (npc := 16) rfl dX8_offBy_15 rfl ?_
  refine aw_callV (npc := 19) (N := mX8_post) (b := 69) (mc := 0) (ms := 0) (A := []) (S := []) (L0 := [some (.ref 69), none]) dX8_offBy_16 rfl km_X8_post kk_X8_157 F1.1 ⟨by decide, rfl⟩ rfl ⟨rfl, by decide⟩ rfl (Nat.le_of_ble_eq_true rfl) (Nat.zero_add _) (Nat.zero_add _) rfl ?_
  have hT2 : TC tb tx lk (upd N ((12 + (4 * e)) + t) 9) c := (tc_u (by omega) (by omega) hC)
  have hK3 : RK (upd N ((12 + (4 * e)) + t) 9) fr c := (rk_u hK (by omega) (by omega) (by omega) (by omega) (by omega) (by omega) (fun _ _ _ => ⟨by decide, by decide⟩) (by omega))
  have o4x := ho4
  refine m_post (c := c) (fr := fr) F1 (mi_rk hK3 (tc_txm hT2)) (fun o9x4 N9x5 a9x6 h9x7 hrx8 Fx9 olx10 alx11 fzx12 => ?_)
  have eNx13 : N9x5 = goF c fr (-1) 1 (upd N ((12 + (4 * e)) + t) 9) := post_m hT2 hK3 (o4x ▸ hrx8)
  subst eNx13
  have o414 := ((olx10 4 (by decide)).trans o4x)
  have h7415 : ∀ j, j < 62 → a9x6 74 j = N j := (fun j hj => (congrFun (alx11 74 (by decide) (by decide) (by decide)) j).trans (h74 j hj))
  refine aw_lconst (npc := 20) (v := 0) (by decide) dX8_offBy_19 rfl ?_
  refine aw_lstore (npc := 22) (L' := [some (.ref 69), some (.int (nI s)), some (.int (nI e)), some (.int (nI t)), some (.long 0), none, none, none, none, none]) dX8_offBy_20 rfl (by decide) rfl rfl ?_
  refine aw_iconst (npc := 23) (v := 0) (by decide) dX8_offBy_22 rfl ?_
  refine aw_istore (npc := 25) (L' := [some (.ref 69), some (.int (nI s)), some (.int (nI e)), some (.int (nI t)), some (.long 0), none, some (.int 0), none, none, none]) dX8_offBy_23 rfl (by decide) rfl rfl ?_
  refine aw_locs (L' := [some (.ref 69), some (.int (nI s)), some (.int (nI e)), some (.int (nI t)), some (.long 0), none, some (.int (nI 0)), none, none, none]) rfl ?_
  refine M_offL (z := z) (by omega) hz Fx9 ((congrFun ((al3_t alx11 al3_0) 84 (by decide) (by decide) (by decide)) s).trans ez) (fun sm v6 v7 v8 v9 => ?_) z 0 (by omega) _ _ _ _
  refine aw_aload_n (npc := 115) rfl dX8_offBy_114 rfl ?_
  refine aw_callV (npc := 118) (N := mX8_putsBack) (b := 69) (mc := 0) (ms := 0) (A := []) (S := []) (L0 := [some (.ref 69), none]) dX8_offBy_115 rfl km_X8_putsBack kk_X8_175 Fx9.1 ⟨by decide, rfl⟩ rfl ⟨rfl, by decide⟩ rfl (Nat.le_of_ble_eq_true rfl) (Nat.zero_add _) (Nat.zero_add _) rfl ?_
  refine m_puts Fx9 (fun N816 hp17 F18 e819 c820 fz21 => ?_)
  have eN22 : N816 = N := funext (fun j => by
    by_cases hj : j < 62
    · exact (e819 j hj).trans (h7415 j hj)
    · have hj : 62 ≤ j := by omega
      exact (c820 j hj).trans ((goF_62 hK3.2.1 hj).trans ((pk_un (by omega)).trans rfl)))
  rw [eN22] at F18
  refine aw_lload (npc := 120) rfl dX8_offBy_118 rfl ?_
  refine aw_lret rfl dX8_offBy_120 ?_
  exact hq _ _ _ _ F18 pk_us (olT_u (olT_t (olT_6 olx10) olT_0)) (al3_t alx11 al3_0) (am_fpT (fun k (hk : k < 69 ∨ 92 ≤ k) => fz21 k (by omega)) (am_fpT (fun k (hk : k < 69 ∨ 92 ≤ k) => fzx12 k (by omega)) (am_fpU (show ¬ (70 < 69 ∨ 92 ≤ 70) by omega) am_fp0)))
set_option maxHeartbeats 4000000 in
set_option maxRecDepth 100000 in
theorem M_caredL {X : List Int32} {d rc rs n : Nat} {Q : am_Q} {fr c : Nat} {tb : TB} {tx : List Value} {lk : Nat → Int32} {N : Nat → Int32} {s e z : Nat} {w : Int32} (hs : s < 4) (he : e < 2) (hz : z ≤ 24) (hC : TC tb tx lk N c) (hK : RK N fr c) : ∀ (m t : Nat), t + m = 4 → ∀ (b : Int32) (l : Int64) (v8 v9 : Option Value) (o : Nat → Int32) (a : Nat → Nat → Int32) (h : am_H), MR o N a h → a 84 s = nI z → (∀ j, j < 62 → a 74 j = N j) → o 4 = -1 → (∀ v9 o9 a9 h9, MR o9 N a9 h9 → olT o9 o → o9 4 = -1 → alT a9 a → am_fp (fun k => k < 69 ∨ 92 ≤ k) h9 h → Q (some (.int v9)) n h9) → AW X mX8_cared (d + 41) rc rs 59 [some (.ref 69), some (.int (nI s)), some (.int (nI e)), some (.int w), some (.int b), some (.long l), none, some (.int (nI t)), v8, v9] [] n h Q := by
  intro m
  induction m with
  | zero =>
    intro t ht b l v8 v9 o a h F ez h74 ho4 hq
    obtain rfl : t = 4 := by omega
    refine aw_iload (npc := 61) rfl dX8_cared_59 rfl ?_
    refine aw_iconst (npc := 62) (v := 4) (by decide) dX8_cared_61 rfl ?_
    refine aw_icmp_ge (npc := 65) (tgt := 115) dX8_cared_62 rfl (by decide) (fun _ => ?_) (fun hc => absurd (nI_le (a := 4) (b := 4) (by omega) (by omega)) hc)
    refine aw_iload_n (npc := 116) rfl dX8_cared_115 rfl ?_
    refine aw_if_ne (npc := 119) (tgt := 124) dX8_cared_116 rfl (by decide) (fun hc2 => ?_) (fun hc2 => ?_)
    · refine aw_lload (npc := 126) rfl dX8_cared_124 rfl ?_
      refine aw_l2i (npc := 127) dX8_cared_126 rfl ?_
      refine aw_iret rfl dX8_cared_127 ?_
      exact hq _ _ _ _ F olT_0 ho4 alT_0 am_fp0
    · refine aw_iload (npc := 121) rfl dX8_cared_119 rfl ?_
      refine aw_goto (npc := 127) dX8_cared_121 (by decide) ?_
      refine aw_iret rfl dX8_cared_127 ?_
      exact hq _ _ _ _ F olT_0 ho4 alT_0 am_fp0
  | succ m ih =>
    intro t ht b l v8 v9 o a h F ez h74 ho4 hq
    refine aw_iload (npc := 61) rfl dX8_cared_59 rfl ?_
    refine aw_iconst (npc := 62) (v := 4) (by decide) dX8_cared_61 rfl ?_
    refine aw_icmp_ge (npc := 65) (tgt := 115) dX8_cared_62 rfl (by decide) (fun hc => absurd hc (nI_ge (a := t) (b := 4) (by omega) (by omega))) (fun _ => ?_)
    refine aw_aload_n (npc := 66) rfl dX8_cared_65 rfl ?_
    refine aw_iload_n (npc := 67) rfl dX8_cared_66 rfl ?_
    refine aw_iload_n (npc := 68) rfl dX8_cared_67 rfl ?_
    refine aw_iload (npc := 70) rfl dX8_cared_68 rfl ?_
    refine aw_callV (npc := 73) (N := mX8_offBy) (b := 69) (mc := 0) (ms := 0) (A := [.int (nI s), .int (nI e), .int (nI t)]) (S := []) (L0 := [some (.ref 69), some (.int (nI s)), some (.int (nI e)), some (.int (nI t)), none, none, none, none, none, none]) dX8_cared_70 rfl km_X8_offBy kk_X8_188 F.1 ⟨by decide, rfl⟩ rfl ⟨rfl, by decide⟩ rfl (Nat.le_of_ble_eq_true rfl) (Nat.zero_add _) (Nat.zero_add _) rfl ?_
    refine m_off (s := s) (e := e) (t := t) (by omega) (by omega) (by omega) hz F ((alrd alT_0).trans ez) hC hK h74 ho4 (fun lv2 oE3 aE4 h9x5 Fx6 o4x7 olx8 alx9 fzx10 => ?_)
    have h7h9x5 : ∀ j, j < 62 → aE4 74 j = N j := fun j hj => (congrFun (alx9 74 (by decide) (by decide) (by decide)) j).trans (h74 j hj)
    have fyfzx10 : ∀ k, (k < 69 ∨ 92 ≤ k) → h9x5 k = _ := fun k hk => fzx10 k hk
    refine aw_re (S' := [.long lv2]) rfl ?_
    refine aw_lstore (npc := 75) (L' := [some (.ref 69), some (.int (nI s)), some (.int (nI e)), some (.int w), some (.int b), some (.long l), none, some (.int (nI t)), some (.long lv2), none]) dX8_cared_73 rfl (by decide) rfl rfl ?_
    refine aw_lload (npc := 77) rfl dX8_cared_75 rfl ?_
    refine aw_lload (npc := 79) rfl dX8_cared_77 rfl ?_
    refine aw_lcmp (npc := 80) dX8_cared_79 rfl ?_
    refine aw_if_ge (npc := 83) (tgt := 88) dX8_cared_80 rfl (by decide) (fun hc11 => ?_) (fun hc11 => ?_)
    · refine aw_iload (npc := 90) rfl dX8_cared_88 rfl ?_
      refine aw_istore (npc := 92) (L' := [some (.ref 69), some (.int (nI s)), some (.int (nI e)), some (.int w), some (.int b), some (.long l), none, some (.int (nI t)), some (.long lv2), none]) dX8_cared_90 rfl (by decide) rfl rfl ?_
      refine aw_lload (npc := 94) rfl dX8_cared_92 rfl ?_
      refine aw_lload (npc := 96) rfl dX8_cared_94 rfl ?_
      refine aw_lcmp (npc := 97) dX8_cared_96 rfl ?_
      refine aw_if_ge (npc := 100) (tgt := 105) dX8_cared_97 rfl (by decide) (fun hc12 => ?_) (fun hc12 => ?_)
      · refine aw_lload (npc := 107) rfl dX8_cared_105 rfl ?_
        refine aw_lstore (npc := 109) (L' := [some (.ref 69), some (.int (nI s)), some (.int (nI e)), some (.int w), some (.int b), some (.long l), none, some (.int (nI t)), some (.long lv2), none]) dX8_cared_107 rfl (by decide) rfl rfl ?_
        refine aw_iinc (npc := 112) (v := nI (t + 1)) (L' := [some (.ref 69), some (.int (nI s)), some (.int (nI e)), some (.int w), some (.int b), some (.long l), none, some (.int (nI (t + 1))), some (.long lv2), none]) dX8_cared_109 rfl rfl (nI_1 _) (by decide) rfl rfl ?_
        refine aw_goto (npc := 59) dX8_cared_112 (by decide) ?_
        exact ih (t + 1) (by omega) _ _ _ _ _ _ _ Fx6 ((alrd (alT_t (alT_3 alx9) alT_0)).trans ez) h7h9x5 o4x7 (fun v9 o9 a9 h9 F9 ol9 o49 al9 f9 => hq v9 o9 a9 h9 F9 (olT_t ol9 (olT_t olx8 olT_0)) o49 (alT_t al9 (alT_t (alT_3 alx9) alT_0)) (am_fpT f9 (am_fpT (fun k (hk : k < 69 ∨ 92 ≤ k) => fyfzx10 k (by omega)) am_fp0)))
      · refine aw_lload (npc := 102) rfl dX8_cared_100 rfl ?_
        refine aw_goto (npc := 107) dX8_cared_102 (by decide) ?_
        refine aw_lstore (npc := 109) (L' := [some (.ref 69), some (.int (nI s)), some (.int (nI e)), some (.int w), some (.int b), some (.long lv2), none, some (.int (nI t)), some (.long lv2), none]) dX8_cared_107 rfl (by decide) rfl rfl ?_
        refine aw_iinc (npc := 112) (v := nI (t + 1)) (L' := [some (.ref 69), some (.int (nI s)), some (.int (nI e)), some (.int w), some (.int b), some (.long lv2), none, some (.int (nI (t + 1))), some (.long lv2), none]) dX8_cared_109 rfl rfl (nI_1 _) (by decide) rfl rfl ?_
        refine aw_goto (npc := 59) dX8_cared_112 (by decide) ?_
        exact ih (t + 1) (by omega) _ _ _ _ _ _ _ Fx6 ((alrd (alT_t (alT_3 alx9) alT_0)).trans ez) h7h9x5 o4x7 (fun v9 o9 a9 h9 F9 ol9 o49 al9 f9 => hq v9 o9 a9 h9 F9 (olT_t ol9 (olT_t olx8 olT_0)) o49 (alT_t al9 (alT_t (alT_3 alx9) alT_0)) (am_fpT f9 (am_fpT (fun k (hk : k < 69 ∨ 92 ≤ k) => fyfzx10 k (by omega)) am_fp0)))
    · refine aw_iload (npc := 85) rfl dX8_cared_83 rfl ?_
      refine aw_goto (npc := 90) dX8_cared_85 (by decide) ?_
      refine aw_istore (npc := 92) (L' := [some (.ref 69), some (.int (nI s)), some (.int (nI e)), some (.int w), some (.int (nI t)), some (.long l), none, some (.int (nI t)), some (.long lv2), none]) dX8_cared_90 rfl (by decide) rfl rfl ?_
      refine aw_lload (npc := 94) rfl dX8_cared_92 rfl ?_
      refine aw_lload (npc := 96) rfl dX8_cared_94 rfl ?_
      refine aw_lcmp (npc := 97) dX8_cared_96 rfl ?_
      refine aw_if_ge (npc := 100) (tgt := 105) dX8_cared_97 rfl (by decide) (fun hc13 => ?_) (fun hc13 => ?_)
      · refine aw_lload (npc := 107) rfl dX8_cared_105 rfl ?_
        refine aw_lstore (npc := 109) (L' := [some (.ref 69), some (.int (nI s)), some (.int (nI e)), some (.int w), some (.int (nI t)), some (.long l), none, some (.int (nI t)), some (.long lv2), none]) dX8_cared_107 rfl (by decide) rfl rfl ?_
        refine aw_iinc (npc := 112) (v := nI (t + 1)) (L' := [some (.ref 69), some (.int (nI s)), some (.int (nI e)), some (.int w), some (.int (nI t)), some (.long l), none, some (.int (nI (t + 1))), some (.long lv2), none]) dX8_cared_109 rfl rfl (nI_1 _) (by decide) rfl rfl ?_
        refine aw_goto (npc := 59) dX8_cared_112 (by decide) ?_
        exact ih (t + 1) (by omega) _ _ _ _ _ _ _ Fx6 ((alrd (alT_t (alT_3 alx9) alT_0)).trans ez) h7h9x5 o4x7 (fun v9 o9 a9 h9 F9 ol9 o49 al9 f9 => hq v9 o9 a9 h9 F9 (olT_t ol9 (olT_t olx8 olT_0)) o49 (alT_t al9 (alT_t (alT_3 alx9) alT_0)) (am_fpT f9 (am_fpT (fun k (hk : k < 69 ∨ 92 ≤ k) => fyfzx10 k (by omega)) am_fp0)))
      · refine aw_lload (npc := 102) rfl dX8_cared_100 rfl ?_
        refine aw_goto (npc := 107) dX8_cared_102 (by decide) ?_
        refine aw_lstore (npc := 109) (L' := [some (.ref 69), some (.int (nI s)), some (.int (nI e)), some (.int w), some (.int (nI t)), some (.long lv2), none, some (.int (nI t)), some (.long lv2), none]) dX8_cared_107 rfl (by decide) rfl rfl ?_
        refine aw_iinc (npc := 112) (v := nI (t + 1)) (L' := [some (.ref 69), some (.int (nI s)), some (.int (nI e)), some (.int w), some (.int (nI t)), some (.long lv2), none, some (.int (nI (t + 1))), some (.long lv2), none]) dX8_cared_109 rfl rfl (nI_1 _) (by decide) rfl rfl ?_
        refine aw_goto (npc := 59) dX8_cared_112 (by decide) ?_
        exact ih (t + 1) (by omega) _ _ _ _ _ _ _ Fx6 ((alrd (alT_t (alT_3 alx9) alT_0)).trans ez) h7h9x5 o4x7 (fun v9 o9 a9 h9 F9 ol9 o49 al9 f9 => hq v9 o9 a9 h9 F9 (olT_t ol9 (olT_t olx8 olT_0)) o49 (alT_t al9 (alT_t (alT_3 alx9) alT_0)) (am_fpT f9 (am_fpT (fun k (hk : k < 69 ∨ 92 ≤ k) => fyfzx10 k (by omega)) am_fp0)))
set_option maxHeartbeats 4000000 in
set_option maxRecDepth 100000 in
theorem M_cared {X : List Int32} {d rc rs n : Nat} {Q : am_Q} {h : am_H} {o N : Nat → Int32} {a : Nat → Nat → Int32} {fr c : Nat} {s : Int32} {e : Int32} {w : Int32} {tb : TB} {tx : List Value} {lk : Nat → Int32} (F : MR o N a h) (hR : RG N fr c) (hC : TC tb tx lk N c) (ho4 : o 4 = -1) (hI : RI (a 83) (a 84)) (hq : ∀ v9 o9 a9 h9, MR o9 N a9 h9 → ol6 o9 o → alT a9 a → am_fp (fun k => k < 69 ∨ 92 ≤ k) h9 h → Q (some (.int v9)) n h9) : AW X mX8_cared (d + 41) rc rs 0 [some (.ref 69), some (.int s), some (.int e), some (.int w), none, none, none, none, none, none] [] n h Q := by
  have h8r := hR.2.1
  have h14r := hR.2.2.2.1
  have hK := rg_rk hR
  refine aw_iload_n (npc := 1) rfl dX8_cared_0 rfl ?_
  refine aw_callS (npc := 4) (N := mX8_isSheet) (mc := 0) (ms := 0) (A := [.int s]) (S := []) (L0 := [some (.int s)]) dX8_cared_1 rfl km_X8_isSheet kk_X8_184 rfl ⟨rfl, by decide⟩ rfl (Nat.le_of_ble_eq_true rfl) (Nat.zero_add _) (Nat.zero_add _) rfl ?_
  refine c_X8_isSheet (fun hw1 => ?_) (fun hw1 => ?_)
  · obtain ⟨sn, hsn, esn⟩ := wi_nI (H := 3) (by decide) (by decide) hw1
    subst esn
    have fsn : fN (nI sn) = sn := fN_nI (by omega)
    obtain ⟨hsr, z9, hz24, ez9⟩ := hI sn (by omega)
    have fz9 : fN (nI z9) = z9 := fN_nI (by omega)
    refine aw_re (S' := [.int 1]) rfl ?_
    refine aw_if_eq (npc := 7) (tgt := 25) dX8_cared_4 rfl (by decide) (fun hc => absurd hc (by decide)) (fun _ => ?_)
    refine aw_iload_n (npc := 8) rfl dX8_cared_7 rfl ?_
    refine aw_iconst (npc := 9) (v := 0) (by decide) dX8_cared_8 rfl ?_
    refine aw_iconst (npc := 10) (v := 1) (by decide) dX8_cared_9 rfl ?_
    refine aw_callS (npc := 13) (N := mX8_in) (mc := 0) (ms := 0) (A := [.int e, .int 0, .int 1]) (S := []) (L0 := [some (.int e), some (.int 0), some (.int 1)]) dX8_cared_10 rfl km_X8_in kk_X8_83 rfl ⟨rfl, by decide⟩ rfl (Nat.le_of_ble_eq_true rfl) (Nat.zero_add _) (Nat.zero_add _) rfl ?_
    refine c_X8_in (fun hw2 => ?_) (fun hw2 => ?_)
    · obtain ⟨en, hen, een⟩ := wi_nI (H := 1) (by decide) (by decide) hw2
      subst een
      have fen : fN (nI en) = en := fN_nI (by omega)
      refine aw_re (S' := [.int 1]) rfl ?_
      refine aw_if_eq (npc := 16) (tgt := 25) dX8_cared_13 rfl (by decide) (fun hc => absurd hc (by decide)) (fun _ => ?_)
      refine aw_iload_n (npc := 17) rfl dX8_cared_16 rfl ?_
      refine aw_iconst (npc := 18) (v := 0) (by decide) dX8_cared_17 rfl ?_
      refine aw_iconst (npc := 19) (v := 1) (by decide) dX8_cared_18 rfl ?_
      refine aw_callS (npc := 22) (N := mX8_in) (mc := 0) (ms := 0) (A := [.int w, .int 0, .int 1]) (S := []) (L0 := [some (.int w), some (.int 0), some (.int 1)]) dX8_cared_19 rfl km_X8_in kk_X8_83 rfl ⟨rfl, by decide⟩ rfl (Nat.le_of_ble_eq_true rfl) (Nat.zero_add _) (Nat.zero_add _) rfl ?_
      refine c_X8_in (fun hw3 => ?_) (fun hw3 => ?_)
      · refine aw_re (S' := [.int 1]) rfl ?_
        refine aw_if_ne (npc := 25) (tgt := 28) dX8_cared_22 rfl (by decide) (fun _ => ?_) (fun hc => absurd hc (by decide))
        refine aw_aload_n (npc := 29) rfl dX8_cared_28 rfl ?_
        refine aw_get (npc := 32) dX8_cared_29 rfl kf_X8_55 F.1 rfl ?_
        refine aw_iload_n (npc := 33) rfl dX8_cared_32 rfl ?_
        refine aw_iald (npc := 34) (x := (a 83) sn) (j := sn) dX8_cared_33 rfl F.2.2.2.2.2.2.2.2.2.2.2.2.2.2.1 (am_ix_nI (by omega)) (tl_at (by omega)) ?_
        rcases wi_cm1_1 hsr with esr | esr | esr
        · refine aw_top (y := -1) esr ?_
          refine aw_if_ge (npc := 37) (tgt := 40) dX8_cared_34 rfl (by decide) (fun hc => absurd hc (by decide)) (fun _ => ?_)
          refine aw_ldc (npc := 39) kc_X8_187 dX8_cared_37 rfl ?_
          refine aw_iret rfl dX8_cared_39 ?_
          exact hq _ _ _ _ F (fun _ _ => rfl) alT_0 am_fp0
        · refine aw_top (y := 0) esr ?_
          refine aw_if_ge (npc := 37) (tgt := 40) dX8_cared_34 rfl (by decide) (fun _ => ?_) (fun hc => absurd (by decide) hc)
          refine aw_aload_n (npc := 41) rfl dX8_cared_40 rfl ?_
          refine aw_callV (npc := 44) (N := mX8_thinks) (b := 69) (mc := 0) (ms := 0) (A := []) (S := []) (L0 := [some (.ref 69), none]) dX8_cared_41 rfl km_X8_thinks kk_X8_169 F.1 ⟨by decide, rfl⟩ rfl ⟨rfl, by decide⟩ rfl (Nat.le_of_ble_eq_true rfl) (Nat.zero_add _) (Nat.zero_add _) rfl ?_
          refine m_thinks F (fun aT4 hp5 F6 eT7 cT8 fz9 => ?_)
          refine aw_iconst (npc := 45) (v := 0) (by decide) dX8_cared_44 rfl ?_
          refine aw_istore (npc := 47) (L' := [some (.ref 69), some (.int (nI sn)), some (.int (nI en)), some (.int w), some (.int 0), none, none, none, none, none]) dX8_cared_45 rfl (by decide) rfl rfl ?_
          refine aw_aload_n (npc := 48) rfl dX8_cared_47 rfl ?_
          refine aw_iload_n (npc := 49) rfl dX8_cared_48 rfl ?_
          refine aw_iload_n (npc := 50) rfl dX8_cared_49 rfl ?_
          refine aw_iconst (npc := 51) (v := 0) (by decide) dX8_cared_50 rfl ?_
          refine aw_callV (npc := 54) (N := mX8_offBy) (b := 69) (mc := 0) (ms := 0) (A := [.int (nI sn), .int (nI en), .int 0]) (S := []) (L0 := [some (.ref 69), some (.int (nI sn)), some (.int (nI en)), some (.int 0), none, none, none, none, none, none]) dX8_cared_51 rfl km_X8_offBy kk_X8_188 F6.1 ⟨by decide, rfl⟩ rfl ⟨rfl, by decide⟩ rfl (Nat.le_of_ble_eq_true rfl) (Nat.zero_add _) (Nat.zero_add _) rfl ?_
          refine m_off (s := sn) (e := en) (t := 0) (by omega) (by omega) (by omega) hz24 F6 ((alrd (alT_t (alT_4 cT8) alT_0)).trans ez9) hC hK eT7 ho4 (fun lv10 oE11 aE12 h9x13 Fx14 o4x15 olx16 alx17 fzx18 => ?_)
          have h7h9x13 : ∀ j, j < 62 → aE12 74 j = N j := fun j hj => (congrFun (alx17 74 (by decide) (by decide) (by decide)) j).trans (eT7 j hj)
          have fyfzx18 : ∀ k, (k < 69 ∨ 92 ≤ k) → h9x13 k = _ := fun k hk => fzx18 k hk
          refine aw_re (S' := [.long lv10]) rfl ?_
          refine aw_lstore (npc := 56) (L' := [some (.ref 69), some (.int (nI sn)), some (.int (nI en)), some (.int w), some (.int 0), some (.long lv10), none, none, none, none]) dX8_cared_54 rfl (by decide) rfl rfl ?_
          refine aw_iconst (npc := 57) (v := 1) (by decide) dX8_cared_56 rfl ?_
          refine aw_istore (npc := 59) (L' := [some (.ref 69), some (.int (nI sn)), some (.int (nI en)), some (.int w), some (.int 0), some (.long lv10), none, some (.int 1), none, none]) dX8_cared_57 rfl (by decide) rfl rfl ?_
          refine aw_locs (L' := [some (.ref 69), some (.int (nI sn)), some (.int (nI en)), some (.int w), some (.int 0), some (.long lv10), none, some (.int (nI 1)), none, none]) rfl ?_
          exact M_caredL (N := N) (s := sn) (e := en) (z := z9) (by omega) (by omega) hz24 hC hK 3 1 (by omega) _ _ _ _ _ _ _ Fx14 ((alrd (alT_t (alT_3 alx17) (alT_t (alT_4 cT8) alT_0))).trans ez9) h7h9x13 o4x15 (fun v9 o9 a9 h9 F9 ol9 o49 al9 f9 => hq v9 o9 a9 h9 F9 (ol_end (olT_t ol9 (olT_t olx16 olT_0)) (o49.trans ho4.symm)) (alT_t al9 (alT_t (alT_3 alx17) (alT_t (alT_4 cT8) alT_0))) (am_fpT f9 (am_fpT (fun k (hk : k < 69 ∨ 92 ≤ k) => fyfzx18 k (by omega)) (am_fpT (fun k (hk : k < 69 ∨ 92 ≤ k) => fz9 k (by omega)) am_fp0))))
        · refine aw_top (y := 1) esr ?_
          refine aw_if_ge (npc := 37) (tgt := 40) dX8_cared_34 rfl (by decide) (fun _ => ?_) (fun hc => absurd (by decide) hc)
          refine aw_aload_n (npc := 41) rfl dX8_cared_40 rfl ?_
          refine aw_callV (npc := 44) (N := mX8_thinks) (b := 69) (mc := 0) (ms := 0) (A := []) (S := []) (L0 := [some (.ref 69), none]) dX8_cared_41 rfl km_X8_thinks kk_X8_169 F.1 ⟨by decide, rfl⟩ rfl ⟨rfl, by decide⟩ rfl (Nat.le_of_ble_eq_true rfl) (Nat.zero_add _) (Nat.zero_add _) rfl ?_
          refine m_thinks F (fun aT19 hp20 F21 eT22 cT23 fz24 => ?_)
          refine aw_iconst (npc := 45) (v := 0) (by decide) dX8_cared_44 rfl ?_
          refine aw_istore (npc := 47) (L' := [some (.ref 69), some (.int (nI sn)), some (.int (nI en)), some (.int w), some (.int 0), none, none, none, none, none]) dX8_cared_45 rfl (by decide) rfl rfl ?_
          refine aw_aload_n (npc := 48) rfl dX8_cared_47 rfl ?_
          refine aw_iload_n (npc := 49) rfl dX8_cared_48 rfl ?_
          refine aw_iload_n (npc := 50) rfl dX8_cared_49 rfl ?_
          refine aw_iconst (npc := 51) (v := 0) (by decide) dX8_cared_50 rfl ?_
          refine aw_callV (npc := 54) (N := mX8_offBy) (b := 69) (mc := 0) (ms := 0) (A := [.int (nI sn), .int (nI en), .int 0]) (S := []) (L0 := [some (.ref 69), some (.int (nI sn)), some (.int (nI en)), some (.int 0), none, none, none, none, none, none]) dX8_cared_51 rfl km_X8_offBy kk_X8_188 F21.1 ⟨by decide, rfl⟩ rfl ⟨rfl, by decide⟩ rfl (Nat.le_of_ble_eq_true rfl) (Nat.zero_add _) (Nat.zero_add _) rfl ?_
          refine m_off (s := sn) (e := en) (t := 0) (by omega) (by omega) (by omega) hz24 F21 ((alrd (alT_t (alT_4 cT23) alT_0)).trans ez9) hC hK eT22 ho4 (fun lv25 oE26 aE27 h9x28 Fx29 o4x30 olx31 alx32 fzx33 => ?_)
          have h7h9x28 : ∀ j, j < 62 → aE27 74 j = N j := fun j hj => (congrFun (alx32 74 (by decide) (by decide) (by decide)) j).trans (eT22 j hj)
          have fyfzx33 : ∀ k, (k < 69 ∨ 92 ≤ k) → h9x28 k = _ := fun k hk => fzx33 k hk
          refine aw_re (S' := [.long lv25]) rfl ?_
          refine aw_lstore (npc := 56) (L' := [some (.ref 69), some (.int (nI sn)), some (.int (nI en)), some (.int w), some (.int 0), some (.long lv25), none, none, none, none]) dX8_cared_54 rfl (by decide) rfl rfl ?_
          refine aw_iconst (npc := 57) (v := 1) (by decide) dX8_cared_56 rfl ?_
          refine aw_istore (npc := 59) (L' := [some (.ref 69), some (.int (nI sn)), some (.int (nI en)), some (.int w), some (.int 0), some (.long lv25), none, some (.int 1), none, none]) dX8_cared_57 rfl (by decide) rfl rfl ?_
          refine aw_locs (L' := [some (.ref 69), some (.int (nI sn)), some (.int (nI en)), some (.int w), some (.int 0), some (.long lv25), none, some (.int (nI 1)), none, none]) rfl ?_
          exact M_caredL (N := N) (s := sn) (e := en) (z := z9) (by omega) (by omega) hz24 hC hK 3 1 (by omega) _ _ _ _ _ _ _ Fx29 ((alrd (alT_t (alT_3 alx32) (alT_t (alT_4 cT23) alT_0))).trans ez9) h7h9x28 o4x30 (fun v9 o9 a9 h9 F9 ol9 o49 al9 f9 => hq v9 o9 a9 h9 F9 (ol_end (olT_t ol9 (olT_t olx31 olT_0)) (o49.trans ho4.symm)) (alT_t al9 (alT_t (alT_3 alx32) (alT_t (alT_4 cT23) alT_0))) (am_fpT f9 (am_fpT (fun k (hk : k < 69 ∨ 92 ≤ k) => fyfzx33 k (by omega)) (am_fpT (fun k (hk : k < 69 ∨ 92 ≤ k) => fz24 k (by omega)) am_fp0))))
      · refine aw_re (S' := [.int 0]) rfl ?_
        refine aw_if_ne (npc := 25) (tgt := 28) dX8_cared_22 rfl (by decide) (fun hc => absurd (by decide) hc) (fun _ => ?_)
        refine aw_ldc (npc := 27) kc_X8_91 dX8_cared_25 rfl ?_
        refine aw_iret rfl dX8_cared_27 ?_
        exact hq _ _ _ _ F (fun _ _ => rfl) alT_0 am_fp0
    · refine aw_re (S' := [.int 0]) rfl ?_
      refine aw_if_eq (npc := 16) (tgt := 25) dX8_cared_13 rfl (by decide) (fun _ => ?_) (fun hc => absurd (by decide) hc)
      refine aw_ldc (npc := 27) kc_X8_91 dX8_cared_25 rfl ?_
      refine aw_iret rfl dX8_cared_27 ?_
      exact hq _ _ _ _ F (fun _ _ => rfl) alT_0 am_fp0
  · refine aw_re (S' := [.int 0]) rfl ?_
    refine aw_if_eq (npc := 7) (tgt := 25) dX8_cared_4 rfl (by decide) (fun _ => ?_) (fun hc => absurd (by decide) hc)
    refine aw_ldc (npc := 27) kc_X8_91 dX8_cared_25 rfl ?_
    refine aw_iret rfl dX8_cared_27 ?_
    exact hq _ _ _ _ F (fun _ _ => rfl) alT_0 am_fp0
