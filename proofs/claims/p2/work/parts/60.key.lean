def RK (N : Nat → Int32) (fr c : Nat) : Prop := N 1 = nI fr ∧ fr ≤ 8 ∧ N 7 = nI c ∧ c ≤ 14 ∧ (∀ f, f < 8 → wi (N (22 + 5 * f)) 0 5 ∧ wi (N (23 + 5 * f)) 0 1 ∧ wi (N (24 + 5 * f)) 0 99) ∧ (∀ t, t < 4 → wi (N (8 + t)) 0 9) ∧ (∀ j, j < 8 → wi (N (12 + j)) 0 9) ∧ wi (N 3) 0 99
theorem rg_rk {N : Nat → Int32} {fr c : Nat} (H : RG N fr c) : RK N fr c := ⟨H.1, H.2.1, H.2.2.1, H.2.2.2.1, H.2.2.2.2.1, H.2.2.2.2.2.1, H.2.2.2.2.2.2.1, H.2.2.2.2.2.2.2.2.2.1⟩
def nmk (k : Nat) : Nat := if k = 0 then 3 else 2
def cr1 (k : Nat) (cc mc : Int32) : Prop := (∃ v, v < 10000 ∧ cc = nI v ∧ mc = nI v) ∨ (∃ j, j < nmk k ∧ cc = -(nI (j + 1)) ∧ mc = nI (10000 + j)) ∨ (cc = -33 ∧ mc = -10) ∨ (∃ s, sgn mc s ∧ cc = -s)
def cnt (mf : Nat → Int32) : Nat → Nat → Nat
  | 0, _ => 0
  | m + 1, i => (if mf i < 0 then 0 else 1) + cnt mf m (i + 1)
theorem sgn_cls {m s : Int32} (h : sgn m s) : -s < -3 ∧ ¬ -s = -33 ∧ -(-s) = s := by
  rcases h with ⟨rfl, rfl⟩ | ⟨rfl, rfl⟩ | ⟨rfl, rfl⟩ | ⟨rfl, rfl⟩ | ⟨rfl, rfl⟩ | ⟨rfl, rfl⟩ | ⟨rfl, rfl⟩ | ⟨rfl, rfl⟩ | ⟨rfl, rfl⟩ <;> decide
theorem nn3 {v : Nat} (h : v < 20000) : ¬ nI v < -3 := fun q => by
  have a := Int32.lt_iff_toInt_lt.mp q
  rw [nI_toInt (by omega)] at a
  have z : (-3 : Int32).toInt = -3 := by decide
  omega
theorem mw_push {fa : Nat → Int32} {p : (Nat → Int32) × Nat} {c : Int32} (h : ¬ c < 0) : mwS fa p c = (upd p.1 p.2 (if c < 10000 then c else fa (c.toInt.toNat - 10000)), p.2 + 1) := if_neg h
theorem wc_push {f1 f2 f3 : Int32} {Ls : Nat} {p : (Nat → Int32) × Nat} {c : Int32} (h : ¬ c < -3) (h2 : ¬ Ls ≤ p.2) : wcS f1 f2 f3 Ls p c = (upd p.1 p.2 (if c < 0 then (if c = -1 then f1 else if c = -2 then f2 else f3) else c), p.2 + 1) := by
  unfold wcS
  rw [if_neg h, if_neg h2]
theorem upd_ag {x y : Nat → Int32} {t : Nat} {v : Int32} (h : ∀ j, j < t → x j = y j) : ∀ j, j < t + 1 → upd x t v j = upd y t v j := fun j hj => by
  by_cases e : j = t
  · subst e; rw [pk_us, pk_us]
  · rw [pk_un e, pk_un e]; exact h j (by omega)
theorem upd_ag2 {x y : Nat → Int32} {t k : Nat} {v w : Int32} (hv : v = w) (h : ∀ j, j < t → x j = y j) : ∀ j, j < t → upd x k v j = upd y k w j := fun j hj => by
  subst hv
  by_cases e : j = k
  · subst e; rw [pk_us, pk_us]
  · rw [pk_un e, pk_un e]; exact h j hj
theorem ev_sim {k lc : Nat} {f1 f2 f3 : Int32} {Ls : Nat} {fa cf mf : Nat → Int32} (h0 : fa 0 = f1) (h1 : fa 1 = f2) (h2 : k = 0 → fa 2 = f3) (hcr : ∀ i, i < lc → cr1 k (cf i) (mf i)) : ∀ (m i top : Nat) (cs ms : Nat → Int32), i + m = lc → vld mf m i top → top + cnt mf m i ≤ Ls → (∀ j, j < top → cs j = ms j) → (wcM f1 f2 f3 Ls cf m i (cs, top)).2 = (mwM fa mf m i (ms, top)).2 ∧ (∀ j, j < (mwM fa mf m i (ms, top)).2 → (wcM f1 f2 f3 Ls cf m i (cs, top)).1 j = (mwM fa mf m i (ms, top)).1 j) ∧ (0 < top ∨ 0 < m → 0 < (mwM fa mf m i (ms, top)).2) := by
  intro m
  induction m with
  | zero =>
    intro i top cs ms _ _ _ hag
    exact ⟨rfl, hag, fun h => show 0 < top by omega⟩
  | succ m ih =>
    intro i top cs ms hi hv hc hag
    have hcri := hcr i (by omega)
    have e1 : wcM f1 f2 f3 Ls cf (m + 1) i (cs, top) = wcM f1 f2 f3 Ls cf m (i + 1) (wcS f1 f2 f3 Ls (cs, top) (cf i)) := rfl
    have e2 : mwM fa mf (m + 1) i (ms, top) = mwM fa mf m (i + 1) (mwS fa (ms, top) (mf i)) := rfl
    have e3 : cnt mf (m + 1) i = (if mf i < 0 then 0 else 1) + cnt mf m (i + 1) := rfl
    rw [e1, e2]
    rw [e3] at hc
    rcases hv with ⟨v, hv1, hv2, hv3, hv4⟩ | ⟨j, hj1, hj2, hj3, hj4⟩ | ⟨hn1, hn2, hn3⟩ | ⟨s, hs1, hs2, hs3⟩
    · have np : ¬ mf i < 0 := by rw [hv2]; exact nI_pos (by omega)
      rw [if_neg np] at hc
      have hcc : cf i = nI v := by
        rcases hcri with ⟨w, hw1, hw2, hw3⟩ | ⟨w, hw1, hw2, hw3⟩ | ⟨hw1, hw2⟩ | ⟨s, hs1, hs2⟩
        · rw [hw2, ← hw3, hv2]
        · exfalso
          have z := congrArg Int32.toInt (hw3.symm.trans hv2)
          unfold nmk at hw1
          rw [nI_toInt (by split at hw1 <;> omega), nI_toInt (by omega)] at z
          split at hw1 <;> omega
        · exact absurd (hw2 ▸ (by decide) : mf i < 0) np
        · exact absurd (sgn_neg hs1).1 np
      have c3 : ¬ cf i < -3 := by rw [hcc]; exact nn3 (by omega)
      have c0 : ¬ cf i < 0 := by rw [hcc]; exact nI_pos (by omega)
      have l1 : mf i < 10000 := by rw [hv2]; exact nI_lt (a := v) (b := 10000) (by omega) (by omega)
      rw [wc_push c3 (show ¬ Ls ≤ ((cs, top) : (Nat → Int32) × Nat).2 by show ¬ Ls ≤ top; omega), mw_push np, if_neg c0, if_pos l1, hcc, hv2]
      have r := ih (i + 1) (top + 1) (upd cs top (nI v)) (upd ms top (nI v)) (by omega) hv4 (by omega) (upd_ag hag)
      exact ⟨r.1, r.2.1, fun _ => r.2.2 (Or.inl (by omega))⟩
    · have np : ¬ mf i < 0 := by rw [hj2]; exact nI_pos (by omega)
      rw [if_neg np] at hc
      have hcc : cf i = -(nI (j + 1)) ∧ j < nmk k := by
        rcases hcri with ⟨w, hw1, hw2, hw3⟩ | ⟨w, hw1, hw2, hw3⟩ | ⟨hw1, hw2⟩ | ⟨s, hs1, hs2⟩
        · exfalso
          have z := congrArg Int32.toInt (hw3.symm.trans hj2)
          rw [nI_toInt (by omega), nI_toInt (by omega)] at z
          omega
        · have z := congrArg Int32.toInt (hw3.symm.trans hj2)
          have hw9 := hw1
          unfold nmk at hw9
          rw [nI_toInt (by split at hw9 <;> omega), nI_toInt (by omega)] at z
          obtain rfl : w = j := by split at hw9 <;> omega
          exact ⟨hw2, hw1⟩
        · exact absurd (hw2 ▸ (by decide) : mf i < 0) np
        · exact absurd (sgn_neg hs1).1 np
      have j3 : j < 3 := by have z := hcc.2; unfold nmk at z; split at z <;> omega
      have l1 : ¬ mf i < 10000 := by rw [hj2]; exact nI_nlt (a := 10000 + j) (b := 10000) (by omega) (by omega)
      have c3 : ¬ cf i < -3 := by rw [hcc.1]; rcases (show j = 0 ∨ j = 1 ∨ j = 2 by omega) with rfl | rfl | rfl <;> decide
      have c0 : cf i < 0 := by rw [hcc.1]; rcases (show j = 0 ∨ j = 1 ∨ j = 2 by omega) with rfl | rfl | rfl <;> decide
      have tn : (mf i).toInt.toNat - 10000 = j := by
        rw [hj2, nI_toInt (by omega)]; omega
      rw [wc_push c3 (show ¬ Ls ≤ ((cs, top) : (Nat → Int32) × Nat).2 by show ¬ Ls ≤ top; omega), mw_push np, if_pos c0, if_neg l1, tn]
      have ev : (if cf i = -1 then f1 else if cf i = -2 then f2 else f3) = fa j := by
        rw [hcc.1]
        rcases (show j = 0 ∨ j = 1 ∨ j = 2 by omega) with rfl | rfl | rfl
        · exact (if_pos (by decide)).trans h0.symm
        · exact (if_neg (by decide)).trans ((if_pos (by decide)).trans h1.symm)
        · have z := hcc.2
          unfold nmk at z
          have hk : k = 0 := Classical.byContradiction (fun q => by rw [if_neg q] at z; omega)
          exact (if_neg (by decide)).trans ((if_neg (by decide)).trans (h2 hk).symm)
      rw [ev]
      have r := ih (i + 1) (top + 1) (upd cs top (fa j)) (upd ms top (fa j)) (by omega) hj4 (by omega) (upd_ag hag)
      exact ⟨r.1, r.2.1, fun _ => r.2.2 (Or.inl (by omega))⟩
    · have hcc : cf i = -33 := by
        rcases hcri with ⟨w, hw1, hw2, hw3⟩ | ⟨w, hw1, hw2, hw3⟩ | ⟨hw1, hw2⟩ | ⟨s, hs1, hs2⟩
        · exact absurd (show nI w < 0 by rw [← hw3, hn1]; decide) (nI_pos (by omega))
        · have hw9 := hw1
          unfold nmk at hw9
          exact absurd (show nI (10000 + w) < 0 by rw [← hw3, hn1]; decide) (nI_pos (by split at hw9 <;> omega))
        · exact hw1
        · exact absurd hn1 (sgn_neg hs1).2
      have e4 : wcS f1 f2 f3 Ls (cs, top) (cf i) = (upd cs (top - 1) (if cs (top - 1) = 0 then 1 else 0), top) := by
        unfold wcS
        rw [hcc, if_pos (by decide), if_pos rfl, if_neg (show ¬ ((cs, top) : (Nat → Int32) × Nat).2 < 1 by show ¬ top < 1; omega)]
      have e5 : mwS fa (ms, top) (mf i) = (upd ms (top - 1) (if ms (top - 1) = 0 then 1 else 0), top) := by
        unfold mwS
        rw [hn1, if_pos (by decide), if_pos rfl]
      rw [e4, e5]
      have hz : (if mf i < 0 then 0 else 1) = 0 := by rw [hn1]; decide
      have r := ih (i + 1) top (upd cs (top - 1) (if cs (top - 1) = 0 then 1 else 0)) (upd ms (top - 1) (if ms (top - 1) = 0 then 1 else 0)) (by omega) hn3 (by omega) (upd_ag2 (by rw [hag (top - 1) (by omega)]) hag)
      exact ⟨r.1, r.2.1, fun _ => r.2.2 (Or.inl (by omega))⟩
    · have hneg := sgn_neg hs1
      have hcc : ∃ s', sgn (mf i) s' ∧ cf i = -s' := by
        rcases hcri with ⟨w, hw1, hw2, hw3⟩ | ⟨w, hw1, hw2, hw3⟩ | ⟨hw1, hw2⟩ | ⟨s, hs1, hs2⟩
        · exact absurd (show nI w < 0 from hw3 ▸ hneg.1) (nI_pos (by omega))
        · have hw9 := hw1
          unfold nmk at hw9
          exact absurd (show nI (10000 + w) < 0 from hw3 ▸ hneg.1) (nI_pos (by split at hw9 <;> omega))
        · exact absurd hw2 hneg.2
        · exact ⟨s, hs1, hs2⟩
      obtain ⟨s', hs', hcc⟩ := hcc
      have hk := sgn_cls hs'
      have e4 : wcS f1 f2 f3 Ls (cs, top) (cf i) = (upd cs (top - 1 - 1) (joinC s' (cs (top - 1 - 1)) (cs (top - 1))), top - 1) := by
        unfold wcS
        rw [hcc, if_pos hk.1, if_neg hk.2.1, if_neg (show ¬ ((cs, top) : (Nat → Int32) × Nat).2 < 2 by show ¬ top < 2; omega), hk.2.2]
      have e5 : mwS fa (ms, top) (mf i) = (upd ms (top - 1 - 1) (joinC s' (ms (top - 1 - 1)) (ms (top - 1))), top - 1) := by
        unfold mwS
        rw [if_pos hneg.1, if_neg hneg.2, sgn_two hs']
      rw [e4, e5]
      have hz : (if mf i < 0 then 0 else 1) = 0 := if_pos hneg.1
      have r := ih (i + 1) (top - 1) (upd cs (top - 1 - 1) (joinC s' (cs (top - 1 - 1)) (cs (top - 1)))) (upd ms (top - 1 - 1) (joinC s' (ms (top - 1 - 1)) (ms (top - 1)))) (by omega) hs3 (by omega) (upd_ag2 (by rw [hag (top - 1) (by omega), hag (top - 1 - 1) (by omega)]) (fun j hj => hag j (by omega)))
      exact ⟨r.1, r.2.1, fun _ => r.2.2 (Or.inl (by omega))⟩
