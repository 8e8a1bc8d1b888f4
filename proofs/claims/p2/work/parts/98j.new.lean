def upN (f : Nat → Nat) (k v : Nat) : Nat → Nat := fun j => if j = k then v else f j
def upF (f : Nat → Nat → Int32) (k : Nat) (g : Nat → Int32) : Nat → Nat → Int32 := fun j => if j = k then g else f j
def tbN (tb : TB) (ky nn lc : Nat) (cf : Nat → Int32) : TB := (tb.1 + 1, upd tb.2.1 tb.1 (nI ky), upd tb.2.2.1 tb.1 (nI nn), upN tb.2.2.2.1 tb.1 lc, upF tb.2.2.2.2.1 tb.1 cf, upN tb.2.2.2.2.2 tb.1 (mx1 nn))
theorem upN_s {f : Nat → Nat} {k v : Nat} : upN f k v k = v := if_pos rfl
theorem upN_n {f : Nat → Nat} {k v j : Nat} (h : j ≠ k) : upN f k v j = f j := if_neg h
theorem upF_s {f : Nat → Nat → Int32} {k : Nat} {g : Nat → Int32} : upF f k g k = g := if_pos rfl
theorem upF_n {f : Nat → Nat → Int32} {k j : Nat} {g : Nat → Int32} (h : j ≠ k) : upF f k g j = f j := if_neg h
theorem tt_new {tb : TB} {h h9 : am_H} {ky nn lc : Nat} {cf : Nat → Int32} (F : TT tb h) (hf : ∀ k, 92 ≤ k → k < 92 + 3 * tb.1 → h9 k = h k) (hn : nn < 1000) (hl : lc < 1000) (h0 : h9 (92 + 3 * tb.1) = some (.inr (5, [.int (nI ky), .int (nI nn), .ref (93 + 3 * tb.1), .ref (94 + 3 * tb.1)]))) (h1 : h9 (93 + 3 * tb.1) = some (.inl (0, tl lc cf))) (h2 : h9 (94 + 3 * tb.1) = some (.inl (0, tl (mx1 nn) (fun _ => 0)))) : TT (tbN tb ky nn lc cf) h9 := by
  intro a ha
  have ha2 : a < tb.1 + 1 := ha
  show h9 (92 + 3 * a) = some (.inr (5, [.int (upd tb.2.1 tb.1 (nI ky) a), .int (upd tb.2.2.1 tb.1 (nI nn) a), .ref (93 + 3 * a), .ref (94 + 3 * a)])) ∧ h9 (93 + 3 * a) = some (.inl (0, tl (upN tb.2.2.2.1 tb.1 lc a) (upF tb.2.2.2.2.1 tb.1 cf a))) ∧ (∃ sf, h9 (94 + 3 * a) = some (.inl (0, tl (upN tb.2.2.2.2.2 tb.1 (mx1 nn) a) sf))) ∧ upN tb.2.2.2.1 tb.1 lc a < 1000 ∧ upN tb.2.2.2.2.2 tb.1 (mx1 nn) a < 1000 ∧ 0 < upN tb.2.2.2.2.2 tb.1 (mx1 nn) a
  by_cases e : a = tb.1
  · subst e
    rw [pk_us, pk_us, upN_s, upF_s, upN_s]
    exact ⟨h0, h1, ⟨_, h2⟩, hl, by unfold mx1; split <;> omega, by unfold mx1; split <;> omega⟩
  · rw [pk_un e, pk_un e, upN_n e, upF_n e, upN_n e]
    obtain ⟨f0, f1, ⟨sf, f2⟩, f3⟩ := F a (by omega)
    exact ⟨(hf _ (by omega) (by omega)).trans f0, (hf _ (by omega) (by omega)).trans f1, ⟨sf, (hf _ (by omega) (by omega)).trans f2⟩, f3⟩
theorem vld_cg {cf cg : Nat → Int32} : ∀ (m i t : Nat), (∀ z, i ≤ z → z < i + m → cf z = cg z) → vld cf m i t → vld cg m i t := by
  intro m
  induction m with
  | zero => intro i t _ _; trivial
  | succ m ih =>
    intro i t he h
    have e0 := he i (Nat.le_refl _) (by omega)
    have er : ∀ z, i + 1 ≤ z → z < i + 1 + m → cf z = cg z := fun z h1 h2 => he z (by omega) (by omega)
    rcases h with ⟨v, q1, q2, r, s⟩ | ⟨v, q1, q2, r, s⟩ | ⟨q, r, s⟩ | ⟨c, q, r, s⟩
    · exact Or.inl ⟨v, q1, e0.symm.trans q2, r, ih _ _ er s⟩
    · exact Or.inr (Or.inl ⟨v, q1, e0.symm.trans q2, r, ih _ _ er s⟩)
    · exact Or.inr (Or.inr (Or.inl ⟨e0.symm.trans q, r, ih _ _ er s⟩))
    · exact Or.inr (Or.inr (Or.inr ⟨c, by rw [← e0]; exact q, r, ih _ _ er s⟩))
theorem cnt_cg {cf cg : Nat → Int32} : ∀ (m i : Nat), (∀ z, i ≤ z → z < i + m → cf z = cg z) → cnt cf m i = cnt cg m i := by
  intro m
  induction m with
  | zero => intro i _; rfl
  | succ m ih =>
    intro i he
    show (if cf i < 0 then 0 else 1) + cnt cf m (i + 1) = (if cg i < 0 then 0 else 1) + cnt cg m (i + 1)
    rw [he i (Nat.le_refl _) (by omega), ih (i + 1) (fun z h1 h2 => he z (by omega) (by omega))]
theorem tc_new {tb : TB} {tx : List Value} {lk N : Nat → Int32} {c ky nn : Nat} {e me : List Int32} {cf : Nat → Int32} (H : TC tb tx lk N c) (hc : c < 14) (hky : ky < 3) (X : XE ky e me nn) (hl : e.length + 3 ≤ 96) (hcf : ∀ j, j < e.length → cf j = e.getD j 0) : TC (tbN tb ky nn e.length cf) (tx.set c (.ref (92 + 3 * tb.1))) (upd lk ky (nI c)) (txN N c ky me nn) (c + 1) := by
  obtain ⟨⟨t1, t2, t3, t4⟩, h7, hlk, ht⟩ := H
  obtain ⟨x1, x2, x3, x4⟩ := X
  have hlen := crL_len e me x1
  have hcl := cntL_le me
  obtain ⟨d1, d2, d3, d4, d5⟩ := tx_hd (N := N) (j := ky) (at_ := nn) (cs := me) hc (by omega)
  have hold : ∀ t, t < c → txN N c ky me nn (62 + 2 * t) = N (62 + 2 * t) := fun t h => d5 _ (by omega) (by omega) (by omega) (by omega)
  have hset : (tx.set c (.ref (92 + 3 * tb.1)))[c]? = some (.ref (92 + 3 * tb.1)) := by
    rw [List.getElem?_set_self (by omega)]
  have hsetn : ∀ t, t ≠ c → (tx.set c (.ref (92 + 3 * tb.1)))[t]? = tx[t]? := fun t h => List.getElem?_set_ne (fun z => h z.symm)
  refine ⟨⟨by rw [List.length_set]; exact t1, by omega, fun t v hv => ?_, fun t h => ?_⟩, d3, fun k hk => ?_, fun t h => ?_⟩
  · by_cases q : t = c
    · subst q
      rw [hset] at hv
      exact Or.inr ⟨tb.1, by show tb.1 < tb.1 + 1; omega, (Option.some.inj hv).symm⟩
    · rw [hsetn t q] at hv
      exact (t3 t v hv).imp id (fun ⟨a, ha, e⟩ => ⟨a, by show a < tb.1 + 1; omega, e⟩)
  · by_cases q : t = c
    · subst q; exact ⟨tb.1, by show tb.1 < tb.1 + 1; omega, hset⟩
    · obtain ⟨a, ha, e⟩ := t4 t (by omega)
      exact ⟨a, by show a < tb.1 + 1; omega, (hsetn t q).trans e⟩
  · show upd lk ky (nI c) k = bI (if txN N c ky me nn (62 + 2 * c) / 1000 = nI k then some c else cntM (nI k) (txN N c ky me nn) c)
    rw [d1, show (1000 : Int32) = nI 1000 from rfl, pk_div (by omega) (by omega) (by omega), show (1000 * ky + me.length) / 1000 = ky by omega]
    by_cases q : k = ky
    · subst q; rw [pk_us, if_pos rfl]; rfl
    · rw [pk_un q, if_neg (fun z => q ((nI_eq (a := ky) (b := k) (by omega) (by omega)).mp z).symm), cntM_cg hold]; exact hlk k hk
  · by_cases q : t = c
    · subst q
      have hz : ∀ z, z < me.length → (fun z => txN N t ky me nn (90 + 96 * t + z)) (0 + z) = me.getD z 0 := fun z hz => by
        show txN N t ky me nn (90 + 96 * t + (0 + z)) = _
        rw [Nat.zero_add]; exact d4 z hz
      refine ⟨tb.1, ky, e.length, by show tb.1 < tb.1 + 1; omega, hset, hky, by omega, by omega, by rw [hlen]; exact d1, pk_us, ?_, upN_s, ?_, fun i hi => ?_, ?_⟩
      · show upd tb.2.2.1 tb.1 (nI nn) tb.1 = _
        rw [pk_us]; exact d2.symm
      · rw [hlen]; exact vl_vld me 0 0 1 (x4 0 (by omega)) hz
      · show cr1 ky (upF tb.2.2.2.2.1 tb.1 cf tb.1 i) _
        rw [upF_s, hcf i hi, d4 i (by omega)]; exact cr_at e me x1 i hi
      · rw [hlen, cnt_l me 0 hz, x2]
        show nn ≤ upN tb.2.2.2.2.2 tb.1 (mx1 nn) tb.1
        rw [upN_s]; unfold mx1; split <;> omega
    · obtain ⟨a, k2, lc, q1, q2, q3, q4, q5, q6, q7, q8, q9, q10, q11, q12⟩ := ht t (by omega)
      have hz : ∀ z, 0 ≤ z → z < 0 + lc → N (90 + 96 * t + z) = txN N c ky me nn (90 + 96 * t + z) := fun z _ h2 => (d5 _ (by omega) (by omega) (by omega) (by omega)).symm
      have ne : a ≠ tb.1 := by omega
      refine ⟨a, k2, lc, by show a < tb.1 + 1; omega, (hsetn t q).trans q2, q3, q4, q5, (hold t (by omega)).trans q6, ?_, ?_, ?_, vld_cg lc 0 0 hz q10, fun i hi => ?_, ?_⟩
      · show upd tb.2.1 tb.1 (nI ky) a = _
        rw [pk_un ne]; exact q7
      · show upd tb.2.2.1 tb.1 (nI nn) a = _
        rw [pk_un ne, d5 _ (by omega) (by omega) (by omega) (by omega)]; exact q8
      · show upN tb.2.2.2.1 tb.1 e.length a = _
        rw [upN_n ne]; exact q9
      · show cr1 k2 (upF tb.2.2.2.2.1 tb.1 cf a i) _
        rw [upF_n ne, ← hz i (Nat.zero_le _) (by omega)]; exact q11 i hi
      · show _ ≤ upN tb.2.2.2.2.2 tb.1 (mx1 nn) a
        rw [upN_n ne, ← cnt_cg lc 0 hz]; exact q12
