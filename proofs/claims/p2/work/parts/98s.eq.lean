theorem to_eq {N : Nat → Int32} {τ τ' f w : Int32} (h : wi f 0 (N 1 - 1) → w = 5 → τ = τ') : toV N τ f w = toV N τ' f w := by
  by_cases q : wi f 0 (N 1 - 1)
  · by_cases w5 : w = 5
    · rw [h q w5]
    · unfold toV
      rw [cI_t q, cI_t q, if_neg w5, if_neg w5]
  · unfold toV
    rw [cI_f q, cI_f q]
theorem tt_eq {tb : TB} {tx : List Value} {lk N : Nat → Int32} {c : Nat} {t w v9 : Int32} (H : TC tb tx lk N c) (h : (¬ (wi t 0 (N 7 - 1) ∧ wi w 0 1) ∧ v9 = (-1000000001)) ∨ (∃ j a, wi t 0 (N 7 - 1) ∧ wi w 0 1 ∧ t = nI j ∧ j < c ∧ a < tb.1 ∧ tx[j]? = some (.ref (92 + 3 * a)) ∧ v9 = cI (w = 0) (tb.2.1 a) (tb.2.2.1 a))) : v9 = ttM N t w := by
  rcases h with ⟨h1, rfl⟩ | ⟨j, a, h1, h2, rfl, h4, h5, h6, rfl⟩
  · unfold ttM; rw [cI_f h1]
  · have hc := H.1.2.1
    obtain ⟨a', ky, lc, q1, q2, q3, q4, q5, q6, q7, q8, _⟩ := H.2.2.2 j h4
    have e : 92 + 3 * a = 92 + 3 * a' := by
      have z := Option.some.inj (h6.symm.trans q2)
      injection z
    obtain rfl : a = a' := by omega
    unfold ttM
    rw [cI_t (p := wi (nI j) 0 (N 7 - 1) ∧ wi w 0 1) ⟨h1, h2⟩, fN_nI (by omega), q6, show (1000 : Int32) = nI 1000 from rfl, pk_div (by omega) (by omega) (by omega), show (1000 * ky + lc) / 1000 = ky by omega, ← q7, ← q8]
theorem wh_eq {tb : TB} {tx : List Value} {lk N : Nat → Int32} {c : Nat} {k : Int32} (H : TC tb tx lk N c) : whC lk k = whM N c k := by
  unfold whC whM
  by_cases q : wi k 0 2
  · rw [cI_t q, cI_t q]
    obtain ⟨j, hj, e⟩ := wi_nI (H := 2) (by decide) (by decide) q
    subst e
    rw [fN_nI (by omega), H.2.2.1 j (by omega)]
  · rw [cI_f q, cI_f q]
theorem ak_eq {th A B kd pr nu zs : Nat → Int32} {s k : Int32} (H : SP th A B kd pr nu zs) : akC th kd pr s k = akM th A B s k := by
  unfold akC akM
  by_cases q : wi s 0 4 ∧ wi k 0 5
  · rw [cI_t q, cI_t q]
    by_cases q0 : th (fN s) = 0
    · rw [cI_t q0, cI_t q0]
    · rw [cI_f q0, cI_f q0]
      by_cases q1 : th (fN s) = 1
      · rw [cI_t q1, cI_t q1]
        have z := (H (fN s) (by have y := fN_b (H := 4) (by decide) (by decide) q.1; omega)).2.2.2.1 q1
        rw [z.1, z.2]
      · rw [cI_f q1, cI_f q1]
  · rw [cI_f q, cI_f q]
theorem it_eq {th A B kd pr nu zs hc : Nat → Int32} {s p : Int32} (H : SP th A B kd pr nu zs) : itV th zs hc s p = itV th A hc s p := by
  unfold itV
  by_cases q : wi s 0 4
  · rw [cI_t q, cI_t q]
    by_cases q0 : th (fN s) = 0
    · rw [cI_t q0, cI_t q0]
    · rw [cI_f q0, cI_f q0]
      by_cases q1 : th (fN s) = 2
      · rw [cI_t q1, cI_t q1]
        have z := (H (fN s) (by have y := fN_b (H := 4) (by decide) (by decide) q; omega)).2.2.2.2.1 q1
        rw [z]
      · rw [cI_f q1, cI_f q1]
  · rw [cI_f q, cI_f q]
theorem re_eq {th A B kd pr nu zs : Nat → Int32} {s k : Int32} (H : SP th A B kd pr nu zs) : reV th nu s k = reV th A s k := by
  unfold reV
  by_cases q : wi s 0 4
  · rw [cI_t q, cI_t q]
    by_cases q0 : th (fN s) = 0
    · rw [cI_t q0, cI_t q0]
    · rw [cI_f q0, cI_f q0]
      by_cases q1 : th (fN s) = 3
      · rw [cI_t q1, cI_t q1]
        have z := (H (fN s) (by have y := fN_b (H := 4) (by decide) (by decide) q; omega)).2.2.2.2.2 q1
        rw [z]
      · rw [cI_f q1, cI_f q1]
  · rw [cI_f q, cI_f q]
theorem ri_sh {sr sz : Nat → Int32} {s t n : Int32} (H : RI sr sz) : RI (shR s t n sr) (shZ s t n sz) := by
  unfold shR shZ
  by_cases q : shK s t n
  · rw [cI_t q, cI_t q]
    obtain ⟨q1, q2, q3⟩ := q
    intro i hi
    by_cases e : i = fN s
    · subst e
      rw [pk_us, pk_us]
      refine ⟨q2, ?_⟩
      by_cases t1 : t = -1
      · rw [cI_t t1]; exact ⟨0, by omega, rfl⟩
      · rw [cI_f t1]
        rcases q3 with q3 | q3
        · exact absurd q3 t1
        · exact wi_nI (H := 24) (lo := 0) (hi := 24) (by decide) (by decide) ⟨q3.2, q3.1⟩
    · rw [pk_un e, pk_un e]; exact H i hi
  · rw [cI_f q, cI_f q]; exact H
theorem laU_n {p : Prop} {f g : Nat → Int32} {s i : Nat} {v : Int32} (h : laU p f g s v) (e : i ≠ s) : g i = f i := by
  by_cases q : p
  · rw [h.1 q]; exact pk_un e
  · rw [h.2 q]
theorem laU_y {p : Prop} {f g : Nat → Int32} {s : Nat} {v : Int32} (h : laU p f g s v) (q : p) : g s = v := by
  rw [h.1 q]; exact pk_us
theorem laT_n {N sr th : Nat → Int32} {s t k : Int32} {i : Nat} (e : i ≠ fN s) : laT N sr s t k th i = th i := by
  unfold laT
  by_cases q : laK N sr s t k
  · rw [cI_t q]; exact pk_un e
  · rw [cI_f q]
theorem laM_n {N sr sz A A9 : Nat → Int32} {s t k : Int32} {i : Nat} (h : laM N sr s t k sz A A9) (e : i ≠ fN s) : A9 i = A i := by
  by_cases q : laK N sr s t k
  · obtain ⟨h1, h2, h3⟩ := h.1 q
    by_cases t1 : t = 1
    · rw [h1 t1]; exact pk_un e
    · by_cases t2 : t = 2
      · rw [h2 t2]; exact pk_un e
      · rw [h3 t1 t2]; exact pk_un e
  · rw [h.2 q]
theorem laM2_n {N sr A A9 : Nat → Int32} {s t k : Int32} {i : Nat} (h : laM2 N sr s t k A A9) (e : i ≠ fN s) : A9 i = A i := by
  by_cases q : laK N sr s t k
  · obtain ⟨h1, h2⟩ := h.1 q
    by_cases t1 : t = 1
    · rw [h1 t1]; exact pk_un e
    · rw [h2 t1]; exact pk_un e
  · rw [h.2 q]
theorem sp_lay {N sr sz th A B kd pr nu zs A9 B9 kd9 pr9 nu9 zs9 : Nat → Int32} {s t k : Int32} {fr c : Nat} (H : SP th A B kd pr nu zs) (hR : RG N fr c) (hI : RI sr sz) (u1 : laU (laK N sr s t k ∧ t = 1) kd kd9 (fN s) (N (22 + 5 * fN k))) (u2 : laU (laK N sr s t k ∧ t = 1) pr pr9 (fN s) (N (24 + 5 * fN k))) (u3 : laU (laK N sr s t k ∧ ¬ t = 1 ∧ ¬ t = 2) nu nu9 (fN s) k) (u4 : laU (laK N sr s t k ∧ t = 2) zs zs9 (fN s) (sz (fN k))) (m1 : laM N sr s t k sz A A9) (m2 : laM2 N sr s t k B B9) : SP (laT N sr s t k th) A9 B9 kd9 pr9 nu9 zs9 := by
  intro i hi
  by_cases e : i = fN s
  · subst e
    by_cases K : laK N sr s t k
    · have hT : laT N sr s t k th (fN s) = t := by
        unfold laT; rw [cI_t K]; exact pk_us
      rw [hT]
      obtain ⟨h1, h2, h3⟩ := m1.1 K
      obtain ⟨h4, h5⟩ := m2.1 K
      have Hs := H (fN s) hi
      have wt9 : wi t 0 3 := K.1.2.1
      have d12 : ¬ ((1 : Int32) = 2) := by decide
      have d13 : ¬ ((1 : Int32) = 3) := by decide
      have d21 : ¬ ((2 : Int32) = 1) := by decide
      have d23 : ¬ ((2 : Int32) = 3) := by decide
      by_cases t1 : t = 1
      · subst t1
        have wk := K.1.2.2.1 rfl
        have hf := fN_f hR wk
        have a1 := laU_y u1 ⟨K, rfl⟩
        have a2 := laU_y u2 ⟨K, rfl⟩
        have a3 := u4.2 (fun q => d12 q.2)
        refine ⟨wt9, ?_, ?_, fun _ => ⟨?_, ?_⟩, fun q => absurd q d12, fun q => absurd q d13⟩
        · rw [a1]; exact (hR.2.2.2.2.1 _ hf).1
        · rw [a3]; exact Hs.2.2.1
        · rw [h1 rfl, pk_us, a1]
        · rw [h4 rfl, pk_us, a1, a2]
      · have a1 := u1.2 (fun q => t1 q.2)
        by_cases t2 : t = 2
        · subst t2
          have wk := K.1.2.2.2 rfl
          have hf := fN_b (H := 3) (by decide) (by decide) wk
          have a3 := laU_y u4 ⟨K, rfl⟩
          refine ⟨wt9, ?_, ?_, fun q => absurd q d21, fun _ => ?_, fun q => absurd q d23⟩
          · rw [a1]; exact Hs.2.1
          · rw [a3]; exact (hI _ (by omega)).2
          · rw [h2 rfl, pk_us, a3]
        · have a3 := u4.2 (fun q => t2 q.2)
          have a4 := laU_y u3 ⟨K, t1, t2⟩
          refine ⟨wt9, ?_, ?_, fun q => absurd q t1, fun q => absurd q t2, fun _ => ?_⟩
          · rw [a1]; exact Hs.2.1
          · rw [a3]; exact Hs.2.2.1
          · rw [h3 t1 t2, pk_us, a4]
    · have hT : laT N sr s t k th = th := by
        unfold laT; rw [cI_f K]
      rw [hT, m1.2 K, m2.2 K, u1.2 (fun q => K q.1), u2.2 (fun q => K q.1), u3.2 (fun q => K q.1), u4.2 (fun q => K q.1)]
      exact H _ hi
  · rw [laT_n e, laM_n m1 e, laM2_n m2 e, laU_n u1 e, laU_n u2 e, laU_n u3 e, laU_n u4 e]
    exact H i hi
theorem tc_grow {tb : TB} {tx : List Value} {lk N : Nat → Int32} {c ky nn lc : Nat} {cf : Nat → Int32} (H : TC tb tx lk N c) : TC (tbN tb ky nn lc cf) tx lk N c := by
  obtain ⟨⟨t1, t2, t3, t4⟩, h7, hlk, ht⟩ := H
  refine ⟨⟨t1, t2, fun t v hv => ?_, fun t h => ?_⟩, h7, hlk, fun t h => ?_⟩
  · exact (t3 t v hv).imp id (fun ⟨a, ha, e⟩ => ⟨a, by show a < tb.1 + 1; omega, e⟩)
  · obtain ⟨a, ha, e⟩ := t4 t h
    exact ⟨a, by show a < tb.1 + 1; omega, e⟩
  · obtain ⟨a, k2, l2, q1, q2, q3, q4, q5, q6, q7, q8, q9, q10, q11, q12⟩ := ht t h
    have ne : a ≠ tb.1 := by omega
    refine ⟨a, k2, l2, by show a < tb.1 + 1; omega, q2, q3, q4, q5, q6, (pk_un ne).trans q7, (pk_un ne).trans q8, (upN_n ne).trans q9, q10, fun i hi => ?_, ?_⟩
    · show cr1 k2 (upF tb.2.2.2.2.1 tb.1 cf a i) _
      rw [upF_n ne]; exact q11 i hi
    · show _ ≤ upN tb.2.2.2.2.2 tb.1 (mx1 nn) a
      rw [upN_n ne]; exact q12
theorem lm_grow {tb : TB} {A NI : Nat → Int32} {ik : Int32} {txI : List Value} {lkI : Nat → Int32} {ky nn lc : Nat} {cf : Nat → Int32} (H : LM ik A NI txI lkI tb) : LM ik A NI txI lkI (tbN tb ky nn lc cf) := by
  obtain ⟨h1, h2, h3⟩ := H
  refine ⟨h1, fun t v hv => (h2 t v hv).imp id (fun ⟨a, ha, e⟩ => ⟨a, by show a < tb.1 + 1; omega, e⟩), fun q => ?_⟩
  obtain ⟨e, fr, c, R, C⟩ := h3 q
  exact ⟨e, fr, c, R, tc_grow C⟩
theorem po_eq {tb : TB} {tx : List Value} {lk N N9 : Nat → Int32} {c fr m : Nat} {s9 : Int32} (H : TC tb tx lk N c) (hR : RG N fr c) (h : runR fr tb tx lk (-1) m N 0 N9 s9) : upd N9 2 (N9 2 + nI m) = goF c fr (-1) m N ∧ s9 = sumM 26 (goF c fr (-1) m N) fr 0 0 - sumM 26 N fr 0 0 := by
  obtain ⟨e1, e2⟩ := run_c m N N9 0 s9 H (rg_rk hR) h
  refine ⟨e1, ?_⟩
  rw [e2, ← e1, Int32.zero_add, sumM_cg (N := N9) (M := upd N9 2 (N9 2 + nI m)) fr 0 0 (fun j _ _ => (pk_un (by omega)).symm)]
