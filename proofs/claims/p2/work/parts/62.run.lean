abbrev S3 : Type := (Nat → Int32) × (Nat → Int32) × Int32
def sd (N : Nat → Int32) (f : Nat) : Nat → Int32 := drawN (sentN N f)
def letF (c f : Nat) (σ : S3) : S3 :=
  if rem100 (drawV (sentN σ.1 f)) < sd σ.1 f 5 then (upd (sd σ.1 f) 6 (sd σ.1 f 6 + 1), σ.2.1, σ.2.2)
  else if tnF (sd σ.1 f) c f < 50 then (match mt (sd σ.1 f) f with
    | none => (sd σ.1 f, σ.2.1, σ.2.2)
    | some t => (upd (sd σ.1 f) (26 + 5 * f) (sd σ.1 f (26 + 5 * f) + 1), upd σ.2.1 t (σ.2.1 t + (if sd σ.1 f (23 + 5 * f) = 0 then -1 else 1)), σ.2.2 - 1))
  else (sd σ.1 f, σ.2.1, σ.2.2 + 5)
theorem letF_l {c f : Nat} {σ : S3} (h : rem100 (drawV (sentN σ.1 f)) < sd σ.1 f 5) : letF c f σ = (upd (sd σ.1 f) 6 (sd σ.1 f 6 + 1), σ.2.1, σ.2.2) := if_pos h
theorem letF_r {c f : Nat} {σ : S3} (h : ¬ rem100 (drawV (sentN σ.1 f)) < sd σ.1 f 5) (h2 : ¬ tnF (sd σ.1 f) c f < 50) : letF c f σ = (sd σ.1 f, σ.2.1, σ.2.2 + 5) := (if_neg h).trans (if_neg h2)
theorem letF_n {c f : Nat} {σ : S3} (h : ¬ rem100 (drawV (sentN σ.1 f)) < sd σ.1 f 5) (h2 : tnF (sd σ.1 f) c f < 50) (h3 : mt (sd σ.1 f) f = none) : letF c f σ = (sd σ.1 f, σ.2.1, σ.2.2) := by
  refine (if_neg h).trans ((if_pos h2).trans ?_)
  rw [h3]
theorem letF_y {c f t : Nat} {σ : S3} (h : ¬ rem100 (drawV (sentN σ.1 f)) < sd σ.1 f 5) (h2 : tnF (sd σ.1 f) c f < 50) (h3 : mt (sd σ.1 f) f = some t) : letF c f σ = (upd (sd σ.1 f) (26 + 5 * f) (sd σ.1 f (26 + 5 * f) + 1), upd σ.2.1 t (σ.2.1 t + (if sd σ.1 f (23 + 5 * f) = 0 then -1 else 1)), σ.2.2 - 1) := by
  refine (if_neg h).trans ((if_pos h2).trans ?_)
  rw [h3]
theorem rk_keep {N M : Nat → Int32} {fr c : Nat} (h : mkp M N) (H : RK N fr c) : RK M fr c := by
  obtain ⟨h1, h2, h3, h4, h5, h6, h7, h8⟩ := H
  refine ⟨(h 1 (by omega) (by omega) (by omega)).trans h1, h2, (h 7 (by omega) (by omega) (by omega)).trans h3, h4, fun f hf => ?_, fun t ht => ?_, fun j hj => ?_, ?_⟩
  · rw [h (22 + 5 * f) (by omega) (by omega) (by omega), h (23 + 5 * f) (by omega) (by omega) (by omega), h (24 + 5 * f) (by omega) (by omega) (by omega)]
    exact h5 f hf
  · rw [h (8 + t) (by omega) (by omega) (by omega)]; exact h6 t ht
  · rw [h (12 + j) (by omega) (by omega) (by omega)]; exact h7 j hj
  · rw [h 3 (by omega) (by omega) (by omega)]; exact h8
theorem tc_mkp {tb : TB} {tx : List Value} {lk N M : Nat → Int32} {c : Nat} (h : mkp M N) (H : TC tb tx lk N c) : TC tb tx lk M c := tc_keep (h 7 (by omega) (by omega) (by omega)) (fun k hk => h k (by omega) (by omega) (by omega)) H
theorem let_m {tb : TB} {tx : List Value} {lk : Nat → Int32} {fr c f : Nat} {σ σ' : S3} (H : TC tb tx lk σ.1 c) (hR : RK σ.1 fr c) (hf : f < 8) (h : mLe (fun N τ => MTr N c f τ) f σ σ') : σ' = letF c f σ := by
  have kp : mkp (sd σ.1 f) σ.1 := mkp_d hf
  have H2 := tc_mkp kp H
  have R2 := rk_keep kp hR
  rcases h with ⟨h1, rfl⟩ | ⟨h1, τ, h2, ⟨h3, rfl⟩ | ⟨h3, h4, rfl⟩ | ⟨h3, t, h4, h5, rfl⟩⟩
  · exact (letF_l h1).symm
  · have e := tn_m H2 R2 hf h2
    exact (letF_r h1 (e ▸ h3)).symm
  · have e := tn_m H2 R2 hf h2
    exact (letF_n h1 (e ▸ h3) h4).symm
  · have e := tn_m H2 R2 hf h2
    exact (letF_y h1 (e ▸ h3) h5).symm
theorem sd_y {N : Nat → Int32} {f j : Nat} : sd N f (26 + 5 * j) = N (26 + 5 * j) := by
  unfold sd drawN sentN
  rw [pk_un (by omega), pk_un (by omega)]
theorem addsub (s x : Int32) : s = s + (x - x) := by rw [Int32.sub_self, Int32.add_zero]
theorem addsub1 (s x : Int32) : s + 1 = s + (x + 1 - x) := by grind
theorem let_c {tb : TB} {tx : List Value} {lk N mv : Nat → Int32} {w s : Int32} {fr c f : Nat} {σ' : (Nat → Int32) × (Nat → Int32) × Int32 × Int32} (H : TC tb tx lk N c) (hR : RK N fr c) (hf : f < 8) (h : letR tb tx lk f (N, mv, w, s) σ') : (σ'.1, σ'.2.1, σ'.2.2.1) = letF c f (N, mv, w) ∧ σ'.2.2.2 = s + (σ'.1 (26 + 5 * f) - N (26 + 5 * f)) := by
  have kp : mkp (sd N f) N := mkp_d hf
  have H2 := tc_mkp kp H
  have R2 := rk_keep kp hR
  have hm := mt_ty (N := sd N f) (f := f) (R2.2.2.2.2.1 f hf).1 (R2.2.2.2.2.1 f hf).2.1 R2.2.2.2.2.2.1 R2.2.2.2.2.2.2.1
  rcases h with ⟨h1, rfl⟩ | ⟨h1, τ, h2, ⟨h3, rfl⟩ | ⟨h3, h4, rfl⟩ | ⟨h3, t, h4, h5, rfl⟩⟩
  · refine ⟨(letF_l (σ := (N, mv, w)) (Int32.not_le.mp h1)).symm, ?_⟩
    show s = s + (upd (sd N f) 6 _ (26 + 5 * f) - N (26 + 5 * f))
    rw [pk_un (by omega), sd_y]; exact addsub _ _
  · have e := tn_c H2 h2
    refine ⟨(letF_r (σ := (N, mv, w)) (Int32.not_lt.mpr h1) (show ¬ tnF (sd N f) c f < 50 from e ▸ h3)).symm, ?_⟩
    show s = s + (sd N f (26 + 5 * f) - N (26 + 5 * f))
    rw [sd_y]; exact addsub _ _
  · have e := tn_c H2 h2
    have hn : mt (sd N f) f = none := by
      cases q : mt (sd N f) f with
      | none => rfl
      | some t =>
        have ht : t < 4 := mtM_lt 4 0 none (by omega) (fun u z => by cases z) t q
        rw [q] at hm
        exact absurd (show wi (ty (sd N f) f) 0 3 from hm ▸ wi_n0 (c := 3) (by omega) (by omega)) h4
    refine ⟨(letF_n (σ := (N, mv, w)) (Int32.not_lt.mpr h1) (show tnF (sd N f) c f < 50 from e ▸ h3) hn).symm, ?_⟩
    show s = s + (sd N f (26 + 5 * f) - N (26 + 5 * f))
    rw [sd_y]; exact addsub _ _
  · have e := tn_c H2 h2
    have hn : mt (sd N f) f = some t := by
      cases q : mt (sd N f) f with
      | none =>
        rw [q] at hm
        have z : nI t < 0 := (show nI t = -1 from (show ty (sd N f) f = nI t from h5).symm.trans hm.symm) ▸ (by decide)
        exact absurd z (nI_pos (by omega))
      | some u =>
        have hu : u < 4 := mtM_lt 4 0 none (by omega) (fun u z => by cases z) u q
        rw [q] at hm
        have z : nI u = nI t := hm.trans h5
        rw [nIi (by omega) (by omega) z]
    refine ⟨?_, ?_⟩
    · refine ((letF_y (σ := (N, mv, w)) (Int32.not_lt.mpr h1) (show tnF (sd N f) c f < 50 from e ▸ h3) hn).trans ?_).symm
      show (_, _, w - 1) = (_, _, w + -1)
      rw [Int32.sub_eq_add_neg]
      rfl
    · show s + 1 = s + (upd (sd N f) (26 + 5 * f) (sd N f (26 + 5 * f) + 1) (26 + 5 * f) - N (26 + 5 * f))
      rw [pk_us, sd_y]; exact addsub1 _ _
theorem letF_k {c f k : Nat} {σ : S3} (h0 : k ≠ 0) (h6 : k ≠ 6) (h5 : k ≠ 25 + 5 * f) (h7 : k ≠ 26 + 5 * f) : (letF c f σ).1 k = σ.1 k := by
  have e : sd σ.1 f k = σ.1 k := (pk_un h0).trans (pk_un h5)
  by_cases q : rem100 (drawV (sentN σ.1 f)) < sd σ.1 f 5
  · rw [letF_l q]; exact (pk_un h6).trans e
  · by_cases r : tnF (sd σ.1 f) c f < 50
    · cases z : mt (sd σ.1 f) f with
      | none => rw [letF_n q r z]; exact e
      | some t => rw [letF_y q r z]; exact (pk_un h7).trans e
    · rw [letF_r q r]; exact e
def lsF (c : Nat) (wo : Int32) : Nat → Nat → S3 → S3
  | 0, _, σ => σ
  | m + 1, f, σ => lsF c wo m (f + 1) (if nI f = wo then σ else letF c f σ)
theorem lsF_k {c k : Nat} {wo : Int32} (h0 : k ≠ 0) (h6 : k ≠ 6) : ∀ (m i : Nat) (σ : S3), (∀ f, i ≤ f → f < i + m → k ≠ 25 + 5 * f ∧ k ≠ 26 + 5 * f) → (lsF c wo m i σ).1 k = σ.1 k := by
  intro m
  induction m with
  | zero => intro i σ _; rfl
  | succ m ih =>
    intro i σ h
    show (lsF c wo m (i + 1) (if nI i = wo then σ else letF c i σ)).1 k = σ.1 k
    rw [ih (i + 1) _ (fun f h1 h2 => h f (by omega) (by omega))]
    by_cases q : nI i = wo
    · rw [if_pos q]
    · rw [if_neg q]; exact letF_k h0 h6 (h i (by omega) (by omega)).1 (h i (by omega) (by omega)).2
theorem lsF_mkp {c : Nat} {wo : Int32} {m i : Nat} {σ : S3} (h : i + m ≤ 8) : mkp (lsF c wo m i σ).1 σ.1 := fun k h0 h6 hk => lsF_k h0 h6 m i σ (fun f h1 h2 => hk f (by omega))
theorem letF_mkp {c f : Nat} {σ : S3} (h : f < 8) : mkp (letF c f σ).1 σ.1 := fun k h0 h6 hk => letF_k h0 h6 (hk f h).1 (hk f h).2
theorem sumM_acc {w : Nat} {N : Nat → Int32} : ∀ (m f : Nat) (s : Int32), sumM w N m f s = s + sumM w N m f 0 := by
  intro m
  induction m with
  | zero => intro f s; exact (Int32.add_zero s).symm
  | succ m ih =>
    intro f s
    show sumM w N m (f + 1) (s + N (w + 5 * f)) = s + sumM w N m (f + 1) (0 + N (w + 5 * f))
    rw [ih, ih (f + 1) (0 + N (w + 5 * f)), Int32.zero_add, Int32.add_assoc]
theorem sumM_cg {w : Nat} {N M : Nat → Int32} : ∀ (m f : Nat) (s : Int32), (∀ j, f ≤ j → j < f + m → N (w + 5 * j) = M (w + 5 * j)) → sumM w N m f s = sumM w M m f s := by
  intro m
  induction m with
  | zero => intro f s _; rfl
  | succ m ih =>
    intro f s h
    show sumM w N m (f + 1) (s + N (w + 5 * f)) = sumM w M m (f + 1) (s + M (w + 5 * f))
    rw [h f (by omega) (by omega)]
    exact ih (f + 1) _ (fun j h1 h2 => h j (by omega) (by omega))
theorem ring4 (s a b x y : Int32) : s + (a - b) + (x - y) = s + ((0 + a + x) - (0 + b + y)) := by grind
theorem ring2 (s a x y : Int32) : s + (x - y) = s + ((0 + a + x) - (0 + a + y)) := by grind
theorem ls_c {tb : TB} {tx : List Value} {lk : Nat → Int32} {wo : Int32} {fr c : Nat} : ∀ (m i : Nat) (N mv : Nat → Int32) (w s : Int32) (σ' : (Nat → Int32) × (Nat → Int32) × Int32 × Int32), i + m ≤ 8 → TC tb tx lk N c → RK N fr c → LSr tb tx lk wo m i (N, mv, w, s) σ' → (σ'.1, σ'.2.1, σ'.2.2.1) = lsF c wo m i (N, mv, w) ∧ σ'.2.2.2 = s + (sumM 26 σ'.1 m i 0 - sumM 26 N m i 0) := by
  intro m
  induction m with
  | zero =>
    intro i N mv w s σ' _ _ _ h
    obtain rfl : σ' = (N, mv, w, s) := h
    exact ⟨rfl, addsub _ _⟩
  | succ m ih =>
    intro i N mv w s σ' hi H hR h
    obtain ⟨σ1, h1, h2⟩ := h
    have e0 : lsF c wo (m + 1) i (N, mv, w) = lsF c wo m (i + 1) (if nI i = wo then (N, mv, w) else letF c i (N, mv, w)) := rfl
    have es : ∀ M : Nat → Int32, sumM 26 M (m + 1) i 0 = 0 + M (26 + 5 * i) + sumM 26 M m (i + 1) 0 := fun M => by
      show sumM 26 M m (i + 1) (0 + M (26 + 5 * i)) = _
      exact sumM_acc m (i + 1) _
    rcases h1 with ⟨q, rfl⟩ | ⟨q, h1⟩
    · have r := ih (i + 1) N mv w s σ' (by omega) H hR h2
      rw [e0, if_pos q]
      refine ⟨r.1, ?_⟩
      have e1 : σ'.1 (26 + 5 * i) = N (26 + 5 * i) := by
        have z := congrArg (fun z : S3 => z.1 (26 + 5 * i)) r.1
        exact z.trans (lsF_k (by omega) (by omega) m (i + 1) (N, mv, w) (fun f h1 h2 => by omega))
      rw [r.2, es, es, e1]
      exact ring2 _ _ _ _
    · obtain ⟨M, mv1, w1, s1⟩ := σ1
      have hl := let_c H hR (by omega) h1
      have el : letF c i (N, mv, w) = (M, mv1, w1) := hl.1.symm
      have kp : mkp M N := by
        have z := letF_mkp (c := c) (σ := (N, mv, w)) (f := i) (by omega)
        rw [el] at z
        exact z
      have r := ih (i + 1) M mv1 w1 s1 σ' (by omega) (tc_mkp kp H) (rk_keep kp hR) h2
      rw [e0, if_neg q, el]
      refine ⟨r.1, ?_⟩
      have e1 : σ'.1 (26 + 5 * i) = M (26 + 5 * i) := by
        have z := congrArg (fun z : S3 => z.1 (26 + 5 * i)) r.1
        exact z.trans (lsF_k (by omega) (by omega) m (i + 1) (M, mv1, w1) (fun f h1 h2 => by omega))
      have e2 : sumM 26 M m (i + 1) 0 = sumM 26 N m (i + 1) 0 := sumM_cg m (i + 1) 0 (fun j h1 h2 => by
        have z := congrArg (fun z : S3 => z.1 (26 + 5 * j)) el
        exact z.symm.trans (letF_k (by omega) (by omega) (by omega) (by omega)))
      have hs : s1 = s + (M (26 + 5 * i) - N (26 + 5 * i)) := hl.2
      rw [r.2, hs, es, es, e1, e2]
      exact ring4 _ _ _ _ _
theorem ls_m {tb : TB} {tx : List Value} {lk : Nat → Int32} {wo : Int32} {fr c : Nat} : ∀ (m i : Nat) (σ σ' : S3), i + m ≤ 8 → TC tb tx lk σ.1 c → RK σ.1 fr c → LSm c wo m i σ σ' → σ' = lsF c wo m i σ := by
  intro m
  induction m with
  | zero => intro i σ σ' _ _ _ h; exact h
  | succ m ih =>
    intro i σ σ' hi H hR h
    show σ' = lsF c wo m (i + 1) (if nI i = wo then σ else letF c i σ)
    rcases h with ⟨q, h⟩ | ⟨q, σ1, h1, h⟩
    · rw [if_pos q]; exact ih (i + 1) σ σ' (by omega) H hR h
    · rw [if_neg q]
      have e := let_m H hR (by omega) h1
      have kp : mkp σ1.1 σ.1 := e ▸ letF_mkp (by omega)
      rw [← e]
      exact ih (i + 1) σ1 σ' (by omega) (tc_mkp kp H) (rk_keep kp hR) h
