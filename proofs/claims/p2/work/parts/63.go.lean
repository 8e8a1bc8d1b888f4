theorem upd_comm {f : Nat → Int32} {k j : Nat} {x y : Int32} (h : k ≠ j) : upd (upd f k x) j y = upd (upd f j y) k x := funext (fun i => by
  by_cases e : i = j
  · subst e; rw [pk_us, pk_un (fun q => h q.symm), pk_us]
  · by_cases e2 : i = k
    · subst e2; rw [pk_un e, pk_us, pk_us]
    · rw [pk_un e, pk_un e2, pk_un e2, pk_un e])
theorem upd_upd {f : Nat → Int32} {k : Nat} {x y : Int32} : upd (upd f k x) k y = upd f k y := funext (fun i => by
  by_cases e : i = k
  · subst e; rw [pk_us, pk_us]
  · rw [pk_un e, pk_un e, pk_un e])
theorem tnF_2 {N : Nat → Int32} {x : Int32} {c f : Nat} : tnF (upd N 2 x) c f = tnF N c f := by
  have e1 : cntM 0 (upd N 2 x) c = cntM 0 N c := cntM_cg (fun t _ => pk_un (by omega))
  have e2 : ∀ k, k ≠ 2 → upd N 2 x k = N k := fun k h => pk_un h
  unfold tnF
  rw [e2 (22 + 5 * f) (by omega), e2 3 (by omega)]
  refine congrArg (toneK (N (22 + 5 * f)) (N 3)) ?_
  cases ec : cntM 0 N c with
  | none => rw [plF_n ec, plF_n (e1.trans ec), e2 (24 + 5 * f) (by omega), e2 3 (by omega)]
  | some t =>
    have e3 : (fun z9 => upd N 2 x (90 + 96 * t + z9)) = (fun z9 => N (90 + 96 * t + z9)) := funext (fun z => e2 _ (by omega))
    have e4 : lcF (upd N 2 x) t = lcF N t := by unfold lcF; rw [e2 _ (by omega)]
    rw [plF_s ec, plF_s (e1.trans ec), e2 (24 + 5 * f) (by omega), e2 3 (by omega), e2 (25 + 5 * f) (by omega), e3, e4]
theorem mpk_2 {k s : Int32} {N : Nat → Int32} {t : Nat} {x : Int32} : mpk k s (upd N 2 x) t = mpk k s N t := by
  unfold mpk
  rw [pk_un (f := N) (show 16 + t ≠ 2 by omega), pk_un (f := N) (show 12 + t ≠ 2 by omega)]
theorem mtS_2 {k s e x : Int32} {N : Nat → Int32} {t : Nat} {p : Option Nat} : mtS k s e (upd N 2 x) t p = mtS k s e N t p := by
  cases p with
  | none => simp only [mtS]; rw [pk_un (f := N) (show 8 + t ≠ 2 by omega)]
  | some u => simp only [mtS]; rw [pk_un (f := N) (show 8 + t ≠ 2 by omega), mpk_2, mpk_2]
theorem mtM_2 {k s e x : Int32} {N : Nat → Int32} : ∀ (m t : Nat) (p : Option Nat), mtM k s e (upd N 2 x) m t p = mtM k s e N m t p := by
  intro m
  induction m with
  | zero => intro t p; rfl
  | succ m ih =>
    intro t p
    show mtM k s e (upd N 2 x) m (t + 1) (mtS k s e (upd N 2 x) t p) = mtM k s e N m (t + 1) (mtS k s e N t p)
    rw [mtS_2]; exact ih _ _
theorem mt_2 {N : Nat → Int32} {x : Int32} {f : Nat} : mt (upd N 2 x) f = mt N f := by
  unfold mt
  rw [pk_un (f := N) (show 22 + 5 * f ≠ 2 by omega), pk_un (f := N) (show 23 + 5 * f ≠ 2 by omega)]
  exact mtM_2 _ _ _
theorem sent_2 {N : Nat → Int32} {x : Int32} {f : Nat} : sentN (upd N 2 x) f = upd (sentN N f) 2 x := by
  unfold sentN
  rw [pk_un (f := N) (show 25 + 5 * f ≠ 2 by omega)]
  exact upd_comm (by omega)
theorem sd_2 {N : Nat → Int32} {x : Int32} {f : Nat} : sd (upd N 2 x) f = upd (sd N f) 2 x := by
  unfold sd
  rw [sent_2]
  unfold drawN
  have e : drawZ (upd (sentN N f) 2 x) = drawZ (sentN N f) := rfl
  rw [e]
  exact upd_comm (by omega)
theorem dv_2 {N : Nat → Int32} {x : Int32} {f : Nat} : drawV (sentN (upd N 2 x) f) = drawV (sentN N f) := by
  rw [sent_2]; rfl
theorem letF_2 {c f : Nat} {N mv : Nat → Int32} {w x : Int32} : letF c f (upd N 2 x, mv, w) = (upd (letF c f (N, mv, w)).1 2 x, (letF c f (N, mv, w)).2.1, (letF c f (N, mv, w)).2.2) := by
  have e5 : sd (upd N 2 x) f 5 = sd N f 5 := by rw [sd_2]; exact pk_un (by omega)
  have ed : drawV (sentN (upd N 2 x) f) = drawV (sentN N f) := dv_2
  have et : tnF (sd (upd N 2 x) f) c f = tnF (sd N f) c f := by rw [sd_2]; exact tnF_2
  have em : mt (sd (upd N 2 x) f) f = mt (sd N f) f := by rw [sd_2]; exact mt_2
  by_cases q : rem100 (drawV (sentN N f)) < sd N f 5
  · rw [letF_l (σ := (N, mv, w)) q, letF_l (σ := (upd N 2 x, mv, w)) (by rw [ed, e5]; exact q)]
    show (upd (sd (upd N 2 x) f) 6 (sd (upd N 2 x) f 6 + 1), mv, w) = (upd (upd (sd N f) 6 (sd N f 6 + 1)) 2 x, mv, w)
    rw [sd_2, pk_un (f := sd N f) (show 6 ≠ 2 by omega), upd_comm (by omega)]
  · have q2 : ¬ rem100 (drawV (sentN (upd N 2 x) f)) < sd (upd N 2 x) f 5 := by rw [ed, e5]; exact q
    by_cases r : tnF (sd N f) c f < 50
    · have r2 : tnF (sd (upd N 2 x) f) c f < 50 := by rw [et]; exact r
      cases z : mt (sd N f) f with
      | none =>
        rw [letF_n (σ := (N, mv, w)) q r z, letF_n (σ := (upd N 2 x, mv, w)) q2 r2 (em.trans z)]
        show (sd (upd N 2 x) f, mv, w) = (upd (sd N f) 2 x, mv, w)
        rw [sd_2]
      | some t =>
        rw [letF_y (σ := (N, mv, w)) q r z, letF_y (σ := (upd N 2 x, mv, w)) q2 r2 (em.trans z)]
        show (upd (sd (upd N 2 x) f) (26 + 5 * f) (sd (upd N 2 x) f (26 + 5 * f) + 1), upd mv t (mv t + (if sd (upd N 2 x) f (23 + 5 * f) = 0 then -1 else 1)), w - 1) = (upd (upd (sd N f) (26 + 5 * f) (sd N f (26 + 5 * f) + 1)) 2 x, upd mv t (mv t + (if sd N f (23 + 5 * f) = 0 then -1 else 1)), w - 1)
        rw [sd_2, pk_un (f := sd N f) (show 26 + 5 * f ≠ 2 by omega), pk_un (f := sd N f) (show 23 + 5 * f ≠ 2 by omega), upd_comm (by omega)]
    · rw [letF_r (σ := (N, mv, w)) q r, letF_r (σ := (upd N 2 x, mv, w)) q2 (by rw [et]; exact r)]
      show (sd (upd N 2 x) f, mv, w + 5) = (upd (sd N f) 2 x, mv, w + 5)
      rw [sd_2]
theorem lsF_2 {c : Nat} {wo x : Int32} : ∀ (m i : Nat) (N mv : Nat → Int32) (w : Int32), lsF c wo m i (upd N 2 x, mv, w) = (upd (lsF c wo m i (N, mv, w)).1 2 x, (lsF c wo m i (N, mv, w)).2.1, (lsF c wo m i (N, mv, w)).2.2) := by
  intro m
  induction m with
  | zero => intro i N mv w; rfl
  | succ m ih =>
    intro i N mv w
    show lsF c wo m (i + 1) (if nI i = wo then (upd N 2 x, mv, w) else letF c i (upd N 2 x, mv, w)) = (upd (lsF c wo m (i + 1) (if nI i = wo then (N, mv, w) else letF c i (N, mv, w))).1 2 x, (lsF c wo m (i + 1) (if nI i = wo then (N, mv, w) else letF c i (N, mv, w))).2.1, (lsF c wo m (i + 1) (if nI i = wo then (N, mv, w) else letF c i (N, mv, w))).2.2)
    by_cases q : nI i = wo
    · rw [if_pos q, if_pos q]; exact ih _ _ _ _
    · rw [if_neg q, if_neg q, letF_2]; exact ih _ _ _ _
theorem letF_mv {c f : Nat} {N mv mv' : Nat → Int32} {w : Int32} (h : ∀ j, j < 4 → mv j = mv' j) : (letF c f (N, mv, w)).1 = (letF c f (N, mv', w)).1 ∧ (letF c f (N, mv, w)).2.2 = (letF c f (N, mv', w)).2.2 ∧ ∀ j, j < 4 → (letF c f (N, mv, w)).2.1 j = (letF c f (N, mv', w)).2.1 j := by
  by_cases q : rem100 (drawV (sentN N f)) < sd N f 5
  · rw [letF_l (σ := (N, mv, w)) q, letF_l (σ := (N, mv', w)) q]; exact ⟨rfl, rfl, h⟩
  · by_cases r : tnF (sd N f) c f < 50
    · cases z : mt (sd N f) f with
      | none => rw [letF_n (σ := (N, mv, w)) q r z, letF_n (σ := (N, mv', w)) q r z]; exact ⟨rfl, rfl, h⟩
      | some t =>
        have ht : t < 4 := mtM_lt 4 0 none (by omega) (fun u z => by cases z) t z
        rw [letF_y (σ := (N, mv, w)) q r z, letF_y (σ := (N, mv', w)) q r z]
        exact ⟨rfl, rfl, upd_ag2 (by show mv t + _ = mv' t + _; rw [h t ht]) h⟩
    · rw [letF_r (σ := (N, mv, w)) q r, letF_r (σ := (N, mv', w)) q r]; exact ⟨rfl, rfl, h⟩
theorem lsF_mv {c : Nat} {wo : Int32} : ∀ (m i : Nat) (N mv mv' : Nat → Int32) (w : Int32), (∀ j, j < 4 → mv j = mv' j) → (lsF c wo m i (N, mv, w)).1 = (lsF c wo m i (N, mv', w)).1 ∧ (lsF c wo m i (N, mv, w)).2.2 = (lsF c wo m i (N, mv', w)).2.2 ∧ ∀ j, j < 4 → (lsF c wo m i (N, mv, w)).2.1 j = (lsF c wo m i (N, mv', w)).2.1 j := by
  intro m
  induction m with
  | zero => intro i N mv mv' w h; exact ⟨rfl, rfl, h⟩
  | succ m ih =>
    intro i N mv mv' w h
    show (lsF c wo m (i + 1) (if nI i = wo then (N, mv, w) else letF c i (N, mv, w))).1 = (lsF c wo m (i + 1) (if nI i = wo then (N, mv', w) else letF c i (N, mv', w))).1 ∧ (lsF c wo m (i + 1) (if nI i = wo then (N, mv, w) else letF c i (N, mv, w))).2.2 = (lsF c wo m (i + 1) (if nI i = wo then (N, mv', w) else letF c i (N, mv', w))).2.2 ∧ ∀ j, j < 4 → (lsF c wo m (i + 1) (if nI i = wo then (N, mv, w) else letF c i (N, mv, w))).2.1 j = (lsF c wo m (i + 1) (if nI i = wo then (N, mv', w) else letF c i (N, mv', w))).2.1 j
    by_cases q : nI i = wo
    · rw [if_pos q, if_pos q]; exact ih _ _ _ _ _ h
    · rw [if_neg q, if_neg q]
      have z := letF_mv (c := c) (f := i) (N := N) (w := w) h
      generalize letF c i (N, mv, w) = A at z ⊢
      generalize letF c i (N, mv', w) = B at z ⊢
      obtain ⟨A1, A2, A3⟩ := A
      obtain ⟨B1, B2, B3⟩ := B
      obtain ⟨z1, z2, z3⟩ := z
      cases z1
      cases z2
      exact ih _ _ _ _ _ z3
def coreF (c fr : Nat) (wo : Int32) (N : Nat → Int32) : Nat → Int32 := endM (lsF c wo fr 0 (N, (fun _ => 0), 0)).1 (lsF c wo fr 0 (N, (fun _ => 0), 0)).2.1 (lsF c wo fr 0 (N, (fun _ => 0), 0)).2.2
noncomputable def postF (c fr : Nat) (wo : Int32) (N : Nat → Int32) : Nat → Int32 := cI (peace N ∨ duel N) (pst N) (upd (coreF c fr wo N) 2 (N 2 + 1))
noncomputable def goF (c fr : Nat) (wo : Int32) : Nat → (Nat → Int32) → (Nat → Int32)
  | 0, N => N
  | m + 1, N => goF c fr wo m (postF c fr wo N)
theorem endM_2 {N mv : Nat → Int32} {w x : Int32} : endM (upd N 2 x) mv w = upd (endM N mv w) 2 x := by
  unfold endM
  rw [show upd N 2 x 8 = N 8 from rfl, show upd N 2 x 9 = N 9 from rfl, show upd N 2 x 10 = N 10 from rfl, show upd N 2 x 11 = N 11 from rfl, show upd N 2 x 3 = N 3 from rfl]
  rw [upd_comm (k := 2) (j := 8) (by omega), upd_comm (k := 2) (j := 9) (by omega), upd_comm (k := 2) (j := 10) (by omega), upd_comm (k := 2) (j := 11) (by omega), upd_comm (k := 2) (j := 3) (by omega)]
theorem endM_mv {N mv mv' : Nat → Int32} {w : Int32} (h : ∀ j, j < 4 → mv j = mv' j) : endM N mv w = endM N mv' w := by
  unfold endM
  rw [h 0 (by omega), h 1 (by omega), h 2 (by omega), h 3 (by omega)]
theorem core_2 {c fr : Nat} {wo x : Int32} {N : Nat → Int32} : coreF c fr wo (upd N 2 x) = upd (coreF c fr wo N) 2 x := by
  unfold coreF
  rw [lsF_2]
  exact endM_2
theorem peace_2 {N : Nat → Int32} {x : Int32} : peace (upd N 2 x) ↔ peace N := Iff.rfl
theorem duel_2 {N : Nat → Int32} {x : Int32} : duel (upd N 2 x) ↔ duel N := Iff.rfl
theorem postF_2 {c fr : Nat} {wo x : Int32} {N : Nat → Int32} : postF c fr wo (upd N 2 x) = upd (postF c fr wo N) 2 (x + 1) := by
  unfold postF
  by_cases q : peace N ∨ duel N
  · rw [cI_t q, cI_t (show peace (upd N 2 x) ∨ duel (upd N 2 x) from q)]
    unfold pst
    rw [upd_upd, upd_upd, pk_us]
  · rw [cI_f q, cI_f (show ¬ (peace (upd N 2 x) ∨ duel (upd N 2 x)) from q), core_2, upd_upd, upd_upd, pk_us]
theorem goF_2 {c fr : Nat} {wo : Int32} : ∀ (m : Nat) (N : Nat → Int32) (x : Int32), goF c fr wo m (upd N 2 x) = upd (goF c fr wo m N) 2 (x + nI m) := by
  intro m
  induction m with
  | zero => intro N x; show upd N 2 x = upd N 2 (x + nI 0); rw [show x + nI 0 = x from Int32.add_zero x]
  | succ m ih =>
    intro N x
    show goF c fr wo m (postF c fr wo (upd N 2 x)) = upd (goF c fr wo m (postF c fr wo N)) 2 (x + nI (m + 1))
    rw [postF_2, ih, nI_succ, Int32.add_assoc, Int32.add_comm 1 (nI m)]
theorem goF_id {c fr : Nat} {wo : Int32} {N : Nat → Int32} (h : peace N ∨ duel N) : ∀ (m : Nat), goF c fr wo m N = upd N 2 (N 2 + nI m) := by
  intro m
  have e : postF c fr wo N = upd N 2 (N 2 + 1) := cI_t h
  induction m with
  | zero => show N = upd N 2 (N 2 + nI 0); rw [show N 2 + nI 0 = N 2 from Int32.add_zero _, upd_id]
  | succ m ih =>
    show goF c fr wo m (postF c fr wo N) = _
    rw [e, goF_2, ih, upd_upd, nI_succ, Int32.add_assoc, Int32.add_comm 1 (nI m)]
theorem endM_k {N mv : Nat → Int32} {w : Int32} {k : Nat} (h3 : k ≠ 3) (h8 : k < 8 ∨ 12 ≤ k) : endM N mv w k = N k := by
  unfold endM
  rw [pk_un h3, pk_un (by omega), pk_un (by omega), pk_un (by omega), pk_un (by omega)]
theorem core_k {c fr : Nat} {wo : Int32} {N : Nat → Int32} {k : Nat} (hfr : fr ≤ 8) (h0 : k ≠ 0) (h6 : k ≠ 6) (h3 : k ≠ 3) (h8 : k < 8 ∨ 12 ≤ k) (hf : ∀ f, f < fr → k ≠ 25 + 5 * f ∧ k ≠ 26 + 5 * f) : coreF c fr wo N k = N k := (endM_k h3 h8).trans (lsF_k h0 h6 fr 0 _ (fun f _ h2 => hf f (by omega)))
theorem rk_core {c fr : Nat} {wo : Int32} {N : Nat → Int32} (H : RK N fr c) : RK (coreF c fr wo N) fr c := by
  have hfr := H.2.1
  obtain ⟨h1, h2, h3, h4, h5, h6, h7, h8⟩ := H
  have kp : ∀ k, k ≠ 0 → k ≠ 6 → k ≠ 3 → (k < 8 ∨ 12 ≤ k) → (∀ f, f < fr → k ≠ 25 + 5 * f ∧ k ≠ 26 + 5 * f) → coreF c fr wo N k = N k := fun k a b e f g => core_k hfr a b e f g
  refine ⟨(kp 1 (by omega) (by omega) (by omega) (by omega) (by omega)).trans h1, h2, (kp 7 (by omega) (by omega) (by omega) (by omega) (by omega)).trans h3, h4, fun f hf => ?_, fun t ht => ?_, fun j hj => ?_, ?_⟩
  · rw [kp (22 + 5 * f) (by omega) (by omega) (by omega) (by omega) (by omega), kp (23 + 5 * f) (by omega) (by omega) (by omega) (by omega) (by omega), kp (24 + 5 * f) (by omega) (by omega) (by omega) (by omega) (by omega)]
    exact h5 f hf
  · unfold coreF endM
    rcases (show t = 0 ∨ t = 1 ∨ t = 2 ∨ t = 3 by omega) with rfl | rfl | rfl | rfl
    · rw [pk_un (by omega), pk_un (by omega), pk_un (by omega), pk_un (by omega), pk_us, wn_hw]; exact hw9 _
    · rw [pk_un (by omega), pk_un (by omega), pk_un (by omega), pk_us, wn_hw]; exact hw9 _
    · rw [pk_un (by omega), pk_un (by omega), pk_us, wn_hw]; exact hw9 _
    · rw [pk_un (by omega), pk_us, wn_hw]; exact hw9 _
  · rw [kp (12 + j) (by omega) (by omega) (by omega) (by omega) (by omega)]; exact h7 j hj
  · unfold coreF endM
    rw [pk_us, wn_hw]; exact hw99 _
theorem rk_2 {c fr : Nat} {x : Int32} {N : Nat → Int32} (H : RK N fr c) : RK (upd N 2 x) fr c := by
  obtain ⟨h1, h2, h3, h4, h5, h6, h7, h8⟩ := H
  refine ⟨h1, h2, h3, h4, fun f hf => ?_, fun t ht => ?_, fun j hj => ?_, h8⟩
  · rw [pk_un (by omega), pk_un (by omega), pk_un (by omega)]; exact h5 f hf
  · rw [pk_un (by omega)]; exact h6 t ht
  · rw [pk_un (by omega)]; exact h7 j hj
theorem tc_core {tb : TB} {tx : List Value} {lk N : Nat → Int32} {c fr : Nat} {wo : Int32} (hfr : fr ≤ 8) (H : TC tb tx lk N c) : TC tb tx lk (coreF c fr wo N) c := tc_keep (core_k hfr (by omega) (by omega) (by omega) (by omega) (by omega)) (fun k hk => core_k hfr (by omega) (by omega) (by omega) (by omega) (by omega)) H
theorem tc_2 {tb : TB} {tx : List Value} {lk N : Nat → Int32} {c : Nat} {x : Int32} (H : TC tb tx lk N c) : TC tb tx lk (upd N 2 x) c := tc_keep (pk_un (by omega)) (fun k hk => pk_un (by omega)) H
theorem rk_post {c fr : Nat} {wo : Int32} {N : Nat → Int32} (H : RK N fr c) : RK (postF c fr wo N) fr c := by
  unfold postF
  by_cases q : peace N ∨ duel N
  · rw [cI_t q]; exact rk_2 H
  · rw [cI_f q]; exact rk_2 (rk_core H)
theorem tc_post {tb : TB} {tx : List Value} {lk N : Nat → Int32} {c fr : Nat} {wo : Int32} (hfr : fr ≤ 8) (H : TC tb tx lk N c) : TC tb tx lk (postF c fr wo N) c := by
  unfold postF
  by_cases q : peace N ∨ duel N
  · rw [cI_t q]; exact tc_2 H
  · rw [cI_f q]; exact tc_2 (tc_core hfr H)
theorem post_m {tb : TB} {tx : List Value} {lk N N9 mv : Nat → Int32} {c fr : Nat} {si : Int32} (H : TC tb tx lk N c) (hR : RK N fr c) (h : mPo c fr si mv N N9) : N9 = postF c fr si N := by
  unfold postF
  rcases h with ⟨h1, rfl⟩ | ⟨h1, h2, σ, h3, rfl⟩
  · exact (cI_t (show peace N ∨ duel N from h1)).symm
  · rw [cI_f (show ¬ (peace N ∨ duel N) from fun q => q.elim h1 (fun z => z h2))]
    have e := ls_m (tb := tb) (tx := tx) (lk := lk) (fr := fr) fr 0 (pst N, z4 mv, 0) σ (by have z := hR.2.1; omega) (tc_2 H) (rk_2 hR) h3
    have hz : ∀ j, j < 4 → z4 mv j = (fun _ => (0 : Int32)) j := fun j hj => by
      rcases (show j = 0 ∨ j = 1 ∨ j = 2 ∨ j = 3 by omega) with rfl | rfl | rfl | rfl <;> rfl
    have z := lsF_mv (c := c) (wo := si) fr 0 (pst N) (z4 mv) (fun _ => 0) 0 hz
    rw [e, endM_mv z.2.2, z.1, z.2.1]
    exact core_2
theorem go_m {tb : TB} {tx : List Value} {lk : Nat → Int32} {c fr : Nat} {si : Int32} : ∀ (m : Nat) (N N9 : Nat → Int32), TC tb tx lk N c → RK N fr c → gOn c fr si m N N9 → N9 = goF c fr si m N := by
  intro m
  induction m with
  | zero => intro N N9 _ _ h; exact h
  | succ m ih =>
    intro N N9 H hR h
    obtain ⟨mv, N1, h1, h2⟩ := h
    obtain rfl := post_m H hR h1
    exact ih _ _ (tc_post hR.2.1 H) (rk_post hR) h2
theorem endN_M {σ : (Nat → Int32) × (Nat → Int32) × Int32 × Int32} : endN σ = endM σ.1 σ.2.1 σ.2.2.1 := by
  unfold endN endM
  rw [wn_hw, wn_hw, wn_hw, wn_hw, wn_hw]
theorem ring3 (s a b x : Int32) : s + (a - b) + (x - a) = s + (x - b) := by grind
theorem run_c {tb : TB} {tx : List Value} {lk : Nat → Int32} {c fr : Nat} {wo : Int32} : ∀ (m : Nat) (N N9 : Nat → Int32) (s s9 : Int32), TC tb tx lk N c → RK N fr c → runR fr tb tx lk wo m N s N9 s9 → upd N9 2 (N9 2 + nI m) = goF c fr wo m N ∧ s9 = s + (sumM 26 N9 fr 0 0 - sumM 26 N fr 0 0) := by
  intro m
  induction m with
  | zero =>
    intro N N9 s s9 _ _ h
    obtain ⟨rfl, rfl⟩ := h
    refine ⟨?_, addsub _ _⟩
    show upd N9 2 (N9 2 + nI 0) = N9
    rw [show N9 2 + nI 0 = N9 2 from Int32.add_zero _, upd_id]
  | succ m ih =>
    intro N N9 s s9 H hR h
    rcases h with ⟨h1, rfl, rfl⟩ | ⟨h1, h2, N1, s1, ⟨σ, h3, rfl, rfl⟩, h4⟩
    · exact ⟨(goF_id h1 _).symm, addsub _ _⟩
    · have hl := ls_c (tb := tb) (tx := tx) (lk := lk) (fr := fr) (c := c) fr 0 N (fun _ => 0) 0 0 σ (by have z := hR.2.1; omega) H hR h3
      have e1 : endN σ = coreF c fr wo N := by
        rw [endN_M]
        unfold coreF
        rw [← hl.1]
      rw [e1] at h4
      have r := ih (coreF c fr wo N) N9 _ s9 (tc_core hR.2.1 H) (rk_core hR) h4
      have ep : postF c fr wo N = upd (coreF c fr wo N) 2 (N 2 + 1) := cI_f (fun q => q.elim h1 h2)
      have e2 : coreF c fr wo N 2 = N 2 := core_k hR.2.1 (by omega) (by omega) (by omega) (by omega) (by omega)
      have e9 : goF c fr wo m (coreF c fr wo N) 2 = N9 2 + nI m := by rw [← r.1]; exact pk_us
      have e92 : N9 2 = N 2 := by
        have z := run_keep (k := 2) ⟨by omega, by omega, by omega, by omega, by omega, by omega⟩ h4
        exact z.trans e2
      refine ⟨?_, ?_⟩
      · show _ = goF c fr wo m (postF c fr wo N)
        rw [ep, goF_2, ← r.1, upd_upd, e92, nI_succ, Int32.add_assoc, Int32.add_comm 1 (nI m)]
      · have es : sumM 26 (coreF c fr wo N) fr 0 0 = sumM 26 σ.1 fr 0 0 := sumM_cg fr 0 0 (fun j _ _ => by
          rw [← e1, endN_M]; exact endM_k (by omega) (by omega))
        have hs : σ.2.2.2 = 0 + (sumM 26 σ.1 fr 0 0 - sumM 26 N fr 0 0) := hl.2
        rw [r.2, es, hs, Int32.zero_add]
        exact ring3 _ _ _ _
