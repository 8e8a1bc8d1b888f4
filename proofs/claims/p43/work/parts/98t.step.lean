theorem li_el {T : Nat} {h : am_H} {G : Prop} (H : LI T h) (k : ∀ (o : Nat → Int32) (a : Nat → Nat → Int32) (N : Nat → Int32) (tx : List Value) (lk mv NI : Nat → Int32) (txI : List Value) (lkI mvI r cd kd pr nu ss zs : Nat → Int32) (tb : TB) (fr c : Nat), BB o N a (o 3) (o 35) N tx lk mv NI txI lkI mvI r (o 9) (a 75) cd (a 83) (a 84) (a 85) (a 86) kd pr nu ss zs (a 89) (a 91) tb h → tb.1 = T → RG N fr c → TC tb tx lk N c → LM (o 3) (a 71) NI txI lkI tb → LQ o a (o 35) (o 9) (a 83) (a 84) (a 86) kd pr nu zs → G) : G := by
  obtain ⟨o, a, ik, wc, N, tx, lk, mv, NI, txI, lkI, mvI, r, tn, tp, cd, sr, sz, cl, th, kd, pr, nu, ss, zs, hc, wt, tb, fr, c, B, E, hT, R, C, Lm, Lq⟩ := H
  obtain ⟨rfl, rfl, rfl, rfl, rfl, rfl, rfl, rfl, rfl, rfl⟩ := E
  exact k o a N tx lk mv NI txI lkI mvI r cd kd pr nu ss zs tb fr c B hT R C Lm Lq
theorem le_rf {o : Nat → Int32} {a : Nat → Nat → Int32} : LE o a (o 3) (o 35) (o 9) (a 75) (a 83) (a 84) (a 85) (a 86) (a 89) (a 91) := ⟨rfl, rfl, rfl, rfl, rfl, rfl, rfl, rfl, rfl, rfl⟩
theorem st_friend {X : List Int32} {d rc rs n T : Nat} {Q : am_Q} {h : am_H} {x1 x2 x3 : Int32} (H : LI T h) (hq : ∀ v h9, MD X mX8_friend [some (.ref 69), some (.int x1), some (.int x2), some (.int x3)] T n h9 v → Q (some (.int v)) n h9) : AW X mX7_friend (d + 800) rc rs 0 [some (.ref 0), some (.int x1), some (.int x2), some (.int x3)] [] n h Q := by
  have H0 := H
  refine li_el H (fun o a N tx lk mv NI txI lkI mvI r cd kd pr nu ss zs tb fr c B hT R C Lm Lq => ?_)
  have E : LE o a (o 3) (o 35) (o 9) (a 75) (a 83) (a 84) (a 85) (a 86) (a 89) (a 91) := le_rf
  have HM := B.1
  have HO := B.2.1
  have HF := B.2.2.1
  have HT := B.2.2.2.1
  have HI := B.2.2.2.2.1
  have HY := B.2.2.2.2.2.1
  have HD := B.2.2.2.2.2.2.1
  have HR := B.2.2.2.2.2.2.2.1
  have HS := B.2.2.2.2.2.2.2.2.1
  have HW := B.2.2.2.2.2.2.2.2.2.1
  have HG := B.2.2.2.2.2.2.2.2.2.2
  obtain ⟨q4, ⟨L, hL, eL⟩, ⟨q, hq60, eq⟩, hRI, hSP⟩ := id Lq
  have l25 := Lm.1
  have ok25 := Lm.2.1
  have him := Lm.2.2
  refine C_friend (d := d + 788) HO HF R (fun v1 N1 h1 ev eN F1 e1 => ?_)
  subst ev; subst eN
  have B1 := bb_q B F1 e1
  refine hq _ _ ⟨⟨_, B1.1.1⟩, fun d rc rs Q hk => ?_⟩
  refine M_friend (d := d + 88) B1.1 R (fun v2 N2 h2 ev2 eN2 M2 e2 => ?_)
  subst ev2; subst eN2
  obtain ⟨fr9, R9⟩ := rg_fr (k := x1) (s := x2) (p := x3) R
  exact hk _ (li_sc (bb_m B1 M2 e2) sc_0 E hT R9 (kpt_tc kpt_fr C) Lm Lq)
theorem st_as {X : List Int32} {d rc rs n T : Nat} {Q : am_Q} {h : am_H} {x1 x2 : Int32} (H : LI T h) (hq : ∀ v h9, MD X mX8_as [some (.ref 69), some (.int x1), some (.int x2)] T n h9 v → Q (some (.int v)) n h9) : AW X mX7_as (d + 800) rc rs 0 [some (.ref 0), some (.int x1), some (.int x2)] [] n h Q := by
  have H0 := H
  refine li_el H (fun o a N tx lk mv NI txI lkI mvI r cd kd pr nu ss zs tb fr c B hT R C Lm Lq => ?_)
  have E : LE o a (o 3) (o 35) (o 9) (a 75) (a 83) (a 84) (a 85) (a 86) (a 89) (a 91) := le_rf
  have HM := B.1
  have HO := B.2.1
  have HF := B.2.2.1
  have HT := B.2.2.2.1
  have HI := B.2.2.2.2.1
  have HY := B.2.2.2.2.2.1
  have HD := B.2.2.2.2.2.2.1
  have HR := B.2.2.2.2.2.2.2.1
  have HS := B.2.2.2.2.2.2.2.2.1
  have HW := B.2.2.2.2.2.2.2.2.2.1
  have HG := B.2.2.2.2.2.2.2.2.2.2
  obtain ⟨q4, ⟨L, hL, eL⟩, ⟨q, hq60, eq⟩, hRI, hSP⟩ := id Lq
  have l25 := Lm.1
  have ok25 := Lm.2.1
  have him := Lm.2.2
  refine C_as (d := d + 788) HO HF R (fun v1 N1 h1 ev eN F1 e1 => ?_)
  subst ev; subst eN
  have B1 := bb_q B F1 e1
  refine hq _ _ ⟨⟨_, B1.1.1⟩, fun d rc rs Q hk => ?_⟩
  refine M_as (d := d + 88) B1.1 R (fun v2 N2 h2 ev2 eN2 M2 e2 => ?_)
  subst ev2; subst eN2
  obtain ⟨fr9, R9⟩ := (⟨fr, R⟩ : ∃ f9, RG _ f9 c)
  exact hk _ (li_sc (bb_m B1 M2 e2) sc_0 E hT R9 (kpt_tc kpt0 C) Lm Lq)
theorem st_turns {X : List Int32} {d rc rs n T : Nat} {Q : am_Q} {h : am_H} {x1 x2 : Int32} (H : LI T h) (hq : ∀ v h9, MD X mX8_turns [some (.ref 69), some (.int x1), some (.int x2)] T n h9 v → Q (some (.int v)) n h9) : AW X mX7_turns (d + 800) rc rs 0 [some (.ref 0), some (.int x1), some (.int x2), none] [] n h Q := by
  have H0 := H
  refine li_el H (fun o a N tx lk mv NI txI lkI mvI r cd kd pr nu ss zs tb fr c B hT R C Lm Lq => ?_)
  have E : LE o a (o 3) (o 35) (o 9) (a 75) (a 83) (a 84) (a 85) (a 86) (a 89) (a 91) := le_rf
  have HM := B.1
  have HO := B.2.1
  have HF := B.2.2.1
  have HT := B.2.2.2.1
  have HI := B.2.2.2.2.1
  have HY := B.2.2.2.2.2.1
  have HD := B.2.2.2.2.2.2.1
  have HR := B.2.2.2.2.2.2.2.1
  have HS := B.2.2.2.2.2.2.2.2.1
  have HW := B.2.2.2.2.2.2.2.2.2.1
  have HG := B.2.2.2.2.2.2.2.2.2.2
  obtain ⟨q4, ⟨L, hL, eL⟩, ⟨q, hq60, eq⟩, hRI, hSP⟩ := id Lq
  have l25 := Lm.1
  have ok25 := Lm.2.1
  have him := Lm.2.2
  refine C_turns (d := d + 788) HO HF R (fun v1 N1 h1 ev eN F1 e1 => ?_)
  subst ev; subst eN
  have B1 := bb_q B F1 e1
  refine hq _ _ ⟨⟨_, B1.1.1⟩, fun d rc rs Q hk => ?_⟩
  refine M_turns (d := d + 88) B1.1 R (fun v2 N2 h2 ev2 eN2 M2 e2 => ?_)
  subst ev2; subst eN2
  obtain ⟨fr9, R9⟩ := (⟨fr, rg_tu R⟩ : ∃ f9, RG (tuN N x1 x2) f9 c)
  exact hk _ (li_sc (bb_m B1 M2 e2) sc_0 E hT R9 (kpt_tc (kpt_tu R) C) Lm Lq)
theorem st_set {X : List Int32} {d rc rs n T : Nat} {Q : am_Q} {h : am_H} {x1 x2 x3 : Int32} (H : LI T h) (hq : ∀ v h9, MD X mX8_set [some (.ref 69), some (.int x1), some (.int x2), some (.int x3)] T n h9 v → Q (some (.int v)) n h9) : AW X mX7_set (d + 800) rc rs 0 [some (.ref 0), some (.int x1), some (.int x2), some (.int x3), none] [] n h Q := by
  have H0 := H
  refine li_el H (fun o a N tx lk mv NI txI lkI mvI r cd kd pr nu ss zs tb fr c B hT R C Lm Lq => ?_)
  have E : LE o a (o 3) (o 35) (o 9) (a 75) (a 83) (a 84) (a 85) (a 86) (a 89) (a 91) := le_rf
  have HM := B.1
  have HO := B.2.1
  have HF := B.2.2.1
  have HT := B.2.2.2.1
  have HI := B.2.2.2.2.1
  have HY := B.2.2.2.2.2.1
  have HD := B.2.2.2.2.2.2.1
  have HR := B.2.2.2.2.2.2.2.1
  have HS := B.2.2.2.2.2.2.2.2.1
  have HW := B.2.2.2.2.2.2.2.2.2.1
  have HG := B.2.2.2.2.2.2.2.2.2.2
  obtain ⟨q4, ⟨L, hL, eL⟩, ⟨q, hq60, eq⟩, hRI, hSP⟩ := id Lq
  have l25 := Lm.1
  have ok25 := Lm.2.1
  have him := Lm.2.2
  refine C_set (d := d + 788) HO HF R (fun v1 N1 h1 ev eN F1 e1 => ?_)
  subst ev; subst eN
  have B1 := bb_q B F1 e1
  refine hq _ _ ⟨⟨_, B1.1.1⟩, fun d rc rs Q hk => ?_⟩
  refine M_set (d := d + 88) B1.1 R (fun v2 N2 h2 ev2 eN2 M2 e2 => ?_)
  subst ev2; subst eN2
  obtain ⟨fr9, R9⟩ := (⟨fr, rg_se R⟩ : ∃ f9, RG (seN N x1 x2 x3) f9 c)
  exact hk _ (li_sc (bb_m B1 M2 e2) sc_0 E hT R9 (kpt_tc (kpt_se R) C) Lm Lq)
theorem st_stand {X : List Int32} {d rc rs n T : Nat} {Q : am_Q} {h : am_H} {x1 x2 : Int32} (H : LI T h) (hq : ∀ v h9, MD X mX8_stand [some (.ref 69), some (.int x1), some (.int x2)] T n h9 v → Q (some (.int v)) n h9) : AW X mX7_stand (d + 800) rc rs 0 [some (.ref 0), some (.int x1), some (.int x2), none] [] n h Q := by
  have H0 := H
  refine li_el H (fun o a N tx lk mv NI txI lkI mvI r cd kd pr nu ss zs tb fr c B hT R C Lm Lq => ?_)
  have E : LE o a (o 3) (o 35) (o 9) (a 75) (a 83) (a 84) (a 85) (a 86) (a 89) (a 91) := le_rf
  have HM := B.1
  have HO := B.2.1
  have HF := B.2.2.1
  have HT := B.2.2.2.1
  have HI := B.2.2.2.2.1
  have HY := B.2.2.2.2.2.1
  have HD := B.2.2.2.2.2.2.1
  have HR := B.2.2.2.2.2.2.2.1
  have HS := B.2.2.2.2.2.2.2.2.1
  have HW := B.2.2.2.2.2.2.2.2.2.1
  have HG := B.2.2.2.2.2.2.2.2.2.2
  obtain ⟨q4, ⟨L, hL, eL⟩, ⟨q, hq60, eq⟩, hRI, hSP⟩ := id Lq
  have l25 := Lm.1
  have ok25 := Lm.2.1
  have him := Lm.2.2
  refine C_stand (d := d + 788) HO HF R (fun v1 N1 h1 ev eN F1 e1 => ?_)
  subst ev; subst eN
  have B1 := bb_q B F1 e1
  refine hq _ _ ⟨⟨_, B1.1.1⟩, fun d rc rs Q hk => ?_⟩
  refine M_stand (d := d + 88) B1.1 R (fun v2 N2 h2 ev2 eN2 M2 e2 => ?_)
  subst ev2; subst eN2
  obtain ⟨fr9, R9⟩ := (⟨fr, rg_st R⟩ : ∃ f9, RG (stN N x1 x2) f9 c)
  exact hk _ (li_sc (bb_m B1 M2 e2) sc_0 E hT R9 (kpt_tc kpt_st C) Lm Lq)
theorem st_care {X : List Int32} {d rc rs n T : Nat} {Q : am_Q} {h : am_H} {x1 x2 x3 : Int32} (H : LI T h) (hq : ∀ v h9, MD X mX8_care [some (.ref 69), some (.int x1), some (.int x2), some (.int x3)] T n h9 v → Q (some (.int v)) n h9) : AW X mX7_care (d + 800) rc rs 0 [some (.ref 0), some (.int x1), some (.int x2), some (.int x3), none] [] n h Q := by
  have H0 := H
  refine li_el H (fun o a N tx lk mv NI txI lkI mvI r cd kd pr nu ss zs tb fr c B hT R C Lm Lq => ?_)
  have E : LE o a (o 3) (o 35) (o 9) (a 75) (a 83) (a 84) (a 85) (a 86) (a 89) (a 91) := le_rf
  have HM := B.1
  have HO := B.2.1
  have HF := B.2.2.1
  have HT := B.2.2.2.1
  have HI := B.2.2.2.2.1
  have HY := B.2.2.2.2.2.1
  have HD := B.2.2.2.2.2.2.1
  have HR := B.2.2.2.2.2.2.2.1
  have HS := B.2.2.2.2.2.2.2.2.1
  have HW := B.2.2.2.2.2.2.2.2.2.1
  have HG := B.2.2.2.2.2.2.2.2.2.2
  obtain ⟨q4, ⟨L, hL, eL⟩, ⟨q, hq60, eq⟩, hRI, hSP⟩ := id Lq
  have l25 := Lm.1
  have ok25 := Lm.2.1
  have him := Lm.2.2
  refine C_care (d := d + 788) HO HF R (fun v1 N1 h1 ev eN F1 e1 => ?_)
  subst ev; subst eN
  have B1 := bb_q B F1 e1
  refine hq _ _ ⟨⟨_, B1.1.1⟩, fun d rc rs Q hk => ?_⟩
  refine M_care (d := d + 88) B1.1 R (fun v2 N2 h2 ev2 eN2 M2 e2 => ?_)
  subst ev2; subst eN2
  obtain ⟨fr9, R9⟩ := (⟨fr, rg_ca R⟩ : ∃ f9, RG (caN N x1 x2 x3) f9 c)
  exact hk _ (li_sc (bb_m B1 M2 e2) sc_0 E hT R9 (kpt_tc kpt_ca C) Lm Lq)
theorem st_honour {X : List Int32} {d rc rs n T : Nat} {Q : am_Q} {h : am_H} {x1 x2 : Int32} (H : LI T h) (hq : ∀ v h9, MD X mX8_honour [some (.ref 69), some (.int x1), some (.int x2)] T n h9 v → Q (some (.int v)) n h9) : AW X mX7_honour (d + 800) rc rs 0 [some (.ref 0), some (.int x1), some (.int x2), none] [] n h Q := by
  have H0 := H
  refine li_el H (fun o a N tx lk mv NI txI lkI mvI r cd kd pr nu ss zs tb fr c B hT R C Lm Lq => ?_)
  have E : LE o a (o 3) (o 35) (o 9) (a 75) (a 83) (a 84) (a 85) (a 86) (a 89) (a 91) := le_rf
  have HM := B.1
  have HO := B.2.1
  have HF := B.2.2.1
  have HT := B.2.2.2.1
  have HI := B.2.2.2.2.1
  have HY := B.2.2.2.2.2.1
  have HD := B.2.2.2.2.2.2.1
  have HR := B.2.2.2.2.2.2.2.1
  have HS := B.2.2.2.2.2.2.2.2.1
  have HW := B.2.2.2.2.2.2.2.2.2.1
  have HG := B.2.2.2.2.2.2.2.2.2.2
  obtain ⟨q4, ⟨L, hL, eL⟩, ⟨q, hq60, eq⟩, hRI, hSP⟩ := id Lq
  have l25 := Lm.1
  have ok25 := Lm.2.1
  have him := Lm.2.2
  refine C_honour (d := d + 788) HO HF R (fun v1 N1 h1 ev eN F1 e1 => ?_)
  subst ev; subst eN
  have B1 := bb_q B F1 e1
  refine hq _ _ ⟨⟨_, B1.1.1⟩, fun d rc rs Q hk => ?_⟩
  refine M_honour (d := d + 88) B1.1 R (fun v2 N2 h2 ev2 eN2 M2 e2 => ?_)
  subst ev2; subst eN2
  obtain ⟨fr9, R9⟩ := (⟨fr, rg_ho R⟩ : ∃ f9, RG (hoN N x1 x2) f9 c)
  exact hk _ (li_sc (bb_m B1 M2 e2) sc_0 E hT R9 (kpt_tc kpt_ho C) Lm Lq)
theorem st_rule {X : List Int32} {d rc rs n T : Nat} {Q : am_Q} {h : am_H} {x1 x2 : Int32} (H : LI T h) (hq : ∀ v h9, MD X mX8_rule [some (.ref 69), some (.int x1), some (.int x2)] T n h9 v → Q (some (.int v)) n h9) : AW X mX7_rule (d + 800) rc rs 0 [some (.ref 0), some (.int x1), some (.int x2), none] [] n h Q := by
  have H0 := H
  refine li_el H (fun o a N tx lk mv NI txI lkI mvI r cd kd pr nu ss zs tb fr c B hT R C Lm Lq => ?_)
  have E : LE o a (o 3) (o 35) (o 9) (a 75) (a 83) (a 84) (a 85) (a 86) (a 89) (a 91) := le_rf
  have HM := B.1
  have HO := B.2.1
  have HF := B.2.2.1
  have HT := B.2.2.2.1
  have HI := B.2.2.2.2.1
  have HY := B.2.2.2.2.2.1
  have HD := B.2.2.2.2.2.2.1
  have HR := B.2.2.2.2.2.2.2.1
  have HS := B.2.2.2.2.2.2.2.2.1
  have HW := B.2.2.2.2.2.2.2.2.2.1
  have HG := B.2.2.2.2.2.2.2.2.2.2
  obtain ⟨q4, ⟨L, hL, eL⟩, ⟨q, hq60, eq⟩, hRI, hSP⟩ := id Lq
  have l25 := Lm.1
  have ok25 := Lm.2.1
  have him := Lm.2.2
  refine C_rule (d := d + 788) HO HF R (fun v1 N1 h1 ev eN F1 e1 => ?_)
  subst ev; subst eN
  have B1 := bb_q B F1 e1
  refine hq _ _ ⟨⟨_, B1.1.1⟩, fun d rc rs Q hk => ?_⟩
  refine M_rule (d := d + 88) B1.1 R (fun v2 N2 h2 ev2 eN2 M2 e2 => ?_)
  subst ev2; subst eN2
  obtain ⟨fr9, R9⟩ := (⟨fr, rg_ru R⟩ : ∃ f9, RG (ruN N x1 x2) f9 c)
  exact hk _ (li_sc (bb_m B1 M2 e2) sc_0 E hT R9 (kpt_tc kpt_ru C) Lm Lq)
theorem st_seed {X : List Int32} {d rc rs n T : Nat} {Q : am_Q} {h : am_H} {x1 : Int32} (H : LI T h) (hq : ∀ v h9, MD X mX8_seed [some (.ref 69), some (.int x1)] T n h9 v → Q (some (.int v)) n h9) : AW X mX7_seed (d + 800) rc rs 0 [some (.ref 0), some (.int x1), none] [] n h Q := by
  have H0 := H
  refine li_el H (fun o a N tx lk mv NI txI lkI mvI r cd kd pr nu ss zs tb fr c B hT R C Lm Lq => ?_)
  have E : LE o a (o 3) (o 35) (o 9) (a 75) (a 83) (a 84) (a 85) (a 86) (a 89) (a 91) := le_rf
  have HM := B.1
  have HO := B.2.1
  have HF := B.2.2.1
  have HT := B.2.2.2.1
  have HI := B.2.2.2.2.1
  have HY := B.2.2.2.2.2.1
  have HD := B.2.2.2.2.2.2.1
  have HR := B.2.2.2.2.2.2.2.1
  have HS := B.2.2.2.2.2.2.2.2.1
  have HW := B.2.2.2.2.2.2.2.2.2.1
  have HG := B.2.2.2.2.2.2.2.2.2.2
  obtain ⟨q4, ⟨L, hL, eL⟩, ⟨q, hq60, eq⟩, hRI, hSP⟩ := id Lq
  have l25 := Lm.1
  have ok25 := Lm.2.1
  have him := Lm.2.2
  refine C_seed (d := d + 788) HO HF R (fun v1 N1 h1 ev eN F1 e1 => ?_)
  subst ev; subst eN
  have B1 := bb_q B F1 e1
  refine hq _ _ ⟨⟨_, B1.1.1⟩, fun d rc rs Q hk => ?_⟩
  refine M_seed (d := d + 88) B1.1 R (fun v2 N2 h2 ev2 eN2 M2 e2 => ?_)
  subst ev2; subst eN2
  obtain ⟨fr9, R9⟩ := (⟨fr, rg_0 R⟩ : ∃ f9, RG (upd N 0 x1) f9 c)
  exact hk _ (li_sc (bb_m B1 M2 e2) sc_0 E hT R9 (kpt_tc (kpt_u (by omega) (by omega) kpt0) C) Lm Lq)
theorem st_told {X : List Int32} {d rc rs n T : Nat} {Q : am_Q} {h : am_H} {x1 x2 : Int32} (H : LI T h) (hq : ∀ v h9, MD X mX8_told [some (.ref 69), some (.int x1), some (.int x2)] T n h9 v → Q (some (.int v)) n h9) : AW X mX7_told (d + 800) rc rs 0 [some (.ref 0), some (.int x1), some (.int x2)] [] n h Q := by
  have H0 := H
  refine li_el H (fun o a N tx lk mv NI txI lkI mvI r cd kd pr nu ss zs tb fr c B hT R C Lm Lq => ?_)
  have E : LE o a (o 3) (o 35) (o 9) (a 75) (a 83) (a 84) (a 85) (a 86) (a 89) (a 91) := le_rf
  have HM := B.1
  have HO := B.2.1
  have HF := B.2.2.1
  have HT := B.2.2.2.1
  have HI := B.2.2.2.2.1
  have HY := B.2.2.2.2.2.1
  have HD := B.2.2.2.2.2.2.1
  have HR := B.2.2.2.2.2.2.2.1
  have HS := B.2.2.2.2.2.2.2.2.1
  have HW := B.2.2.2.2.2.2.2.2.2.1
  have HG := B.2.2.2.2.2.2.2.2.2.2
  obtain ⟨q4, ⟨L, hL, eL⟩, ⟨q, hq60, eq⟩, hRI, hSP⟩ := id Lq
  have l25 := Lm.1
  have ok25 := Lm.2.1
  have him := Lm.2.2
  refine C_told (d := d + 788) HO HF HG R C.1 (fun v1 h1 hv F1 G1 e1 => ?_)
  obtain ⟨τ1, ht1, ev⟩ := hv
  subst ev
  have B1 := bb_t B G1 e1
  refine hq _ _ ⟨⟨_, B1.1.1⟩, fun d rc rs Q hk => ?_⟩
  refine M_told (d := d + 88) B1.1 R (tc_txm C) (fun v2 a2 h2 hv2 M2 k2 e2 => ?_)
  obtain ⟨τ2, ht2, ev2⟩ := hv2
  subst ev2
  rw [to_eq (τ := τ2) (τ' := τ1) (fun z1 z2 => (tn_m C (rg_rk R) (fN_f R z1) (ht2 z1 z2)).trans (tn_c C (ht1 z1 z2)).symm)]
  exact hk _ (li_sc (bb_m B1 M2 e2) (sc_k k2) E hT R C Lm Lq)
theorem st_textTold {X : List Int32} {d rc rs n T : Nat} {Q : am_Q} {h : am_H} {x1 x2 : Int32} (H : LI T h) (hq : ∀ v h9, MD X mX8_textTold [some (.ref 69), some (.int x1), some (.int x2)] T n h9 v → Q (some (.int v)) n h9) : AW X mX7_textTold (d + 800) rc rs 0 [some (.ref 0), some (.int x1), some (.int x2), none] [] n h Q := by
  have H0 := H
  refine li_el H (fun o a N tx lk mv NI txI lkI mvI r cd kd pr nu ss zs tb fr c B hT R C Lm Lq => ?_)
  have E : LE o a (o 3) (o 35) (o 9) (a 75) (a 83) (a 84) (a 85) (a 86) (a 89) (a 91) := le_rf
  have HM := B.1
  have HO := B.2.1
  have HF := B.2.2.1
  have HT := B.2.2.2.1
  have HI := B.2.2.2.2.1
  have HY := B.2.2.2.2.2.1
  have HD := B.2.2.2.2.2.2.1
  have HR := B.2.2.2.2.2.2.2.1
  have HS := B.2.2.2.2.2.2.2.2.1
  have HW := B.2.2.2.2.2.2.2.2.2.1
  have HG := B.2.2.2.2.2.2.2.2.2.2
  obtain ⟨q4, ⟨L, hL, eL⟩, ⟨q, hq60, eq⟩, hRI, hSP⟩ := id Lq
  have l25 := Lm.1
  have ok25 := Lm.2.1
  have him := Lm.2.2
  refine C_textTold (d := d + 788) HO HF HG R C.1 (fun v1 hv => ?_)
  obtain rfl := tt_eq C hv
  refine hq _ _ ⟨⟨_, HM.1⟩, fun d rc rs Q hk => ?_⟩
  exact M_textTold (d := d + 88) HM R (hk _ H0)
theorem st_why {X : List Int32} {d rc rs n T : Nat} {Q : am_Q} {h : am_H} {x1 : Int32} (H : LI T h) (hq : ∀ v h9, MD X mX8_why [some (.ref 69), some (.int x1), none] T n h9 v → Q (some (.int v)) n h9) : AW X mX7_why (d + 800) rc rs 0 [some (.ref 0), some (.int x1)] [] n h Q := by
  have H0 := H
  refine li_el H (fun o a N tx lk mv NI txI lkI mvI r cd kd pr nu ss zs tb fr c B hT R C Lm Lq => ?_)
  have E : LE o a (o 3) (o 35) (o 9) (a 75) (a 83) (a 84) (a 85) (a 86) (a 89) (a 91) := le_rf
  have HM := B.1
  have HO := B.2.1
  have HF := B.2.2.1
  have HT := B.2.2.2.1
  have HI := B.2.2.2.2.1
  have HY := B.2.2.2.2.2.1
  have HD := B.2.2.2.2.2.2.1
  have HR := B.2.2.2.2.2.2.2.1
  have HS := B.2.2.2.2.2.2.2.2.1
  have HW := B.2.2.2.2.2.2.2.2.2.1
  have HG := B.2.2.2.2.2.2.2.2.2.2
  obtain ⟨q4, ⟨L, hL, eL⟩, ⟨q, hq60, eq⟩, hRI, hSP⟩ := id Lq
  have l25 := Lm.1
  have ok25 := Lm.2.1
  have him := Lm.2.2
  refine C_why (fr := fr) (c := c) (d := d + 788) HO HF ?_
  refine hq _ _ ⟨⟨_, HM.1⟩, fun d rc rs Q hk => ?_⟩
  refine M_why (d := d + 88) HM R ?_
  rw [← wh_eq C]
  exact hk _ H0
theorem st_table {X : List Int32} {d rc rs n T : Nat} {Q : am_Q} {h : am_H} {x1 : Int32} (H : LI T h) (hq : ∀ v h9, MD X mX8_table [some (.ref 69), some (.int x1)] T n h9 v → Q (some (.int v)) n h9) : AW X mX7_table (d + 800) rc rs 0 [some (.ref 0), some (.int x1)] [] n h Q := by
  have H0 := H
  refine li_el H (fun o a N tx lk mv NI txI lkI mvI r cd kd pr nu ss zs tb fr c B hT R C Lm Lq => ?_)
  have E : LE o a (o 3) (o 35) (o 9) (a 75) (a 83) (a 84) (a 85) (a 86) (a 89) (a 91) := le_rf
  have HM := B.1
  have HO := B.2.1
  have HF := B.2.2.1
  have HT := B.2.2.2.1
  have HI := B.2.2.2.2.1
  have HY := B.2.2.2.2.2.1
  have HD := B.2.2.2.2.2.2.1
  have HR := B.2.2.2.2.2.2.2.1
  have HS := B.2.2.2.2.2.2.2.2.1
  have HW := B.2.2.2.2.2.2.2.2.2.1
  have HG := B.2.2.2.2.2.2.2.2.2.2
  obtain ⟨q4, ⟨L, hL, eL⟩, ⟨q, hq60, eq⟩, hRI, hSP⟩ := id Lq
  have l25 := Lm.1
  have ok25 := Lm.2.1
  have him := Lm.2.2
  refine C_table (d := d + 788) HO HF R ?_
  refine hq _ _ ⟨⟨_, HM.1⟩, fun d rc rs Q hk => ?_⟩
  exact M_table (d := d + 88) HM R (hk _ H0)
theorem st_count {X : List Int32} {d rc rs n T : Nat} {Q : am_Q} {h : am_H} {x1 : Int32} (H : LI T h) (hq : ∀ v h9, MD X mX8_count [some (.ref 69), some (.int x1)] T n h9 v → Q (some (.int v)) n h9) : AW X mX7_count (d + 800) rc rs 0 [some (.ref 0), some (.int x1)] [] n h Q := by
  have H0 := H
  refine li_el H (fun o a N tx lk mv NI txI lkI mvI r cd kd pr nu ss zs tb fr c B hT R C Lm Lq => ?_)
  have E : LE o a (o 3) (o 35) (o 9) (a 75) (a 83) (a 84) (a 85) (a 86) (a 89) (a 91) := le_rf
  have HM := B.1
  have HO := B.2.1
  have HF := B.2.2.1
  have HT := B.2.2.2.1
  have HI := B.2.2.2.2.1
  have HY := B.2.2.2.2.2.1
  have HD := B.2.2.2.2.2.2.1
  have HR := B.2.2.2.2.2.2.2.1
  have HS := B.2.2.2.2.2.2.2.2.1
  have HW := B.2.2.2.2.2.2.2.2.2.1
  have HG := B.2.2.2.2.2.2.2.2.2.2
  obtain ⟨q4, ⟨L, hL, eL⟩, ⟨q, hq60, eq⟩, hRI, hSP⟩ := id Lq
  have l25 := Lm.1
  have ok25 := Lm.2.1
  have him := Lm.2.2
  refine C_count (fr := fr) (c := c) (d := d + 788) HO HF HD ?_
  refine hq _ _ ⟨⟨_, HM.1⟩, fun d rc rs Q hk => ?_⟩
  exact M_count (fr := fr) (c := c) (d := d + 88) HM (hk _ H0)
theorem st_ask {X : List Int32} {d rc rs n T : Nat} {Q : am_Q} {h : am_H} {x1 x2 : Int32} (H : LI T h) (hq : ∀ v h9, MD X mX8_ask [some (.ref 69), some (.int x1), some (.int x2)] T n h9 v → Q (some (.int v)) n h9) : AW X mX7_ask (d + 800) rc rs 0 [some (.ref 0), some (.int x1), some (.int x2), none] [] n h Q := by
  have H0 := H
  refine li_el H (fun o a N tx lk mv NI txI lkI mvI r cd kd pr nu ss zs tb fr c B hT R C Lm Lq => ?_)
  have E : LE o a (o 3) (o 35) (o 9) (a 75) (a 83) (a 84) (a 85) (a 86) (a 89) (a 91) := le_rf
  have HM := B.1
  have HO := B.2.1
  have HF := B.2.2.1
  have HT := B.2.2.2.1
  have HI := B.2.2.2.2.1
  have HY := B.2.2.2.2.2.1
  have HD := B.2.2.2.2.2.2.1
  have HR := B.2.2.2.2.2.2.2.1
  have HS := B.2.2.2.2.2.2.2.2.1
  have HW := B.2.2.2.2.2.2.2.2.2.1
  have HG := B.2.2.2.2.2.2.2.2.2.2
  obtain ⟨q4, ⟨L, hL, eL⟩, ⟨q, hq60, eq⟩, hRI, hSP⟩ := id Lq
  have l25 := Lm.1
  have ok25 := Lm.2.1
  have him := Lm.2.2
  refine C_ask (N := N) (tx := tx) (lk := lk) (mv := mv) (fr := fr) (c := c) (d := d + 788) HO HS (sp_si hSP) ?_
  refine hq _ _ ⟨⟨_, HM.1⟩, fun d rc rs Q hk => ?_⟩
  refine M_ask (fr := fr) (c := c) (d := d + 88) HM (sp_smi hSP) ?_
  rw [← ak_eq hSP]
  exact hk _ H0
theorem st_item {X : List Int32} {d rc rs n T : Nat} {Q : am_Q} {h : am_H} {x1 x2 : Int32} (H : LI T h) (hq : ∀ v h9, MD X mX8_item [some (.ref 69), some (.int x1), some (.int x2), none] T n h9 v → Q (some (.int v)) n h9) : AW X mX7_item (d + 800) rc rs 0 [some (.ref 0), some (.int x1), some (.int x2), none] [] n h Q := by
  have H0 := H
  refine li_el H (fun o a N tx lk mv NI txI lkI mvI r cd kd pr nu ss zs tb fr c B hT R C Lm Lq => ?_)
  have E : LE o a (o 3) (o 35) (o 9) (a 75) (a 83) (a 84) (a 85) (a 86) (a 89) (a 91) := le_rf
  have HM := B.1
  have HO := B.2.1
  have HF := B.2.2.1
  have HT := B.2.2.2.1
  have HI := B.2.2.2.2.1
  have HY := B.2.2.2.2.2.1
  have HD := B.2.2.2.2.2.2.1
  have HR := B.2.2.2.2.2.2.2.1
  have HS := B.2.2.2.2.2.2.2.2.1
  have HW := B.2.2.2.2.2.2.2.2.2.1
  have HG := B.2.2.2.2.2.2.2.2.2.2
  obtain ⟨q4, ⟨L, hL, eL⟩, ⟨q, hq60, eq⟩, hRI, hSP⟩ := id Lq
  have l25 := Lm.1
  have ok25 := Lm.2.1
  have him := Lm.2.2
  refine C_item (N := N) (tx := tx) (lk := lk) (mv := mv) (fr := fr) (c := c) (d := d + 788) HO HS (sp_si hSP) ?_
  refine hq _ _ ⟨⟨_, HM.1⟩, fun d rc rs Q hk => ?_⟩
  refine M_item (fr := fr) (c := c) (d := d + 88) HM (sp_smi hSP) ?_
  rw [← it_eq hSP]
  exact hk _ H0
theorem st_rest {X : List Int32} {d rc rs n T : Nat} {Q : am_Q} {h : am_H} {x1 x2 : Int32} (H : LI T h) (hq : ∀ v h9, MD X mX8_rest [some (.ref 69), some (.int x1), some (.int x2)] T n h9 v → Q (some (.int v)) n h9) : AW X mX7_rest (d + 800) rc rs 0 [some (.ref 0), some (.int x1), some (.int x2), none] [] n h Q := by
  have H0 := H
  refine li_el H (fun o a N tx lk mv NI txI lkI mvI r cd kd pr nu ss zs tb fr c B hT R C Lm Lq => ?_)
  have E : LE o a (o 3) (o 35) (o 9) (a 75) (a 83) (a 84) (a 85) (a 86) (a 89) (a 91) := le_rf
  have HM := B.1
  have HO := B.2.1
  have HF := B.2.2.1
  have HT := B.2.2.2.1
  have HI := B.2.2.2.2.1
  have HY := B.2.2.2.2.2.1
  have HD := B.2.2.2.2.2.2.1
  have HR := B.2.2.2.2.2.2.2.1
  have HS := B.2.2.2.2.2.2.2.2.1
  have HW := B.2.2.2.2.2.2.2.2.2.1
  have HG := B.2.2.2.2.2.2.2.2.2.2
  obtain ⟨q4, ⟨L, hL, eL⟩, ⟨q, hq60, eq⟩, hRI, hSP⟩ := id Lq
  have l25 := Lm.1
  have ok25 := Lm.2.1
  have him := Lm.2.2
  refine C_rest (N := N) (tx := tx) (lk := lk) (mv := mv) (fr := fr) (c := c) (d := d + 788) HO HS (sp_si hSP) ?_
  refine hq _ _ ⟨⟨_, HM.1⟩, fun d rc rs Q hk => ?_⟩
  refine M_rest (fr := fr) (c := c) (d := d + 88) HM (sp_smi hSP) ?_
  rw [← re_eq hSP]
  exact hk _ H0
theorem st_taken {X : List Int32} {d rc rs n T : Nat} {Q : am_Q} {h : am_H} (H : LI T h) (hq : ∀ v h9, MD X mX8_taken [some (.ref 69), none, none] T n h9 v → Q (some (.int v)) n h9) : AW X mX7_taken (d + 800) rc rs 0 [some (.ref 0)] [] n h Q := by
  have H0 := H
  refine li_el H (fun o a N tx lk mv NI txI lkI mvI r cd kd pr nu ss zs tb fr c B hT R C Lm Lq => ?_)
  have E : LE o a (o 3) (o 35) (o 9) (a 75) (a 83) (a 84) (a 85) (a 86) (a 89) (a 91) := le_rf
  have HM := B.1
  have HO := B.2.1
  have HF := B.2.2.1
  have HT := B.2.2.2.1
  have HI := B.2.2.2.2.1
  have HY := B.2.2.2.2.2.1
  have HD := B.2.2.2.2.2.2.1
  have HR := B.2.2.2.2.2.2.2.1
  have HS := B.2.2.2.2.2.2.2.2.1
  have HW := B.2.2.2.2.2.2.2.2.2.1
  have HG := B.2.2.2.2.2.2.2.2.2.2
  obtain ⟨q4, ⟨L, hL, eL⟩, ⟨q, hq60, eq⟩, hRI, hSP⟩ := id Lq
  have l25 := Lm.1
  have ok25 := Lm.2.1
  have him := Lm.2.2
  refine C_taken (d := d + 780) HO HF HY R (fun v1 h1 ev Y1 e1 => ?_)
  have B1 := bb_y B Y1 e1
  refine hq _ _ ⟨⟨_, B1.1.1⟩, fun d rc rs Q hk => ?_⟩
  refine M_taken (d := d + 87) B1.1 R q4 (fun v2 o2 a2 h2 ev2 M2 k1 k2 e2 => ?_)
  obtain rfl : v1 = v2 := ev.trans ev2.symm
  exact hk _ (li_sc (bb_m B1 M2 e2) (sc_t k1 k2) E hT R C Lm Lq)
theorem st_terms {X : List Int32} {d rc rs n T : Nat} {Q : am_Q} {h : am_H} {x1 : Int32} (H : LI T h) (hq : ∀ v h9, MD X mX8_terms [some (.ref 69), some (.int x1), none, none, none, none] T n h9 v → Q (some (.int v)) n h9) : AW X mX7_terms (d + 800) rc rs 0 [some (.ref 0), some (.int x1)] [] n h Q := by
  have H0 := H
  refine li_el H (fun o a N tx lk mv NI txI lkI mvI r cd kd pr nu ss zs tb fr c B hT R C Lm Lq => ?_)
  have E : LE o a (o 3) (o 35) (o 9) (a 75) (a 83) (a 84) (a 85) (a 86) (a 89) (a 91) := le_rf
  have HM := B.1
  have HO := B.2.1
  have HF := B.2.2.1
  have HT := B.2.2.2.1
  have HI := B.2.2.2.2.1
  have HY := B.2.2.2.2.2.1
  have HD := B.2.2.2.2.2.2.1
  have HR := B.2.2.2.2.2.2.2.1
  have HS := B.2.2.2.2.2.2.2.2.1
  have HW := B.2.2.2.2.2.2.2.2.2.1
  have HG := B.2.2.2.2.2.2.2.2.2.2
  obtain ⟨q4, ⟨L, hL, eL⟩, ⟨q, hq60, eq⟩, hRI, hSP⟩ := id Lq
  have l25 := Lm.1
  have ok25 := Lm.2.1
  have him := Lm.2.2
  refine C_terms (d := d + 780) HO HF HY R (fun v1 h1 ev Y1 e1 => ?_)
  have B1 := bb_y B Y1 e1
  refine hq _ _ ⟨⟨_, B1.1.1⟩, fun d rc rs Q hk => ?_⟩
  refine M_terms (d := d + 87) B1.1 R q4 (fun v2 o2 a2 h2 ev2 M2 k1 k2 e2 => ?_)
  obtain rfl : v1 = v2 := ev.trans ev2.symm
  exact hk _ (li_sc (bb_m B1 M2 e2) (sc_t k1 k2) E hT R C Lm Lq)
theorem st_behind {X : List Int32} {d rc rs n T : Nat} {Q : am_Q} {h : am_H} {x1 x2 : Int32} (H : LI T h) (hq : ∀ v h9, MD X mX8_behind [some (.ref 69), some (.int x1), some (.int x2), none] T n h9 v → Q (some (.int v)) n h9) : AW X mX7_behind (d + 800) rc rs 0 [some (.ref 0), some (.int x1), some (.int x2)] [] n h Q := by
  have H0 := H
  refine li_el H (fun o a N tx lk mv NI txI lkI mvI r cd kd pr nu ss zs tb fr c B hT R C Lm Lq => ?_)
  have E : LE o a (o 3) (o 35) (o 9) (a 75) (a 83) (a 84) (a 85) (a 86) (a 89) (a 91) := le_rf
  have HM := B.1
  have HO := B.2.1
  have HF := B.2.2.1
  have HT := B.2.2.2.1
  have HI := B.2.2.2.2.1
  have HY := B.2.2.2.2.2.1
  have HD := B.2.2.2.2.2.2.1
  have HR := B.2.2.2.2.2.2.2.1
  have HS := B.2.2.2.2.2.2.2.2.1
  have HW := B.2.2.2.2.2.2.2.2.2.1
  have HG := B.2.2.2.2.2.2.2.2.2.2
  obtain ⟨q4, ⟨L, hL, eL⟩, ⟨q, hq60, eq⟩, hRI, hSP⟩ := id Lq
  have l25 := Lm.1
  have ok25 := Lm.2.1
  have him := Lm.2.2
  refine C_behind (d := d + 760) HO HF HT HG R C (fun v1 h1 ev T1 G1 e1 => ?_)
  subst ev
  have B1 := bb_h B T1 G1 e1
  refine hq _ _ ⟨⟨_, B1.1.1⟩, fun d rc rs Q hk => ?_⟩
  refine M_behind (d := d + 60) B1.1 R C q4 (fun v2 o2 a2 h2 ev2 M2 k1 k2 e2 => ?_)
  subst ev2
  exact hk _ (li_sc (bb_m B1 M2 e2) (sc_t k1 k2) E hT R C Lm Lq)
theorem st_ends {X : List Int32} {d rc rs n T : Nat} {Q : am_Q} {h : am_H} {x1 : Int32} (H : LI T h) (hq : ∀ v h9, MD X mX8_ends [some (.ref 69), some (.int x1), none, none] T n h9 v → Q (some (.int v)) n h9) : AW X mX7_ends (d + 800) rc rs 0 [some (.ref 0), some (.int x1), none] [] n h Q := by
  have H0 := H
  refine li_el H (fun o a N tx lk mv NI txI lkI mvI r cd kd pr nu ss zs tb fr c B hT R C Lm Lq => ?_)
  have E : LE o a (o 3) (o 35) (o 9) (a 75) (a 83) (a 84) (a 85) (a 86) (a 89) (a 91) := le_rf
  have HM := B.1
  have HO := B.2.1
  have HF := B.2.2.1
  have HT := B.2.2.2.1
  have HI := B.2.2.2.2.1
  have HY := B.2.2.2.2.2.1
  have HD := B.2.2.2.2.2.2.1
  have HR := B.2.2.2.2.2.2.2.1
  have HS := B.2.2.2.2.2.2.2.2.1
  have HW := B.2.2.2.2.2.2.2.2.2.1
  have HG := B.2.2.2.2.2.2.2.2.2.2
  obtain ⟨q4, ⟨L, hL, eL⟩, ⟨q, hq60, eq⟩, hRI, hSP⟩ := id Lq
  have l25 := Lm.1
  have ok25 := Lm.2.1
  have him := Lm.2.2
  refine C_ends (d := d + 760) HO HF HT HG R C (fun v1 h1 ev T1 G1 e1 => ?_)
  subst ev
  have B1 := bb_h B T1 G1 e1
  refine hq _ _ ⟨⟨_, B1.1.1⟩, fun d rc rs Q hk => ?_⟩
  refine M_ends (d := d + 60) B1.1 R C q4 (fun v2 o2 a2 h2 ev2 M2 k1 k2 e2 => ?_)
  subst ev2
  exact hk _ (li_sc (bb_m B1 M2 e2) (sc_t k1 k2) E hT R C Lm Lq)
theorem st_held {X : List Int32} {d rc rs n T : Nat} {Q : am_Q} {h : am_H} {x1 : Int32} (H : LI T h) (hq : ∀ v h9, MD X mX8_held [some (.ref 69), some (.int x1), none, none, none] T n h9 v → Q (some (.int v)) n h9) : AW X mX7_held (d + 800) rc rs 0 [some (.ref 0), some (.int x1), none, none] [] n h Q := by
  have H0 := H
  refine li_el H (fun o a N tx lk mv NI txI lkI mvI r cd kd pr nu ss zs tb fr c B hT R C Lm Lq => ?_)
  have E : LE o a (o 3) (o 35) (o 9) (a 75) (a 83) (a 84) (a 85) (a 86) (a 89) (a 91) := le_rf
  have HM := B.1
  have HO := B.2.1
  have HF := B.2.2.1
  have HT := B.2.2.2.1
  have HI := B.2.2.2.2.1
  have HY := B.2.2.2.2.2.1
  have HD := B.2.2.2.2.2.2.1
  have HR := B.2.2.2.2.2.2.2.1
  have HS := B.2.2.2.2.2.2.2.2.1
  have HW := B.2.2.2.2.2.2.2.2.2.1
  have HG := B.2.2.2.2.2.2.2.2.2.2
  obtain ⟨q4, ⟨L, hL, eL⟩, ⟨q, hq60, eq⟩, hRI, hSP⟩ := id Lq
  have l25 := Lm.1
  have ok25 := Lm.2.1
  have him := Lm.2.2
  refine C_held (d := d + 760) HO HF HT HG R C (fun v1 h1 ev T1 G1 e1 => ?_)
  subst ev
  have B1 := bb_h B T1 G1 e1
  refine hq _ _ ⟨⟨_, B1.1.1⟩, fun d rc rs Q hk => ?_⟩
  refine M_held (d := d + 60) B1.1 R C q4 (fun v2 o2 a2 h2 ev2 M2 k1 k2 e2 => ?_)
  subst ev2
  exact hk _ (li_sc (bb_m B1 M2 e2) (sc_t k1 k2) E hT R C Lm Lq)
theorem st_cool {X : List Int32} {d rc rs n T : Nat} {Q : am_Q} {h : am_H} {x1 : Int32} (H : LI T h) (hq : ∀ v h9, MD X mX8_cool [some (.ref 69), some (.int x1), none, none] T n h9 v → Q (some (.int v)) n h9) : AW X mX7_cool (d + 800) rc rs 0 [some (.ref 0), some (.int x1), none] [] n h Q := by
  have H0 := H
  refine li_el H (fun o a N tx lk mv NI txI lkI mvI r cd kd pr nu ss zs tb fr c B hT R C Lm Lq => ?_)
  have E : LE o a (o 3) (o 35) (o 9) (a 75) (a 83) (a 84) (a 85) (a 86) (a 89) (a 91) := le_rf
  have HM := B.1
  have HO := B.2.1
  have HF := B.2.2.1
  have HT := B.2.2.2.1
  have HI := B.2.2.2.2.1
  have HY := B.2.2.2.2.2.1
  have HD := B.2.2.2.2.2.2.1
  have HR := B.2.2.2.2.2.2.2.1
  have HS := B.2.2.2.2.2.2.2.2.1
  have HW := B.2.2.2.2.2.2.2.2.2.1
  have HG := B.2.2.2.2.2.2.2.2.2.2
  obtain ⟨q4, ⟨L, hL, eL⟩, ⟨q, hq60, eq⟩, hRI, hSP⟩ := id Lq
  have l25 := Lm.1
  have ok25 := Lm.2.1
  have him := Lm.2.2
  refine C_cool (d := d + 760) HO HF HT HG R C (fun v1 h1 ev T1 G1 e1 => ?_)
  subst ev
  have B1 := bb_h B T1 G1 e1
  refine hq _ _ ⟨⟨_, B1.1.1⟩, fun d rc rs Q hk => ?_⟩
  refine M_cool (d := d + 60) B1.1 R C q4 (fun v2 o2 a2 h2 ev2 M2 k1 k2 e2 => ?_)
  subst ev2
  exact hk _ (li_sc (bb_m B1 M2 e2) (sc_t k1 k2) E hT R C Lm Lq)
theorem st_bought {X : List Int32} {d rc rs n T : Nat} {Q : am_Q} {h : am_H} {x1 x2 : Int32} (H : LI T h) (hq : ∀ v h9, MD X mX8_bought [some (.ref 69), some (.int x1), some (.int x2), none, none, none, none] T n h9 v → Q (some (.int v)) n h9) : AW X mX7_bought (d + 800) rc rs 0 [some (.ref 0), some (.int x1), some (.int x2), none, none, none, none] [] n h Q := by
  have H0 := H
  refine li_el H (fun o a N tx lk mv NI txI lkI mvI r cd kd pr nu ss zs tb fr c B hT R C Lm Lq => ?_)
  have E : LE o a (o 3) (o 35) (o 9) (a 75) (a 83) (a 84) (a 85) (a 86) (a 89) (a 91) := le_rf
  have HM := B.1
  have HO := B.2.1
  have HF := B.2.2.1
  have HT := B.2.2.2.1
  have HI := B.2.2.2.2.1
  have HY := B.2.2.2.2.2.1
  have HD := B.2.2.2.2.2.2.1
  have HR := B.2.2.2.2.2.2.2.1
  have HS := B.2.2.2.2.2.2.2.2.1
  have HW := B.2.2.2.2.2.2.2.2.2.1
  have HG := B.2.2.2.2.2.2.2.2.2.2
  obtain ⟨q4, ⟨L, hL, eL⟩, ⟨q, hq60, eq⟩, hRI, hSP⟩ := id Lq
  have l25 := Lm.1
  have ok25 := Lm.2.1
  have him := Lm.2.2
  refine C_bought (d := d + 760) HO HF HT HG R C (fun v1 h1 ev T1 G1 e1 => ?_)
  subst ev
  have B1 := bb_h B T1 G1 e1
  refine hq _ _ ⟨⟨_, B1.1.1⟩, fun d rc rs Q hk => ?_⟩
  refine M_bought (d := d + 60) B1.1 R C q4 (fun v2 o2 a2 h2 ev2 M2 k1 k2 e2 => ?_)
  subst ev2
  exact hk _ (li_sc (bb_m B1 M2 e2) (sc_t k1 k2) E hT R C Lm Lq)
theorem st_reads {X : List Int32} {d rc rs n T : Nat} {Q : am_Q} {h : am_H} {x1 : Int32} (H : LI T h) (hq : ∀ v h9, MD X mX8_reads [some (.ref 69), some (.int x1), none] T n h9 v → Q (some (.int v)) n h9) : AW X mX7_reads (d + 800) rc rs 0 [some (.ref 0), some (.int x1), none, none] [] n h Q := by
  have H0 := H
  refine li_el H (fun o a N tx lk mv NI txI lkI mvI r cd kd pr nu ss zs tb fr c B hT R C Lm Lq => ?_)
  have E : LE o a (o 3) (o 35) (o 9) (a 75) (a 83) (a 84) (a 85) (a 86) (a 89) (a 91) := le_rf
  have HM := B.1
  have HO := B.2.1
  have HF := B.2.2.1
  have HT := B.2.2.2.1
  have HI := B.2.2.2.2.1
  have HY := B.2.2.2.2.2.1
  have HD := B.2.2.2.2.2.2.1
  have HR := B.2.2.2.2.2.2.2.1
  have HS := B.2.2.2.2.2.2.2.2.1
  have HW := B.2.2.2.2.2.2.2.2.2.1
  have HG := B.2.2.2.2.2.2.2.2.2.2
  obtain ⟨q4, ⟨L, hL, eL⟩, ⟨q, hq60, eq⟩, hRI, hSP⟩ := id Lq
  have l25 := Lm.1
  have ok25 := Lm.2.1
  have him := Lm.2.2
  refine C_reads (d := d + 760) HR hRI HO HF HT HG R C (fun v1 h1 ev T1 G1 e1 => ?_)
  subst ev
  have B1 := bb_h B T1 G1 e1
  refine hq _ _ ⟨⟨_, B1.1.1⟩, fun d rc rs Q hk => ?_⟩
  refine M_reads (d := d + 60) B1.1 R C q4 hRI (fun v2 o2 a2 h2 ev2 M2 k1 k2 e2 => ?_)
  subst ev2
  exact hk _ (li_sc (bb_m B1 M2 e2) (sc_t k1 k2) E hT R C Lm Lq)
theorem st_cared {X : List Int32} {d rc rs n T : Nat} {Q : am_Q} {h : am_H} {x1 x2 x3 : Int32} (H : LI T h) (hq : ∀ v h9, (∃ fs, h9 69 = some (.inr (8, fs))) ∧ (∀ (d rc rs : Nat) (Q : am_Q), (∀ v h2, LI T h2 → Q (some (.int v)) n h2) → AW X mX8_cared (d + 100) rc rs 0 [some (.ref 69), some (.int x1), some (.int x2), some (.int x3), none, none, none, none, none, none] [] n h9 Q) → Q (some (.int v)) n h9) : AW X mX7_cared (d + 800) rc rs 0 [some (.ref 0), some (.int x1), some (.int x2), some (.int x3), none, none, none, none, none] [] n h Q := by
  have H0 := H
  refine li_el H (fun o a N tx lk mv NI txI lkI mvI r cd kd pr nu ss zs tb fr c B hT R C Lm Lq => ?_)
  have E : LE o a (o 3) (o 35) (o 9) (a 75) (a 83) (a 84) (a 85) (a 86) (a 89) (a 91) := le_rf
  have HM := B.1
  have HO := B.2.1
  have HF := B.2.2.1
  have HT := B.2.2.2.1
  have HI := B.2.2.2.2.1
  have HY := B.2.2.2.2.2.1
  have HD := B.2.2.2.2.2.2.1
  have HR := B.2.2.2.2.2.2.2.1
  have HS := B.2.2.2.2.2.2.2.2.1
  have HW := B.2.2.2.2.2.2.2.2.2.1
  have HG := B.2.2.2.2.2.2.2.2.2.2
  obtain ⟨q4, ⟨L, hL, eL⟩, ⟨q, hq60, eq⟩, hRI, hSP⟩ := id Lq
  have l25 := Lm.1
  have ok25 := Lm.2.1
  have him := Lm.2.2
  refine C_cared (d := d + 760) HR hRI HO HF HT HG R C (fun v1 h1 T1 G1 e1 => ?_)
  have B1 := bb_h B T1 G1 e1
  refine hq _ _ ⟨⟨_, B1.1.1⟩, fun d rc rs Q hk => ?_⟩
  refine M_cared (d := d + 59) B1.1 R C q4 hRI (fun v2 o2 a2 h2 M2 k1 k2 e2 => ?_)
  exact hk _ _ (li_sc (bb_m B1 M2 e2) (sc_t k1 k2) E hT R C Lm Lq)
theorem st_fee {X : List Int32} {d rc rs n T : Nat} {Q : am_Q} {h : am_H} (H : LI T h) (hq : ∀ v h9, MD X mX8_fee [some (.ref 69), none] T n h9 v → Q (some (.int v)) n h9) : AW X mX7_fee (d + 800) rc rs 0 [some (.ref 0), none] [] n h Q := by
  have H0 := H
  refine li_el H (fun o a N tx lk mv NI txI lkI mvI r cd kd pr nu ss zs tb fr c B hT R C Lm Lq => ?_)
  have E : LE o a (o 3) (o 35) (o 9) (a 75) (a 83) (a 84) (a 85) (a 86) (a 89) (a 91) := le_rf
  have HM := B.1
  have HO := B.2.1
  have HF := B.2.2.1
  have HT := B.2.2.2.1
  have HI := B.2.2.2.2.1
  have HY := B.2.2.2.2.2.1
  have HD := B.2.2.2.2.2.2.1
  have HR := B.2.2.2.2.2.2.2.1
  have HS := B.2.2.2.2.2.2.2.2.1
  have HW := B.2.2.2.2.2.2.2.2.2.1
  have HG := B.2.2.2.2.2.2.2.2.2.2
  obtain ⟨q4, ⟨L, hL, eL⟩, ⟨q, hq60, eq⟩, hRI, hSP⟩ := id Lq
  have l25 := Lm.1
  have ok25 := Lm.2.1
  have him := Lm.2.2
  refine C_fee (d := d + 788) HO HF HG R C.1 (fun v1 h1 hv F1 G1 e1 => ?_)
  obtain rfl := tv_c (k := 1) C (by decide) (by decide) hv
  have B1 := bb_t B G1 e1
  refine hq _ _ ⟨⟨_, B1.1.1⟩, fun d rc rs Q hk => ?_⟩
  refine M_fee (d := d + 88) B1.1 R (tc_txm C) (fun v2 a2 h2 hv2 M2 k2 e2 => ?_)
  obtain rfl := tv_m (k := 1) C (by decide) (by decide) hv2
  exact hk _ (li_sc (bb_m B1 M2 e2) (sc_k k2) E hT R C Lm Lq)
theorem st_fine {X : List Int32} {d rc rs n T : Nat} {Q : am_Q} {h : am_H} {x1 : Int32} (H : LI T h) (hq : ∀ v h9, MD X mX8_fine [some (.ref 69), some (.int x1), none] T n h9 v → Q (some (.int v)) n h9) : AW X mX7_fine (d + 800) rc rs 0 [some (.ref 0), some (.int x1), none, none] [] n h Q := by
  have H0 := H
  refine li_el H (fun o a N tx lk mv NI txI lkI mvI r cd kd pr nu ss zs tb fr c B hT R C Lm Lq => ?_)
  have E : LE o a (o 3) (o 35) (o 9) (a 75) (a 83) (a 84) (a 85) (a 86) (a 89) (a 91) := le_rf
  have HM := B.1
  have HO := B.2.1
  have HF := B.2.2.1
  have HT := B.2.2.2.1
  have HI := B.2.2.2.2.1
  have HY := B.2.2.2.2.2.1
  have HD := B.2.2.2.2.2.2.1
  have HR := B.2.2.2.2.2.2.2.1
  have HS := B.2.2.2.2.2.2.2.2.1
  have HW := B.2.2.2.2.2.2.2.2.2.1
  have HG := B.2.2.2.2.2.2.2.2.2.2
  obtain ⟨q4, ⟨L, hL, eL⟩, ⟨q, hq60, eq⟩, hRI, hSP⟩ := id Lq
  have l25 := Lm.1
  have ok25 := Lm.2.1
  have him := Lm.2.2
  refine C_fine (d := d + 788) HO HF HG R C.1 (fun z => ?_) (fun j z ej hj v1 h1 hv F1 G1 e1 => ?_)
  · refine hq _ _ ⟨⟨_, HM.1⟩, fun d rc rs Q hk => ?_⟩
    exact M_fine (d := d + 88) HM R (tc_txm C) (fun _ => hk _ H0) (fun j z2 => absurd z2 z)
  · obtain rfl := tv_c (k := 2) C (by decide) (by decide) hv
    have B1 := bb_t B G1 e1
    refine hq _ _ ⟨⟨_, B1.1.1⟩, fun d rc rs Q hk => ?_⟩
    refine M_fine (d := d + 88) B1.1 R (tc_txm C) (fun z2 => absurd z z2) (fun j2 z2 ej2 hj2 v2 a2 h2 hv2 M2 k2 e2 => ?_)
    obtain rfl : j = j2 := nIi (by omega) (by omega) (ej.symm.trans ej2)
    obtain rfl := tv_m (k := 2) C (by decide) (by decide) hv2
    exact hk _ (li_sc (bb_m B1 M2 e2) (sc_k k2) E hT R C Lm Lq)
theorem st_posts {X : List Int32} {d rc rs n T : Nat} {Q : am_Q} {h : am_H} {x1 : Int32} (H : LI T h) (hq : ∀ v h9, MD X mX8_posts [some (.ref 69), some (.int x1), none] T n h9 v → Q (some (.int v)) n h9) : AW X mX7_posts (d + 800) rc rs 0 [some (.ref 0), some (.int x1)] [] n h Q := by
  have H0 := H
  refine li_el H (fun o a N tx lk mv NI txI lkI mvI r cd kd pr nu ss zs tb fr c B hT R C Lm Lq => ?_)
  have E : LE o a (o 3) (o 35) (o 9) (a 75) (a 83) (a 84) (a 85) (a 86) (a 89) (a 91) := le_rf
  have HM := B.1
  have HO := B.2.1
  have HF := B.2.2.1
  have HT := B.2.2.2.1
  have HI := B.2.2.2.2.1
  have HY := B.2.2.2.2.2.1
  have HD := B.2.2.2.2.2.2.1
  have HR := B.2.2.2.2.2.2.2.1
  have HS := B.2.2.2.2.2.2.2.2.1
  have HW := B.2.2.2.2.2.2.2.2.2.1
  have HG := B.2.2.2.2.2.2.2.2.2.2
  obtain ⟨q4, ⟨L, hL, eL⟩, ⟨q, hq60, eq⟩, hRI, hSP⟩ := id Lq
  have l25 := Lm.1
  have ok25 := Lm.2.1
  have him := Lm.2.2
  refine C_posts (d := d + 770) HO HF HG R C.1 (fun z => ?_) (fun vn pp z hvn hpp ev ep N1 s1 mv1 h1 hr F1 G1 e1 => ?_)
  · refine hq _ _ ⟨⟨_, HM.1⟩, fun d rc rs Q hk => ?_⟩
    exact M_posts (d := d + 70) HM R (tc_txm C) (fun _ => hk _ H0) (fun vn pp z2 => absurd z2 z)
  · obtain ⟨eN, es⟩ := po_eq C R hr
    rw [eN] at F1
    subst es
    have B1 := bb_p B F1 G1 e1
    refine hq _ _ ⟨⟨_, B1.1.1⟩, fun d rc rs Q hk => ?_⟩
    refine M_posts (d := d + 70) B1.1 R (tc_txm C) (fun z2 => absurd z z2) (fun vn2 pp2 z2 hvn2 hpp2 ev2 ep2 o2 N2 a2 h2 hg M2 k1 k2 e2 => ?_)
    obtain rfl : vn = vn2 := nIi (by omega) (by omega) (ev.symm.trans ev2)
    obtain rfl : pp = pp2 := nIi (by omega) (by omega) (ep.symm.trans ep2)
    rw [q4] at hg
    obtain rfl := go_m _ N N2 C (rg_rk R) hg
    exact hk _ (li_sc (bb_m B1 M2 e2) (sc_3 k1 k2) E hT (rg_go R ep (by omega)) (kpt_tc (kpt_go R.2.1) C) Lm Lq)
theorem st_deal {X : List Int32} {d rc rs n T : Nat} {Q : am_Q} {h : am_H} {x1 : Int32} (H : LI T h) (hq : ∀ v h9, MD X mX8_deal [some (.ref 69), some (.int x1), none, none, none, none] T n h9 v → Q (some (.int v)) n h9) : AW X mX7_deal (d + 800) rc rs 0 [some (.ref 0), some (.int x1), none, none, none, none, none] [] n h Q := by
  have H0 := H
  refine li_el H (fun o a N tx lk mv NI txI lkI mvI r cd kd pr nu ss zs tb fr c B hT R C Lm Lq => ?_)
  have E : LE o a (o 3) (o 35) (o 9) (a 75) (a 83) (a 84) (a 85) (a 86) (a 89) (a 91) := le_rf
  have HM := B.1
  have HO := B.2.1
  have HF := B.2.2.1
  have HT := B.2.2.2.1
  have HI := B.2.2.2.2.1
  have HY := B.2.2.2.2.2.1
  have HD := B.2.2.2.2.2.2.1
  have HR := B.2.2.2.2.2.2.2.1
  have HS := B.2.2.2.2.2.2.2.2.1
  have HW := B.2.2.2.2.2.2.2.2.2.1
  have HG := B.2.2.2.2.2.2.2.2.2.2
  obtain ⟨q4, ⟨L, hL, eL⟩, ⟨q, hq60, eq⟩, hRI, hSP⟩ := id Lq
  have l25 := Lm.1
  have ok25 := Lm.2.1
  have him := Lm.2.2
  refine C_deal (d := d + 788) HO HF R (fun z => ?_) (fun vn z hvn ev h1 F1 e1 => ?_)
  · refine hq _ _ ⟨⟨_, HM.1⟩, fun d rc rs Q hk => ?_⟩
    exact M_deal (d := d + 88) HM R (fun _ => hk _ H0) (fun vn z2 => absurd z2 z)
  · have B1 := bb_q B F1 e1
    refine hq _ _ ⟨⟨_, B1.1.1⟩, fun d rc rs Q hk => ?_⟩
    refine M_deal (d := d + 88) B1.1 R (fun z2 => absurd z z2) (fun vn2 z2 hvn2 ev2 h2 M2 e2 => ?_)
    obtain rfl : vn = vn2 := nIi (by omega) (by omega) (ev.symm.trans ev2)
    have h8 := R.2.1
    exact hk _ (li_sc (bb_m B1 M2 e2) sc_0 E hT (rg_dl _ _ _ (by omega) R) (kpt_tc (kpt_dl _ _ _ (by omega) kpt0) C) Lm Lq)
theorem st_pour {X : List Int32} {d rc rs n T : Nat} {Q : am_Q} {h : am_H} {x1 : Int32} (H : LI T h) (hq : ∀ v h9, MD X mX8_pour [some (.ref 69), some (.int x1), none, none, none, none] T n h9 v → Q (some (.int v)) n h9) : AW X mX7_pour (d + 800) rc rs 0 [some (.ref 0), some (.int x1), none, none, none, none] [] n h Q := by
  have H0 := H
  refine li_el H (fun o a N tx lk mv NI txI lkI mvI r cd kd pr nu ss zs tb fr c B hT R C Lm Lq => ?_)
  have E : LE o a (o 3) (o 35) (o 9) (a 75) (a 83) (a 84) (a 85) (a 86) (a 89) (a 91) := le_rf
  have HM := B.1
  have HO := B.2.1
  have HF := B.2.2.1
  have HT := B.2.2.2.1
  have HI := B.2.2.2.2.1
  have HY := B.2.2.2.2.2.1
  have HD := B.2.2.2.2.2.2.1
  have HR := B.2.2.2.2.2.2.2.1
  have HS := B.2.2.2.2.2.2.2.2.1
  have HW := B.2.2.2.2.2.2.2.2.2.1
  have HG := B.2.2.2.2.2.2.2.2.2.2
  obtain ⟨q4, ⟨L, hL, eL⟩, ⟨q, hq60, eq⟩, hRI, hSP⟩ := id Lq
  have l25 := Lm.1
  have ok25 := Lm.2.1
  have him := Lm.2.2
  refine C_pour (fr := fr) (c := c) (d := d + 788) HO HF HR hRI (fun v1 N1 h1 ev eN F1 e1 => ?_)
  subst ev; subst eN
  have B1 := bb_q B F1 e1
  refine hq _ _ ⟨⟨_, B1.1.1⟩, fun d rc rs Q hk => ?_⟩
  refine M_pour (fr := fr) (c := c) (d := d + 88) B1.1 hRI (fun v2 N2 h2 ev2 eN2 M2 e2 => ?_)
  subst ev2; subst eN2
  exact hk _ (li_sc (bb_m B1 M2 e2) sc_0 E hT (pa_all R).1 (kpt_tc (pa_all R).2 C) Lm Lq)
theorem st_feed {X : List Int32} {d rc rs n T : Nat} {Q : am_Q} {h : am_H} {x1 x2 x3 : Int32} (H : LI T h) (hq : ∀ v h9, MD X mX8_feed [some (.ref 69), some (.int x1), some (.int x2), some (.int x3), none, none] T n h9 v → Q (some (.int v)) n h9) : AW X mX7_feed (d + 800) rc rs 0 [some (.ref 0), some (.int x1), some (.int x2), some (.int x3)] [] n h Q := by
  have H0 := H
  refine li_el H (fun o a N tx lk mv NI txI lkI mvI r cd kd pr nu ss zs tb fr c B hT R C Lm Lq => ?_)
  have E : LE o a (o 3) (o 35) (o 9) (a 75) (a 83) (a 84) (a 85) (a 86) (a 89) (a 91) := le_rf
  have HM := B.1
  have HO := B.2.1
  have HF := B.2.2.1
  have HT := B.2.2.2.1
  have HI := B.2.2.2.2.1
  have HY := B.2.2.2.2.2.1
  have HD := B.2.2.2.2.2.2.1
  have HR := B.2.2.2.2.2.2.2.1
  have HS := B.2.2.2.2.2.2.2.2.1
  have HW := B.2.2.2.2.2.2.2.2.2.1
  have HG := B.2.2.2.2.2.2.2.2.2.2
  obtain ⟨q4, ⟨L, hL, eL⟩, ⟨q, hq60, eq⟩, hRI, hSP⟩ := id Lq
  have l25 := Lm.1
  have ok25 := Lm.2.1
  have him := Lm.2.2
  rw [eL] at HD
  refine C_feed (d := d + 788) HO HD hL (fun z => ?_) (fun z h1 D1 e1 => ?_)
  · refine hq _ _ ⟨⟨_, HM.1⟩, fun d rc rs Q hk => ?_⟩
    exact M_feed (d := d + 88) HM eL hL (fun _ => hk _ H0) (fun z2 => absurd z2 (by omega))
  · have B1 := bb_d B D1 (fun k (z : k < 39 ∨ 43 ≤ k) => e1 k (show k < 40 ∨ 42 ≤ k by omega))
    refine hq _ _ ⟨⟨_, B1.1.1⟩, fun d rc rs Q hk => ?_⟩
    refine M_feed (d := d + 88) B1.1 eL hL (fun z2 => absurd z2 (by omega)) (fun z2 a2 h2 e75 ek M2 e2 => ?_)
    refine hk _ ⟨_, _, _, _, _, _, _, _, _, _, _, _, _, _, _, _, _, _, _, _, _, _, _, _, _, _, _, _, _, _, bb_m B1 M2 e2, ⟨pk_un (by omega), pk_un (by omega), pk_us, e75, ek 83 (by omega), ek 84 (by omega), ek 85 (by omega), ek 86 (by omega), ek 89 (by omega), ek 91 (by omega)⟩, hT, R, C, lm_sc Lm (ek 71 (by omega)), ?_⟩
    refine ⟨(pk_un (by omega)).trans q4, ⟨L + 12, by omega, rfl⟩, ⟨q, hq60, eq⟩, hRI, ?_⟩
    rw [ek 87 (by omega), ek 88 (by omega)]
    exact hSP
theorem st_trim {X : List Int32} {d rc rs n T : Nat} {Q : am_Q} {h : am_H} {x1 : Int32} (H : LI T h) (hq : ∀ v h9, MD X mX8_trim [some (.ref 69), some (.int x1)] T n h9 v → Q (some (.int v)) n h9) : AW X mX7_trim (d + 800) rc rs 0 [some (.ref 0), some (.int x1)] [] n h Q := by
  have H0 := H
  refine li_el H (fun o a N tx lk mv NI txI lkI mvI r cd kd pr nu ss zs tb fr c B hT R C Lm Lq => ?_)
  have E : LE o a (o 3) (o 35) (o 9) (a 75) (a 83) (a 84) (a 85) (a 86) (a 89) (a 91) := le_rf
  have HM := B.1
  have HO := B.2.1
  have HF := B.2.2.1
  have HT := B.2.2.2.1
  have HI := B.2.2.2.2.1
  have HY := B.2.2.2.2.2.1
  have HD := B.2.2.2.2.2.2.1
  have HR := B.2.2.2.2.2.2.2.1
  have HS := B.2.2.2.2.2.2.2.2.1
  have HW := B.2.2.2.2.2.2.2.2.2.1
  have HG := B.2.2.2.2.2.2.2.2.2.2
  obtain ⟨q4, ⟨L, hL, eL⟩, ⟨q, hq60, eq⟩, hRI, hSP⟩ := id Lq
  have l25 := Lm.1
  have ok25 := Lm.2.1
  have him := Lm.2.2
  refine C_trim (N := N) (tx := tx) (lk := lk) (mv := mv) (fr := fr) (c := c) (d := d + 788) HO HD (fun z => ?_) (fun z h1 D1 e1 => ?_)
  · refine hq _ _ ⟨⟨_, HM.1⟩, fun d rc rs Q hk => ?_⟩
    exact M_trim (fr := fr) (c := c) (d := d + 88) HM (fun _ => hk _ H0) (fun z2 => absurd z2 z)
  · have B1 := bb_d B D1 (fun k (z : k < 39 ∨ 43 ≤ k) => e1 k (show k ≠ 40 by omega))
    refine hq _ _ ⟨⟨_, B1.1.1⟩, fun d rc rs Q hk => ?_⟩
    refine M_trim (fr := fr) (c := c) (d := d + 88) B1.1 (fun z2 => absurd z z2) (fun z2 h2 M2 e2 => ?_)
    obtain ⟨t, ht, et⟩ := wi_up eL (by omega) z
    refine hk _ ⟨_, _, _, _, _, _, _, _, _, _, _, _, _, _, _, _, _, _, _, _, _, _, _, _, _, _, _, _, _, _, bb_m B1 M2 e2, ⟨pk_un (by omega), pk_un (by omega), pk_us, rfl, rfl, rfl, rfl, rfl, rfl, rfl⟩, hT, R, C, Lm, ?_⟩
    exact ⟨(pk_un (by omega)).trans q4, ⟨t, by omega, et⟩, ⟨q, hq60, eq⟩, hRI, hSP⟩
theorem st_sheet {X : List Int32} {d rc rs n T : Nat} {Q : am_Q} {h : am_H} {x1 x2 x3 : Int32} (H : LI T h) (hq : ∀ v h9, MD X mX8_sheet [some (.ref 69), some (.int x1), some (.int x2), some (.int x3), none] T n h9 v → Q (some (.int v)) n h9) : AW X mX7_sheet (d + 800) rc rs 0 [some (.ref 0), some (.int x1), some (.int x2), some (.int x3)] [] n h Q := by
  have H0 := H
  refine li_el H (fun o a N tx lk mv NI txI lkI mvI r cd kd pr nu ss zs tb fr c B hT R C Lm Lq => ?_)
  have E : LE o a (o 3) (o 35) (o 9) (a 75) (a 83) (a 84) (a 85) (a 86) (a 89) (a 91) := le_rf
  have HM := B.1
  have HO := B.2.1
  have HF := B.2.2.1
  have HT := B.2.2.2.1
  have HI := B.2.2.2.2.1
  have HY := B.2.2.2.2.2.1
  have HD := B.2.2.2.2.2.2.1
  have HR := B.2.2.2.2.2.2.2.1
  have HS := B.2.2.2.2.2.2.2.2.1
  have HW := B.2.2.2.2.2.2.2.2.2.1
  have HG := B.2.2.2.2.2.2.2.2.2.2
  obtain ⟨q4, ⟨L, hL, eL⟩, ⟨q, hq60, eq⟩, hRI, hSP⟩ := id Lq
  have l25 := Lm.1
  have ok25 := Lm.2.1
  have him := Lm.2.2
  refine C_sheet (N := N) (tx := tx) (lk := lk) (mv := mv) (fr := fr) (c := c) (d := d + 788) HO HR (fun v1 r1 z1 c1 h1 ev er ez ec R1 e1 => ?_)
  subst ev; subst er; subst ez; subst ec
  have B1 := bb_r B R1 e1
  refine hq _ _ ⟨⟨_, B1.1.1⟩, fun d rc rs Q hk => ?_⟩
  refine M_sheet (fr := fr) (c := c) (d := d + 88) B1.1 (fun v2 a2 h2 ev2 e83 e84 e85 ek M2 e2 => ?_)
  subst ev2
  refine hk _ ⟨_, _, _, _, _, _, _, _, _, _, _, _, _, _, _, _, _, _, _, _, _, _, _, _, _, _, _, _, _, _, bb_m B1 M2 e2, ⟨rfl, rfl, rfl, ek 75 (by omega) (by omega) (by omega), e83, e84, e85, ek 86 (by omega) (by omega) (by omega), ek 89 (by omega) (by omega) (by omega), ek 91 (by omega) (by omega) (by omega)⟩, hT, R, C, lm_sc Lm (ek 71 (by omega) (by omega) (by omega)), ?_⟩
  refine ⟨q4, ⟨L, hL, eL⟩, ⟨q, hq60, eq⟩, ri_sh hRI, ?_⟩
  rw [ek 87 (by omega) (by omega) (by omega), ek 88 (by omega) (by omega) (by omega)]
  exact hSP
theorem st_mark {X : List Int32} {d rc rs n T : Nat} {Q : am_Q} {h : am_H} {x1 x2 x3 : Int32} (H : LI T h) (hq : ∀ v h9, MD X mX8_mark [some (.ref 69), some (.int x1), some (.int x2), some (.int x3)] T n h9 v → Q (some (.int v)) n h9) : AW X mX7_mark (d + 800) rc rs 0 [some (.ref 0), some (.int x1), some (.int x2), some (.int x3), none] [] n h Q := by
  have H0 := H
  refine li_el H (fun o a N tx lk mv NI txI lkI mvI r cd kd pr nu ss zs tb fr c B hT R C Lm Lq => ?_)
  have E : LE o a (o 3) (o 35) (o 9) (a 75) (a 83) (a 84) (a 85) (a 86) (a 89) (a 91) := le_rf
  have HM := B.1
  have HO := B.2.1
  have HF := B.2.2.1
  have HT := B.2.2.2.1
  have HI := B.2.2.2.2.1
  have HY := B.2.2.2.2.2.1
  have HD := B.2.2.2.2.2.2.1
  have HR := B.2.2.2.2.2.2.2.1
  have HS := B.2.2.2.2.2.2.2.2.1
  have HW := B.2.2.2.2.2.2.2.2.2.1
  have HG := B.2.2.2.2.2.2.2.2.2.2
  obtain ⟨q4, ⟨L, hL, eL⟩, ⟨q, hq60, eq⟩, hRI, hSP⟩ := id Lq
  have l25 := Lm.1
  have ok25 := Lm.2.1
  have him := Lm.2.2
  refine C_mark (N := N) (tx := tx) (lk := lk) (mv := mv) (fr := fr) (c := c) (d := d + 788) HO HR hRI (fun v1 c1 h1 ev ec R1 e1 => ?_)
  subst ev; subst ec
  have B1 := bb_r B R1 e1
  refine hq _ _ ⟨⟨_, B1.1.1⟩, fun d rc rs Q hk => ?_⟩
  refine M_mark (fr := fr) (c := c) (d := d + 88) B1.1 hRI (fun v2 a2 h2 ev2 e85 ek M2 e2 => ?_)
  subst ev2
  refine hk _ ⟨_, _, _, _, _, _, _, _, _, _, _, _, _, _, _, _, _, _, _, _, _, _, _, _, _, _, _, _, _, _, bb_m B1 M2 e2, ⟨rfl, rfl, rfl, ek 75 (by omega), ek 83 (by omega), ek 84 (by omega), e85, ek 86 (by omega), ek 89 (by omega), ek 91 (by omega)⟩, hT, R, C, lm_sc Lm (ek 71 (by omega)), ?_⟩
  refine ⟨q4, ⟨L, hL, eL⟩, ⟨q, hq60, eq⟩, hRI, ?_⟩
  rw [ek 87 (by omega), ek 88 (by omega)]
  exact hSP
theorem st_copy {X : List Int32} {d rc rs n T : Nat} {Q : am_Q} {h : am_H} {x1 x2 x3 x4 x5 : Int32} (H : LI T h) (hq : ∀ v h9, MD X mX8_copy [some (.ref 69), some (.int x1), some (.int x2), some (.int x3), some (.int x4), some (.int x5), none] T n h9 v → Q (some (.int v)) n h9) : AW X mX7_copy (d + 800) rc rs 0 [some (.ref 0), some (.int x1), some (.int x2), some (.int x3), some (.int x4), some (.int x5), none, none] [] n h Q := by
  have H0 := H
  refine li_el H (fun o a N tx lk mv NI txI lkI mvI r cd kd pr nu ss zs tb fr c B hT R C Lm Lq => ?_)
  have E : LE o a (o 3) (o 35) (o 9) (a 75) (a 83) (a 84) (a 85) (a 86) (a 89) (a 91) := le_rf
  have HM := B.1
  have HO := B.2.1
  have HF := B.2.2.1
  have HT := B.2.2.2.1
  have HI := B.2.2.2.2.1
  have HY := B.2.2.2.2.2.1
  have HD := B.2.2.2.2.2.2.1
  have HR := B.2.2.2.2.2.2.2.1
  have HS := B.2.2.2.2.2.2.2.2.1
  have HW := B.2.2.2.2.2.2.2.2.2.1
  have HG := B.2.2.2.2.2.2.2.2.2.2
  obtain ⟨q4, ⟨L, hL, eL⟩, ⟨q, hq60, eq⟩, hRI, hSP⟩ := id Lq
  have l25 := Lm.1
  have ok25 := Lm.2.1
  have him := Lm.2.2
  refine C_copy (N := N) (tx := tx) (lk := lk) (mv := mv) (fr := fr) (c := c) (d := d + 788) HO HR hRI (fun v1 c1 h1 ev ec R1 e1 => ?_)
  subst ev; subst ec
  have B1 := bb_r B R1 e1
  refine hq _ _ ⟨⟨_, B1.1.1⟩, fun d rc rs Q hk => ?_⟩
  refine M_copy (fr := fr) (c := c) (d := d + 88) B1.1 hRI (fun v2 a2 h2 ev2 e85 ek M2 e2 => ?_)
  subst ev2
  refine hk _ ⟨_, _, _, _, _, _, _, _, _, _, _, _, _, _, _, _, _, _, _, _, _, _, _, _, _, _, _, _, _, _, bb_m B1 M2 e2, ⟨rfl, rfl, rfl, ek 75 (by omega) (by omega), ek 83 (by omega) (by omega), ek 84 (by omega) (by omega), e85, ek 86 (by omega) (by omega), ek 89 (by omega) (by omega), ek 91 (by omega) (by omega)⟩, hT, R, C, lm_sc Lm (ek 71 (by omega) (by omega)), ?_⟩
  refine ⟨q4, ⟨L, hL, eL⟩, ⟨q, hq60, eq⟩, hRI, ?_⟩
  rw [ek 87 (by omega) (by omega), ek 88 (by omega) (by omega)]
  exact hSP
theorem st_lay {X : List Int32} {d rc rs n T : Nat} {Q : am_Q} {h : am_H} {x1 x2 x3 : Int32} (H : LI T h) (hq : ∀ v h9, MD X mX8_lay [some (.ref 69), some (.int x1), some (.int x2), some (.int x3), none, none] T n h9 v → Q (some (.int v)) n h9) : AW X mX7_lay (d + 800) rc rs 0 [some (.ref 0), some (.int x1), some (.int x2), some (.int x3), none, none] [] n h Q := by
  have H0 := H
  refine li_el H (fun o a N tx lk mv NI txI lkI mvI r cd kd pr nu ss zs tb fr c B hT R C Lm Lq => ?_)
  have E : LE o a (o 3) (o 35) (o 9) (a 75) (a 83) (a 84) (a 85) (a 86) (a 89) (a 91) := le_rf
  have HM := B.1
  have HO := B.2.1
  have HF := B.2.2.1
  have HT := B.2.2.2.1
  have HI := B.2.2.2.2.1
  have HY := B.2.2.2.2.2.1
  have HD := B.2.2.2.2.2.2.1
  have HR := B.2.2.2.2.2.2.2.1
  have HS := B.2.2.2.2.2.2.2.2.1
  have HW := B.2.2.2.2.2.2.2.2.2.1
  have HG := B.2.2.2.2.2.2.2.2.2.2
  obtain ⟨q4, ⟨L, hL, eL⟩, ⟨q, hq60, eq⟩, hRI, hSP⟩ := id Lq
  have l25 := Lm.1
  have ok25 := Lm.2.1
  have him := Lm.2.2
  refine C_lay (d := d + 788) HO HF HR HS R hRI (fun v1 th1 kd1 pr1 nu1 ss1 zs1 hc1 h1 ev eth ukd upr unu uss uzs ehc S1 e1 => ?_)
  subst ev; subst eth; subst ehc
  have B1 := bb_s B S1 e1
  refine hq _ _ ⟨⟨_, B1.1.1⟩, fun d rc rs Q hk => ?_⟩
  refine M_lay (d := d + 88) B1.1 R hRI (fun v2 a2 h2 ev2 e86 m87 m88 e89 ek M2 e2 => ?_)
  subst ev2
  refine hk _ ⟨_, _, _, _, _, _, _, _, _, _, _, _, _, _, _, _, _, _, _, _, _, _, _, _, _, _, _, _, _, _, bb_m B1 M2 e2, ⟨rfl, rfl, rfl, ek 75 (by omega) (by omega) (by omega) (by omega), ek 83 (by omega) (by omega) (by omega) (by omega), ek 84 (by omega) (by omega) (by omega) (by omega), ek 85 (by omega) (by omega) (by omega) (by omega), e86, e89, ek 91 (by omega) (by omega) (by omega) (by omega)⟩, hT, R, C, lm_sc Lm (ek 71 (by omega) (by omega) (by omega) (by omega)), ?_⟩
  exact ⟨q4, ⟨L, hL, eL⟩, ⟨q, hq60, eq⟩, hRI, sp_lay hSP R hRI ukd upr unu uzs m87 m88⟩
theorem st_tell {X : List Int32} {d rc rs n T : Nat} {Q : am_Q} {h : am_H} {x1 : Int32} (H : LI T h) (hq : ∀ v h9, MD X mX8_tell [some (.ref 69), some (.int x1)] T n h9 v → Q (some (.int v)) n h9) : AW X mX7_tell (d + 800) rc rs 0 [some (.ref 0), some (.int x1)] [] n h Q := by
  have H0 := H
  refine li_el H (fun o a N tx lk mv NI txI lkI mvI r cd kd pr nu ss zs tb fr c B hT R C Lm Lq => ?_)
  have E : LE o a (o 3) (o 35) (o 9) (a 75) (a 83) (a 84) (a 85) (a 86) (a 89) (a 91) := le_rf
  have HM := B.1
  have HO := B.2.1
  have HF := B.2.2.1
  have HT := B.2.2.2.1
  have HI := B.2.2.2.2.1
  have HY := B.2.2.2.2.2.1
  have HD := B.2.2.2.2.2.2.1
  have HR := B.2.2.2.2.2.2.2.1
  have HS := B.2.2.2.2.2.2.2.2.1
  have HW := B.2.2.2.2.2.2.2.2.2.1
  have HG := B.2.2.2.2.2.2.2.2.2.2
  obtain ⟨q4, ⟨L, hL, eL⟩, ⟨q, hq60, eq⟩, hRI, hSP⟩ := id Lq
  have l25 := Lm.1
  have ok25 := Lm.2.1
  have him := Lm.2.2
  refine C_tell (N := N) (tx := tx) (lk := lk) (mv := mv) (fr := fr) (c := c) (d := d + 788) HO HW eq hq60 (fun z => ?_) (fun z h1 O1 W1 e1 => ?_)
  · refine hq _ _ ⟨⟨_, HM.1⟩, fun d rc rs Q hk => ?_⟩
    exact M_tell (fr := fr) (c := c) (d := d + 88) HM eq hq60 (fun _ => hk _ H0) (fun z2 => absurd z2 (by omega))
  · have B1 := bb_w B O1 W1 e1
    refine hq _ _ ⟨⟨_, B1.1.1⟩, fun d rc rs Q hk => ?_⟩
    refine M_tell (fr := fr) (c := c) (d := d + 88) B1.1 eq hq60 (fun z2 => absurd z2 (by omega)) (fun z2 h2 M2 e2 => ?_)
    refine hk _ ⟨_, _, _, _, _, _, _, _, _, _, _, _, _, _, _, _, _, _, _, _, _, _, _, _, _, _, _, _, _, _, bb_m B1 M2 e2, ⟨pk_un (by omega), pk_us, pk_un (by omega), aup_n (by omega), aup_n (by omega), aup_n (by omega), aup_n (by omega), aup_n (by omega), aup_n (by omega), aup_s⟩, hT, R, C, lm_sc Lm (aup_n (by omega)), ?_⟩
    refine ⟨(pk_un (by omega)).trans q4, ⟨L, hL, eL⟩, ⟨q + 1, by omega, rfl⟩, hRI, ?_⟩
    rw [aup_n (by omega), aup_n (by omega)]
    exact hSP
theorem st_check {X : List Int32} {d rc rs n T : Nat} {Q : am_Q} {h : am_H} {x1 : Int32} (H : LI T h) (hq : ∀ v h9, MD X mX8_check [some (.ref 69), some (.int x1), none, none, none, none] T n h9 v → Q (some (.int v)) n h9) : AW X mX7_check (d + 800) rc rs 0 [some (.ref 0), some (.int x1), none, none, none, none] [] n h Q := by
  have H0 := H
  refine li_el H (fun o a N tx lk mv NI txI lkI mvI r cd kd pr nu ss zs tb fr c B hT R C Lm Lq => ?_)
  have E : LE o a (o 3) (o 35) (o 9) (a 75) (a 83) (a 84) (a 85) (a 86) (a 89) (a 91) := le_rf
  have HM := B.1
  have HO := B.2.1
  have HF := B.2.2.1
  have HT := B.2.2.2.1
  have HI := B.2.2.2.2.1
  have HY := B.2.2.2.2.2.1
  have HD := B.2.2.2.2.2.2.1
  have HR := B.2.2.2.2.2.2.2.1
  have HS := B.2.2.2.2.2.2.2.2.1
  have HW := B.2.2.2.2.2.2.2.2.2.1
  have HG := B.2.2.2.2.2.2.2.2.2.2
  obtain ⟨q4, ⟨L, hL, eL⟩, ⟨q, hq60, eq⟩, hRI, hSP⟩ := id Lq
  have l25 := Lm.1
  have ok25 := Lm.2.1
  have him := Lm.2.2
  rw [eq] at HO
  obtain ⟨frI, cJ, hIm⟩ : ∃ frI cJ, ¬ o 3 = 0 → NI = a 71 ∧ RG NI frI cJ ∧ TC tb txI lkI NI cJ := by
    by_cases z : o 3 = 0
    · exact ⟨0, 0, fun y => absurd z y⟩
    · obtain ⟨y1, f9, c9, y2, y3⟩ := him z
      exact ⟨f9, c9, fun _ => ⟨y1, y2, y3⟩⟩
  refine C_check (d := d + 760) HO HW HI HT HG hq60 (fun z => (hIm z).2) (fun v1 h1 ev O1 T1 G1 e1 => ?_)
  subst ev
  have B1 := bb_c B O1 T1 G1 e1
  refine hq _ _ ⟨⟨_, B1.1.1⟩, fun d rc rs Q hk => ?_⟩
  refine M_check (d := d + 59) (tb := tb) (tx := txI) (lk := lkI) B1.1 eq hq60 q4 (fun z => by
    obtain ⟨y1, y2⟩ := hIm z
    rw [← y1]
    exact y2) (fun v2 o2 a2 h2 ev2 M2 z35 ko ka e2 => ?_)
  have ev3 : ckV cJ frI q (a 91) NI (o 3) x1 = v2 := by
    rw [ev2]
    by_cases z : o 3 = 0
    · unfold ckV
      by_cases y : wi x1 1 30
      · rw [cI_t y, cI_t y, cI_t z, cI_t z]
      · rw [cI_f y, cI_f y]
    · rw [(hIm z).1]
  rw [← ev3]
  have sa : ∀ k, 83 ≤ k → a2 k = a k := fun k hk => ka k (by omega) (by omega) (by omega) (by omega)
  refine hk _ ⟨_, _, _, _, _, _, _, _, _, _, _, _, _, _, _, _, _, _, _, _, _, _, _, _, _, _, _, _, _, _, bb_m B1 M2 e2, ⟨ko 3 (by omega) (by omega), z35, ko 9 (by omega) (by omega), ka 75 (by omega) (by omega) (by omega) (by omega), sa 83 (by omega), sa 84 (by omega), sa 85 (by omega), sa 86 (by omega), sa 89 (by omega), sa 91 (by omega)⟩, hT, R, C, lm_sc Lm (ka 71 (by omega) (by omega) (by omega) (by omega)), ?_⟩
  refine ⟨(ko 4 (by omega) (by omega)).trans q4, ⟨L, hL, eL⟩, ⟨0, by omega, rfl⟩, hRI, ?_⟩
  rw [sa 87 (by omega), sa 88 (by omega)]
  exact hSP
theorem st_keep {X : List Int32} {d rc rs n T : Nat} {Q : am_Q} {h : am_H} (H : LI T h) (hq : ∀ v h9, MD X mX8_keep [some (.ref 69)] T n h9 v → Q (some (.int v)) n h9) : AW X mX7_keep (d + 800) rc rs 0 [some (.ref 0)] [] n h Q := by
  have H0 := H
  refine li_el H (fun o a N tx lk mv NI txI lkI mvI r cd kd pr nu ss zs tb fr c B hT R C Lm Lq => ?_)
  have E : LE o a (o 3) (o 35) (o 9) (a 75) (a 83) (a 84) (a 85) (a 86) (a 89) (a 91) := le_rf
  have HM := B.1
  have HO := B.2.1
  have HF := B.2.2.1
  have HT := B.2.2.2.1
  have HI := B.2.2.2.2.1
  have HY := B.2.2.2.2.2.1
  have HD := B.2.2.2.2.2.2.1
  have HR := B.2.2.2.2.2.2.2.1
  have HS := B.2.2.2.2.2.2.2.2.1
  have HW := B.2.2.2.2.2.2.2.2.2.1
  have HG := B.2.2.2.2.2.2.2.2.2.2
  obtain ⟨q4, ⟨L, hL, eL⟩, ⟨q, hq60, eq⟩, hRI, hSP⟩ := id Lq
  have l25 := Lm.1
  have ok25 := Lm.2.1
  have him := Lm.2.2
  refine C_keep (d := d + 788) (fr := fr) (c := c) HO HF HI HG (tc_ok C).1 l25 (tc_ok C).2 (fun h1 O1 I1 e1 => ?_)
  have B1 := bb_k B O1 I1 e1
  refine hq _ _ ⟨⟨_, B1.1.1⟩, fun d rc rs Q hk => ?_⟩
  refine M_keep (fr := fr) (c := c) (d := d + 88) B1.1 (fun h2 M2 e2 => ?_)
  refine hk _ ⟨_, _, _, _, _, _, _, _, _, _, _, _, _, _, _, _, _, _, _, _, _, _, _, _, _, _, _, _, _, _, bb_m B1 M2 e2, ⟨pk_us, pk_un (by omega), pk_un (by omega), aset_n (by omega), aset_n (by omega), aset_n (by omega), aset_n (by omega), aset_n (by omega), aset_n (by omega), aset_n (by omega)⟩, hT, R, C, ⟨(tc_ok C).1, (tc_ok C).2, fun _ => ⟨aset_s.symm, fr, c, R, C⟩⟩, ?_⟩
  refine ⟨(pk_un (by omega)).trans q4, ⟨L, hL, eL⟩, ⟨q, hq60, eq⟩, hRI, ?_⟩
  rw [aset_n (by omega), aset_n (by omega)]
  exact hSP
theorem st_back {X : List Int32} {d rc rs n T : Nat} {Q : am_Q} {h : am_H} (H : LI T h) (hq : ∀ v h9, MD X mX8_back [some (.ref 69)] T n h9 v → Q (some (.int v)) n h9) : AW X mX7_back (d + 800) rc rs 0 [some (.ref 0)] [] n h Q := by
  have H0 := H
  refine li_el H (fun o a N tx lk mv NI txI lkI mvI r cd kd pr nu ss zs tb fr c B hT R C Lm Lq => ?_)
  have E : LE o a (o 3) (o 35) (o 9) (a 75) (a 83) (a 84) (a 85) (a 86) (a 89) (a 91) := le_rf
  have HM := B.1
  have HO := B.2.1
  have HF := B.2.2.1
  have HT := B.2.2.2.1
  have HI := B.2.2.2.2.1
  have HY := B.2.2.2.2.2.1
  have HD := B.2.2.2.2.2.2.1
  have HR := B.2.2.2.2.2.2.2.1
  have HS := B.2.2.2.2.2.2.2.2.1
  have HW := B.2.2.2.2.2.2.2.2.2.1
  have HG := B.2.2.2.2.2.2.2.2.2.2
  obtain ⟨q4, ⟨L, hL, eL⟩, ⟨q, hq60, eq⟩, hRI, hSP⟩ := id Lq
  have l25 := Lm.1
  have ok25 := Lm.2.1
  have him := Lm.2.2
  refine C_back (d := d + 788) (fr := fr) (c := c) HO HF HI HG (tc_ok C).1 l25 ok25 (fun z => ?_) (fun z h1 F1 e1 => ?_)
  · refine hq _ _ ⟨⟨_, HM.1⟩, fun d rc rs Q hk => ?_⟩
    exact M_back (fr := fr) (c := c) (d := d + 88) HM (fun _ => hk _ H0) (fun z2 => absurd z z2)
  · have B1 := bb_q B F1 e1
    obtain ⟨y1, f9, c9, y2, y3⟩ := him z
    subst y1
    refine hq _ _ ⟨⟨_, B1.1.1⟩, fun d rc rs Q hk => ?_⟩
    refine M_back (fr := fr) (c := c) (d := d + 88) B1.1 (fun z2 => absurd z2 z) (fun z2 h2 M2 e2 => ?_)
    exact hk _ (li_sc (bb_m B1 M2 e2) sc_0 E hT y2 y3 Lm Lq)
theorem st_text {X : List Int32} {d rc rs T : Nat} {Q : am_Q} {h : am_H} (H : LI T h) (hT9 : T < 1000) (hq : ∀ v T9 h9, T9 ≤ T + 1 → MD X mX8_text [some (.ref 69), none, none, none] T9 (92 + 3 * T9) h9 v → Q (some (.int v)) (92 + 3 * T9) h9) : AW X mX7_text (d + 800) (rc + 3) (rs + 200) 0 [some (.ref 0), none] [] (92 + 3 * T) h Q := by
  have H0 := H
  refine li_el H (fun o a N tx lk mv NI txI lkI mvI r cd kd pr nu ss zs tb fr c B hT R C Lm Lq => ?_)
  have E : LE o a (o 3) (o 35) (o 9) (a 75) (a 83) (a 84) (a 85) (a 86) (a 89) (a 91) := le_rf
  have HM := B.1
  have HO := B.2.1
  have HF := B.2.2.1
  have HT := B.2.2.2.1
  have HI := B.2.2.2.2.1
  have HY := B.2.2.2.2.2.1
  have HD := B.2.2.2.2.2.2.1
  have HR := B.2.2.2.2.2.2.2.1
  have HS := B.2.2.2.2.2.2.2.2.1
  have HW := B.2.2.2.2.2.2.2.2.2.1
  have HG := B.2.2.2.2.2.2.2.2.2.2
  obtain ⟨q4, ⟨L, hL, eL⟩, ⟨q, hq60, eq⟩, hRI, hSP⟩ := id Lq
  have l25 := Lm.1
  have ok25 := Lm.2.1
  have him := Lm.2.2
  rw [eL] at HD
  subst hT
  have OE : ∀ {o2 : Nat → Int32} {a2 : Nat → Nat → Int32}, o2 9 = 0 → oX o2 o → aE a2 a → LE o2 a2 (o 3) (o 35) 0 (a 75) (a 83) (a 84) (a 85) (a 86) (a 89) (a 91) := fun z k1 k2 => ⟨k1 3 (by omega) (by omega) (by omega) (by omega), k1 35 (by omega) (by omega) (by omega) (by omega), z, k2 75 (by omega) (by omega) (by omega), k2 83 (by omega) (by omega) (by omega), k2 84 (by omega) (by omega) (by omega), k2 85 (by omega) (by omega) (by omega), k2 86 (by omega) (by omega) (by omega), k2 89 (by omega) (by omega) (by omega), k2 91 (by omega) (by omega) (by omega)⟩
  have QE : ∀ {o2 : Nat → Int32} {a2 : Nat → Nat → Int32}, oX o2 o → aE a2 a → LQ o2 a2 (o 35) 0 (a 83) (a 84) (a 86) kd pr nu zs := fun k1 k2 => by
    refine ⟨(k1 4 (by omega) (by omega) (by omega) (by omega)).trans q4, ⟨0, by omega, rfl⟩, ⟨q, hq60, eq⟩, hRI, ?_⟩
    rw [k2 87 (by omega) (by omega) (by omega), k2 88 (by omega) (by omega) (by omega)]
    exact hSP
  refine t_text (d := d + 89) (c := c) HO HD hL HF R.2.2.1 R.2.2.2.1 (tc_ok C).1 (by omega) (by omega) (fun z => ?_) (fun q9 z hq9 h1 r1 cd1 D1 e1 => ?_) (fun z zc h1 r1 cd1 D1 e1 => ?_) (fun z zc ky h1 r1 cd1 hky eky D1 F1 c0 c1 ec c2 e1 => ?_)
  · obtain ⟨j, me, y1, y2, y3, y4, y5⟩ := ff_ok hL z
    exact ⟨by omega, y5, j, y1, y2⟩
  · have B1 := bb_d B D1 e1
    refine hq _ tb.1 _ (by omega) ⟨⟨_, B1.1.1⟩, fun d rc rs Q hk => ?_⟩
    refine m_textF (d := d + 94) (k := r 5) B1.1 eL hL R.2.2.1 R.2.2.2.1 (fun q2 z2 o2 a2 h2 M2 z9 k1 k2 e2 => ?_) (fun z2 _ => absurd (z.symm.trans z2) (by simp)) (fun z2 _ => absurd (z.symm.trans z2) (by simp))
    obtain rfl : q9 = q2 := Option.some.inj (z.symm.trans z2)
    exact hk _ ⟨_, _, _, _, _, _, _, _, _, _, _, _, _, _, _, _, _, _, _, _, _, _, _, _, _, _, _, _, _, _, bb_m B1 M2 e2, OE z9 k1 k2, rfl, R, C, lm_sc Lm (k2 71 (by omega) (by omega) (by omega)), QE k1 k2⟩
  · have B1 := bb_d B D1 e1
    refine hq _ tb.1 _ (by omega) ⟨⟨_, B1.1.1⟩, fun d rc rs Q hk => ?_⟩
    refine m_textF (d := d + 94) (k := r 5) B1.1 eL hL R.2.2.1 R.2.2.2.1 (fun q2 z2 => absurd (z.symm.trans z2) (by simp)) (fun z2 _ o2 a2 h2 M2 z9 k1 k2 e2 => ?_) (fun z2 y => absurd zc (by omega))
    exact hk _ ⟨_, _, _, _, _, _, _, _, _, _, _, _, _, _, _, _, _, _, _, _, _, _, _, _, _, _, _, _, _, _, bb_m B1 M2 e2, OE z9 k1 k2, rfl, R, C, lm_sc Lm (k2 71 (by omega) (by omega) (by omega)), QE k1 k2⟩
  · obtain ⟨j0, me0, y1, y2, y3, y4, y5⟩ := ff_ok hL z
    have G1 : TT (tbN tb ky (ffF L (a 75) (r 5)).2.2.2.2.1 (ffF L (a 75) (r 5)).2.2.2.1.length cd1) h1 := tt_new HG (fun k h1 h2 => e1 k (by omega) (by omega) (by omega)) (by omega) (by omega) (by rw [show 93 + 3 * tb.1 = 92 + 3 * tb.1 + 1 by omega, show 94 + 3 * tb.1 = 92 + 3 * tb.1 + 2 by omega]; exact c0) (by rw [show 93 + 3 * tb.1 = 92 + 3 * tb.1 + 1 by omega]; exact c1) (by rw [show 94 + 3 * tb.1 = 92 + 3 * tb.1 + 2 by omega]; exact c2)
    have fe : am_fp (fun k => k < 92 ∧ (k < 1 ∨ 13 ≤ k) ∧ (k < 39 ∨ 43 ≤ k)) h1 h := fun k (hk : k < 92 ∧ (k < 1 ∨ 13 ≤ k) ∧ (k < 39 ∨ 43 ≤ k)) => e1 k (by omega) hk.2.1 hk.2.2
    have B1 := bb_x B F1 D1 G1 fe
    refine hq _ (tb.1 + 1) _ (by omega) ⟨⟨_, B1.1.1⟩, fun d rc rs Q hk => ?_⟩
    refine m_textF (d := d + 94) (k := r 5) B1.1 eL hL R.2.2.1 R.2.2.2.1 (fun q2 z2 => absurd (z.symm.trans z2) (by simp)) (fun z2 y => absurd zc (by omega)) (fun z2 _ j me hj ej XX hl o2 a2 h2 M2 z9 k1 k2 e2 => ?_)
    obtain rfl : ky = j := nIi (by omega) (by omega) (eky.symm.trans ej)
    have hml : me.length ≤ 96 := by
      have y := crL_len _ _ XX.1
      omega
    have B2 := bb_n (bb_m B1 M2 e2) (qr_txn (j := ky) (at_ := (ffF L (a 75) (r 5)).2.2.2.2.1) zc hml (bb_m B1 M2 e2).2.2.1)
    exact hk _ ⟨_, _, _, _, _, _, _, _, _, _, _, _, _, _, _, _, _, _, _, _, _, _, _, _, _, _, _, _, _, _, B2, OE z9 k1 k2, rfl, rg_tx R zc hml, tc_new C zc hky XX hl ec, lm_sc (lm_grow Lm) (k2 71 (by omega) (by omega) (by omega)), QE k1 k2⟩

