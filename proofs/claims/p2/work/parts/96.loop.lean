abbrev C33 (tp : Nat → Int32) (K : Nat × Nat × Nat) (ws : List Int32) : Prop := K.1 = 3 ∧ tp K.2.1 = 33 ∧ nO ws < 8
abbrev C40 (tp : Nat → Int32) (K : Nat × Nat × Nat) (p : Nat) : Prop := K.1 = 3 ∧ tp K.2.1 = 40 ∧ p < 8
abbrev C41 (tp : Nat → Int32) (K : Nat × Nat × Nat) (p : Nat) : Prop := K.1 = 3 ∧ tp K.2.1 = 41 ∧ 0 < p
def tsV (g x : Int32) : Int32 := if rkM g = 3 ∨ (3 < rkM g ∧ ¬ x = 0) then 1 else 0
abbrev RT9 : Type := (Option (List Int32 × Nat)) × Nat
def TER (L : Nat) (tp : Nat → Int32) (y : Int32) (P : Bool → Nat → ES → RT9 → Prop) : Prop := (∀ (p : Nat) (K : Nat × Nat × Nat) (cs ws : List Int32) (at_ : Nat) (tq : Nat → Int32) (R : RT9), C33 tp K ws → P true p (adv L tp K, cs, (-10) :: ws, at_, tq) R → P true p (K, cs, ws, at_, tq) R) ∧ (∀ (p : Nat) (K : Nat × Nat × Nat) (cs ws : List Int32) (at_ : Nat) (tq : Nat → Int32) (R : RT9), ¬ C33 tp K ws → C40 tp K p → P true (p + 1) (adv L tp K, cs, (-11) :: ws, at_, upd tq (p + 1) 0) R → P true p (K, cs, ws, at_, tq) R) ∧ (∀ (p : Nat) (K : Nat × Nat × Nat) (cs ws : List Int32) (at_ : Nat) (tq : Nat → Int32) (R : RT9) (c : Int32), ¬ C33 tp K ws → ¬ C40 tp K p → ptO y tp K = some c → P false p (adv L tp K, (stl 6 (cs ++ [c]) ws).1, (stl 6 (cs ++ [c]) ws).2, at_ + 1, tq) R → P true p (K, cs, ws, at_, tq) R) ∧ (∀ (p : Nat) (K : Nat × Nat × Nat) (cs ws : List Int32) (at_ : Nat) (tq : Nat → Int32), ¬ C33 tp K ws → ¬ C40 tp K p → ptO y tp K = none → P true p (K, cs, ws, at_, tq) (none, K.2.1)) ∧ (∀ (p : Nat) (K : Nat × Nat × Nat) (cs ws : List Int32) (at_ : Nat) (tq : Nat → Int32), K.1 = 0 → p = 0 → P false p (K, cs, ws, at_, tq) (some ((stl 0 cs ws).1, at_), K.2.1)) ∧ (∀ (p : Nat) (K : Nat × Nat × Nat) (cs ws : List Int32) (at_ : Nat) (tq : Nat → Int32), K.1 = 0 → ¬ p = 0 → P false p (K, cs, ws, at_, tq) (none, K.2.1)) ∧ (∀ (p : Nat) (K : Nat × Nat × Nat) (cs ws : List Int32) (at_ : Nat) (tq : Nat → Int32) (R : RT9) (c1 w2 : List Int32), C41 tp K p → stl 0 cs ws = (c1, (-11) :: w2) → P false (p - 1) (adv L tp K, (stl 6 c1 w2).1, (stl 6 c1 w2).2, at_, tq) R → P false p (K, cs, ws, at_, tq) R) ∧ (∀ (p : Nat) (K : Nat × Nat × Nat) (cs ws : List Int32) (at_ : Nat) (tq : Nat → Int32) (R : RT9) (g : Int32), ¬ C41 tp K p → sgV K.1 (tp K.2.1) = g → ¬ g = 0 → ¬ (rkM g = 3 ∧ ¬ tq p = 0) → P true p (adv L tp K, (stl (rkM g) cs ws).1, g :: (stl (rkM g) cs ws).2, at_, upd tq p (tsV g (tq p))) R → P false p (K, cs, ws, at_, tq) R) ∧ (∀ (p : Nat) (K : Nat × Nat × Nat) (cs ws : List Int32) (at_ : Nat) (tq : Nat → Int32), ¬ K.1 = 0 → ¬ C41 tp K p → (sgV K.1 (tp K.2.1) = 0 ∨ (rkM (sgV K.1 (tp K.2.1)) = 3 ∧ ¬ tq p = 0)) → P false p (K, cs, ws, at_, tq) (none, K.2.1))
def TE (L : Nat) (tp : Nat → Int32) (y : Int32) (w : Bool) (p : Nat) (σ : ES) (R : RT9) : Prop := ∀ P, TER L tp y P → P w p σ R
theorem te_33 {L : Nat} {tp : Nat → Int32} {y : Int32} : ∀ (p : Nat) (K : Nat × Nat × Nat) (cs ws : List Int32) (at_ : Nat) (tq : Nat → Int32) (R : RT9), C33 tp K ws → TE L tp y true p (adv L tp K, cs, (-10) :: ws, at_, tq) R → TE L tp y true p (K, cs, ws, at_, tq) R := fun x0 x1 x2 x3 x4 x5 x6 h0 t P r => r.1 x0 x1 x2 x3 x4 x5 x6 h0 (t P r)
theorem te_40 {L : Nat} {tp : Nat → Int32} {y : Int32} : ∀ (p : Nat) (K : Nat × Nat × Nat) (cs ws : List Int32) (at_ : Nat) (tq : Nat → Int32) (R : RT9), ¬ C33 tp K ws → C40 tp K p → TE L tp y true (p + 1) (adv L tp K, cs, (-11) :: ws, at_, upd tq (p + 1) 0) R → TE L tp y true p (K, cs, ws, at_, tq) R := fun x0 x1 x2 x3 x4 x5 x6 h0 h1 t P r => r.2.1 x0 x1 x2 x3 x4 x5 x6 h0 h1 (t P r)
theorem te_pt {L : Nat} {tp : Nat → Int32} {y : Int32} : ∀ (p : Nat) (K : Nat × Nat × Nat) (cs ws : List Int32) (at_ : Nat) (tq : Nat → Int32) (R : RT9) (c : Int32), ¬ C33 tp K ws → ¬ C40 tp K p → ptO y tp K = some c → TE L tp y false p (adv L tp K, (stl 6 (cs ++ [c]) ws).1, (stl 6 (cs ++ [c]) ws).2, at_ + 1, tq) R → TE L tp y true p (K, cs, ws, at_, tq) R := fun x0 x1 x2 x3 x4 x5 x6 x7 h0 h1 h2 t P r => r.2.2.1 x0 x1 x2 x3 x4 x5 x6 x7 h0 h1 h2 (t P r)
theorem te_no {L : Nat} {tp : Nat → Int32} {y : Int32} : ∀ (p : Nat) (K : Nat × Nat × Nat) (cs ws : List Int32) (at_ : Nat) (tq : Nat → Int32), ¬ C33 tp K ws → ¬ C40 tp K p → ptO y tp K = none → TE L tp y true p (K, cs, ws, at_, tq) (none, K.2.1) := fun x0 x1 x2 x3 x4 x5 h0 h1 h2  P r => r.2.2.2.1 x0 x1 x2 x3 x4 x5 h0 h1 h2 
theorem te_E1 {L : Nat} {tp : Nat → Int32} {y : Int32} : ∀ (p : Nat) (K : Nat × Nat × Nat) (cs ws : List Int32) (at_ : Nat) (tq : Nat → Int32), K.1 = 0 → p = 0 → TE L tp y false p (K, cs, ws, at_, tq) (some ((stl 0 cs ws).1, at_), K.2.1) := fun x0 x1 x2 x3 x4 x5 h0 h1  P r => r.2.2.2.2.1 x0 x1 x2 x3 x4 x5 h0 h1 
theorem te_E0 {L : Nat} {tp : Nat → Int32} {y : Int32} : ∀ (p : Nat) (K : Nat × Nat × Nat) (cs ws : List Int32) (at_ : Nat) (tq : Nat → Int32), K.1 = 0 → ¬ p = 0 → TE L tp y false p (K, cs, ws, at_, tq) (none, K.2.1) := fun x0 x1 x2 x3 x4 x5 h0 h1  P r => r.2.2.2.2.2.1 x0 x1 x2 x3 x4 x5 h0 h1 
theorem te_41 {L : Nat} {tp : Nat → Int32} {y : Int32} : ∀ (p : Nat) (K : Nat × Nat × Nat) (cs ws : List Int32) (at_ : Nat) (tq : Nat → Int32) (R : RT9) (c1 w2 : List Int32), C41 tp K p → stl 0 cs ws = (c1, (-11) :: w2) → TE L tp y false (p - 1) (adv L tp K, (stl 6 c1 w2).1, (stl 6 c1 w2).2, at_, tq) R → TE L tp y false p (K, cs, ws, at_, tq) R := fun x0 x1 x2 x3 x4 x5 x6 x7 x8 h0 h1 t P r => r.2.2.2.2.2.2.1 x0 x1 x2 x3 x4 x5 x6 x7 x8 h0 h1 (t P r)
theorem te_sg {L : Nat} {tp : Nat → Int32} {y : Int32} : ∀ (p : Nat) (K : Nat × Nat × Nat) (cs ws : List Int32) (at_ : Nat) (tq : Nat → Int32) (R : RT9) (g : Int32), ¬ C41 tp K p → sgV K.1 (tp K.2.1) = g → ¬ g = 0 → ¬ (rkM g = 3 ∧ ¬ tq p = 0) → TE L tp y true p (adv L tp K, (stl (rkM g) cs ws).1, g :: (stl (rkM g) cs ws).2, at_, upd tq p (tsV g (tq p))) R → TE L tp y false p (K, cs, ws, at_, tq) R := fun x0 x1 x2 x3 x4 x5 x6 x7 h0 h1 h2 h3 t P r => r.2.2.2.2.2.2.2.1 x0 x1 x2 x3 x4 x5 x6 x7 h0 h1 h2 h3 (t P r)
theorem te_nn {L : Nat} {tp : Nat → Int32} {y : Int32} : ∀ (p : Nat) (K : Nat × Nat × Nat) (cs ws : List Int32) (at_ : Nat) (tq : Nat → Int32), ¬ K.1 = 0 → ¬ C41 tp K p → (sgV K.1 (tp K.2.1) = 0 ∨ (rkM (sgV K.1 (tp K.2.1)) = 3 ∧ ¬ tq p = 0)) → TE L tp y false p (K, cs, ws, at_, tq) (none, K.2.1) := fun x0 x1 x2 x3 x4 x5 h0 h1 h2  P r => r.2.2.2.2.2.2.2.2 x0 x1 x2 x3 x4 x5 h0 h1 h2 
def St : Bool → List Int32 → Prop
  | _, [] => True
  | b, w :: ws => (b = false → w ≠ -10) ∧ (if w = -10 ∨ w = -11 then St true ws else St false ws)
theorem st_w : ∀ {b : Bool} {ws : List Int32}, St b ws → St true ws := by
  intro b ws h
  cases ws with
  | nil => trivial
  | cons w ws => exact ⟨(fun z => by cases z), h.2⟩
theorem st_s {r : Int32} : ∀ (ws : List Int32) {b : Bool} {cs : List Int32}, St b ws → St true (stl r cs ws).2 := by
  intro ws
  induction ws with
  | nil => intro b cs h; trivial
  | cons w ws ih =>
    intro b cs h
    unfold stl
    split
    · exact st_w h
    · have h2 := h.2
      split at h2
      · exact ih h2
      · exact ih h2
theorem st_6 : ∀ (ws : List Int32) {b : Bool} {cs : List Int32}, St b ws → St false (stl 6 cs ws).2 := by
  intro ws
  induction ws with
  | nil => intro b cs h; trivial
  | cons w ws ih =>
    intro b cs h
    unfold stl
    split
    · rename_i hs
      exact ⟨fun _ e => by subst e; exact absurd hs (by decide), h.2⟩
    · have h2 := h.2
      split at h2
      · exact ih h2
      · exact ih h2
theorem st_r {r : Int32} : ∀ (ws : List Int32) {cs : List Int32}, St false ws → St false (stl r cs ws).2 ∧ nO (stl r cs ws).2 = nO ws := by
  intro ws
  induction ws with
  | nil => intro cs h; exact ⟨trivial, rfl⟩
  | cons w ws ih =>
    intro cs h
    unfold stl
    split
    · exact ⟨h, rfl⟩
    · rename_i hs
      have h1 := h.1 rfl
      have h2 := h.2
      rw [if_neg (fun z => z.elim h1 (fun y => hs (Or.inl y)))] at h2
      have q := ih (cs := cs ++ [w]) h2
      refine ⟨q.1, q.2.trans ?_⟩
      show nO ws = (if w = -10 then 1 else 0) + nO ws
      rw [if_neg h1, Nat.zero_add]
def oO : List Int32 → Nat
  | [] => 0
  | w :: ws => (if w = -11 then 1 else 0) + oO ws
theorem oO_s {r : Int32} : ∀ (ws : List Int32) {cs : List Int32}, oO (stl r cs ws).2 = oO ws := by
  intro ws
  induction ws with
  | nil => intro cs; rfl
  | cons w ws ih =>
    intro cs
    unfold stl
    split
    · rfl
    · rename_i hs
      rw [ih]
      show oO ws = (if w = -11 then 1 else 0) + oO ws
      rw [if_neg (fun z => hs (Or.inl z)), Nat.zero_add]
theorem rkM_p (x : Int32) : ¬ rkM x < 0 := by
  unfold rkM
  repeat' split
  all_goals decide
theorem stl_0 : ∀ (ws : List Int32) {cs : List Int32}, 0 < oO ws → ∃ c1 w2, stl 0 cs ws = (c1, (-11) :: w2) := by
  intro ws
  induction ws with
  | nil => intro cs h; exact absurd h (by decide)
  | cons w ws ih =>
    intro cs h
    unfold stl
    split
    · rename_i hs
      rcases hs with e | e
      · exact ⟨cs, ws, by rw [e]⟩
      · exact absurd e (rkM_p w)
    · rename_i hs
      refine ih ?_
      have z : 0 < (if w = -11 then 1 else 0) + oO ws := h
      rw [if_neg (fun y => hs (Or.inl y)), Nat.zero_add] at z
      exact z
theorem sgm_n (b : Int32) : sgm b ≠ -10 ∧ sgm b ≠ -11 := by
  unfold sgm
  repeat' split
  all_goals decide
theorem sgV_n (t : Nat) (b : Int32) : sgV t b ≠ -10 ∧ sgV t b ≠ -11 := by
  unfold sgV
  split
  · exact sgm_n b
  · decide
theorem pt_tok {y : Int32} {tp : Nat → Int32} {K : Nat × Nat × Nat} {c : Int32} (h : ptO y tp K = some c) : K.1 = 1 ∨ K.1 = 2 := by
  unfold ptO at h
  split at h
  · exact Or.inr (by assumption)
  · unfold nmK at h
    split at h
    · rename_i h2; exact Or.inl h2.1
    · cases h
def IV (L : Nat) (tp : Nat → Int32) (w : Bool) (p : Nat) (σ : ES) : Prop := WFK L tp σ.1 ∧ L ≤ 96 ∧ σ.2.1.length + σ.2.2.1.length + 3 ≤ σ.1.2.1 ∧ σ.2.2.2.1 + 3 ≤ σ.1.2.1 ∧ p ≤ 8 ∧ oO σ.2.2.1 = p ∧ St w σ.2.2.1
def locE (p k : Nat) (w : Bool) (v4 : Option Value) : List (Option Value) := [some (.ref 69), some (.int (nI p)), some (.int (nI k)), some (.int (if w = true then 1 else 0)), v4]
theorem adv_up {L : Nat} {tp : Nat → Int32} {K : Nat × Nat × Nat} (wk : WFK L tp K) (h : K.1 ≠ 0) : WFK L tp (adv L tp K) ∧ K.2.1 + 1 ≤ (adv L tp K).2.1 := by
  have a := adv_wf wk
  have b := wk.2.2.2.2.2.1 h
  exact ⟨a.1, by have c := a.2; omega⟩
set_option maxHeartbeats 4000000 in
theorem m_loop {X : List Int32} {d rc rs n : Nat} {Q : am_Q} {L : Nat} {o0 N : Nat → Int32} {a0 : Nat → Nat → Int32} (h9 : o0 9 = nI L) {w : Bool} {p : Nat} {σ : ES} {R : RT9} (t : TE L (a0 75) (o0 15) w p σ R) : ∀ (h : am_H) (v4 : Option Value), EX σ L o0 N a0 h → IV L (a0 75) w p σ → (∀ h9 σ9, EX σ9 L o0 N a0 h9 → σ9.1.2.1 = R.2 → R.1 = some (σ9.2.1, σ9.2.2.2.1) → am_fp (fun k => k < 69 ∨ 92 ≤ k) h9 h → Q (some (.int 1)) n h9) → (R.1 = none → ∀ h9 σ9, EX σ9 L o0 N a0 h9 → σ9.1.2.1 = R.2 → am_fp (fun k => k < 69 ∨ 92 ≤ k) h9 h → Q (some (.int 0)) n h9) → AW X mX8_takesE (d + 4) rc rs 28 (locE p (nO σ.2.2.1) w v4) [] n h Q := by
  refine t (fun w p σ R => ∀ (h : am_H) (v4 : Option Value), EX σ L o0 N a0 h → IV L (a0 75) w p σ → (∀ h9 σ9, EX σ9 L o0 N a0 h9 → σ9.1.2.1 = R.2 → R.1 = some (σ9.2.1, σ9.2.2.2.1) → am_fp (fun k => k < 69 ∨ 92 ≤ k) h9 h → Q (some (.int 1)) n h9) → (R.1 = none → ∀ h9 σ9, EX σ9 L o0 N a0 h9 → σ9.1.2.1 = R.2 → am_fp (fun k => k < 69 ∨ 92 ≤ k) h9 h → Q (some (.int 0)) n h9) → AW X mX8_takesE (d + 4) rc rs 28 (locE p (nO σ.2.2.1) w v4) [] n h Q) ⟨?_, ?_, ?_, ?_, ?_, ?_, ?_, ?_, ?_⟩
  · intro p K cs ws at_ tq R h ih
    intro h0 v4 H I hy hn
    obtain ⟨wk0, hL, hb, hat, hp, ho0, hs0⟩ := I
    have wk : WFK L (a0 75) K := wk0
    have ho : oO ws = p := ho0
    have hs : St true ws := hs0
    clear wk0 ho0 hs0
    have we := wk.1
    have wf := wk.2.1
    have hb' : cs.length + ws.length + 3 ≤ K.2.1 := hb
    have hat' : at_ + 3 ≤ K.2.1 := hat
    clear hb hat
    have hu := adv_up wk (by have z := h.1; omega)
    refine m_turnW (K := K) (cs := cs) (ws := ws) (at_ := at_) (p := p) (tq := tq) H hL wk h9 (by omega) (by omega) hp (fun _ v4 h1 H1 f1 => ?_) (fun z => absurd h z) (fun z => absurd h z) (fun z => absurd h z)
    refine ih h1 v4 H1 ⟨hu.1, hL, ?_, ?_, hp, ?_, ?_⟩ (fun h2 σ9 q1 q2 q3 q4 => hy h2 σ9 q1 q2 q3 (am_fpT q4 f1)) (fun z h2 σ9 q1 q2 q4 => hn z h2 σ9 q1 q2 (am_fpT q4 f1))
    · show cs.length + (ws.length + 1) + 3 ≤ (adv L (a0 75) K).2.1; omega
    · show at_ + 3 ≤ (adv L (a0 75) K).2.1; omega
    · show (if (-10 : Int32) = -11 then 1 else 0) + oO ws = p; rw [if_neg (by decide), Nat.zero_add]; exact ho
    · exact ⟨(fun z => by cases z), by rw [if_pos (Or.inl rfl)]; exact hs⟩
  · intro p K cs ws at_ tq R h1 h ih
    intro h0 v4 H I hy hn
    obtain ⟨wk0, hL, hb, hat, hp, ho0, hs0⟩ := I
    have wk : WFK L (a0 75) K := wk0
    have ho : oO ws = p := ho0
    have hs : St true ws := hs0
    clear wk0 ho0 hs0
    have we := wk.1
    have wf := wk.2.1
    have hb' : cs.length + ws.length + 3 ≤ K.2.1 := hb
    have hat' : at_ + 3 ≤ K.2.1 := hat
    clear hb hat
    have hu := adv_up wk (by have z := h.1; omega)
    have hp8 := h.2.2
    refine m_turnW (K := K) (cs := cs) (ws := ws) (at_ := at_) (p := p) (tq := tq) H hL wk h9 (by omega) (by omega) hp (fun z => absurd z h1) (fun _ _ v4 h1 H1 f1 => ?_) (fun _ z => absurd h z) (fun _ z => absurd h z)
    refine ih h1 v4 H1 ⟨hu.1, hL, ?_, ?_, by omega, ?_, ?_⟩ (fun h2 σ9 q1 q2 q3 q4 => hy h2 σ9 q1 q2 q3 (am_fpT q4 f1)) (fun z h2 σ9 q1 q2 q4 => hn z h2 σ9 q1 q2 (am_fpT q4 f1))
    · show cs.length + (ws.length + 1) + 3 ≤ (adv L (a0 75) K).2.1; omega
    · show at_ + 3 ≤ (adv L (a0 75) K).2.1; omega
    · show (if (-11 : Int32) = -11 then 1 else 0) + oO ws = p + 1; rw [if_pos rfl, Nat.add_comm]; exact congrArg (· + 1) ho
    · exact ⟨(fun z => by cases z), by rw [if_pos (Or.inr rfl)]; exact hs⟩
  · intro p K cs ws at_ tq R c h1 h2 h ih
    intro h0 v4 H I hy hn
    obtain ⟨wk0, hL, hb, hat, hp, ho0, hs0⟩ := I
    have wk : WFK L (a0 75) K := wk0
    have ho : oO ws = p := ho0
    have hs : St true ws := hs0
    clear wk0 ho0 hs0
    have we := wk.1
    have wf := wk.2.1
    have hb' : cs.length + ws.length + 3 ≤ K.2.1 := hb
    have hat' : at_ + 3 ≤ K.2.1 := hat
    clear hb hat
    have hu := adv_up wk (by have z := pt_tok h; omega)
    have hl := stl_len (r := 6) ws (cs ++ [c])
    rw [List.length_append, List.length_singleton] at hl
    refine m_turnW (K := K) (cs := cs) (ws := ws) (at_ := at_) (p := p) (tq := tq) H hL wk h9 (by omega) (by omega) hp (fun z => absurd z h1) (fun _ z => absurd z h2) (fun _ _ c2 e2 v4 h1 H1 f1 => ?_) (fun _ _ z => absurd (h.symm.trans z) (by simp))
    obtain rfl : c = c2 := Option.some.inj (h.symm.trans e2)
    refine ih h1 v4 H1 ⟨hu.1, hL, ?_, ?_, hp, ?_, ?_⟩ (fun h2 σ9 q1 q2 q3 q4 => hy h2 σ9 q1 q2 q3 (am_fpT q4 f1)) (fun z h2 σ9 q1 q2 q4 => hn z h2 σ9 q1 q2 (am_fpT q4 f1))
    · show (stl 6 (cs ++ [c]) ws).1.length + (stl 6 (cs ++ [c]) ws).2.length + 3 ≤ (adv L (a0 75) K).2.1; omega
    · show at_ + 1 + 3 ≤ (adv L (a0 75) K).2.1; omega
    · show oO (stl 6 (cs ++ [c]) ws).2 = p; rw [oO_s]; exact ho
    · exact st_6 ws hs
  · intro p K cs ws at_ tq h1 h2 h
    intro h0 v4 H I hy hn
    obtain ⟨wk0, hL, hb, hat, hp, ho0, hs0⟩ := I
    have wk : WFK L (a0 75) K := wk0
    have ho : oO ws = p := ho0
    have hs : St true ws := hs0
    clear wk0 ho0 hs0
    have we := wk.1
    have wf := wk.2.1
    have hb' : cs.length + ws.length + 3 ≤ K.2.1 := hb
    have hat' : at_ + 3 ≤ K.2.1 := hat
    clear hb hat
    exact m_turnW (K := K) (cs := cs) (ws := ws) (at_ := at_) (p := p) (tq := tq) H hL wk h9 (by omega) (by omega) hp (fun z => absurd z h1) (fun _ z => absurd z h2) (fun _ _ c2 e2 => absurd (h.symm.trans e2) (by simp)) (fun _ _ _ => hn rfl h0 _ H rfl am_fp0)
  · intro p K cs ws at_ tq h0 hp0
    intro hh v4 H I hy hn
    obtain ⟨wk0, hL, hb, hat, hp, ho0, hs0⟩ := I
    have wk : WFK L (a0 75) K := wk0
    have ho : oO ws = p := ho0
    have hs : St false ws := hs0
    clear wk0 ho0 hs0
    have we := wk.1
    have wf := wk.2.1
    have hb' : cs.length + ws.length + 3 ≤ K.2.1 := hb
    have hat' : at_ + 3 ≤ K.2.1 := hat
    clear hb hat
    exact m_turnN (K := K) (cs := cs) (ws := ws) (at_ := at_) (p := p) (tq := tq) H hL wk h9 rfl (by omega) (by omega) (by omega) hp (fun z => by omega) (fun _ _ h1 H1 f1 => hy h1 _ H1 rfl rfl f1) (fun _ z => absurd hp0 z) (fun z => absurd h0 z) (fun z => absurd h0 z) (fun z => absurd h0 z)
  · intro p K cs ws at_ tq h0 hp0
    intro hh v4 H I hy hn
    obtain ⟨wk0, hL, hb, hat, hp, ho0, hs0⟩ := I
    have wk : WFK L (a0 75) K := wk0
    have ho : oO ws = p := ho0
    have hs : St false ws := hs0
    clear wk0 ho0 hs0
    have we := wk.1
    have wf := wk.2.1
    have hb' : cs.length + ws.length + 3 ≤ K.2.1 := hb
    have hat' : at_ + 3 ≤ K.2.1 := hat
    clear hb hat
    have ho' : oO ws = p := ho
    exact m_turnN (K := K) (cs := cs) (ws := ws) (at_ := at_) (p := p) (tq := tq) H hL wk h9 rfl (by omega) (by omega) (by omega) hp (fun z => stl_0 ws (by omega)) (fun _ z => absurd z hp0) (fun _ _ h1 H1 f1 => hn rfl h1 _ H1 rfl f1) (fun z => absurd h0 z) (fun z => absurd h0 z) (fun z => absurd h0 z)
  · intro p K cs ws at_ tq R c1 w2 h e ih
    intro hh v4 H I hy hn
    obtain ⟨wk0, hL, hb, hat, hp, ho0, hs0⟩ := I
    have wk : WFK L (a0 75) K := wk0
    have ho : oO ws = p := ho0
    have hs : St false ws := hs0
    clear wk0 ho0 hs0
    have we := wk.1
    have wf := wk.2.1
    have hb' : cs.length + ws.length + 3 ≤ K.2.1 := hb
    have hat' : at_ + 3 ≤ K.2.1 := hat
    clear hb hat
    have ho' : oO ws = p := ho
    have hk := h.1
    have hu := adv_up wk (by omega)
    have hl := stl_len (r := 0) ws cs
    rw [e] at hl
    have hl' : c1.length + (w2.length + 1) = cs.length + ws.length := hl
    have hl2 := stl_len (r := 6) w2 c1
    have hoo := oO_s (r := 0) ws (cs := cs)
    rw [e] at hoo
    have hoo' : (if (-11 : Int32) = -11 then 1 else 0) + oO w2 = oO ws := hoo
    rw [if_pos rfl] at hoo'
    have hst := st_s (r := 0) (cs := cs) ws hs
    rw [e] at hst
    have hst2 : St true w2 := by have z := hst.2; rw [if_pos (Or.inr rfl)] at z; exact z
    refine m_turnN (K := K) (cs := cs) (ws := ws) (at_ := at_) (p := p) (tq := tq) H hL wk h9 rfl (by omega) (by omega) (by omega) hp (fun z => stl_0 ws (by omega)) (fun z => absurd z (by omega)) (fun z => absurd z (by omega)) (fun _ _ c3 w3 e3 v4 h1 H1 f1 => ?_) (fun _ z => absurd h z) (fun _ z => absurd h z)
    obtain ⟨rfl, rfl⟩ : c3 = c1 ∧ w3 = w2 := by
      have z := e3.symm.trans e
      exact ⟨congrArg Prod.fst z, (List.cons.inj (congrArg Prod.snd z)).2⟩
    refine ih h1 v4 H1 ⟨hu.1, hL, ?_, ?_, by omega, ?_, ?_⟩ (fun h2 σ9 q1 q2 q3 q4 => hy h2 σ9 q1 q2 q3 (am_fpT q4 f1)) (fun z h2 σ9 q1 q2 q4 => hn z h2 σ9 q1 q2 (am_fpT q4 f1))
    · show (stl 6 c3 w3).1.length + (stl 6 c3 w3).2.length + 3 ≤ (adv L (a0 75) K).2.1; omega
    · show at_ + 3 ≤ (adv L (a0 75) K).2.1; omega
    · show oO (stl 6 c3 w3).2 = p - 1; rw [oO_s]; omega
    · exact st_6 w3 hst2
  · intro p K cs ws at_ tq R g h1 hg hg0 ht ih
    intro hh v4 H I hy hn
    obtain ⟨wk0, hL, hb, hat, hp, ho0, hs0⟩ := I
    have wk : WFK L (a0 75) K := wk0
    have ho : oO ws = p := ho0
    have hs : St false ws := hs0
    clear wk0 ho0 hs0
    have we := wk.1
    have wf := wk.2.1
    have hb' : cs.length + ws.length + 3 ≤ K.2.1 := hb
    have hat' : at_ + 3 ≤ K.2.1 := hat
    clear hb hat
    have ho' : oO ws = p := ho
    have hk : K.1 = 3 := sg_3 (y := a0 75 K.2.1) (by rw [hg]; exact hg0)
    have hu := adv_up wk (by omega)
    have hl := stl_len (r := rkM g) ws cs
    have hr := st_r (r := rkM g) ws (cs := cs) hs
    have hgn : g ≠ -10 ∧ g ≠ -11 := hg ▸ sgV_n K.1 (a0 75 K.2.1)
    refine m_turnN (K := K) (cs := cs) (ws := ws) (at_ := at_) (p := p) (tq := tq) H hL wk h9 hg (by omega) (by omega) (by omega) hp (fun z => stl_0 ws (by omega)) (fun z => absurd z (by omega)) (fun z => absurd z (by omega)) (fun _ z => absurd z h1) (fun _ _ _ _ tv etv v4 h1 H1 f1 => ?_) (fun _ _ z => absurd z (fun y => y.elim hg0 ht))
    have etv' : tv = tsV g (tq p) := etv
    subst etv'
    have en : nO (g :: (stl (rkM g) cs ws).2) = nO ws := by
      show (if g = -10 then 1 else 0) + nO (stl (rkM g) cs ws).2 = nO ws
      rw [if_neg hgn.1, Nat.zero_add]; exact hr.2
    have q := ih h1 v4 H1 ⟨hu.1, hL, by show (stl (rkM g) cs ws).1.length + ((stl (rkM g) cs ws).2.length + 1) + 3 ≤ (adv L (a0 75) K).2.1; omega, by show at_ + 3 ≤ (adv L (a0 75) K).2.1; omega, hp, by show (if g = -11 then 1 else 0) + oO (stl (rkM g) cs ws).2 = p; rw [if_neg hgn.2, Nat.zero_add, oO_s]; exact ho, ⟨(fun z => by cases z), by rw [if_neg (fun z => z.elim hgn.1 hgn.2)]; exact hr.1⟩⟩ (fun h2 σ9 q1 q2 q3 q4 => hy h2 σ9 q1 q2 q3 (am_fpT q4 f1)) (fun z h2 σ9 q1 q2 q4 => hn z h2 σ9 q1 q2 (am_fpT q4 f1))
    have q2 : AW X mX8_takesE (d + 4) rc rs 28 (locE p (nO (g :: (stl (rkM g) cs ws).2)) true v4) [] n h1 Q := q
    rw [en] at q2
    exact q2
  · intro p K cs ws at_ tq h0 h1 h
    intro hh v4 H I hy hn
    obtain ⟨wk0, hL, hb, hat, hp, ho0, hs0⟩ := I
    have wk : WFK L (a0 75) K := wk0
    have ho : oO ws = p := ho0
    have hs : St false ws := hs0
    clear wk0 ho0 hs0
    have we := wk.1
    have wf := wk.2.1
    have hb' : cs.length + ws.length + 3 ≤ K.2.1 := hb
    have hat' : at_ + 3 ≤ K.2.1 := hat
    clear hb hat
    have ho' : oO ws = p := ho
    exact m_turnN (K := K) (cs := cs) (ws := ws) (at_ := at_) (p := p) (tq := tq) H hL wk h9 rfl (by omega) (by omega) (by omega) hp (fun z => stl_0 ws (by omega)) (fun z => absurd z h0) (fun z => absurd z h0) (fun _ z => absurd z h1) (fun _ _ z1 z2 => absurd h (fun y => y.elim z1 z2)) (fun _ _ _ => hn rfl hh _ H rfl am_fp0)
