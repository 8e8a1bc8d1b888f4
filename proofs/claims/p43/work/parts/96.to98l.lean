abbrev C33 (tp : Nat → Int32) (K : Nat × Nat × Nat) (ws : List Int32) : Prop := K.1 = 3 ∧ tp K.2.1 = 33 ∧ nO ws < 8
abbrev C40 (tp : Nat → Int32) (K : Nat × Nat × Nat) (p : Nat) : Prop := K.1 = 3 ∧ tp K.2.1 = 40 ∧ p < 8
abbrev C41 (tp : Nat → Int32) (K : Nat × Nat × Nat) (p : Nat) : Prop := K.1 = 3 ∧ tp K.2.1 = 41 ∧ 0 < p
def tsV (g x : Int32) : Int32 := if rkM g = 3 ∨ (3 < rkM g ∧ ¬ x = 0) then 1 else 0
abbrev RT9 : Type := (Option (List Int32 × Nat)) × Nat
def TER (L : Nat) (tp : Nat → Int32) (y : Int32) (P : Bool → Nat → ES → RT9 → Prop) : Prop := (∀ (p : Nat) (K : Nat × Nat × Nat) (cs ws : List Int32) (at_ : Nat) (tq : Nat → Int32) (R : RT9), C33 tp K ws → P true p (adv L tp K, cs, (-10) :: ws, at_, tq) R → P true p (K, cs, ws, at_, tq) R) ∧ (∀ (p : Nat) (K : Nat × Nat × Nat) (cs ws : List Int32) (at_ : Nat) (tq : Nat → Int32) (R : RT9), ¬ C33 tp K ws → C40 tp K p → P true (p + 1) (adv L tp K, cs, (-11) :: ws, at_, upd tq (p + 1) 0) R → P true p (K, cs, ws, at_, tq) R) ∧ (∀ (p : Nat) (K : Nat × Nat × Nat) (cs ws : List Int32) (at_ : Nat) (tq : Nat → Int32) (R : RT9) (c : Int32), ¬ C33 tp K ws → ¬ C40 tp K p → ptO y tp K = some c → P false p (adv L tp K, (stl 6 (cs ++ [c]) ws).1, (stl 6 (cs ++ [c]) ws).2, at_ + 1, tq) R → P true p (K, cs, ws, at_, tq) R) ∧ (∀ (p : Nat) (K : Nat × Nat × Nat) (cs ws : List Int32) (at_ : Nat) (tq : Nat → Int32), ¬ C33 tp K ws → ¬ C40 tp K p → ptO y tp K = none → P true p (K, cs, ws, at_, tq) (none, K.2.1)) ∧ (∀ (p : Nat) (K : Nat × Nat × Nat) (cs ws : List Int32) (at_ : Nat) (tq : Nat → Int32), K.1 = 0 → p = 0 → P false p (K, cs, ws, at_, tq) (some ((stl 0 cs ws).1, at_), K.2.1)) ∧ (∀ (p : Nat) (K : Nat × Nat × Nat) (cs ws : List Int32) (at_ : Nat) (tq : Nat → Int32), K.1 = 0 → ¬ p = 0 → P false p (K, cs, ws, at_, tq) (none, K.2.1)) ∧ (∀ (p : Nat) (K : Nat × Nat × Nat) (cs ws : List Int32) (at_ : Nat) (tq : Nat → Int32) (R : RT9) (c1 w2 : List Int32), C41 tp K p → stl 0 cs ws = (c1, (-11) :: w2) → P false (p - 1) (adv L tp K, (stl 6 c1 w2).1, (stl 6 c1 w2).2, at_, tq) R → P false p (K, cs, ws, at_, tq) R) ∧ (∀ (p : Nat) (K : Nat × Nat × Nat) (cs ws : List Int32) (at_ : Nat) (tq : Nat → Int32) (R : RT9) (g : Int32), ¬ C41 tp K p → sgV K.1 (tp K.2.1) = g → ¬ g = 0 → ¬ (rkM g = 3 ∧ ¬ tq p = 0) → P true p (adv L tp K, (stl (rkM g) cs ws).1, g :: (stl (rkM g) cs ws).2, at_, upd tq p (tsV g (tq p))) R → P false p (K, cs, ws, at_, tq) R) ∧ (∀ (p : Nat) (K : Nat × Nat × Nat) (cs ws : List Int32) (at_ : Nat) (tq : Nat → Int32), ¬ K.1 = 0 → ¬ C41 tp K p → (sgV K.1 (tp K.2.1) = 0 ∨ (rkM (sgV K.1 (tp K.2.1)) = 3 ∧ ¬ tq p = 0)) → P false p (K, cs, ws, at_, tq) (none, K.2.1))
def TE (L : Nat) (tp : Nat → Int32) (y : Int32) (w : Bool) (p : Nat) (σ : ES) (R : RT9) : Prop := ∀ P, TER L tp y P → P w p σ R
theorem te_33 {L : Nat} {tp : Nat → Int32} {y : Int32} : ∀ (p : Nat) (K : Nat × Nat × Nat) (cs ws : List Int32) (at_ : Nat) (tq : Nat → Int32) (R : RT9), C33 tp K ws → TE L tp y true p (adv L tp K, cs, (-10) :: ws, at_, tq) R → TE L tp y true p (K, cs, ws, at_, tq) R := fun x0 x1 x2 x3 x4 x5 x6 h0 t P r => r.1 x0 x1 x2 x3 x4 x5 x6 h0 (t P r)
theorem te_40 {L : Nat} {tp : Nat → Int32} {y : Int32} : ∀ (p : Nat) (K : Nat × Nat × Nat) (cs ws : List Int32) (at_ : Nat) (tq : Nat → Int32) (R : RT9), ¬ C33 tp K ws → C40 tp K p → TE L tp y true (p + 1) (adv L tp K, cs, (-11) :: ws, at_, upd tq (p + 1) 0) R → TE L tp y true p (K, cs, ws, at_, tq) R := fun x0 x1 x2 x3 x4 x5 x6 h0 h1 t P r => r.2.1 x0 x1 x2 x3 x4 x5 x6 h0 h1 (t P r)
theorem te_pt {L : Nat} {tp : Nat → Int32} {y : Int32} : ∀ (p : Nat) (K : Nat × Nat × Nat) (cs ws : List Int32) (at_ : Nat) (tq : Nat → Int32) (R : RT9) (c : Int32), ¬ C33 tp K ws → ¬ C40 tp K p → ptO y tp K = some c → TE L tp y false p (adv L tp K, (stl 6 (cs ++ [c]) ws).1, (stl 6 (cs ++ [c]) ws).2, at_ + 1, tq) R → TE L tp y true p (K, cs, ws, at_, tq) R := fun x0 x1 x2 x3 x4 x5 x6 x7 h0 h1 h2 t P r => r.2.2.1 x0 x1 x2 x3 x4 x5 x6 x7 h0 h1 h2 (t P r)
theorem te_no {L : Nat} {tp : Nat → Int32} {y : Int32} : ∀ (p : Nat) (K : Nat × Nat × Nat) (cs ws : List Int32) (at_ : Nat) (tq : Nat → Int32), ¬ C33 tp K ws → ¬ C40 tp K p → ptO y tp K = none → TE L tp y true p (K, cs, ws, at_, tq) (none, K.2.1) := fun x0 x1 x2 x3 x4 x5 h0 h1 h2  P r => r.2.2.2.1 x0 x1 x2 x3 x4 x5 h0 h1 h2 
theorem te_E1 {L : Nat} {tp : Nat → Int32} {y : Int32} : ∀ (p : Nat) (K : Nat × Nat × Nat) (cs ws : List Int32) (at_ : Nat) (tq : Nat → Int32), K.1 = 0 → p = 0 → TE L tp y false p (K, cs, ws, at_, tq) (some ((stl 0 cs ws).1, at_), K.2.1) := fun x0 x1 x2 x3 x4 x5 h0 h1  P r => r.2.2.2.2.1 x0 x1 x2 x3 x4 x5 h0 h1 
theorem te_E0 {L : Nat} {tp : Nat → Int32} {y : Int32} : ∀ (p : Nat) (K : Nat × Nat × Nat) (cs ws : List Int32) (at_ : Nat) (tq : Nat → Int32), K.1 = 0 → ¬ p = 0 → TE L tp y false p (K, cs, ws, at_, tq) (none, K.2.1) := fun x0 x1 x2 x3 x4 x5 h0 h1  P r => r.2.2.2.2.2.1 x0 x1 x2 x3 x4 x5 h0 h1 
theorem te_41 {L : Nat} {tp : Nat → Int32} {y : Int32} : ∀ (p : Nat) (K : Nat × Nat × Nat) (cs ws : List Int32) (at_ : Nat) (tq : Nat → Int32) (R : RT9) (c1 w2 : List Int32), C41 tp K p → stl 0 cs ws = (c1, (-11) :: w2) → TE L tp y false (p - 1) (adv L tp K, (stl 6 c1 w2).1, (stl 6 c1 w2).2, at_, tq) R → TE L tp y false p (K, cs, ws, at_, tq) R := fun x0 x1 x2 x3 x4 x5 x6 x7 x8 h0 h1 t P r => r.2.2.2.2.2.2.1 x0 x1 x2 x3 x4 x5 x6 x7 x8 h0 h1 (t P r)
theorem te_sg {L : Nat} {tp : Nat → Int32} {y : Int32} : ∀ (p : Nat) (K : Nat × Nat × Nat) (cs ws : List Int32) (at_ : Nat) (tq : Nat → Int32) (R : RT9) (g : Int32), ¬ C41 tp K p → sgV K.1 (tp K.2.1) = g → ¬ g = 0 → ¬ (rkM g = 3 ∧ ¬ tq p = 0) → TE L tp y true p (adv L tp K, (stl (rkM g) cs ws).1, g :: (stl (rkM g) cs ws).2, at_, upd tq p (tsV g (tq p))) R → TE L tp y false p (K, cs, ws, at_, tq) R := fun x0 x1 x2 x3 x4 x5 x6 x7 h0 h1 h2 h3 t P r => r.2.2.2.2.2.2.2.1 x0 x1 x2 x3 x4 x5 x6 x7 h0 h1 h2 h3 (t P r)
theorem te_nn {L : Nat} {tp : Nat → Int32} {y : Int32} : ∀ (p : Nat) (K : Nat × Nat × Nat) (cs ws : List Int32) (at_ : Nat) (tq : Nat → Int32), ¬ K.1 = 0 → ¬ C41 tp K p → (sgV K.1 (tp K.2.1) = 0 ∨ (rkM (sgV K.1 (tp K.2.1)) = 3 ∧ ¬ tq p = 0)) → TE L tp y false p (K, cs, ws, at_, tq) (none, K.2.1) := fun x0 x1 x2 x3 x4 x5 h0 h1 h2  P r => r.2.2.2.2.2.2.2.2 x0 x1 x2 x3 x4 x5 h0 h1 h2 
def St : Bool → List Int32 → Prop
  | _, [] => True
  | b, w :: ws => (b = false → w ≠ -10) ∧ (if w = -10 ∨ w = -11 then St true ws else St false ws)
theorem st_w : ∀ {b : Bool} {ws : List Int32}, St b ws → St true ws := by
  intro b ws h
  cases ws with
  | nil => trivial
  | cons w ws => exact ⟨(fun z => by cases z), h.2⟩
theorem st_s {r : Int32} : ∀ (ws : List Int32) {b : Bool} {cs : List Int32}, St b ws → St true (stl r cs ws).2 := by
  intro ws
  induction ws with
  | nil => intro b cs h; trivial
  | cons w ws ih =>
    intro b cs h
    unfold stl
    split
    · exact st_w h
    · have h2 := h.2
      split at h2
      · exact ih h2
      · exact ih h2
theorem st_6 : ∀ (ws : List Int32) {b : Bool} {cs : List Int32}, St b ws → St false (stl 6 cs ws).2 := by
  intro ws
  induction ws with
  | nil => intro b cs h; trivial
  | cons w ws ih =>
    intro b cs h
    unfold stl
    split
    · rename_i hs
      exact ⟨fun _ e => by subst e; exact absurd hs (by decide), h.2⟩
    · have h2 := h.2
      split at h2
      · exact ih h2
      · exact ih h2
theorem st_r {r : Int32} : ∀ (ws : List Int32) {cs : List Int32}, St false ws → St false (stl r cs ws).2 ∧ nO (stl r cs ws).2 = nO ws := by
  intro ws
  induction ws with
  | nil => intro cs h; exact ⟨trivial, rfl⟩
  | cons w ws ih =>
    intro cs h
    unfold stl
    split
    · exact ⟨h, rfl⟩
    · rename_i hs
      have h1 := h.1 rfl
      have h2 := h.2
      rw [if_neg (fun z => z.elim h1 (fun y => hs (Or.inl y)))] at h2
      have q := ih (cs := cs ++ [w]) h2
      refine ⟨q.1, q.2.trans ?_⟩
      show nO ws = (if w = -10 then 1 else 0) + nO ws
      rw [if_neg h1, Nat.zero_add]
def oO : List Int32 → Nat
  | [] => 0
  | w :: ws => (if w = -11 then 1 else 0) + oO ws
theorem oO_s {r : Int32} : ∀ (ws : List Int32) {cs : List Int32}, oO (stl r cs ws).2 = oO ws := by
  intro ws
  induction ws with
  | nil => intro cs; rfl
  | cons w ws ih =>
    intro cs
    unfold stl
    split
    · rfl
    · rename_i hs
      rw [ih]
      show oO ws = (if w = -11 then 1 else 0) + oO ws
      rw [if_neg (fun z => hs (Or.inl z)), Nat.zero_add]
theorem rkM_p (x : Int32) : ¬ rkM x < 0 := by
  unfold rkM
  repeat' split
  all_goals decide
theorem stl_0 : ∀ (ws : List Int32) {cs : List Int32}, 0 < oO ws → ∃ c1 w2, stl 0 cs ws = (c1, (-11) :: w2) := by
  intro ws
  induction ws with
  | nil => intro cs h; exact absurd h (by decide)
  | cons w ws ih =>
    intro cs h
    unfold stl
    split
    · rename_i hs
      rcases hs with e | e
      · exact ⟨cs, ws, by rw [e]⟩
      · exact absurd e (rkM_p w)
    · rename_i hs
      refine ih ?_
      have z : 0 < (if w = -11 then 1 else 0) + oO ws := h
      rw [if_neg (fun y => hs (Or.inl y)), Nat.zero_add] at z
      exact z
theorem sgm_n (b : Int32) : sgm b ≠ -10 ∧ sgm b ≠ -11 := by
  unfold sgm
  repeat' split
  all_goals decide
theorem sgV_n (t : Nat) (b : Int32) : sgV t b ≠ -10 ∧ sgV t b ≠ -11 := by
  unfold sgV
  split
  · exact sgm_n b
  · decide
theorem pt_tok {y : Int32} {tp : Nat → Int32} {K : Nat × Nat × Nat} {c : Int32} (h : ptO y tp K = some c) : K.1 = 1 ∨ K.1 = 2 := by
  unfold ptO at h
  split at h
  · exact Or.inr (by assumption)
  · unfold nmK at h
    split at h
    · rename_i h2; exact Or.inl h2.1
    · cases h
def IV (L : Nat) (tp : Nat → Int32) (w : Bool) (p : Nat) (σ : ES) : Prop := WFK L tp σ.1 ∧ L ≤ 96 ∧ σ.2.1.length + σ.2.2.1.length + 3 ≤ σ.1.2.1 ∧ σ.2.2.2.1 + 3 ≤ σ.1.2.1 ∧ p ≤ 8 ∧ oO σ.2.2.1 = p ∧ St w σ.2.2.1
def locE (p k : Nat) (w : Bool) (v4 : Option Value) : List (Option Value) := [some (.ref 69), some (.int (nI p)), some (.int (nI k)), some (.int (if w = true then 1 else 0)), v4]
theorem adv_up {L : Nat} {tp : Nat → Int32} {K : Nat × Nat × Nat} (wk : WFK L tp K) (h : K.1 ≠ 0) : WFK L tp (adv L tp K) ∧ K.2.1 + 1 ≤ (adv L tp K).2.1 := by
  have a := adv_wf wk
  have b := wk.2.2.2.2.2.1 h
  exact ⟨a.1, by have c := a.2; omega⟩
set_option maxHeartbeats 4000000 in
theorem m_loop {X : List Int32} {d rc rs n : Nat} {Q : am_Q} {L : Nat} {o0 N : Nat → Int32} {a0 : Nat → Nat → Int32} (h9 : o0 9 = nI L) {w : Bool} {p : Nat} {σ : ES} {R : RT9} (t : TE L (a0 75) (o0 15) w p σ R) : ∀ (h : am_H) (v4 : Option Value), EX σ L o0 N a0 h → IV L (a0 75) w p σ → (∀ h9 σ9, EX σ9 L o0 N a0 h9 → σ9.1.2.1 = R.2 → R.1 = some (σ9.2.1, σ9.2.2.2.1) → am_fp (fun k => k < 69 ∨ 92 ≤ k) h9 h → Q (some (.int 1)) n h9) → (R.1 = none → ∀ h9 σ9, EX σ9 L o0 N a0 h9 → σ9.1.2.1 = R.2 → am_fp (fun k => k < 69 ∨ 92 ≤ k) h9 h → Q (some (.int 0)) n h9) → AW X mX8_takesE (d + 4) rc rs 28 (locE p (nO σ.2.2.1) w v4) [] n h Q := by
  refine t (fun w p σ R => ∀ (h : am_H) (v4 : Option Value), EX σ L o0 N a0 h → IV L (a0 75) w p σ → (∀ h9 σ9, EX σ9 L o0 N a0 h9 → σ9.1.2.1 = R.2 → R.1 = some (σ9.2.1, σ9.2.2.2.1) → am_fp (fun k => k < 69 ∨ 92 ≤ k) h9 h → Q (some (.int 1)) n h9) → (R.1 = none → ∀ h9 σ9, EX σ9 L o0 N a0 h9 → σ9.1.2.1 = R.2 → am_fp (fun k => k < 69 ∨ 92 ≤ k) h9 h → Q (some (.int 0)) n h9) → AW X mX8_takesE (d + 4) rc rs 28 (locE p (nO σ.2.2.1) w v4) [] n h Q) ⟨?_, ?_, ?_, ?_, ?_, ?_, ?_, ?_, ?_⟩
  · intro p K cs ws at_ tq R h ih
    intro h0 v4 H I hy hn
    obtain ⟨wk0, hL, hb, hat, hp, ho0, hs0⟩ := I
    have wk : WFK L (a0 75) K := wk0
    have ho : oO ws = p := ho0
    have hs : St true ws := hs0
    clear wk0 ho0 hs0
    have we := wk.1
    have wf := wk.2.1
    have hb' : cs.length + ws.length + 3 ≤ K.2.1 := hb
    have hat' : at_ + 3 ≤ K.2.1 := hat
    clear hb hat
    have hu := adv_up wk (by have z := h.1; omega)
    refine m_turnW (K := K) (cs := cs) (ws := ws) (at_ := at_) (p := p) (tq := tq) H hL wk h9 (by omega) (by omega) hp (fun _ v4 h1 H1 f1 => ?_) (fun z => absurd h z) (fun z => absurd h z) (fun z => absurd h z)
    refine ih h1 v4 H1 ⟨hu.1, hL, ?_, ?_, hp, ?_, ?_⟩ (fun h2 σ9 q1 q2 q3 q4 => hy h2 σ9 q1 q2 q3 (am_fpT q4 f1)) (fun z h2 σ9 q1 q2 q4 => hn z h2 σ9 q1 q2 (am_fpT q4 f1))
    · show cs.length + (ws.length + 1) + 3 ≤ (adv L (a0 75) K).2.1; omega
    · show at_ + 3 ≤ (adv L (a0 75) K).2.1; omega
    · show (if (-10 : Int32) = -11 then 1 else 0) + oO ws = p; rw [if_neg (by decide), Nat.zero_add]; exact ho
    · exact ⟨(fun z => by cases z), by rw [if_pos (Or.inl rfl)]; exact hs⟩
  · intro p K cs ws at_ tq R h1 h ih
    intro h0 v4 H I hy hn
    obtain ⟨wk0, hL, hb, hat, hp, ho0, hs0⟩ := I
    have wk : WFK L (a0 75) K := wk0
    have ho : oO ws = p := ho0
    have hs : St true ws := hs0
    clear wk0 ho0 hs0
    have we := wk.1
    have wf := wk.2.1
    have hb' : cs.length + ws.length + 3 ≤ K.2.1 := hb
    have hat' : at_ + 3 ≤ K.2.1 := hat
    clear hb hat
    have hu := adv_up wk (by have z := h.1; omega)
    have hp8 := h.2.2
    refine m_turnW (K := K) (cs := cs) (ws := ws) (at_ := at_) (p := p) (tq := tq) H hL wk h9 (by omega) (by omega) hp (fun z => absurd z h1) (fun _ _ v4 h1 H1 f1 => ?_) (fun _ z => absurd h z) (fun _ z => absurd h z)
    refine ih h1 v4 H1 ⟨hu.1, hL, ?_, ?_, by omega, ?_, ?_⟩ (fun h2 σ9 q1 q2 q3 q4 => hy h2 σ9 q1 q2 q3 (am_fpT q4 f1)) (fun z h2 σ9 q1 q2 q4 => hn z h2 σ9 q1 q2 (am_fpT q4 f1))
    · show cs.length + (ws.length + 1) + 3 ≤ (adv L (a0 75) K).2.1; omega
    · show at_ + 3 ≤ (adv L (a0 75) K).2.1; omega
    · show (if (-11 : Int32) = -11 then 1 else 0) + oO ws = p + 1; rw [if_pos rfl, Nat.add_comm]; exact congrArg (· + 1) ho
    · exact ⟨(fun z => by cases z), by rw [if_pos (Or.inr rfl)]; exact hs⟩
  · intro p K cs ws at_ tq R c h1 h2 h ih
    intro h0 v4 H I hy hn
    obtain ⟨wk0, hL, hb, hat, hp, ho0, hs0⟩ := I
    have wk : WFK L (a0 75) K := wk0
    have ho : oO ws = p := ho0
    have hs : St true ws := hs0
    clear wk0 ho0 hs0
    have we := wk.1
    have wf := wk.2.1
    have hb' : cs.length + ws.length + 3 ≤ K.2.1 := hb
    have hat' : at_ + 3 ≤ K.2.1 := hat
    clear hb hat
    have hu := adv_up wk (by have z := pt_tok h; omega)
    have hl := stl_len (r := 6) ws (cs ++ [c])
    rw [List.length_append, List.length_singleton] at hl
    refine m_turnW (K := K) (cs := cs) (ws := ws) (at_ := at_) (p := p) (tq := tq) H hL wk h9 (by omega) (by omega) hp (fun z => absurd z h1) (fun _ z => absurd z h2) (fun _ _ c2 e2 v4 h1 H1 f1 => ?_) (fun _ _ z => absurd (h.symm.trans z) (by simp))
    obtain rfl : c = c2 := Option.some.inj (h.symm.trans e2)
    refine ih h1 v4 H1 ⟨hu.1, hL, ?_, ?_, hp, ?_, ?_⟩ (fun h2 σ9 q1 q2 q3 q4 => hy h2 σ9 q1 q2 q3 (am_fpT q4 f1)) (fun z h2 σ9 q1 q2 q4 => hn z h2 σ9 q1 q2 (am_fpT q4 f1))
    · show (stl 6 (cs ++ [c]) ws).1.length + (stl 6 (cs ++ [c]) ws).2.length + 3 ≤ (adv L (a0 75) K).2.1; omega
    · show at_ + 1 + 3 ≤ (adv L (a0 75) K).2.1; omega
    · show oO (stl 6 (cs ++ [c]) ws).2 = p; rw [oO_s]; exact ho
    · exact st_6 ws hs
  · intro p K cs ws at_ tq h1 h2 h
    intro h0 v4 H I hy hn
    obtain ⟨wk0, hL, hb, hat, hp, ho0, hs0⟩ := I
    have wk : WFK L (a0 75) K := wk0
    have ho : oO ws = p := ho0
    have hs : St true ws := hs0
    clear wk0 ho0 hs0
    have we := wk.1
    have wf := wk.2.1
    have hb' : cs.length + ws.length + 3 ≤ K.2.1 := hb
    have hat' : at_ + 3 ≤ K.2.1 := hat
    clear hb hat
    exact m_turnW (K := K) (cs := cs) (ws := ws) (at_ := at_) (p := p) (tq := tq) H hL wk h9 (by omega) (by omega) hp (fun z => absurd z h1) (fun _ z => absurd z h2) (fun _ _ c2 e2 => absurd (h.symm.trans e2) (by simp)) (fun _ _ _ => hn rfl h0 _ H rfl am_fp0)
  · intro p K cs ws at_ tq h0 hp0
    intro hh v4 H I hy hn
    obtain ⟨wk0, hL, hb, hat, hp, ho0, hs0⟩ := I
    have wk : WFK L (a0 75) K := wk0
    have ho : oO ws = p := ho0
    have hs : St false ws := hs0
    clear wk0 ho0 hs0
    have we := wk.1
    have wf := wk.2.1
    have hb' : cs.length + ws.length + 3 ≤ K.2.1 := hb
    have hat' : at_ + 3 ≤ K.2.1 := hat
    clear hb hat
    exact m_turnN (K := K) (cs := cs) (ws := ws) (at_ := at_) (p := p) (tq := tq) H hL wk h9 rfl (by omega) (by omega) (by omega) hp (fun z => by omega) (fun _ _ h1 H1 f1 => hy h1 _ H1 rfl rfl f1) (fun _ z => absurd hp0 z) (fun z => absurd h0 z) (fun z => absurd h0 z) (fun z => absurd h0 z)
  · intro p K cs ws at_ tq h0 hp0
    intro hh v4 H I hy hn
    obtain ⟨wk0, hL, hb, hat, hp, ho0, hs0⟩ := I
    have wk : WFK L (a0 75) K := wk0
    have ho : oO ws = p := ho0
    have hs : St false ws := hs0
    clear wk0 ho0 hs0
    have we := wk.1
    have wf := wk.2.1
    have hb' : cs.length + ws.length + 3 ≤ K.2.1 := hb
    have hat' : at_ + 3 ≤ K.2.1 := hat
    clear hb hat
    have ho' : oO ws = p := ho
    exact m_turnN (K := K) (cs := cs) (ws := ws) (at_ := at_) (p := p) (tq := tq) H hL wk h9 rfl (by omega) (by omega) (by omega) hp (fun z => stl_0 ws (by omega)) (fun _ z => absurd z hp0) (fun _ _ h1 H1 f1 => hn rfl h1 _ H1 rfl f1) (fun z => absurd h0 z) (fun z => absurd h0 z) (fun z => absurd h0 z)
  · intro p K cs ws at_ tq R c1 w2 h e ih
    intro hh v4 H I hy hn
    obtain ⟨wk0, hL, hb, hat, hp, ho0, hs0⟩ := I
    have wk : WFK L (a0 75) K := wk0
    have ho : oO ws = p := ho0
    have hs : St false ws := hs0
    clear wk0 ho0 hs0
    have we := wk.1
    have wf := wk.2.1
    have hb' : cs.length + ws.length + 3 ≤ K.2.1 := hb
    have hat' : at_ + 3 ≤ K.2.1 := hat
    clear hb hat
    have ho' : oO ws = p := ho
    have hk := h.1
    have hu := adv_up wk (by omega)
    have hl := stl_len (r := 0) ws cs
    rw [e] at hl
    have hl' : c1.length + (w2.length + 1) = cs.length + ws.length := hl
    have hl2 := stl_len (r := 6) w2 c1
    have hoo := oO_s (r := 0) ws (cs := cs)
    rw [e] at hoo
    have hoo' : (if (-11 : Int32) = -11 then 1 else 0) + oO w2 = oO ws := hoo
    rw [if_pos rfl] at hoo'
    have hst := st_s (r := 0) (cs := cs) ws hs
    rw [e] at hst
    have hst2 : St true w2 := by have z := hst.2; rw [if_pos (Or.inr rfl)] at z; exact z
    refine m_turnN (K := K) (cs := cs) (ws := ws) (at_ := at_) (p := p) (tq := tq) H hL wk h9 rfl (by omega) (by omega) (by omega) hp (fun z => stl_0 ws (by omega)) (fun z => absurd z (by omega)) (fun z => absurd z (by omega)) (fun _ _ c3 w3 e3 v4 h1 H1 f1 => ?_) (fun _ z => absurd h z) (fun _ z => absurd h z)
    obtain ⟨rfl, rfl⟩ : c3 = c1 ∧ w3 = w2 := by
      have z := e3.symm.trans e
      exact ⟨congrArg Prod.fst z, (List.cons.inj (congrArg Prod.snd z)).2⟩
    refine ih h1 v4 H1 ⟨hu.1, hL, ?_, ?_, by omega, ?_, ?_⟩ (fun h2 σ9 q1 q2 q3 q4 => hy h2 σ9 q1 q2 q3 (am_fpT q4 f1)) (fun z h2 σ9 q1 q2 q4 => hn z h2 σ9 q1 q2 (am_fpT q4 f1))
    · show (stl 6 c3 w3).1.length + (stl 6 c3 w3).2.length + 3 ≤ (adv L (a0 75) K).2.1; omega
    · show at_ + 3 ≤ (adv L (a0 75) K).2.1; omega
    · show oO (stl 6 c3 w3).2 = p - 1; rw [oO_s]; omega
    · exact st_6 w3 hst2
  · intro p K cs ws at_ tq R g h1 hg hg0 ht ih
    intro hh v4 H I hy hn
    obtain ⟨wk0, hL, hb, hat, hp, ho0, hs0⟩ := I
    have wk : WFK L (a0 75) K := wk0
    have ho : oO ws = p := ho0
    have hs : St false ws := hs0
    clear wk0 ho0 hs0
    have we := wk.1
    have wf := wk.2.1
    have hb' : cs.length + ws.length + 3 ≤ K.2.1 := hb
    have hat' : at_ + 3 ≤ K.2.1 := hat
    clear hb hat
    have ho' : oO ws = p := ho
    have hk : K.1 = 3 := sg_3 (y := a0 75 K.2.1) (by rw [hg]; exact hg0)
    have hu := adv_up wk (by omega)
    have hl := stl_len (r := rkM g) ws cs
    have hr := st_r (r := rkM g) ws (cs := cs) hs
    have hgn : g ≠ -10 ∧ g ≠ -11 := hg ▸ sgV_n K.1 (a0 75 K.2.1)
    refine m_turnN (K := K) (cs := cs) (ws := ws) (at_ := at_) (p := p) (tq := tq) H hL wk h9 hg (by omega) (by omega) (by omega) hp (fun z => stl_0 ws (by omega)) (fun z => absurd z (by omega)) (fun z => absurd z (by omega)) (fun _ z => absurd z h1) (fun _ _ _ _ tv etv v4 h1 H1 f1 => ?_) (fun _ _ z => absurd z (fun y => y.elim hg0 ht))
    have etv' : tv = tsV g (tq p) := etv
    subst etv'
    have en : nO (g :: (stl (rkM g) cs ws).2) = nO ws := by
      show (if g = -10 then 1 else 0) + nO (stl (rkM g) cs ws).2 = nO ws
      rw [if_neg hgn.1, Nat.zero_add]; exact hr.2
    have q := ih h1 v4 H1 ⟨hu.1, hL, by show (stl (rkM g) cs ws).1.length + ((stl (rkM g) cs ws).2.length + 1) + 3 ≤ (adv L (a0 75) K).2.1; omega, by show at_ + 3 ≤ (adv L (a0 75) K).2.1; omega, hp, by show (if g = -11 then 1 else 0) + oO (stl (rkM g) cs ws).2 = p; rw [if_neg hgn.2, Nat.zero_add, oO_s]; exact ho, ⟨(fun z => by cases z), by rw [if_neg (fun z => z.elim hgn.1 hgn.2)]; exact hr.1⟩⟩ (fun h2 σ9 q1 q2 q3 q4 => hy h2 σ9 q1 q2 q3 (am_fpT q4 f1)) (fun z h2 σ9 q1 q2 q4 => hn z h2 σ9 q1 q2 (am_fpT q4 f1))
    have q2 : AW X mX8_takesE (d + 4) rc rs 28 (locE p (nO (g :: (stl (rkM g) cs ws).2)) true v4) [] n h1 Q := q
    rw [en] at q2
    exact q2
  · intro p K cs ws at_ tq h0 h1 h
    intro hh v4 H I hy hn
    obtain ⟨wk0, hL, hb, hat, hp, ho0, hs0⟩ := I
    have wk : WFK L (a0 75) K := wk0
    have ho : oO ws = p := ho0
    have hs : St false ws := hs0
    clear wk0 ho0 hs0
    have we := wk.1
    have wf := wk.2.1
    have hb' : cs.length + ws.length + 3 ≤ K.2.1 := hb
    have hat' : at_ + 3 ≤ K.2.1 := hat
    clear hb hat
    have ho' : oO ws = p := ho
    exact m_turnN (K := K) (cs := cs) (ws := ws) (at_ := at_) (p := p) (tq := tq) H hL wk h9 rfl (by omega) (by omega) (by omega) hp (fun z => stl_0 ws (by omega)) (fun z => absurd z h0) (fun z => absurd z h0) (fun _ z => absurd z h1) (fun _ _ z1 z2 => absurd h (fun y => y.elim z1 z2)) (fun _ _ _ => hn rfl hh _ H rfl am_fp0)
set_option maxHeartbeats 4000000 in
set_option maxRecDepth 100000 in
theorem m_takesE {X : List Int32} {d rc rs n : Nat} {Q : am_Q} {L : Nat} {N : Nat → Int32} {a : Nat → Nat → Int32} {o : Nat → Int32} {h : am_H} (F : MR o N a h) (h9 : o 9 = nI L) (hL : L ≤ 96) {K : Nat × Nat × Nat} {R : RT9} (vk : VK L (a 75) K o) (wk : WFK L (a 75) K) (h3 : 3 ≤ K.2.1) (t : TE L (a 75) (o 15) true 0 (K, [], [], 0, upd (a 80) 0 0) R) (hy : ∀ h9 σ9, EX σ9 L o N a h9 → σ9.1.2.1 = R.2 → R.1 = some (σ9.2.1, σ9.2.2.2.1) → am_fp (fun k => k < 69 ∨ 92 ≤ k) h9 h → Q (some (.int 1)) n h9) (hn : R.1 = none → ∀ h9 σ9, EX σ9 L o N a h9 → σ9.1.2.1 = R.2 → am_fp (fun k => k < 69 ∨ 92 ≤ k) h9 h → Q (some (.int 0)) n h9) : AW X mX8_takesE (d + 4) rc rs 0 [some (.ref 69), none, none, none, none] [] n h Q := by
  refine aw_iconst (npc := 1) (v := 0) (by decide) dX8_takesE_0 rfl ?_
  refine aw_istore_n (npc := 2) (L' := [some (.ref 69), some (.int 0), none, none, none]) dX8_takesE_1 rfl (by decide) rfl rfl ?_
  refine aw_iconst (npc := 3) (v := 0) (by decide) dX8_takesE_2 rfl ?_
  refine aw_istore_n (npc := 4) (L' := [some (.ref 69), some (.int 0), some (.int 0), none, none]) dX8_takesE_3 rfl (by decide) rfl rfl ?_
  refine aw_iconst (npc := 5) (v := 1) (by decide) dX8_takesE_4 rfl ?_
  refine aw_istore_n (npc := 6) (L' := [some (.ref 69), some (.int 0), some (.int 0), some (.int 1), none]) dX8_takesE_5 rfl (by decide) rfl rfl ?_
  refine aw_aload_n (npc := 7) rfl dX8_takesE_6 rfl ?_
  refine aw_iconst (npc := 8) (v := 0) (by decide) dX8_takesE_7 rfl ?_
  refine aw_put (npc := 11) dX8_takesE_8 rfl kf_X8_228 F.1 (Nat.le_of_ble_eq_true rfl) (am_ok_int _) rfl ?_
  have F1 := mr_o19 (v := 0) F
  refine aw_aload_n (npc := 12) rfl dX8_takesE_11 rfl ?_
  refine aw_iconst (npc := 13) (v := 0) (by decide) dX8_takesE_12 rfl ?_
  refine aw_put (npc := 16) dX8_takesE_13 rfl kf_X8_234 F1.1 (Nat.le_of_ble_eq_true rfl) (am_ok_int _) rfl ?_
  have F2 := mr_o20 (v := 0) F1
  refine aw_aload_n (npc := 17) rfl dX8_takesE_16 rfl ?_
  refine aw_iconst (npc := 18) (v := 0) (by decide) dX8_takesE_17 rfl ?_
  refine aw_put (npc := 21) dX8_takesE_18 rfl kf_X8_222 F2.1 (Nat.le_of_ble_eq_true rfl) (am_ok_int _) rfl ?_
  have F3 := mr_o22 (v := 0) F2
  refine aw_aload_n (npc := 22) rfl dX8_takesE_21 rfl ?_
  refine aw_get (npc := 25) dX8_takesE_22 rfl kf_X8_45 F3.1 rfl ?_
  refine aw_iconst (npc := 26) (v := 0) (by decide) dX8_takesE_25 rfl ?_
  refine aw_iconst (npc := 27) (v := 0) (by decide) dX8_takesE_26 rfl ?_
  refine aw_zast (npc := 28) (j := 0) dX8_takesE_27 rfl F3.2.2.2.2.2.2.2.2.2.2.2.1 ⟨by decide, by decide⟩ (by rw [tl_len]; omega) (show vp_nar .boolean 0 = 0 by decide) rfl ?_
  have F4 := mr_80 (j := 0) (v := 0) F3
  refine aw_locs (L' := locE 0 (nO []) true none) rfl ?_
  refine m_loop (o0 := o) (a0 := a) h9 t _ none ⟨_, _, F4, ⟨(vk_u (by decide) (vk_u (by decide) (vk_u (by decide) vk))), ((((pk_un (by omega))).trans (pk_un (by omega))).trans pk_us), (((pk_un (by omega))).trans pk_us), (pk_us), (fun j hj => absurd hj (Nat.not_lt_zero j)), (fun j hj => absurd hj (Nat.not_lt_zero j)), (fun k hk => congrFun aup_eq k)⟩, (fun k k1 k2 k3 k4 => (pk_un k4).trans ((pk_un k3).trans ((pk_un k2).trans (rfl)))), (fun k k1 k2 k3 => aup_n k3)⟩ ⟨wk, hL, h3, h3, Nat.zero_le _, rfl, trivial⟩ (fun h9 σ9 q1 q2 q3 q4 => hy h9 σ9 q1 q2 q3 (am_fpT q4 (am_fpU (show ¬ (80 < 69 ∨ 92 ≤ 80) by omega) (am_fpU (show ¬ (69 < 69 ∨ 92 ≤ 69) by omega) (am_fpU (show ¬ (69 < 69 ∨ 92 ≤ 69) by omega) (am_fpU (show ¬ (69 < 69 ∨ 92 ≤ 69) by omega) am_fp0)))))) (fun z h9 σ9 q1 q2 q4 => hn z h9 σ9 q1 q2 (am_fpT q4 (am_fpU (show ¬ (80 < 69 ∨ 92 ≤ 80) by omega) (am_fpU (show ¬ (69 < 69 ∨ 92 ≤ 69) by omega) (am_fpU (show ¬ (69 < 69 ∨ 92 ≤ 69) by omega) (am_fpU (show ¬ (69 < 69 ∨ 92 ≤ 69) by omega) am_fp0))))))
def cpN (N : Nat → Int32) (c : Nat) (cs : List Int32) (i : Nat) : Nat → Int32 := fun k => if 90 + 96 * c ≤ k ∧ k < 90 + 96 * c + i then cs.getD (k - (90 + 96 * c)) 0 else N k
theorem cpN_0 {N : Nat → Int32} {c : Nat} {cs : List Int32} : cpN N c cs 0 = N := by
  funext k
  exact if_neg (by omega)
theorem cpN_s {N : Nat → Int32} {c i : Nat} {cs : List Int32} : upd (cpN N c cs i) (90 + 96 * c + i) (cs.getD i 0) = cpN N c cs (i + 1) := by
  funext k
  by_cases e : k = 90 + 96 * c + i
  · subst e
    rw [pk_us]
    unfold cpN
    rw [if_pos ⟨by omega, by omega⟩, show 90 + 96 * c + i - (90 + 96 * c) = i by omega]
  · rw [pk_un e]
    unfold cpN
    by_cases q : 90 + 96 * c ≤ k ∧ k < 90 + 96 * c + i
    · rw [if_pos q, if_pos ⟨q.1, by omega⟩]
    · rw [if_neg q, if_neg (by omega)]
def txN (N : Nat → Int32) (c j : Nat) (cs : List Int32) (at_ : Nat) : Nat → Int32 := upd (cpN (upd (upd N (62 + 2 * c) (nI (1000 * j + cs.length))) (63 + 2 * c) (nI at_)) c cs cs.length) 7 (nI (c + 1))
def oX (o9 o : Nat → Int32) : Prop := ∀ k, (k < 9 ∨ 15 < k) → k ≠ 19 → k ≠ 20 → k ≠ 22 → o9 k = o k
def FAILm (Q : am_Q) (n : Nat) (o N : Nat → Int32) (a : Nat → Nat → Int32) (h : am_H) (v : Int32) : Prop := ∀ o9 a9 h9, MR o9 N a9 h9 → o9 9 = 0 → oX o9 o → aE a9 a → am_fp (fun k => k < 69 ∨ 92 ≤ k) h9 h → Q (some (.int v)) n h9
def SUCCm (Q : am_Q) (n : Nat) (o N : Nat → Int32) (a : Nat → Nat → Int32) (h : am_H) (c j : Nat) (cs : List Int32) (at_ : Nat) : Prop := ∀ o9 a9 h9, MR o9 (txN N c j cs at_) a9 h9 → o9 9 = 0 → oX o9 o → aE a9 a → am_fp (fun k => k < 69 ∨ 92 ≤ k) h9 h → Q (some (.int (nI c))) n h9
set_option maxHeartbeats 4000000 in
set_option maxRecDepth 100000 in
theorem m_txL {X : List Int32} {d rc rs n : Nat} {Q : am_Q} {L : Nat} {N : Nat → Int32} {a : Nat → Nat → Int32} {o : Nat → Int32} {c : Nat} {cs : List Int32} {v1 : Int32} (hc : c < 14) (hl : cs.length ≤ 96) (m19 : o 19 = nI cs.length) (mc : ∀ j, j < cs.length → a 78 j = cs.getD j 0) : ∀ (m i : Nat), i + m = cs.length → ∀ (h : am_H), MR o (cpN N c cs i) a h → (∀ h9, MR o (cpN N c cs cs.length) a h9 → am_fp (fun k => k < 69 ∨ 92 ≤ k) h9 h → AW X mX8_text (d + 5) rc rs 151 [some (.ref 69), some (.int v1), some (.int (nI c)), some (.int (nI cs.length))] [] n h9 Q) → AW X mX8_text (d + 5) rc rs 117 [some (.ref 69), some (.int v1), some (.int (nI c)), some (.int (nI i))] [] n h Q := by
  intro m
  induction m with
  | zero =>
    intro i hi h F hq
    have hiw : i = cs.length := by omega
    rw [hiw] at F ⊢
    refine aw_iload_n (npc := 118) rfl dX8_text_117 rfl ?_
    refine aw_aload_n (npc := 119) rfl dX8_text_118 rfl ?_
    refine aw_get (npc := 122) dX8_text_119 rfl kf_X8_228 F.1 rfl ?_
    refine aw_top (y := nI cs.length) (m19) ?_
    refine aw_icmp_ge (npc := 125) (tgt := 151) dX8_text_122 rfl (by decide) (fun _ => ?_) (fun hc => absurd (nI_le (a := cs.length) (b := cs.length) (by omega) (by omega)) hc)
    exact hq _ F am_fp0
  | succ m ih =>
    intro i hi h F hq
    refine aw_iload_n (npc := 118) rfl dX8_text_117 rfl ?_
    refine aw_aload_n (npc := 119) rfl dX8_text_118 rfl ?_
    refine aw_get (npc := 122) dX8_text_119 rfl kf_X8_228 F.1 rfl ?_
    refine aw_top (y := nI cs.length) (m19) ?_
    refine aw_icmp_ge (npc := 125) (tgt := 151) dX8_text_122 rfl (by decide) (fun hc => absurd hc (nI_ge (a := i) (b := cs.length) (by omega) (by omega))) (fun _ => ?_)
    refine aw_aload_n (npc := 126) rfl dX8_text_125 rfl ?_
    refine aw_get (npc := 129) dX8_text_126 rfl kf_X8_9 F.1 rfl ?_
    refine aw_bipush (npc := 131) (v := 90) (by decide) dX8_text_129 rfl ?_
    refine aw_bipush (npc := 133) (v := 96) (by decide) dX8_text_131 rfl ?_
    refine aw_iload_n (npc := 134) rfl dX8_text_133 rfl ?_
    refine aw_imulV (npc := 135) (v := nI (96 * c)) dX8_text_134 rfl (pk_mul 96 _) ?_
    refine aw_iaddV (npc := 136) (v := nI (90 + (96 * c))) dX8_text_135 rfl (nI_add 90 _) ?_
    refine aw_iload_n (npc := 137) rfl dX8_text_136 rfl ?_
    refine aw_iaddV (npc := 138) (v := nI ((90 + (96 * c)) + i)) dX8_text_137 rfl (nI_add _ _) ?_
    refine aw_aload_n (npc := 139) rfl dX8_text_138 rfl ?_
    refine aw_get (npc := 142) dX8_text_139 rfl kf_X8_39 F.1 rfl ?_
    refine aw_iload_n (npc := 143) rfl dX8_text_142 rfl ?_
    refine aw_iald (npc := 144) (x := (a 78) i) (j := i) dX8_text_143 rfl F.2.2.2.2.2.2.2.2.2.1 (am_ix_nI (by omega)) (tl_at (by omega)) ?_
    refine aw_top (y := cs.getD i 0) (mc i (by omega)) ?_
    refine aw_iast (npc := 145) (j := ((90 + (96 * c)) + i)) dX8_text_144 rfl F.2.1 (am_ix_nI (by omega)) (by rw [tl_len]; omega) rfl ?_
    have F2 := mr_70 (j := ((90 + (96 * c)) + i)) (v := cs.getD i 0) F
    refine aw_iinc (npc := 148) (v := nI (i + 1)) (L' := [some (.ref 69), some (.int v1), some (.int (nI c)), some (.int (nI (i + 1)))]) dX8_text_145 rfl rfl (nI_1 _) (by decide) rfl rfl ?_
    refine aw_goto (npc := 117) dX8_text_148 (by decide) ?_
    have hN := F2
    rw [cpN_s] at hN
    exact ih (i + 1) (by omega) _ hN (fun h9 M9 f9 => hq h9 M9 (am_fpT f9 (am_fpU (show ¬ (70 < 69 ∨ 92 ≤ 70) by omega) am_fp0)))
set_option maxHeartbeats 4000000 in
set_option maxRecDepth 100000 in
theorem m_text {X : List Int32} {d rc rs n : Nat} {Q : am_Q} {L : Nat} {N : Nat → Int32} {a : Nat → Nat → Int32} {o : Nat → Int32} {h : am_H} (F : MR o N a h) (h9 : o 9 = nI L) (hL : L ≤ 96) {c : Nat} {R0 R1 R2 : RT9} (hc : N 7 = nI c) (hc14 : c ≤ 14) (kN : ((nx L (a 75) 0 false).1 = 1 → ¬ kz0 (a 75) (nx L (a 75) 0 false).2.1 (nx L (a 75) 0 false).2.2 ∧ ¬ kz1 (a 75) (nx L (a 75) 0 false).2.1 (nx L (a 75) 0 false).2.2 ∧ ¬ kz2 (a 75) (nx L (a 75) 0 false).2.1 (nx L (a 75) 0 false).2.2) → FAILm Q n o N a h (-100 - nI (nx L (a 75) 0 false).2.1)) (t0 : (nx L (a 75) 0 false).1 = 1 → kz0 (a 75) (nx L (a 75) 0 false).2.1 (nx L (a 75) 0 false).2.2 → TE L (a 75) (nI 0) true 0 (adv L (a 75) (nx L (a 75) 0 false), [], [], 0, upd (a 80) 0 0) R0) (hl0 : (nx L (a 75) 0 false).1 = 1 → kz0 (a 75) (nx L (a 75) 0 false).2.1 (nx L (a 75) 0 false).2.2 → ∀ cs at_, R0.1 = some (cs, at_) → 1 ≤ cs.length ∧ cs.length ≤ 96 ∧ at_ ≤ 96) (kf0 : (nx L (a 75) 0 false).1 = 1 → kz0 (a 75) (nx L (a 75) 0 false).2.1 (nx L (a 75) 0 false).2.2 → R0.1 = none → FAILm Q n o N a h (-100 - nI R0.2)) (kb0 : (nx L (a 75) 0 false).1 = 1 → kz0 (a 75) (nx L (a 75) 0 false).2.1 (nx L (a 75) 0 false).2.2 → ∀ cs at_, R0.1 = some (cs, at_) → c = 14 → FAILm Q n o N a h (-1000000003)) (ks0 : (nx L (a 75) 0 false).1 = 1 → kz0 (a 75) (nx L (a 75) 0 false).2.1 (nx L (a 75) 0 false).2.2 → ∀ cs at_, R0.1 = some (cs, at_) → c < 14 → SUCCm Q n o N a h c 0 cs at_) (t1 : (nx L (a 75) 0 false).1 = 1 → ¬ kz0 (a 75) (nx L (a 75) 0 false).2.1 (nx L (a 75) 0 false).2.2 → kz1 (a 75) (nx L (a 75) 0 false).2.1 (nx L (a 75) 0 false).2.2 → TE L (a 75) (nI 1) true 0 (adv L (a 75) (nx L (a 75) 0 false), [], [], 0, upd (a 80) 0 0) R1) (hl1 : (nx L (a 75) 0 false).1 = 1 → ¬ kz0 (a 75) (nx L (a 75) 0 false).2.1 (nx L (a 75) 0 false).2.2 → kz1 (a 75) (nx L (a 75) 0 false).2.1 (nx L (a 75) 0 false).2.2 → ∀ cs at_, R1.1 = some (cs, at_) → 1 ≤ cs.length ∧ cs.length ≤ 96 ∧ at_ ≤ 96) (kf1 : (nx L (a 75) 0 false).1 = 1 → ¬ kz0 (a 75) (nx L (a 75) 0 false).2.1 (nx L (a 75) 0 false).2.2 → kz1 (a 75) (nx L (a 75) 0 false).2.1 (nx L (a 75) 0 false).2.2 → R1.1 = none → FAILm Q n o N a h (-100 - nI R1.2)) (kb1 : (nx L (a 75) 0 false).1 = 1 → ¬ kz0 (a 75) (nx L (a 75) 0 false).2.1 (nx L (a 75) 0 false).2.2 → kz1 (a 75) (nx L (a 75) 0 false).2.1 (nx L (a 75) 0 false).2.2 → ∀ cs at_, R1.1 = some (cs, at_) → c = 14 → FAILm Q n o N a h (-1000000003)) (ks1 : (nx L (a 75) 0 false).1 = 1 → ¬ kz0 (a 75) (nx L (a 75) 0 false).2.1 (nx L (a 75) 0 false).2.2 → kz1 (a 75) (nx L (a 75) 0 false).2.1 (nx L (a 75) 0 false).2.2 → ∀ cs at_, R1.1 = some (cs, at_) → c < 14 → SUCCm Q n o N a h c 1 cs at_) (t2 : (nx L (a 75) 0 false).1 = 1 → ¬ kz0 (a 75) (nx L (a 75) 0 false).2.1 (nx L (a 75) 0 false).2.2 → ¬ kz1 (a 75) (nx L (a 75) 0 false).2.1 (nx L (a 75) 0 false).2.2 → kz2 (a 75) (nx L (a 75) 0 false).2.1 (nx L (a 75) 0 false).2.2 → TE L (a 75) (nI 2) true 0 (adv L (a 75) (nx L (a 75) 0 false), [], [], 0, upd (a 80) 0 0) R2) (hl2 : (nx L (a 75) 0 false).1 = 1 → ¬ kz0 (a 75) (nx L (a 75) 0 false).2.1 (nx L (a 75) 0 false).2.2 → ¬ kz1 (a 75) (nx L (a 75) 0 false).2.1 (nx L (a 75) 0 false).2.2 → kz2 (a 75) (nx L (a 75) 0 false).2.1 (nx L (a 75) 0 false).2.2 → ∀ cs at_, R2.1 = some (cs, at_) → 1 ≤ cs.length ∧ cs.length ≤ 96 ∧ at_ ≤ 96) (kf2 : (nx L (a 75) 0 false).1 = 1 → ¬ kz0 (a 75) (nx L (a 75) 0 false).2.1 (nx L (a 75) 0 false).2.2 → ¬ kz1 (a 75) (nx L (a 75) 0 false).2.1 (nx L (a 75) 0 false).2.2 → kz2 (a 75) (nx L (a 75) 0 false).2.1 (nx L (a 75) 0 false).2.2 → R2.1 = none → FAILm Q n o N a h (-100 - nI R2.2)) (kb2 : (nx L (a 75) 0 false).1 = 1 → ¬ kz0 (a 75) (nx L (a 75) 0 false).2.1 (nx L (a 75) 0 false).2.2 → ¬ kz1 (a 75) (nx L (a 75) 0 false).2.1 (nx L (a 75) 0 false).2.2 → kz2 (a 75) (nx L (a 75) 0 false).2.1 (nx L (a 75) 0 false).2.2 → ∀ cs at_, R2.1 = some (cs, at_) → c = 14 → FAILm Q n o N a h (-1000000003)) (ks2 : (nx L (a 75) 0 false).1 = 1 → ¬ kz0 (a 75) (nx L (a 75) 0 false).2.1 (nx L (a 75) 0 false).2.2 → ¬ kz1 (a 75) (nx L (a 75) 0 false).2.1 (nx L (a 75) 0 false).2.2 → kz2 (a 75) (nx L (a 75) 0 false).2.1 (nx L (a 75) 0 false).2.2 → ∀ cs at_, R2.1 = some (cs, at_) → c < 14 → SUCCm Q n o N a h c 2 cs at_) : AW X mX8_text (d + 6) rc rs 0 [some (.ref 69), none, none, none] [] n h Q := by
  refine aw_aload_n (npc := 1) rfl dX8_text_0 rfl ?_
  refine aw_iconst (npc := 2) (v := 0) (by decide) dX8_text_1 rfl ?_
  refine aw_put (npc := 5) dX8_text_2 rfl kf_X8_195 F.1 (Nat.le_of_ble_eq_true rfl) (am_ok_int _) rfl ?_
  have F1 := mr_o10 (v := 0) F
  refine aw_aload_n (npc := 6) rfl dX8_text_5 rfl ?_
  refine aw_iconst (npc := 7) (v := -1) (by decide) dX8_text_6 rfl ?_
  refine aw_put (npc := 10) dX8_text_7 rfl kf_X8_201 F1.1 (Nat.le_of_ble_eq_true rfl) (am_ok_int _) rfl ?_
  have F2 := mr_o14 (v := (-1)) F1
  refine aw_aload_n (npc := 11) rfl dX8_text_10 rfl ?_
  refine aw_callV (npc := 14) (N := mX8_go) (b := 69) (mc := 0) (ms := 0) (A := []) (S := []) (L0 := [some (.ref 69), none]) dX8_text_11 rfl km_X8_go kk_X8_219 F2.1 ⟨by decide, rfl⟩ rfl ⟨rfl, by decide⟩ rfl (Nat.le_of_ble_eq_true rfl) (Nat.zero_add _) (Nat.zero_add _) rfl ?_
  refine m_adv (L := L) (i := 0) (w := false) F2 ((pk_un (by decide)).trans ((pk_un (by decide)).trans h9)) hL ((pk_un (by decide)).trans pk_us) (Nat.zero_le _) (fun s _ hs => ⟨fun z => absurd (by have y := pk_us.symm.trans z; rw [← y]; decide) (nI_pos (n := s) (by omega)), fun z => by cases z.1⟩) (fun o1 h1 F1 vk1 gk1 f1 => ?_)
  have wk0 : WFK L (a 75) (nx L (a 75) 0 false) := (nx_wf (Nat.zero_le _)).1
  have g1 : ∀ k, (k < 10 ∨ 14 < k) → o1 k = o k := fun k hk => (gk1 k (by omega) (by omega) (by omega) (by omega) (by omega)).trans ((pk_un (by omega)).trans (pk_un (by omega)))
  have we0 := wk0.1
  have wf0 := wk0.2.1
  refine aw_aload_n (npc := 15) rfl dX8_text_14 rfl ?_
  refine aw_callV (npc := 18) (N := mX8_takesKey) (b := 69) (mc := 0) (ms := 0) (A := []) (S := []) (L0 := [some (.ref 69), none, none, none, none]) dX8_text_15 rfl km_X8_takesKey kk_X8_249 F1.1 ⟨by decide, rfl⟩ rfl ⟨rfl, by decide⟩ rfl (Nat.le_of_ble_eq_true rfl) (Nat.zero_add _) (Nat.zero_add _) rfl ?_
  refine m_key F1 ((g1 9 (by omega)).trans h9) hL vk1 wk0 (fun hK hz0 o2 h2 F2 vk2 e15 ok2 f2 => ?_) (fun hK hz0 hz1 o2 h2 F2 vk2 e15 ok2 f2 => ?_) (fun hK hz0 hz1 hz2 o2 h2 F2 vk2 e15 ok2 f2 => ?_) (fun hz => ?_)
  · refine aw_re (S' := [.int 1]) rfl ?_
    refine aw_if_eq (npc := 21) (tgt := 32) dX8_text_18 rfl (by decide) (fun hc => absurd hc (by decide)) (fun _ => ?_)
    refine aw_aload_n (npc := 22) rfl dX8_text_21 rfl ?_
    refine aw_callV (npc := 25) (N := mX8_takesE) (b := 69) (mc := 0) (ms := 0) (A := []) (S := []) (L0 := [some (.ref 69), none, none, none, none]) dX8_text_22 rfl km_X8_takesE kk_X8_252 F2.1 ⟨by decide, rfl⟩ rfl ⟨rfl, by decide⟩ rfl (Nat.le_of_ble_eq_true rfl) (Nat.zero_add _) (Nat.zero_add _) rfl ?_
    have wk2 := adv_wf wk0
    have g2 : ∀ k, (k < 10 ∨ 15 < k) → o2 k = o k := fun k hk => (ok2 k hk).trans (g1 k (by omega))
    refine m_takesE (R := R0) F2 ((g2 9 (by omega)).trans h9) hL vk2 wk2.1 (by have z := hz0.1; have y := wk2.2; omega) (e15 ▸ t0 hK hz0) (fun h3 σ3 H3 e3 r3 f3 => ?_) (fun r3 h3 σ3 H3 e3 f3 => ?_)
    · obtain ⟨o3, a3, F3, ⟨vk3, m19, m20, m22, mc, mw, mq⟩, ho3, ha3⟩ := H3
      have g3 : oX o3 o := fun k a1 a2 a3 a4 => (ho3 k (by omega) a2 a3 a4).trans (g2 k (by omega))
      have g15 : o3 15 = nI 0 := (ho3 15 (by omega) (by decide) (by decide) (by decide)).trans e15
      have hlen := hl0 hK hz0 _ _ r3
      refine aw_re (S' := [.int 1]) rfl ?_
      refine aw_if_eq (npc := 28) (tgt := 32) dX8_text_25 rfl (by decide) (fun hc => absurd hc (by decide)) (fun _ => ?_)
      refine aw_iconst (npc := 29) (v := 1) (by decide) dX8_text_28 rfl ?_
      refine aw_goto (npc := 33) dX8_text_29 (by decide) ?_
      refine aw_istore_n (npc := 34) (L' := [some (.ref 69), some (.int 1), none, none]) dX8_text_33 rfl (by decide) rfl rfl ?_
      refine aw_aload_n (npc := 35) rfl dX8_text_34 rfl ?_
      refine aw_iconst (npc := 36) (v := 0) (by decide) dX8_text_35 rfl ?_
      refine aw_put (npc := 39) dX8_text_36 rfl kf_X8_192 F3.1 (Nat.le_of_ble_eq_true rfl) (am_ok_int _) rfl ?_
      have F3 := mr_o9 (v := 0) F3
      refine aw_iload_n (npc := 40) rfl dX8_text_39 rfl ?_
      refine aw_if_ne (npc := 43) (tgt := 51) dX8_text_40 rfl (by decide) (fun _ => ?_) (fun hc => absurd hc (by decide))
      refine aw_aload_n (npc := 52) rfl dX8_text_51 rfl ?_
      refine aw_get (npc := 55) dX8_text_52 rfl kf_X8_9 F3.1 rfl ?_
      refine aw_bipush (npc := 57) (v := 7) (by decide) dX8_text_55 rfl ?_
      refine aw_iald (npc := 58) (x := N 7) (j := 7) dX8_text_57 rfl F3.2.1 ⟨by decide, by decide⟩ (tl_at (by omega)) ?_
      refine aw_top (y := nI c) (hc) ?_
      refine aw_bipush (npc := 60) (v := 14) (by decide) dX8_text_58 rfl ?_
      refine aw_icmp_ne (npc := 63) (tgt := 66) dX8_text_60 rfl (by decide) (fun hc4 => ?_) (fun hc4 => ?_)
      · have hc4N : ¬ c = 14 := fun z9q => hc4 ((nI_eq (a := c) (b := 14) (by omega) (by omega)).mpr z9q)
        refine aw_aload_n (npc := 67) rfl dX8_text_66 rfl ?_
        refine aw_get (npc := 70) dX8_text_67 rfl kf_X8_9 F3.1 rfl ?_
        refine aw_bipush (npc := 72) (v := 7) (by decide) dX8_text_70 rfl ?_
        refine aw_iald (npc := 73) (x := N 7) (j := 7) dX8_text_72 rfl F3.2.1 ⟨by decide, by decide⟩ (tl_at (by omega)) ?_
        refine aw_top (y := nI c) (hc) ?_
        refine aw_istore_n (npc := 74) (L' := [some (.ref 69), some (.int 1), some (.int (nI c)), none]) dX8_text_73 rfl (by decide) rfl rfl ?_
        refine aw_aload_n (npc := 75) rfl dX8_text_74 rfl ?_
        refine aw_get (npc := 78) dX8_text_75 rfl kf_X8_9 F3.1 rfl ?_
        refine aw_bipush (npc := 80) (v := 62) (by decide) dX8_text_78 rfl ?_
        refine aw_iconst (npc := 81) (v := 2) (by decide) dX8_text_80 rfl ?_
        refine aw_iload_n (npc := 82) rfl dX8_text_81 rfl ?_
        refine aw_imulV (npc := 83) (v := nI (2 * c)) dX8_text_82 rfl (pk_mul 2 _) ?_
        refine aw_iaddV (npc := 84) (v := nI (62 + (2 * c))) dX8_text_83 rfl (nI_add 62 _) ?_
        refine aw_sipush (npc := 87) (v := 1000) (by decide) dX8_text_84 rfl ?_
        refine aw_aload_n (npc := 88) rfl dX8_text_87 rfl ?_
        refine aw_get (npc := 91) dX8_text_88 rfl kf_X8_216 F3.1 rfl ?_
        refine aw_top (y := o3 15) ((pk_un (by omega))) ?_
        refine aw_top (y := nI 0) (g15) ?_
        refine aw_imulV (npc := 92) (v := nI (1000 * 0)) dX8_text_91 rfl (pk_mul 1000 _) ?_
        refine aw_aload_n (npc := 93) rfl dX8_text_92 rfl ?_
        refine aw_get (npc := 96) dX8_text_93 rfl kf_X8_228 F3.1 rfl ?_
        refine aw_top (y := o3 19) ((pk_un (by omega))) ?_
        refine aw_top (y := nI σ3.2.1.length) (m19) ?_
        refine aw_iaddV (npc := 97) (v := nI ((1000 * 0) + σ3.2.1.length)) dX8_text_96 rfl (nI_add _ _) ?_
        refine aw_iast (npc := 98) (j := (62 + (2 * c))) dX8_text_97 rfl F3.2.1 (am_ix_nI (by omega)) (by rw [tl_len]; omega) rfl ?_
        have F5 := mr_70 (j := (62 + (2 * c))) (v := nI ((1000 * 0) + σ3.2.1.length)) F3
        refine aw_aload_n (npc := 99) rfl dX8_text_98 rfl ?_
        refine aw_get (npc := 102) dX8_text_99 rfl kf_X8_9 F5.1 rfl ?_
        refine aw_bipush (npc := 104) (v := 62) (by decide) dX8_text_102 rfl ?_
        refine aw_iconst (npc := 105) (v := 2) (by decide) dX8_text_104 rfl ?_
        refine aw_iload_n (npc := 106) rfl dX8_text_105 rfl ?_
        refine aw_imulV (npc := 107) (v := nI (2 * c)) dX8_text_106 rfl (pk_mul 2 _) ?_
        refine aw_iaddV (npc := 108) (v := nI (62 + (2 * c))) dX8_text_107 rfl (nI_add 62 _) ?_
        refine aw_iconst (npc := 109) (v := 1) (by decide) dX8_text_108 rfl ?_
        refine aw_iaddV (npc := 110) (v := nI (63 + (2 * c))) dX8_text_109 rfl ((nI_add _ 1).trans (congrArg nI (by omega))) ?_
        refine aw_aload_n (npc := 111) rfl dX8_text_110 rfl ?_
        refine aw_get (npc := 114) dX8_text_111 rfl kf_X8_234 F5.1 rfl ?_
        refine aw_top (y := o3 20) ((pk_un (by omega))) ?_
        refine aw_top (y := nI σ3.2.2.2.1) (m20) ?_
        refine aw_iast (npc := 115) (j := (63 + (2 * c))) dX8_text_114 rfl F5.2.1 (am_ix_nI (by omega)) (by rw [tl_len]; omega) rfl ?_
        have F6 := mr_70 (j := (63 + (2 * c))) (v := nI σ3.2.2.2.1) F5
        refine aw_iconst (npc := 116) (v := 0) (by decide) dX8_text_115 rfl ?_
        refine aw_istore_n (npc := 117) (L' := [some (.ref 69), some (.int 1), some (.int (nI c)), some (.int 0)]) dX8_text_116 rfl (by decide) rfl rfl ?_
        have hc14b : c < 14 := by omega
        have F5 := F6
        rw [← cpN_0 (N := upd (upd N (62 + (2 * c)) (nI ((1000 * 0) + σ3.2.1.length))) (63 + (2 * c)) (nI σ3.2.2.2.1)) (c := c) (cs := σ3.2.1)] at F5
        refine m_txL (L := L) (c := c) (cs := σ3.2.1) hc14b hlen.2.1 ((pk_un (by decide)).trans m19) mc σ3.2.1.length 0 (by omega) _ F5 (fun h5 F6 f5 => ?_)
        have h57 : cpN (upd (upd N (62 + (2 * c)) (nI ((1000 * 0) + σ3.2.1.length))) (63 + (2 * c)) (nI σ3.2.2.2.1)) c σ3.2.1 σ3.2.1.length 7 = nI c := (if_neg (by omega)).trans ((pk_un (by omega)).trans ((pk_un (by omega)).trans hc))
        refine aw_aload_n (npc := 152) rfl dX8_text_151 rfl ?_
        refine aw_get (npc := 155) dX8_text_152 rfl kf_X8_9 F6.1 rfl ?_
        refine aw_bipush (npc := 157) (v := 7) (by decide) dX8_text_155 rfl ?_
        refine aw_dup2 (npc := 158) rfl rfl dX8_text_157 rfl ?_
        refine aw_iald (npc := 159) (x := (cpN (upd (upd N (62 + (2 * c)) (nI ((1000 * 0) + σ3.2.1.length))) (63 + (2 * c)) (nI σ3.2.2.2.1)) c σ3.2.1 σ3.2.1.length) 7) (j := 7) dX8_text_158 rfl F6.2.1 ⟨by decide, by decide⟩ (tl_at (by omega)) ?_
        refine aw_top (y := nI c) (h57) ?_
        refine aw_iconst (npc := 160) (v := 1) (by decide) dX8_text_159 rfl ?_
        refine aw_iaddV (npc := 161) (v := nI (c + 1)) dX8_text_160 rfl (nI_add _ 1) ?_
        refine aw_iast (npc := 162) (j := 7) dX8_text_161 rfl F6.2.1 ⟨by decide, by decide⟩ (by rw [tl_len]; omega) rfl ?_
        have F7 := mr_70 (j := 7) (v := nI (c + 1)) F6
        refine aw_iload_n (npc := 163) rfl dX8_text_162 rfl ?_
        refine aw_iret rfl dX8_text_163 ?_
        exact ks0 hK hz0 _ _ r3 (by omega) _ _ _ F7 pk_us (fun k k1 k2 k3 k4 => (pk_un (by omega)).trans (g3 k k1 k2 k3 k4)) ha3 (am_fpU (show ¬ (70 < 69 ∨ 92 ≤ 70) by omega) (am_fpT f5 (am_fpU (show ¬ (70 < 69 ∨ 92 ≤ 70) by omega) (am_fpU (show ¬ (70 < 69 ∨ 92 ≤ 70) by omega) (am_fpU (show ¬ (69 < 69 ∨ 92 ≤ 69) by omega) (am_fpT f3 (am_fpT f2 (am_fpT f1 (am_fpU (show ¬ (69 < 69 ∨ 92 ≤ 69) by omega) (am_fpU (show ¬ (69 < 69 ∨ 92 ≤ 69) by omega) am_fp0))))))))))
      · have hc4N := (nI_eq (a := c) (b := 14) (by omega) (by omega)).mp hc4
        refine aw_ldc (npc := 65) kc_X8_92 dX8_text_63 rfl ?_
        refine aw_iret rfl dX8_text_65 ?_
        exact kb0 hK hz0 _ _ r3 (by omega) _ _ _ F3 pk_us (fun k k1 k2 k3 k4 => (pk_un (by omega)).trans (g3 k k1 k2 k3 k4)) ha3 (am_fpU (show ¬ (69 < 69 ∨ 92 ≤ 69) by omega) (am_fpT f3 (am_fpT f2 (am_fpT f1 (am_fpU (show ¬ (69 < 69 ∨ 92 ≤ 69) by omega) (am_fpU (show ¬ (69 < 69 ∨ 92 ≤ 69) by omega) am_fp0))))))
    · obtain ⟨o3, a3, F3, ⟨vk3, m19, m20, m22, mc, mw, mq⟩, ho3, ha3⟩ := H3
      have g3 : oX o3 o := fun k a1 a2 a3 a4 => (ho3 k (by omega) a2 a3 a4).trans (g2 k (by omega))
      have g15 : o3 15 = nI 0 := (ho3 15 (by omega) (by decide) (by decide) (by decide)).trans e15
      refine aw_re (S' := [.int 0]) rfl ?_
      refine aw_if_eq (npc := 28) (tgt := 32) dX8_text_25 rfl (by decide) (fun _ => ?_) (fun hc => absurd (by decide) hc)
      refine aw_iconst (npc := 33) (v := 0) (by decide) dX8_text_32 rfl ?_
      refine aw_istore_n (npc := 34) (L' := [some (.ref 69), some (.int 0), none, none]) dX8_text_33 rfl (by decide) rfl rfl ?_
      refine aw_aload_n (npc := 35) rfl dX8_text_34 rfl ?_
      refine aw_iconst (npc := 36) (v := 0) (by decide) dX8_text_35 rfl ?_
      refine aw_put (npc := 39) dX8_text_36 rfl kf_X8_192 F3.1 (Nat.le_of_ble_eq_true rfl) (am_ok_int _) rfl ?_
      have F8 := mr_o9 (v := 0) F3
      refine aw_iload_n (npc := 40) rfl dX8_text_39 rfl ?_
      refine aw_if_ne (npc := 43) (tgt := 51) dX8_text_40 rfl (by decide) (fun hc => absurd (by decide) hc) (fun _ => ?_)
      refine aw_bipush (npc := 45) (v := -100) (by decide) dX8_text_43 rfl ?_
      refine aw_aload_n (npc := 46) rfl dX8_text_45 rfl ?_
      refine aw_get (npc := 49) dX8_text_46 rfl kf_X8_198 F8.1 rfl ?_
      refine aw_top (y := o3 11) ((pk_un (by omega))) ?_
      refine aw_top (y := nI σ3.1.2.1) (vk3.2.1) ?_
      refine aw_isub (npc := 50) dX8_text_49 rfl ?_
      refine aw_iret rfl dX8_text_50 ?_
      exact (e3 ▸ kf0 hK hz0 r3) _ _ _ F8 pk_us (fun k k1 k2 k3 k4 => (pk_un (by omega)).trans (g3 k k1 k2 k3 k4)) ha3 (am_fpU (show ¬ (69 < 69 ∨ 92 ≤ 69) by omega) (am_fpT f3 (am_fpT f2 (am_fpT f1 (am_fpU (show ¬ (69 < 69 ∨ 92 ≤ 69) by omega) (am_fpU (show ¬ (69 < 69 ∨ 92 ≤ 69) by omega) am_fp0))))))
  · refine aw_re (S' := [.int 1]) rfl ?_
    refine aw_if_eq (npc := 21) (tgt := 32) dX8_text_18 rfl (by decide) (fun hc => absurd hc (by decide)) (fun _ => ?_)
    refine aw_aload_n (npc := 22) rfl dX8_text_21 rfl ?_
    refine aw_callV (npc := 25) (N := mX8_takesE) (b := 69) (mc := 0) (ms := 0) (A := []) (S := []) (L0 := [some (.ref 69), none, none, none, none]) dX8_text_22 rfl km_X8_takesE kk_X8_252 F2.1 ⟨by decide, rfl⟩ rfl ⟨rfl, by decide⟩ rfl (Nat.le_of_ble_eq_true rfl) (Nat.zero_add _) (Nat.zero_add _) rfl ?_
    have wk2 := adv_wf wk0
    have g2 : ∀ k, (k < 10 ∨ 15 < k) → o2 k = o k := fun k hk => (ok2 k hk).trans (g1 k (by omega))
    refine m_takesE (R := R1) F2 ((g2 9 (by omega)).trans h9) hL vk2 wk2.1 (by have z := hz1.1; have y := wk2.2; omega) (e15 ▸ t1 hK hz0 hz1) (fun h3 σ3 H3 e3 r3 f3 => ?_) (fun r3 h3 σ3 H3 e3 f3 => ?_)
    · obtain ⟨o3, a3, F3, ⟨vk3, m19, m20, m22, mc, mw, mq⟩, ho3, ha3⟩ := H3
      have g3 : oX o3 o := fun k a1 a2 a3 a4 => (ho3 k (by omega) a2 a3 a4).trans (g2 k (by omega))
      have g15 : o3 15 = nI 1 := (ho3 15 (by omega) (by decide) (by decide) (by decide)).trans e15
      have hlen := hl1 hK hz0 hz1 _ _ r3
      refine aw_re (S' := [.int 1]) rfl ?_
      refine aw_if_eq (npc := 28) (tgt := 32) dX8_text_25 rfl (by decide) (fun hc => absurd hc (by decide)) (fun _ => ?_)
      refine aw_iconst (npc := 29) (v := 1) (by decide) dX8_text_28 rfl ?_
      refine aw_goto (npc := 33) dX8_text_29 (by decide) ?_
      refine aw_istore_n (npc := 34) (L' := [some (.ref 69), some (.int 1), none, none]) dX8_text_33 rfl (by decide) rfl rfl ?_
      refine aw_aload_n (npc := 35) rfl dX8_text_34 rfl ?_
      refine aw_iconst (npc := 36) (v := 0) (by decide) dX8_text_35 rfl ?_
      refine aw_put (npc := 39) dX8_text_36 rfl kf_X8_192 F3.1 (Nat.le_of_ble_eq_true rfl) (am_ok_int _) rfl ?_
      have F9 := mr_o9 (v := 0) F3
      refine aw_iload_n (npc := 40) rfl dX8_text_39 rfl ?_
      refine aw_if_ne (npc := 43) (tgt := 51) dX8_text_40 rfl (by decide) (fun _ => ?_) (fun hc => absurd hc (by decide))
      refine aw_aload_n (npc := 52) rfl dX8_text_51 rfl ?_
      refine aw_get (npc := 55) dX8_text_52 rfl kf_X8_9 F9.1 rfl ?_
      refine aw_bipush (npc := 57) (v := 7) (by decide) dX8_text_55 rfl ?_
      refine aw_iald (npc := 58) (x := N 7) (j := 7) dX8_text_57 rfl F9.2.1 ⟨by decide, by decide⟩ (tl_at (by omega)) ?_
      refine aw_top (y := nI c) (hc) ?_
      refine aw_bipush (npc := 60) (v := 14) (by decide) dX8_text_58 rfl ?_
      refine aw_icmp_ne (npc := 63) (tgt := 66) dX8_text_60 rfl (by decide) (fun hc10 => ?_) (fun hc10 => ?_)
      · have hc10N : ¬ c = 14 := fun z9q => hc10 ((nI_eq (a := c) (b := 14) (by omega) (by omega)).mpr z9q)
        refine aw_aload_n (npc := 67) rfl dX8_text_66 rfl ?_
        refine aw_get (npc := 70) dX8_text_67 rfl kf_X8_9 F9.1 rfl ?_
        refine aw_bipush (npc := 72) (v := 7) (by decide) dX8_text_70 rfl ?_
        refine aw_iald (npc := 73) (x := N 7) (j := 7) dX8_text_72 rfl F9.2.1 ⟨by decide, by decide⟩ (tl_at (by omega)) ?_
        refine aw_top (y := nI c) (hc) ?_
        refine aw_istore_n (npc := 74) (L' := [some (.ref 69), some (.int 1), some (.int (nI c)), none]) dX8_text_73 rfl (by decide) rfl rfl ?_
        refine aw_aload_n (npc := 75) rfl dX8_text_74 rfl ?_
        refine aw_get (npc := 78) dX8_text_75 rfl kf_X8_9 F9.1 rfl ?_
        refine aw_bipush (npc := 80) (v := 62) (by decide) dX8_text_78 rfl ?_
        refine aw_iconst (npc := 81) (v := 2) (by decide) dX8_text_80 rfl ?_
        refine aw_iload_n (npc := 82) rfl dX8_text_81 rfl ?_
        refine aw_imulV (npc := 83) (v := nI (2 * c)) dX8_text_82 rfl (pk_mul 2 _) ?_
        refine aw_iaddV (npc := 84) (v := nI (62 + (2 * c))) dX8_text_83 rfl (nI_add 62 _) ?_
        refine aw_sipush (npc := 87) (v := 1000) (by decide) dX8_text_84 rfl ?_
        refine aw_aload_n (npc := 88) rfl dX8_text_87 rfl ?_
        refine aw_get (npc := 91) dX8_text_88 rfl kf_X8_216 F9.1 rfl ?_
        refine aw_top (y := o3 15) ((pk_un (by omega))) ?_
        refine aw_top (y := nI 1) (g15) ?_
        refine aw_imulV (npc := 92) (v := nI (1000 * 1)) dX8_text_91 rfl (pk_mul 1000 _) ?_
        refine aw_aload_n (npc := 93) rfl dX8_text_92 rfl ?_
        refine aw_get (npc := 96) dX8_text_93 rfl kf_X8_228 F9.1 rfl ?_
        refine aw_top (y := o3 19) ((pk_un (by omega))) ?_
        refine aw_top (y := nI σ3.2.1.length) (m19) ?_
        refine aw_iaddV (npc := 97) (v := nI ((1000 * 1) + σ3.2.1.length)) dX8_text_96 rfl (nI_add _ _) ?_
        refine aw_iast (npc := 98) (j := (62 + (2 * c))) dX8_text_97 rfl F9.2.1 (am_ix_nI (by omega)) (by rw [tl_len]; omega) rfl ?_
        have F11 := mr_70 (j := (62 + (2 * c))) (v := nI ((1000 * 1) + σ3.2.1.length)) F9
        refine aw_aload_n (npc := 99) rfl dX8_text_98 rfl ?_
        refine aw_get (npc := 102) dX8_text_99 rfl kf_X8_9 F11.1 rfl ?_
        refine aw_bipush (npc := 104) (v := 62) (by decide) dX8_text_102 rfl ?_
        refine aw_iconst (npc := 105) (v := 2) (by decide) dX8_text_104 rfl ?_
        refine aw_iload_n (npc := 106) rfl dX8_text_105 rfl ?_
        refine aw_imulV (npc := 107) (v := nI (2 * c)) dX8_text_106 rfl (pk_mul 2 _) ?_
        refine aw_iaddV (npc := 108) (v := nI (62 + (2 * c))) dX8_text_107 rfl (nI_add 62 _) ?_
        refine aw_iconst (npc := 109) (v := 1) (by decide) dX8_text_108 rfl ?_
        refine aw_iaddV (npc := 110) (v := nI (63 + (2 * c))) dX8_text_109 rfl ((nI_add _ 1).trans (congrArg nI (by omega))) ?_
        refine aw_aload_n (npc := 111) rfl dX8_text_110 rfl ?_
        refine aw_get (npc := 114) dX8_text_111 rfl kf_X8_234 F11.1 rfl ?_
        refine aw_top (y := o3 20) ((pk_un (by omega))) ?_
        refine aw_top (y := nI σ3.2.2.2.1) (m20) ?_
        refine aw_iast (npc := 115) (j := (63 + (2 * c))) dX8_text_114 rfl F11.2.1 (am_ix_nI (by omega)) (by rw [tl_len]; omega) rfl ?_
        have F12 := mr_70 (j := (63 + (2 * c))) (v := nI σ3.2.2.2.1) F11
        refine aw_iconst (npc := 116) (v := 0) (by decide) dX8_text_115 rfl ?_
        refine aw_istore_n (npc := 117) (L' := [some (.ref 69), some (.int 1), some (.int (nI c)), some (.int 0)]) dX8_text_116 rfl (by decide) rfl rfl ?_
        have hc14b : c < 14 := by omega
        have F5 := F12
        rw [← cpN_0 (N := upd (upd N (62 + (2 * c)) (nI ((1000 * 1) + σ3.2.1.length))) (63 + (2 * c)) (nI σ3.2.2.2.1)) (c := c) (cs := σ3.2.1)] at F5
        refine m_txL (L := L) (c := c) (cs := σ3.2.1) hc14b hlen.2.1 ((pk_un (by decide)).trans m19) mc σ3.2.1.length 0 (by omega) _ F5 (fun h5 F6 f5 => ?_)
        have h57 : cpN (upd (upd N (62 + (2 * c)) (nI ((1000 * 1) + σ3.2.1.length))) (63 + (2 * c)) (nI σ3.2.2.2.1)) c σ3.2.1 σ3.2.1.length 7 = nI c := (if_neg (by omega)).trans ((pk_un (by omega)).trans ((pk_un (by omega)).trans hc))
        refine aw_aload_n (npc := 152) rfl dX8_text_151 rfl ?_
        refine aw_get (npc := 155) dX8_text_152 rfl kf_X8_9 F6.1 rfl ?_
        refine aw_bipush (npc := 157) (v := 7) (by decide) dX8_text_155 rfl ?_
        refine aw_dup2 (npc := 158) rfl rfl dX8_text_157 rfl ?_
        refine aw_iald (npc := 159) (x := (cpN (upd (upd N (62 + (2 * c)) (nI ((1000 * 1) + σ3.2.1.length))) (63 + (2 * c)) (nI σ3.2.2.2.1)) c σ3.2.1 σ3.2.1.length) 7) (j := 7) dX8_text_158 rfl F6.2.1 ⟨by decide, by decide⟩ (tl_at (by omega)) ?_
        refine aw_top (y := nI c) (h57) ?_
        refine aw_iconst (npc := 160) (v := 1) (by decide) dX8_text_159 rfl ?_
        refine aw_iaddV (npc := 161) (v := nI (c + 1)) dX8_text_160 rfl (nI_add _ 1) ?_
        refine aw_iast (npc := 162) (j := 7) dX8_text_161 rfl F6.2.1 ⟨by decide, by decide⟩ (by rw [tl_len]; omega) rfl ?_
        have F13 := mr_70 (j := 7) (v := nI (c + 1)) F6
        refine aw_iload_n (npc := 163) rfl dX8_text_162 rfl ?_
        refine aw_iret rfl dX8_text_163 ?_
        exact ks1 hK hz0 hz1 _ _ r3 (by omega) _ _ _ F13 pk_us (fun k k1 k2 k3 k4 => (pk_un (by omega)).trans (g3 k k1 k2 k3 k4)) ha3 (am_fpU (show ¬ (70 < 69 ∨ 92 ≤ 70) by omega) (am_fpT f5 (am_fpU (show ¬ (70 < 69 ∨ 92 ≤ 70) by omega) (am_fpU (show ¬ (70 < 69 ∨ 92 ≤ 70) by omega) (am_fpU (show ¬ (69 < 69 ∨ 92 ≤ 69) by omega) (am_fpT f3 (am_fpT f2 (am_fpT f1 (am_fpU (show ¬ (69 < 69 ∨ 92 ≤ 69) by omega) (am_fpU (show ¬ (69 < 69 ∨ 92 ≤ 69) by omega) am_fp0))))))))))
      · have hc10N := (nI_eq (a := c) (b := 14) (by omega) (by omega)).mp hc10
        refine aw_ldc (npc := 65) kc_X8_92 dX8_text_63 rfl ?_
        refine aw_iret rfl dX8_text_65 ?_
        exact kb1 hK hz0 hz1 _ _ r3 (by omega) _ _ _ F9 pk_us (fun k k1 k2 k3 k4 => (pk_un (by omega)).trans (g3 k k1 k2 k3 k4)) ha3 (am_fpU (show ¬ (69 < 69 ∨ 92 ≤ 69) by omega) (am_fpT f3 (am_fpT f2 (am_fpT f1 (am_fpU (show ¬ (69 < 69 ∨ 92 ≤ 69) by omega) (am_fpU (show ¬ (69 < 69 ∨ 92 ≤ 69) by omega) am_fp0))))))
    · obtain ⟨o3, a3, F3, ⟨vk3, m19, m20, m22, mc, mw, mq⟩, ho3, ha3⟩ := H3
      have g3 : oX o3 o := fun k a1 a2 a3 a4 => (ho3 k (by omega) a2 a3 a4).trans (g2 k (by omega))
      have g15 : o3 15 = nI 1 := (ho3 15 (by omega) (by decide) (by decide) (by decide)).trans e15
      refine aw_re (S' := [.int 0]) rfl ?_
      refine aw_if_eq (npc := 28) (tgt := 32) dX8_text_25 rfl (by decide) (fun _ => ?_) (fun hc => absurd (by decide) hc)
      refine aw_iconst (npc := 33) (v := 0) (by decide) dX8_text_32 rfl ?_
      refine aw_istore_n (npc := 34) (L' := [some (.ref 69), some (.int 0), none, none]) dX8_text_33 rfl (by decide) rfl rfl ?_
      refine aw_aload_n (npc := 35) rfl dX8_text_34 rfl ?_
      refine aw_iconst (npc := 36) (v := 0) (by decide) dX8_text_35 rfl ?_
      refine aw_put (npc := 39) dX8_text_36 rfl kf_X8_192 F3.1 (Nat.le_of_ble_eq_true rfl) (am_ok_int _) rfl ?_
      have F14 := mr_o9 (v := 0) F3
      refine aw_iload_n (npc := 40) rfl dX8_text_39 rfl ?_
      refine aw_if_ne (npc := 43) (tgt := 51) dX8_text_40 rfl (by decide) (fun hc => absurd (by decide) hc) (fun _ => ?_)
      refine aw_bipush (npc := 45) (v := -100) (by decide) dX8_text_43 rfl ?_
      refine aw_aload_n (npc := 46) rfl dX8_text_45 rfl ?_
      refine aw_get (npc := 49) dX8_text_46 rfl kf_X8_198 F14.1 rfl ?_
      refine aw_top (y := o3 11) ((pk_un (by omega))) ?_
      refine aw_top (y := nI σ3.1.2.1) (vk3.2.1) ?_
      refine aw_isub (npc := 50) dX8_text_49 rfl ?_
      refine aw_iret rfl dX8_text_50 ?_
      exact (e3 ▸ kf1 hK hz0 hz1 r3) _ _ _ F14 pk_us (fun k k1 k2 k3 k4 => (pk_un (by omega)).trans (g3 k k1 k2 k3 k4)) ha3 (am_fpU (show ¬ (69 < 69 ∨ 92 ≤ 69) by omega) (am_fpT f3 (am_fpT f2 (am_fpT f1 (am_fpU (show ¬ (69 < 69 ∨ 92 ≤ 69) by omega) (am_fpU (show ¬ (69 < 69 ∨ 92 ≤ 69) by omega) am_fp0))))))
  · refine aw_re (S' := [.int 1]) rfl ?_
    refine aw_if_eq (npc := 21) (tgt := 32) dX8_text_18 rfl (by decide) (fun hc => absurd hc (by decide)) (fun _ => ?_)
    refine aw_aload_n (npc := 22) rfl dX8_text_21 rfl ?_
    refine aw_callV (npc := 25) (N := mX8_takesE) (b := 69) (mc := 0) (ms := 0) (A := []) (S := []) (L0 := [some (.ref 69), none, none, none, none]) dX8_text_22 rfl km_X8_takesE kk_X8_252 F2.1 ⟨by decide, rfl⟩ rfl ⟨rfl, by decide⟩ rfl (Nat.le_of_ble_eq_true rfl) (Nat.zero_add _) (Nat.zero_add _) rfl ?_
    have wk2 := adv_wf wk0
    have g2 : ∀ k, (k < 10 ∨ 15 < k) → o2 k = o k := fun k hk => (ok2 k hk).trans (g1 k (by omega))
    refine m_takesE (R := R2) F2 ((g2 9 (by omega)).trans h9) hL vk2 wk2.1 (by have z := hz2.1; have y := wk2.2; omega) (e15 ▸ t2 hK hz0 hz1 hz2) (fun h3 σ3 H3 e3 r3 f3 => ?_) (fun r3 h3 σ3 H3 e3 f3 => ?_)
    · obtain ⟨o3, a3, F3, ⟨vk3, m19, m20, m22, mc, mw, mq⟩, ho3, ha3⟩ := H3
      have g3 : oX o3 o := fun k a1 a2 a3 a4 => (ho3 k (by omega) a2 a3 a4).trans (g2 k (by omega))
      have g15 : o3 15 = nI 2 := (ho3 15 (by omega) (by decide) (by decide) (by decide)).trans e15
      have hlen := hl2 hK hz0 hz1 hz2 _ _ r3
      refine aw_re (S' := [.int 1]) rfl ?_
      refine aw_if_eq (npc := 28) (tgt := 32) dX8_text_25 rfl (by decide) (fun hc => absurd hc (by decide)) (fun _ => ?_)
      refine aw_iconst (npc := 29) (v := 1) (by decide) dX8_text_28 rfl ?_
      refine aw_goto (npc := 33) dX8_text_29 (by decide) ?_
      refine aw_istore_n (npc := 34) (L' := [some (.ref 69), some (.int 1), none, none]) dX8_text_33 rfl (by decide) rfl rfl ?_
      refine aw_aload_n (npc := 35) rfl dX8_text_34 rfl ?_
      refine aw_iconst (npc := 36) (v := 0) (by decide) dX8_text_35 rfl ?_
      refine aw_put (npc := 39) dX8_text_36 rfl kf_X8_192 F3.1 (Nat.le_of_ble_eq_true rfl) (am_ok_int _) rfl ?_
      have F15 := mr_o9 (v := 0) F3
      refine aw_iload_n (npc := 40) rfl dX8_text_39 rfl ?_
      refine aw_if_ne (npc := 43) (tgt := 51) dX8_text_40 rfl (by decide) (fun _ => ?_) (fun hc => absurd hc (by decide))
      refine aw_aload_n (npc := 52) rfl dX8_text_51 rfl ?_
      refine aw_get (npc := 55) dX8_text_52 rfl kf_X8_9 F15.1 rfl ?_
      refine aw_bipush (npc := 57) (v := 7) (by decide) dX8_text_55 rfl ?_
      refine aw_iald (npc := 58) (x := N 7) (j := 7) dX8_text_57 rfl F15.2.1 ⟨by decide, by decide⟩ (tl_at (by omega)) ?_
      refine aw_top (y := nI c) (hc) ?_
      refine aw_bipush (npc := 60) (v := 14) (by decide) dX8_text_58 rfl ?_
      refine aw_icmp_ne (npc := 63) (tgt := 66) dX8_text_60 rfl (by decide) (fun hc16 => ?_) (fun hc16 => ?_)
      · have hc16N : ¬ c = 14 := fun z9q => hc16 ((nI_eq (a := c) (b := 14) (by omega) (by omega)).mpr z9q)
        refine aw_aload_n (npc := 67) rfl dX8_text_66 rfl ?_
        refine aw_get (npc := 70) dX8_text_67 rfl kf_X8_9 F15.1 rfl ?_
        refine aw_bipush (npc := 72) (v := 7) (by decide) dX8_text_70 rfl ?_
        refine aw_iald (npc := 73) (x := N 7) (j := 7) dX8_text_72 rfl F15.2.1 ⟨by decide, by decide⟩ (tl_at (by omega)) ?_
        refine aw_top (y := nI c) (hc) ?_
        refine aw_istore_n (npc := 74) (L' := [some (.ref 69), some (.int 1), some (.int (nI c)), none]) dX8_text_73 rfl (by decide) rfl rfl ?_
        refine aw_aload_n (npc := 75) rfl dX8_text_74 rfl ?_
        refine aw_get (npc := 78) dX8_text_75 rfl kf_X8_9 F15.1 rfl ?_
        refine aw_bipush (npc := 80) (v := 62) (by decide) dX8_text_78 rfl ?_
        refine aw_iconst (npc := 81) (v := 2) (by decide) dX8_text_80 rfl ?_
        refine aw_iload_n (npc := 82) rfl dX8_text_81 rfl ?_
        refine aw_imulV (npc := 83) (v := nI (2 * c)) dX8_text_82 rfl (pk_mul 2 _) ?_
        refine aw_iaddV (npc := 84) (v := nI (62 + (2 * c))) dX8_text_83 rfl (nI_add 62 _) ?_
        refine aw_sipush (npc := 87) (v := 1000) (by decide) dX8_text_84 rfl ?_
        refine aw_aload_n (npc := 88) rfl dX8_text_87 rfl ?_
        refine aw_get (npc := 91) dX8_text_88 rfl kf_X8_216 F15.1 rfl ?_
        refine aw_top (y := o3 15) ((pk_un (by omega))) ?_
        refine aw_top (y := nI 2) (g15) ?_
        refine aw_imulV (npc := 92) (v := nI (1000 * 2)) dX8_text_91 rfl (pk_mul 1000 _) ?_
        refine aw_aload_n (npc := 93) rfl dX8_text_92 rfl ?_
        refine aw_get (npc := 96) dX8_text_93 rfl kf_X8_228 F15.1 rfl ?_
        refine aw_top (y := o3 19) ((pk_un (by omega))) ?_
        refine aw_top (y := nI σ3.2.1.length) (m19) ?_
        refine aw_iaddV (npc := 97) (v := nI ((1000 * 2) + σ3.2.1.length)) dX8_text_96 rfl (nI_add _ _) ?_
        refine aw_iast (npc := 98) (j := (62 + (2 * c))) dX8_text_97 rfl F15.2.1 (am_ix_nI (by omega)) (by rw [tl_len]; omega) rfl ?_
        have F17 := mr_70 (j := (62 + (2 * c))) (v := nI ((1000 * 2) + σ3.2.1.length)) F15
        refine aw_aload_n (npc := 99) rfl dX8_text_98 rfl ?_
        refine aw_get (npc := 102) dX8_text_99 rfl kf_X8_9 F17.1 rfl ?_
        refine aw_bipush (npc := 104) (v := 62) (by decide) dX8_text_102 rfl ?_
        refine aw_iconst (npc := 105) (v := 2) (by decide) dX8_text_104 rfl ?_
        refine aw_iload_n (npc := 106) rfl dX8_text_105 rfl ?_
        refine aw_imulV (npc := 107) (v := nI (2 * c)) dX8_text_106 rfl (pk_mul 2 _) ?_
        refine aw_iaddV (npc := 108) (v := nI (62 + (2 * c))) dX8_text_107 rfl (nI_add 62 _) ?_
        refine aw_iconst (npc := 109) (v := 1) (by decide) dX8_text_108 rfl ?_
        refine aw_iaddV (npc := 110) (v := nI (63 + (2 * c))) dX8_text_109 rfl ((nI_add _ 1).trans (congrArg nI (by omega))) ?_
        refine aw_aload_n (npc := 111) rfl dX8_text_110 rfl ?_
        refine aw_get (npc := 114) dX8_text_111 rfl kf_X8_234 F17.1 rfl ?_
        refine aw_top (y := o3 20) ((pk_un (by omega))) ?_
        refine aw_top (y := nI σ3.2.2.2.1) (m20) ?_
        refine aw_iast (npc := 115) (j := (63 + (2 * c))) dX8_text_114 rfl F17.2.1 (am_ix_nI (by omega)) (by rw [tl_len]; omega) rfl ?_
        have F18 := mr_70 (j := (63 + (2 * c))) (v := nI σ3.2.2.2.1) F17
        refine aw_iconst (npc := 116) (v := 0) (by decide) dX8_text_115 rfl ?_
        refine aw_istore_n (npc := 117) (L' := [some (.ref 69), some (.int 1), some (.int (nI c)), some (.int 0)]) dX8_text_116 rfl (by decide) rfl rfl ?_
        have hc14b : c < 14 := by omega
        have F5 := F18
        rw [← cpN_0 (N := upd (upd N (62 + (2 * c)) (nI ((1000 * 2) + σ3.2.1.length))) (63 + (2 * c)) (nI σ3.2.2.2.1)) (c := c) (cs := σ3.2.1)] at F5
        refine m_txL (L := L) (c := c) (cs := σ3.2.1) hc14b hlen.2.1 ((pk_un (by decide)).trans m19) mc σ3.2.1.length 0 (by omega) _ F5 (fun h5 F6 f5 => ?_)
        have h57 : cpN (upd (upd N (62 + (2 * c)) (nI ((1000 * 2) + σ3.2.1.length))) (63 + (2 * c)) (nI σ3.2.2.2.1)) c σ3.2.1 σ3.2.1.length 7 = nI c := (if_neg (by omega)).trans ((pk_un (by omega)).trans ((pk_un (by omega)).trans hc))
        refine aw_aload_n (npc := 152) rfl dX8_text_151 rfl ?_
        refine aw_get (npc := 155) dX8_text_152 rfl kf_X8_9 F6.1 rfl ?_
        refine aw_bipush (npc := 157) (v := 7) (by decide) dX8_text_155 rfl ?_
        refine aw_dup2 (npc := 158) rfl rfl dX8_text_157 rfl ?_
        refine aw_iald (npc := 159) (x := (cpN (upd (upd N (62 + (2 * c)) (nI ((1000 * 2) + σ3.2.1.length))) (63 + (2 * c)) (nI σ3.2.2.2.1)) c σ3.2.1 σ3.2.1.length) 7) (j := 7) dX8_text_158 rfl F6.2.1 ⟨by decide, by decide⟩ (tl_at (by omega)) ?_
        refine aw_top (y := nI c) (h57) ?_
        refine aw_iconst (npc := 160) (v := 1) (by decide) dX8_text_159 rfl ?_
        refine aw_iaddV (npc := 161) (v := nI (c + 1)) dX8_text_160 rfl (nI_add _ 1) ?_
        refine aw_iast (npc := 162) (j := 7) dX8_text_161 rfl F6.2.1 ⟨by decide, by decide⟩ (by rw [tl_len]; omega) rfl ?_
        have F19 := mr_70 (j := 7) (v := nI (c + 1)) F6
        refine aw_iload_n (npc := 163) rfl dX8_text_162 rfl ?_
        refine aw_iret rfl dX8_text_163 ?_
        exact ks2 hK hz0 hz1 hz2 _ _ r3 (by omega) _ _ _ F19 pk_us (fun k k1 k2 k3 k4 => (pk_un (by omega)).trans (g3 k k1 k2 k3 k4)) ha3 (am_fpU (show ¬ (70 < 69 ∨ 92 ≤ 70) by omega) (am_fpT f5 (am_fpU (show ¬ (70 < 69 ∨ 92 ≤ 70) by omega) (am_fpU (show ¬ (70 < 69 ∨ 92 ≤ 70) by omega) (am_fpU (show ¬ (69 < 69 ∨ 92 ≤ 69) by omega) (am_fpT f3 (am_fpT f2 (am_fpT f1 (am_fpU (show ¬ (69 < 69 ∨ 92 ≤ 69) by omega) (am_fpU (show ¬ (69 < 69 ∨ 92 ≤ 69) by omega) am_fp0))))))))))
      · have hc16N := (nI_eq (a := c) (b := 14) (by omega) (by omega)).mp hc16
        refine aw_ldc (npc := 65) kc_X8_92 dX8_text_63 rfl ?_
        refine aw_iret rfl dX8_text_65 ?_
        exact kb2 hK hz0 hz1 hz2 _ _ r3 (by omega) _ _ _ F15 pk_us (fun k k1 k2 k3 k4 => (pk_un (by omega)).trans (g3 k k1 k2 k3 k4)) ha3 (am_fpU (show ¬ (69 < 69 ∨ 92 ≤ 69) by omega) (am_fpT f3 (am_fpT f2 (am_fpT f1 (am_fpU (show ¬ (69 < 69 ∨ 92 ≤ 69) by omega) (am_fpU (show ¬ (69 < 69 ∨ 92 ≤ 69) by omega) am_fp0))))))
    · obtain ⟨o3, a3, F3, ⟨vk3, m19, m20, m22, mc, mw, mq⟩, ho3, ha3⟩ := H3
      have g3 : oX o3 o := fun k a1 a2 a3 a4 => (ho3 k (by omega) a2 a3 a4).trans (g2 k (by omega))
      have g15 : o3 15 = nI 2 := (ho3 15 (by omega) (by decide) (by decide) (by decide)).trans e15
      refine aw_re (S' := [.int 0]) rfl ?_
      refine aw_if_eq (npc := 28) (tgt := 32) dX8_text_25 rfl (by decide) (fun _ => ?_) (fun hc => absurd (by decide) hc)
      refine aw_iconst (npc := 33) (v := 0) (by decide) dX8_text_32 rfl ?_
      refine aw_istore_n (npc := 34) (L' := [some (.ref 69), some (.int 0), none, none]) dX8_text_33 rfl (by decide) rfl rfl ?_
      refine aw_aload_n (npc := 35) rfl dX8_text_34 rfl ?_
      refine aw_iconst (npc := 36) (v := 0) (by decide) dX8_text_35 rfl ?_
      refine aw_put (npc := 39) dX8_text_36 rfl kf_X8_192 F3.1 (Nat.le_of_ble_eq_true rfl) (am_ok_int _) rfl ?_
      have F20 := mr_o9 (v := 0) F3
      refine aw_iload_n (npc := 40) rfl dX8_text_39 rfl ?_
      refine aw_if_ne (npc := 43) (tgt := 51) dX8_text_40 rfl (by decide) (fun hc => absurd (by decide) hc) (fun _ => ?_)
      refine aw_bipush (npc := 45) (v := -100) (by decide) dX8_text_43 rfl ?_
      refine aw_aload_n (npc := 46) rfl dX8_text_45 rfl ?_
      refine aw_get (npc := 49) dX8_text_46 rfl kf_X8_198 F20.1 rfl ?_
      refine aw_top (y := o3 11) ((pk_un (by omega))) ?_
      refine aw_top (y := nI σ3.1.2.1) (vk3.2.1) ?_
      refine aw_isub (npc := 50) dX8_text_49 rfl ?_
      refine aw_iret rfl dX8_text_50 ?_
      exact (e3 ▸ kf2 hK hz0 hz1 hz2 r3) _ _ _ F20 pk_us (fun k k1 k2 k3 k4 => (pk_un (by omega)).trans (g3 k k1 k2 k3 k4)) ha3 (am_fpU (show ¬ (69 < 69 ∨ 92 ≤ 69) by omega) (am_fpT f3 (am_fpT f2 (am_fpT f1 (am_fpU (show ¬ (69 < 69 ∨ 92 ≤ 69) by omega) (am_fpU (show ¬ (69 < 69 ∨ 92 ≤ 69) by omega) am_fp0))))))
  · refine aw_re (S' := [.int 0]) rfl ?_
    refine aw_if_eq (npc := 21) (tgt := 32) dX8_text_18 rfl (by decide) (fun _ => ?_) (fun hc => absurd (by decide) hc)
    refine aw_iconst (npc := 33) (v := 0) (by decide) dX8_text_32 rfl ?_
    refine aw_istore_n (npc := 34) (L' := [some (.ref 69), some (.int 0), none, none]) dX8_text_33 rfl (by decide) rfl rfl ?_
    refine aw_aload_n (npc := 35) rfl dX8_text_34 rfl ?_
    refine aw_iconst (npc := 36) (v := 0) (by decide) dX8_text_35 rfl ?_
    refine aw_put (npc := 39) dX8_text_36 rfl kf_X8_192 F1.1 (Nat.le_of_ble_eq_true rfl) (am_ok_int _) rfl ?_
    have F21 := mr_o9 (v := 0) F1
    refine aw_iload_n (npc := 40) rfl dX8_text_39 rfl ?_
    refine aw_if_ne (npc := 43) (tgt := 51) dX8_text_40 rfl (by decide) (fun hc => absurd (by decide) hc) (fun _ => ?_)
    refine aw_bipush (npc := 45) (v := -100) (by decide) dX8_text_43 rfl ?_
    refine aw_aload_n (npc := 46) rfl dX8_text_45 rfl ?_
    refine aw_get (npc := 49) dX8_text_46 rfl kf_X8_198 F21.1 rfl ?_
    refine aw_top (y := o1 11) ((pk_un (by omega))) ?_
    refine aw_top (y := nI (nx L (a 75) 0 false).2.1) (vk1.2.1) ?_
    refine aw_isub (npc := 50) dX8_text_49 rfl ?_
    refine aw_iret rfl dX8_text_50 ?_
    exact kN hz _ _ _ F21 pk_us (fun k k1 k2 k3 k4 => (pk_un (by omega)).trans (g1 k (by omega))) (fun _ _ _ _ => rfl) (am_fpU (show ¬ (69 < 69 ∨ 92 ≤ 69) by omega) (am_fpT f1 (am_fpU (show ¬ (69 < 69 ∨ 92 ≤ 69) by omega) (am_fpU (show ¬ (69 < 69 ∨ 92 ≤ 69) by omega) am_fp0))))
def cntL : List Int32 → Nat
  | [] => 0
  | x :: xs => (if x < 0 then 0 else 1) + cntL xs
def vlL : List Int32 → Nat → Nat → Prop
  | [], t, u => u = t
  | x :: xs, t, u => ((∃ v, v < 10000 ∧ x = nI v) ∧ t < 96 ∧ vlL xs (t + 1) u) ∨ ((∃ j, j < 4 ∧ x = nI (10000 + j)) ∧ t < 96 ∧ vlL xs (t + 1) u) ∨ (x = -10 ∧ 1 ≤ t ∧ vlL xs t u) ∨ ((∃ c, sgn x c) ∧ 2 ≤ t ∧ vlL xs (t - 1) u)
theorem vlL_a : ∀ (a b : List Int32) (t u v : Nat), vlL a t u → vlL b u v → vlL (a ++ b) t v := by
  intro a
  induction a with
  | nil => intro b t u v h1 h2; have e : u = t := h1; subst e; exact h2
  | cons x a ih =>
    intro b t u v h1 h2
    rcases h1 with ⟨q, r, s⟩ | ⟨q, r, s⟩ | ⟨q, r, s⟩ | ⟨q, r, s⟩
    · exact Or.inl ⟨q, r, ih b _ _ _ s h2⟩
    · exact Or.inr (Or.inl ⟨q, r, ih b _ _ _ s h2⟩)
    · exact Or.inr (Or.inr (Or.inl ⟨q, r, ih b _ _ _ s h2⟩))
    · exact Or.inr (Or.inr (Or.inr ⟨q, r, ih b _ _ _ s h2⟩))
theorem cntL_a : ∀ (a b : List Int32), cntL (a ++ b) = cntL a + cntL b := by
  intro a
  induction a with
  | nil => intro b; exact (Nat.zero_add _).symm
  | cons x a ih => intro b; show (if x < 0 then 0 else 1) + cntL (a ++ b) = (if x < 0 then 0 else 1) + cntL a + cntL b; rw [ih]; omega
def crL (k : Nat) : List Int32 → List Int32 → Prop
  | [], [] => True
  | x :: xs, m :: ms => cr1 k x m ∧ crL k xs ms
  | _, _ => False
theorem crL_a {k : Nat} : ∀ (a m b l : List Int32), crL k a m → crL k b l → crL k (a ++ b) (m ++ l) := by
  intro a
  induction a with
  | nil =>
    intro m b l h1 h2
    cases m with
    | nil => exact h2
    | cons y m => exact absurd h1 id
  | cons x a ih =>
    intro m b l h1 h2
    cases m with
    | nil => exact absurd h1 id
    | cons y m => exact ⟨h1.1, ih m b l h1.2 h2⟩
theorem crL_len {k : Nat} : ∀ (a m : List Int32), crL k a m → a.length = m.length := by
  intro a
  induction a with
  | nil =>
    intro m h
    cases m with
    | nil => rfl
    | cons y m => exact absurd h id
  | cons x a ih =>
    intro m h
    cases m with
    | nil => exact absurd h id
    | cons y m => exact congrArg (· + 1) (ih m h.2)
def XE (k : Nat) (e me : List Int32) (n : Nat) : Prop := crL k e me ∧ cntL me = n ∧ 1 ≤ n ∧ ∀ t, t + n ≤ 96 → vlL me t (t + 1)
theorem nI_nn {v : Nat} (h : v < 100000) : ¬ nI v < 0 := nI_pos (by omega)
theorem xe_num {k v : Nat} (h : v < 10000) : XE k [nI v] [nI v] 1 := by
  refine ⟨⟨Or.inl ⟨v, h, rfl, rfl⟩, trivial⟩, ?_, Nat.le_refl _, fun t ht => Or.inl ⟨⟨v, h, rfl⟩, by omega, rfl⟩⟩
  show (if nI v < 0 then 0 else 1) + 0 = 1
  rw [if_neg (nI_nn (by omega))]
theorem xe_name {k j : Nat} (hj : j < nmk k) : XE k [-1 - nI j] [nI (10000 + j)] 1 := by
  have h4 : j < 4 := by unfold nmk at hj; split at hj <;> omega
  refine ⟨⟨Or.inr (Or.inl ⟨j, hj, ?_, rfl⟩), trivial⟩, ?_, Nat.le_refl _, fun t ht => Or.inr (Or.inl ⟨⟨j, h4, rfl⟩, by omega, rfl⟩)⟩
  · rw [← nI_add j 1, show nI 1 = 1 from rfl]; grind
  · show (if nI (10000 + j) < 0 then 0 else 1) + 0 = 1
    rw [if_neg (nI_nn (by omega))]
theorem xe_not {k n : Nat} {e me : List Int32} (h : XE k e me n) : XE k (e ++ [-33]) (me ++ [-10]) n := by
  obtain ⟨h1, h2, h3, h4⟩ := h
  refine ⟨crL_a _ _ _ _ h1 ⟨Or.inr (Or.inr (Or.inl ⟨rfl, rfl⟩)), trivial⟩, ?_, h3, fun t ht => vlL_a _ _ _ _ _ (h4 t ht) (Or.inr (Or.inr (Or.inl ⟨rfl, by omega, rfl⟩)))⟩
  rw [cntL_a, h2]; rfl
theorem xe_two {k n n2 : Nat} {e me e2 me2 : List Int32} {m s : Int32} (hs : sgn m s) (h : XE k e me n) (g : XE k e2 me2 n2) : XE k (e ++ e2 ++ [-s]) (me ++ me2 ++ [m]) (n + n2) := by
  obtain ⟨h1, h2, h3, h4⟩ := h
  obtain ⟨g1, g2, g3, g4⟩ := g
  refine ⟨crL_a _ _ _ _ (crL_a _ _ _ _ h1 g1) ⟨Or.inr (Or.inr (Or.inr ⟨s, hs, rfl⟩)), trivial⟩, ?_, by omega, fun t ht => vlL_a _ _ _ _ _ (vlL_a _ _ _ _ _ (h4 t (by omega)) (g4 (t + 1) (by omega))) (Or.inr (Or.inr (Or.inr ⟨⟨s, hs⟩, by omega, by show t + 1 = t + 1 + 1 - 1; omega⟩)))⟩
  rw [cntL_a, cntL_a, h2, g2]
  show n + n2 + ((if m < 0 then 0 else 1) + 0) = n + n2
  rw [if_pos (sgn_neg hs).1]; rfl
theorem sgm_s (b : Int32) (h : sgm b ≠ 0) : sgn (sgm b) b := by
  by_cases h0 : b = 124
  · subst h0; unfold sgn sgm; decide
  by_cases h1 : b = 38
  · subst h1; unfold sgn sgm; decide
  by_cases h2 : b = 60
  · subst h2; unfold sgn sgm; decide
  by_cases h3 : b = 61
  · subst h3; unfold sgn sgm; decide
  by_cases h4 : b = 62
  · subst h4; unfold sgn sgm; decide
  by_cases h5 : b = 43
  · subst h5; unfold sgn sgm; decide
  by_cases h6 : b = 45
  · subst h6; unfold sgn sgm; decide
  by_cases h7 : b = 42
  · subst h7; unfold sgn sgm; decide
  by_cases h8 : b = 47
  · subst h8; unfold sgn sgm; decide
  exact absurd (by simp [sgm, h0, h1, h2, h3, h4, h5, h6, h7, h8]) h
theorem dig_v {b : Int32} (h : so b = 2) : ∃ v, v < 10 ∧ b = nI (48 + v) := by
  have z := so_2d h
  obtain ⟨q, hq, e⟩ := wi_nI (H := 57) (lo := 48) (hi := 57) (by decide) (by decide) ⟨Int32.not_lt.mpr z.1, Int32.not_lt.mpr z.2⟩
  refine ⟨q - 48, by omega, ?_⟩
  rw [e]
  congr 1
  have y : (48 : Int32) ≤ nI q := e ▸ z.1
  have y2 := (nI_leI (a := 48) (b := q) (by omega) (by omega)).mp y
  omega
theorem nu_b {tp : Nat → Int32} {f : Nat} : ∀ (m : Nat), m ≤ 4 → (∀ j, f ≤ j → j < f + m → so (tp j) = 2) → ∃ v, v < 10 ^ m ∧ nuV tp m f 0 = nI v := by
  intro m
  induction m with
  | zero => intro _ _; exact ⟨0, by decide, rfl⟩
  | succ m ih =>
    intro hm h
    obtain ⟨v, hv, e⟩ := ih (by omega) (fun j h1 h2 => h j h1 (by omega))
    obtain ⟨u, hu, eu⟩ := dig_v (h (f + m) (by omega) (by omega))
    refine ⟨v * 10 + u, by rw [Nat.pow_succ]; omega, ?_⟩
    rw [nu_s, e, eu, show nI (v * 10 + u) = nI (v * 10) + nI u from (nI_add _ _).symm, ← nI_add 48 u, show nI (v * 10) = nI v * 10 from (pk_mul v 10).symm]
    show nI v * 10 + (48 + nI u) - 48 = nI v * 10 + nI u
    grind
theorem num_v {L : Nat} {tp : Nat → Int32} {K : Nat × Nat × Nat} (wk : WFK L tp K) (h : K.1 = 2) : ∃ v, v < 10000 ∧ nuV tp (K.2.2 - K.2.1) K.2.1 0 = nI v := by
  have z := wk.2.2.2.2.2.2.2.1 h
  have wf := wk.2.1
  obtain ⟨v, hv, e⟩ := nu_b (tp := tp) (f := K.2.1) (K.2.2 - K.2.1) (by omega) (fun j h1 h2 => z.1 j h1 (by omega))
  exact ⟨v, Nat.lt_of_lt_of_le hv (Nat.le_trans (Nat.pow_le_pow_right (by decide) (show K.2.2 - K.2.1 ≤ 4 by omega)) (by decide)), e⟩
def topB (r : Int32) (ws : List Int32) : Prop := ws = [] ∨ ∃ w u, ws = w :: u ∧ (w = -11 ∨ rkM w < r)
def endC (tp : Nat → Int32) (r : Int32) (K : Nat × Nat × Nat) (x : Int32) : Prop := sgV K.1 (tp K.2.1) = 0 ∨ rkM (sgV K.1 (tp K.2.1)) < r ∨ (rkM (sgV K.1 (tp K.2.1)) = 3 ∧ ¬ x = 0 ∧ r ≤ 3)
def pnd (r : Int32) : List Int32 → Prop
  | [] => True
  | x :: xs => (r ≤ rkM x ∧ x ≠ -11 ∧ x ≠ -10) ∧ pnd r xs
theorem pnd_a {r : Int32} : ∀ (a b : List Int32), pnd r a → pnd r b → pnd r (a ++ b) := by
  intro a
  induction a with
  | nil => intro b _ h; exact h
  | cons x a ih => intro b h g; exact ⟨h.1, ih b h.2 g⟩
theorem pnd_le {r s : Int32} (h : s ≤ r) : ∀ (a : List Int32), pnd r a → pnd s a := by
  intro a
  induction a with
  | nil => intro _; trivial
  | cons x a ih => intro g; exact ⟨⟨Int32.le_trans h g.1.1, g.1.2⟩, ih g.2⟩
theorem stl_top {r : Int32} {cs ws : List Int32} (h : topB r ws) : stl r cs ws = (cs, ws) := by
  rcases h with rfl | ⟨w, u, rfl, h⟩
  · rfl
  · unfold stl; rw [if_pos h]
theorem stl_pnd {r : Int32} {ws : List Int32} (h : topB r ws) : ∀ (p cs : List Int32), pnd r p → stl r cs (p ++ ws) = (cs ++ p, ws) := by
  intro p
  induction p with
  | nil => intro cs _; rw [List.append_nil]; exact stl_top h
  | cons x p ih =>
    intro cs g
    show stl r cs (x :: (p ++ ws)) = (cs ++ (x :: p), ws)
    unfold stl
    rw [if_neg (fun z => z.elim g.1.2.1 (fun y => absurd y (Int32.not_lt.mpr g.1.1))), ih _ g.2, List.append_assoc]
    rfl
theorem nO_p {r : Int32} : ∀ (p ws : List Int32), pnd r p → nO (p ++ ws) = nO ws := by
  intro p
  induction p with
  | nil => intro ws _; rfl
  | cons x p ih =>
    intro ws g
    show (if x = -10 then 1 else 0) + nO (p ++ ws) = nO ws
    rw [if_neg g.1.2.2, Nat.zero_add, ih ws g.2]
theorem rkM_le (x : Int32) : 1 ≤ rkM x ∧ rkM x ≤ 6 := by
  unfold rkM
  repeat' split
  all_goals decide
def OKs (L : Nat) (tp : Nat → Int32) (ky : Nat) (r : Int32) (ρ ρ' : RS) (cs ws : List Int32) (at_ : Nat) (tq : Nat → Int32) : Prop := ∃ e me nn e1 pend tq', ρ'.2.2.2.1 = ρ.2.2.2.1 ++ e ∧ XE ky e me nn ∧ ρ'.2.2.2.2.1 = ρ.2.2.2.2.1 + nn ∧ e.length + ρ.1.2.1 ≤ ρ'.1.2.1 ∧ e1 ++ pend = me ∧ pnd r pend ∧ (∀ k, k < ρ.2.2.2.2.2.1 → tq' k = tq k) ∧ (3 < r → (tq' ρ.2.2.2.2.2.1 = 0 ↔ tq ρ.2.2.2.2.2.1 = 0)) ∧ endC tp r ρ'.1 (tq' ρ.2.2.2.2.2.1) ∧ ∀ R, TE L tp (nI ky) false ρ.2.2.2.2.2.1 (ρ'.1, cs ++ e1, pend ++ ws, at_ + nn, tq') R → TE L tp (nI ky) true ρ.2.2.2.2.2.1 (ρ.1, cs, ws, at_, tq) R
def SpG (L : Nat) (tp : Nat → Int32) (ky D : Nat) (r : Int32) (G : RS → RS) : Prop := ∀ ρ, WR L tp ρ → 17 ≤ D + ρ.2.2.2.2.2.1 + ρ.2.2.2.2.2.2 → ρ.2.1 = none → ρ.2.2.1 = nI ky → ρ.2.2.2.1.length + 3 ≤ ρ.1.2.1 → ∀ cs ws at_ tq, nO ws = ρ.2.2.2.2.2.2 → (r ≤ 3 → tq ρ.2.2.2.2.2.1 = 0) → topB r ws →
  (∀ q, (G ρ).2.1 = some q → TE L tp (nI ky) true ρ.2.2.2.2.2.1 (ρ.1, cs, ws, at_, tq) (none, q)) ∧ ((G ρ).2.1 = none → OKs L tp ky r ρ (G ρ) cs ws at_ tq)
theorem lp_flt {L : Nat} {tp : Nat → Int32} {G : RS → RS} {T : RS → Prop} (hT : ∀ ρ, T ρ → ρ.2.1 = none) : ∀ (m : Nat) (ρ : RS), ρ.2.1 ≠ none → lpF L tp G T m ρ = ρ := by
  intro m ρ h
  cases m with
  | zero => rfl
  | succ m => exact cI_f (fun z => h (hT ρ z))
theorem tsV_lo {g x : Int32} (h : rkM g < 3) : tsV g x = 0 := by
  unfold tsV
  exact if_neg (fun z => z.elim (fun y => absurd h (by rw [y]; decide)) (fun y => Int32.lt_irrefl (Int32.lt_trans h y.1)))
theorem tsV_hi {g x : Int32} (h : 3 < rkM g) : (tsV g x = 0 ↔ x = 0) := by
  unfold tsV
  by_cases e : x = 0
  · rw [if_neg (fun z => z.elim (fun y => absurd h (by rw [y]; decide)) (fun y => y.2 e))]; exact ⟨fun _ => e, fun _ => rfl⟩
  · rw [if_pos (Or.inr ⟨h, e⟩)]; exact ⟨fun z => absurd z (by decide), fun z => absurd z e⟩
theorem em_app {cs : List Int32} {c : Int32} (h : cs.length < 96) : emL cs c = cs ++ [c] := if_pos h
def OKl (L : Nat) (tp : Nat → Int32) (ky : Nat) (r r' : Int32) (b : Nat) (ρ0 ρ : RS) (cs ws : List Int32) (at_ : Nat) (tq : Nat → Int32) : Prop := ∃ e me nn e1 pend tq', ρ.2.2.2.1 = ρ0.2.2.2.1 ++ e ∧ XE ky e me nn ∧ ρ.2.2.2.2.1 = ρ0.2.2.2.2.1 + nn ∧ e.length + ρ0.1.2.1 ≤ ρ.1.2.1 ∧ e1 ++ pend = me ∧ pnd r pend ∧ (∀ k, k < b → tq' k = tq k) ∧ (3 < r → (tq' b = 0 ↔ tq b = 0)) ∧ endC tp r' ρ.1 (tq' b) ∧ ∀ R, TE L tp (nI ky) false b (ρ.1, cs ++ e1, pend ++ ws, at_ + nn, tq') R → TE L tp (nI ky) true b (ρ0.1, cs, ws, at_, tq) R
set_option maxHeartbeats 2000000 in
theorem lp_sp {L : Nat} {tp : Nat → Int32} {ky D : Nat} {r r' : Int32} {G : RS → RS} {T : RS → Prop} (hrr : r < r') (hr3 : ¬ r = 3) (hr4 : r' ≤ 3 → r < 3) (hst : ∀ x, rkM x < r' → ¬ rkM x = r → rkM x < r)
    (hT : ∀ ρ, T ρ → ρ.2.1 = none ∧ ρ.1.1 = 3 ∧ rkM (sgm (tp ρ.1.2.1)) = r ∧ sgm (tp ρ.1.2.1) ≠ 0 ∧ tp ρ.1.2.1 ≠ 41)
    (hTn : ∀ ρ, ρ.2.1 = none → ¬ T ρ → sgV ρ.1.1 (tp ρ.1.2.1) = 0 ∨ ¬ rkM (sgV ρ.1.1 (tp ρ.1.2.1)) = r)
    (hG : SpG L tp ky D r' G) (hO : PO L tp D G) {b gq : Nat} {ρ0 : RS} {cs ws : List Int32} {at_ : Nat} {tq : Nat → Int32} (hno : nO ws = gq) (htop : topB r ws) (hD : 17 ≤ D + b + gq) (hc0 : ρ0.2.2.2.1.length + 3 ≤ ρ0.1.2.1) :
    ∀ (m : Nat) (ρ : RS), WR L tp ρ → ρ.2.1 = none → ρ.2.2.1 = nI ky → ρ.2.2.2.2.2.1 = b → ρ.2.2.2.2.2.2 = gq → L ≤ m + ρ.1.2.1 → OKl L tp ky r r' b ρ0 ρ cs ws at_ tq →
      (∀ q, (lpF L tp G T m ρ).2.1 = some q → TE L tp (nI ky) true b (ρ0.1, cs, ws, at_, tq) (none, q)) ∧ ((lpF L tp G T m ρ).2.1 = none → OKl L tp ky r r b ρ0 (lpF L tp G T m ρ) cs ws at_ tq) := by
  have hend : ∀ ρ, ρ.2.1 = none → ¬ T ρ → OKl L tp ky r r' b ρ0 ρ cs ws at_ tq → OKl L tp ky r r b ρ0 ρ cs ws at_ tq := by
    intro ρ hf hn h
    obtain ⟨e, me, nn, e1, pend, tq', h1, h2, h3, h4, h5, h6, h7, h8, h9, h10⟩ := h
    refine ⟨e, me, nn, e1, pend, tq', h1, h2, h3, h4, h5, h6, h7, h8, ?_, h10⟩
    rcases hTn ρ hf hn with z | z
    · exact Or.inl z
    · rcases h9 with y | y | y
      · exact Or.inl y
      · exact Or.inr (Or.inl (hst _ y z))
      · exact Or.inr (Or.inr ⟨y.1, y.2.1, Int32.le_of_lt (hr4 y.2.2)⟩)
  intro m
  induction m with
  | zero =>
    intro ρ W hf hk hb hg hm h
    have hn : ¬ T ρ := fun z => by
      have y := hT ρ z
      have x := W.1.2.2.2.2.2.1 (by omega)
      have v := W.1.1
      omega
    exact ⟨fun q z => absurd (hf.symm.trans z) (by simp), fun _ => hend ρ hf hn h⟩
  | succ m ih =>
    intro ρ W hf hk hb hg hm h
    by_cases hTt : T ρ
    · have y := hT ρ hTt
      have hstep : lpF L tp G T (m + 1) ρ = lpF L tp G T m (emF (-(tp ρ.1.2.1)) (G (avF L tp ρ))) := cI_t hTt
      rw [hstep]
      obtain ⟨e, me, nn, e1, pend, tq', h1, h2, h3, h4, h5, h6, h7, h8, h9, h10⟩ := h
      have W2 := wr_av W
      have hu := adv_up W.1 (by omega)
      have hu2 : ρ.1.2.1 + 1 ≤ (adv L tp ρ.1).2.1 := hu.2
      have w1 := hu.1.1
      have w2 := hu.1.2.1
      have w96 := W.2.1
      have hlen : ρ.2.2.2.1.length = ρ0.2.2.2.1.length + e.length := by rw [h1, List.length_append]
      have hgn := sgm_n (tp ρ.1.2.1)
      have hgV : sgV ρ.1.1 (tp ρ.1.2.1) = sgm (tp ρ.1.2.1) := by rw [y.2.1]; rfl
      have hno2 : nO (sgm (tp ρ.1.2.1) :: ws) = gq := by
        show (if sgm (tp ρ.1.2.1) = -10 then 1 else 0) + nO ws = gq
        rw [if_neg hgn.1, Nat.zero_add]; exact hno
      have hst2 : stl (rkM (sgm (tp ρ.1.2.1))) (cs ++ e1) (pend ++ ws) = (cs ++ me, ws) := by
        rw [y.2.2.1, stl_pnd htop pend _ h6, List.append_assoc, h5]
      have S := hG (avF L tp ρ) W2 (by show 17 ≤ D + ρ.2.2.2.2.2.1 + ρ.2.2.2.2.2.2; rw [hb, hg]; exact hD) hf hk (by show ρ.2.2.2.1.length + 3 ≤ (adv L tp ρ.1).2.1; omega) (cs ++ me) (sgm (tp ρ.1.2.1) :: ws) (at_ + nn) (upd tq' b (tsV (sgm (tp ρ.1.2.1)) (tq' b))) (hno2.trans hg.symm) (fun z => by show upd tq' b _ ρ.2.2.2.2.2.1 = 0; rw [hb, pk_us]; exact tsV_lo (by rw [y.2.2.1]; exact hr4 z)) (Or.inr ⟨_, _, rfl, Or.inr (by rw [y.2.2.1]; exact hrr)⟩)
      have hb2 : (avF L tp ρ).2.2.2.2.2.1 = b := hb
      have TS : ∀ R, TE L tp (nI ky) true b (adv L tp ρ.1, cs ++ me, sgm (tp ρ.1.2.1) :: ws, at_ + nn, upd tq' b (tsV (sgm (tp ρ.1.2.1)) (tq' b))) R → TE L tp (nI ky) true b (ρ0.1, cs, ws, at_, tq) R := fun R t => h10 R (te_sg b ρ.1 (cs ++ e1) (pend ++ ws) (at_ + nn) tq' R _ (fun z => y.2.2.2.2 z.2.1) hgV y.2.2.2.1 (fun z => hr3 (y.2.2.1.symm.trans z.1)) (by rw [hst2]; exact t))
      have K2 := hO (avF L tp ρ) W2 (by show 17 ≤ D + ρ.2.2.2.2.2.1 + ρ.2.2.2.2.2.2; rw [hb, hg]; exact hD)
      rcases hq : (G (avF L tp ρ)).2.1 with _ | q
      · obtain ⟨e2, me2, n2, e12, p2, tq2, g1, g2, g3, g4, g5, g6, g7, g8, g9, g10⟩ := S.2 hq
        rw [hb2] at g7 g8 g9 g10
        have g1' : (G (avF L tp ρ)).2.2.2.1 = ρ.2.2.2.1 ++ e2 := g1
        have g4' : e2.length + (adv L tp ρ.1).2.1 ≤ (G (avF L tp ρ)).1.2.1 := g4
        have k1 := K2.1.1.1
        have k2 := K2.1.1.2.1
        have hl3 : (G (avF L tp ρ)).2.2.2.1.length < 96 := by rw [g1', List.length_append]; omega
        refine ih (emF (-(tp ρ.1.2.1)) (G (avF L tp ρ))) (wr_em K2.1) hq (K2.2.1.trans hk) ?_ ?_ ?_ ?_
        · exact (congrArg (fun z : Nat × Nat => z.1) K2.2.2).trans hb
        · exact (congrArg (fun z : Nat × Nat => z.2) K2.2.2).trans hg
        · show L ≤ m + (G (avF L tp ρ)).1.2.1; omega
        · refine ⟨e ++ e2 ++ [-(tp ρ.1.2.1)], me ++ me2 ++ [sgm (tp ρ.1.2.1)], nn + n2, me ++ e12, p2 ++ [sgm (tp ρ.1.2.1)], tq2, ?_, xe_two (sgm_s _ y.2.2.2.1) h2 g2, ?_, ?_, ?_, ?_, ?_, ?_, g9, ?_⟩
          · show emL (G (avF L tp ρ)).2.2.2.1 (-(tp ρ.1.2.1)) = _
            rw [em_app hl3, g1', h1]; simp only [List.append_assoc]
          · show (G (avF L tp ρ)).2.2.2.2.1 = _
            have g3' : (G (avF L tp ρ)).2.2.2.2.1 = ρ.2.2.2.2.1 + n2 := g3
            rw [g3', h3, Nat.add_assoc]
          · show (e ++ e2 ++ [-(tp ρ.1.2.1)]).length + ρ0.1.2.1 ≤ (G (avF L tp ρ)).1.2.1
            rw [List.length_append, List.length_append, List.length_singleton]; omega
          · rw [← g5]; simp only [List.append_assoc]
          · exact pnd_a _ _ (pnd_le (Int32.le_of_lt hrr) _ g6) ⟨⟨by rw [y.2.2.1]; exact Int32.le_refl _, hgn.2, hgn.1⟩, trivial⟩
          · intro k hk2
            rw [g7 k hk2, pk_un (by omega)]; exact h7 k hk2
          · intro z
            have z2 := g8 (Int32.lt_trans z hrr)
            rw [pk_us] at z2
            exact z2.trans ((tsV_hi (by rw [y.2.2.1]; exact z)).trans (h8 z))
          · intro R t
            refine TS R (g10 R ?_)
            have t2 : TE L tp (nI ky) false b ((G (avF L tp ρ)).1, cs ++ (me ++ e12), p2 ++ [sgm (tp ρ.1.2.1)] ++ ws, at_ + (nn + n2), tq2) R := t
            rw [← List.append_assoc, List.append_assoc p2, ← Nat.add_assoc] at t2
            exact t2
      · have hfl : (emF (-(tp ρ.1.2.1)) (G (avF L tp ρ))).2.1 = some q := hq
        rw [lp_flt (fun ρ z => (hT ρ z).1) m _ (by rw [hfl]; simp)]
        refine ⟨fun q2 z => ?_, fun z => absurd (hfl.symm.trans z) (by simp)⟩
        obtain rfl : q = q2 := Option.some.inj (hfl.symm.trans z)
        have z2 := S.1 q hq
        rw [hb2] at z2
        exact TS _ z2
    · have hstep : lpF L tp G T (m + 1) ρ = ρ := cI_f hTt
      rw [hstep]
      exact ⟨fun q z => absurd (hf.symm.trans z) (by simp), fun _ => hend ρ hf hTt h⟩
theorem sg_rk (b : Int32) (h : sgm b ≠ 0) : (rkM (sgm b) = 5 → b = 42 ∨ b = 47) ∧ (rkM (sgm b) = 4 → b = 43 ∨ b = 45) ∧ (rkM (sgm b) = 3 → b = 60 ∨ b = 61 ∨ b = 62) ∧ (rkM (sgm b) = 2 → b = 38) ∧ (rkM (sgm b) = 1 → b = 124) := by
  by_cases h0 : b = 124
  · subst h0; decide
  by_cases h1 : b = 38
  · subst h1; decide
  by_cases h2 : b = 60
  · subst h2; decide
  by_cases h3 : b = 61
  · subst h3; decide
  by_cases h4 : b = 62
  · subst h4; decide
  by_cases h5 : b = 43
  · subst h5; decide
  by_cases h6 : b = 45
  · subst h6; decide
  by_cases h7 : b = 42
  · subst h7; decide
  by_cases h8 : b = 47
  · subst h8; decide
  exact absurd (by simp [sgm, h0, h1, h2, h3, h4, h5, h6, h7, h8]) h
theorem topB_le {r r' : Int32} {ws : List Int32} (hrr : r < r') (h : topB r ws) : topB r' ws := by
  rcases h with h | ⟨w, u, e, h⟩
  · exact Or.inl h
  · exact Or.inr ⟨w, u, e, h.imp id (fun z => Int32.lt_trans z hrr)⟩
theorem lv_sp {L : Nat} {tp : Nat → Int32} {ky D : Nat} {r r' : Int32} {G : RS → RS} {T : RS → Prop} (hrr : r < r') (hr3 : ¬ r = 3) (hr4 : r' ≤ 3 → r < 3) (hst : ∀ x, rkM x < r' → ¬ rkM x = r → rkM x < r)
    (hT : ∀ ρ, T ρ → ρ.2.1 = none ∧ ρ.1.1 = 3 ∧ rkM (sgm (tp ρ.1.2.1)) = r ∧ sgm (tp ρ.1.2.1) ≠ 0 ∧ tp ρ.1.2.1 ≠ 41)
    (hTn : ∀ ρ, ρ.2.1 = none → ¬ T ρ → sgV ρ.1.1 (tp ρ.1.2.1) = 0 ∨ ¬ rkM (sgV ρ.1.1 (tp ρ.1.2.1)) = r)
    (hG : SpG L tp ky D r' G) (hO : PO L tp D G) : SpG L tp ky D r (fun ρ => lpF L tp G T 96 (G ρ)) := by
  intro ρ W hd hf hk hc cs ws at_ tq hno htq htop
  have S := hG ρ W hd hf hk hc cs ws at_ tq hno (fun z => htq (Int32.le_of_lt (Int32.lt_of_lt_of_le hrr z))) (topB_le hrr htop)
  have K2 := hO ρ W hd
  rcases hq : (G ρ).2.1 with _ | q
  · obtain ⟨e, me, nn, e1, pend, tq', h1, h2, h3, h4, h5, h6, h7, h8, h9, h10⟩ := S.2 hq
    have w96 := W.2.1
    exact lp_sp hrr hr3 hr4 hst hT hTn hG hO hno htop hd hc 96 (G ρ) K2.1 hq (K2.2.1.trans hk) (congrArg (fun z : Nat × Nat => z.1) K2.2.2) (congrArg (fun z : Nat × Nat => z.2) K2.2.2) (by omega) ⟨e, me, nn, e1, pend, tq', h1, h2, h3, h4, h5, pnd_le (Int32.le_of_lt hrr) _ h6, h7, (fun z => h8 (Int32.lt_trans z hrr)), h9, h10⟩
  · have e9 : lpF L tp G T 96 (G ρ) = G ρ := lp_flt (fun ρ z => (hT ρ z).1) 96 _ (by rw [hq]; simp)
    show (∀ q, (lpF L tp G T 96 (G ρ)).2.1 = some q → _) ∧ ((lpF L tp G T 96 (G ρ)).2.1 = none → OKs L tp ky r ρ (lpF L tp G T 96 (G ρ)) cs ws at_ tq)
    rw [e9]
    exact ⟨S.1, fun z => absurd (hq.symm.trans z) (by simp)⟩
theorem sgV_z {t : Nat} {b : Int32} (h : ¬ sgV t b = 0) : t = 3 ∧ sgV t b = sgm b ∧ sgm b ≠ 0 := by
  have z := sg_3 h
  subst z
  exact ⟨rfl, rfl, h⟩
theorem sp_prod {L : Nat} {tp : Nat → Int32} {ky D : Nat} {P : RS → RS} (hG : SpG L tp ky D 6 P) (hO : PO L tp D P) : SpG L tp ky D 5 (pdF L tp P) := by
  refine lv_sp (r := 5) (r' := 6) (T := sgP tp) (by decide) (by decide) (fun z => absurd z (by decide)) (fun x h1 h2 => ?_) (fun ρ z => ?_) (fun ρ hf z => ?_) hG hO
  · have y := rkM_le x; revert h1 h2; unfold rkM; repeat' split
    all_goals decide
  · rcases z with z | z
    · exact ⟨z.1, z.2.1, by rw [z.2.2]; decide, by rw [z.2.2]; decide, by rw [z.2.2]; decide⟩
    · exact ⟨z.1, z.2.1, by rw [z.2.2]; decide, by rw [z.2.2]; decide, by rw [z.2.2]; decide⟩
  · by_cases e : sgV ρ.1.1 (tp ρ.1.2.1) = 0
    · exact Or.inl e
    · obtain ⟨e1, e2, e3⟩ := sgV_z e
      refine Or.inr (fun y => z ?_)
      rw [e2] at y
      exact ((sg_rk _ e3).1 y).imp (fun x => ⟨hf, e1, x⟩) (fun x => ⟨hf, e1, x⟩)
theorem sp_sum {L : Nat} {tp : Nat → Int32} {ky D : Nat} {P : RS → RS} (hG : SpG L tp ky D 5 (pdF L tp P)) (hO : PO L tp D P) : SpG L tp ky D 4 (smF L tp P) := by
  refine lv_sp (r := 4) (r' := 5) (T := sgS tp) (by decide) (by decide) (fun z => absurd z (by decide)) (fun x h1 h2 => ?_) (fun ρ z => ?_) (fun ρ hf z => ?_) hG (pd_ok hO)
  · revert h1 h2; unfold rkM; repeat' split
    all_goals decide
  · rcases z with z | z
    · exact ⟨z.1, z.2.1, by rw [z.2.2]; decide, by rw [z.2.2]; decide, by rw [z.2.2]; decide⟩
    · exact ⟨z.1, z.2.1, by rw [z.2.2]; decide, by rw [z.2.2]; decide, by rw [z.2.2]; decide⟩
  · by_cases e : sgV ρ.1.1 (tp ρ.1.2.1) = 0
    · exact Or.inl e
    · obtain ⟨e1, e2, e3⟩ := sgV_z e
      refine Or.inr (fun y => z ?_)
      rw [e2] at y
      exact ((sg_rk _ e3).2.1 y).imp (fun x => ⟨hf, e1, x⟩) (fun x => ⟨hf, e1, x⟩)
theorem sp_and {L : Nat} {tp : Nat → Int32} {ky D : Nat} {P : RS → RS} (hG : SpG L tp ky D 3 (tsF L tp P)) (hO : PO L tp D P) : SpG L tp ky D 2 (anF L tp P) := by
  refine lv_sp (r := 2) (r' := 3) (T := fun ρ => isSg tp ρ 38) (by decide) (by decide) (fun _ => by decide) (fun x h1 h2 => ?_) (fun ρ z => ?_) (fun ρ hf z => ?_) hG (tsF_ok hO)
  · revert h1 h2; unfold rkM; repeat' split
    all_goals decide
  · exact ⟨z.1, z.2.1, by rw [z.2.2]; decide, by rw [z.2.2]; decide, by rw [z.2.2]; decide⟩
  · by_cases e : sgV ρ.1.1 (tp ρ.1.2.1) = 0
    · exact Or.inl e
    · obtain ⟨e1, e2, e3⟩ := sgV_z e
      refine Or.inr (fun y => z ?_)
      rw [e2] at y
      exact ⟨hf, e1, (sg_rk _ e3).2.2.2.1 y⟩
theorem sp_or {L : Nat} {tp : Nat → Int32} {ky D : Nat} {P : RS → RS} (hG : SpG L tp ky D 2 (anF L tp P)) (hO : PO L tp D P) : SpG L tp ky D 1 (orF L tp P) := by
  refine lv_sp (r := 1) (r' := 2) (T := fun ρ => isSg tp ρ 124) (by decide) (by decide) (fun _ => by decide) (fun x h1 h2 => ?_) (fun ρ z => ?_) (fun ρ hf z => ?_) hG (an_ok hO)
  · revert h1 h2; unfold rkM; repeat' split
    all_goals decide
  · exact ⟨z.1, z.2.1, by rw [z.2.2]; decide, by rw [z.2.2]; decide, by rw [z.2.2]; decide⟩
  · by_cases e : sgV ρ.1.1 (tp ρ.1.2.1) = 0
    · exact Or.inl e
    · obtain ⟨e1, e2, e3⟩ := sgV_z e
      refine Or.inr (fun y => z ?_)
      rw [e2] at y
      exact ⟨hf, e1, (sg_rk _ e3).2.2.2.2 y⟩
theorem sgT_g {tp : Nat → Int32} {ρ : RS} (h : sgT tp ρ) : ρ.2.1 = none ∧ ρ.1.1 = 3 ∧ rkM (sgm (tp ρ.1.2.1)) = 3 ∧ sgm (tp ρ.1.2.1) ≠ 0 ∧ tp ρ.1.2.1 ≠ 41 := by
  rcases h with z | z | z
  · exact ⟨z.1, z.2.1, by rw [z.2.2]; decide, by rw [z.2.2]; decide, by rw [z.2.2]; decide⟩
  · exact ⟨z.1, z.2.1, by rw [z.2.2]; decide, by rw [z.2.2]; decide, by rw [z.2.2]; decide⟩
  · exact ⟨z.1, z.2.1, by rw [z.2.2]; decide, by rw [z.2.2]; decide, by rw [z.2.2]; decide⟩
theorem rk34 {x : Int32} (h : rkM x < 4) : rkM x < 3 ∨ rkM x = 3 := by
  revert h
  unfold rkM
  repeat' split
  all_goals decide
set_option maxHeartbeats 2000000 in
theorem ts_sp {L : Nat} {tp : Nat → Int32} {ky D : Nat} {G : RS → RS} (hG : SpG L tp ky D 4 G) (hO : PO L tp D G) : SpG L tp ky D 3 (fun ρ => tsG L tp G (G ρ)) := by
  intro ρ0 W0 hd0 hf0 hk0 hc0 cs ws at_ tq hno htq htop
  have htq0 := htq (by decide)
  have S0 := hG ρ0 W0 hd0 hf0 hk0 hc0 cs ws at_ tq hno (fun z => absurd z (by decide)) (topB_le (by decide) htop)
  have K0 := hO ρ0 W0 hd0
  show (∀ q, (tsG L tp G (G ρ0)).2.1 = some q → _) ∧ ((tsG L tp G (G ρ0)).2.1 = none → OKs L tp ky 3 ρ0 (tsG L tp G (G ρ0)) cs ws at_ tq)
  rcases hq0 : (G ρ0).2.1 with _ | q
  · obtain ⟨e, me, nn, e1, pend, tq', h1, h2, h3, h4, h5, h6, h7, h8, h9, h10⟩ := S0.2 hq0
    have W := K0.1
    have hb : (G ρ0).2.2.2.2.2.1 = ρ0.2.2.2.2.2.1 := congrArg (fun z : Nat × Nat => z.1) K0.2.2
    have hg : (G ρ0).2.2.2.2.2.2 = ρ0.2.2.2.2.2.2 := congrArg (fun z : Nat × Nat => z.2) K0.2.2
    have hk : (G ρ0).2.2.1 = nI ky := K0.2.1.trans hk0
    have hz' : tq' ρ0.2.2.2.2.2.1 = 0 := (h8 (by decide)).mpr htq0
    generalize hρ : G ρ0 = ρ at *
    generalize hbb : ρ0.2.2.2.2.2.1 = b at *
    generalize hgg : ρ0.2.2.2.2.2.2 = gq at *
    by_cases hTt : sgT tp ρ
    · have y := sgT_g hTt
      have hstep : tsG L tp G ρ = emF (-(tp ρ.1.2.1)) (G (avF L tp ρ)) := cI_t hTt
      rw [hstep]
      have W2 := wr_av W
      have hu := adv_up W.1 (by omega)
      have hu2 : ρ.1.2.1 + 1 ≤ (adv L tp ρ.1).2.1 := hu.2
      have w1 := hu.1.1
      have w2 := hu.1.2.1
      have w96 := W.2.1
      have hlen : ρ.2.2.2.1.length = ρ0.2.2.2.1.length + e.length := by rw [h1, List.length_append]
      have hgn := sgm_n (tp ρ.1.2.1)
      have hgV : sgV ρ.1.1 (tp ρ.1.2.1) = sgm (tp ρ.1.2.1) := by rw [y.2.1]; rfl
      have htv : tsV (sgm (tp ρ.1.2.1)) (tq' b) = 1 := if_pos (Or.inl y.2.2.1)
      have hno2 : nO (sgm (tp ρ.1.2.1) :: ws) = gq := by
        show (if sgm (tp ρ.1.2.1) = -10 then 1 else 0) + nO ws = gq
        rw [if_neg hgn.1, Nat.zero_add]; exact hno
      have hst2 : stl (rkM (sgm (tp ρ.1.2.1))) (cs ++ e1) (pend ++ ws) = (cs ++ me, ws) := by
        rw [y.2.2.1, stl_pnd htop pend _ (pnd_le (by decide) _ h6), List.append_assoc, h5]
      have hd2 : 17 ≤ D + ρ.2.2.2.2.2.1 + ρ.2.2.2.2.2.2 := by rw [hb, hg]; exact hd0
      have S := hG (avF L tp ρ) W2 hd2 hq0 hk (by show ρ.2.2.2.1.length + 3 ≤ (adv L tp ρ.1).2.1; omega) (cs ++ me) (sgm (tp ρ.1.2.1) :: ws) (at_ + nn) (upd tq' b 1) (hno2.trans hg.symm) (fun z => absurd z (by decide)) (Or.inr ⟨_, _, rfl, Or.inr (by rw [y.2.2.1]; decide)⟩)
      have hb2 : (avF L tp ρ).2.2.2.2.2.1 = b := hb
      have TS : ∀ R, TE L tp (nI ky) true b (adv L tp ρ.1, cs ++ me, sgm (tp ρ.1.2.1) :: ws, at_ + nn, upd tq' b 1) R → TE L tp (nI ky) true b (ρ0.1, cs, ws, at_, tq) R := fun R t => h10 R (te_sg b ρ.1 (cs ++ e1) (pend ++ ws) (at_ + nn) tq' R _ (fun z => y.2.2.2.2 z.2.1) hgV y.2.2.2.1 (fun z => z.2 hz') (by rw [hst2, htv]; exact t))
      have K2 := hO (avF L tp ρ) W2 hd2
      rcases hq : (G (avF L tp ρ)).2.1 with _ | q
      · obtain ⟨e2, me2, n2, e12, p2, tq2, g1, g2, g3, g4, g5, g6, g7, g8, g9, g10⟩ := S.2 hq
        rw [hb2] at g7 g8 g9 g10
        have g1' : (G (avF L tp ρ)).2.2.2.1 = ρ.2.2.2.1 ++ e2 := g1
        have g4' : e2.length + (adv L tp ρ.1).2.1 ≤ (G (avF L tp ρ)).1.2.1 := g4
        have k1 := K2.1.1.1
        have k2 := K2.1.1.2.1
        have hl3 : (G (avF L tp ρ)).2.2.2.1.length < 96 := by rw [g1', List.length_append]; omega
        have hz2 : ¬ tq2 b = 0 := fun z => by
          have z2 := (g8 (by decide)).mp z
          rw [pk_us] at z2
          exact absurd z2 (by decide)
        refine ⟨fun q z => absurd ((show (emF (-(tp ρ.1.2.1)) (G (avF L tp ρ))).2.1 = none from hq).symm.trans z) (by simp), fun _ => ?_⟩
        refine ⟨e ++ e2 ++ [-(tp ρ.1.2.1)], me ++ me2 ++ [sgm (tp ρ.1.2.1)], nn + n2, me ++ e12, p2 ++ [sgm (tp ρ.1.2.1)], tq2, ?_, xe_two (sgm_s _ y.2.2.2.1) h2 g2, ?_, ?_, ?_, ?_, ?_, (fun z => absurd z (by decide)), ?_, ?_⟩
        · show emL (G (avF L tp ρ)).2.2.2.1 (-(tp ρ.1.2.1)) = _
          rw [em_app hl3, g1', h1]; simp only [List.append_assoc]
        · show (G (avF L tp ρ)).2.2.2.2.1 = _
          have g3' : (G (avF L tp ρ)).2.2.2.2.1 = ρ.2.2.2.2.1 + n2 := g3
          rw [g3', h3, Nat.add_assoc]
        · show (e ++ e2 ++ [-(tp ρ.1.2.1)]).length + ρ0.1.2.1 ≤ (G (avF L tp ρ)).1.2.1
          rw [List.length_append, List.length_append, List.length_singleton]; omega
        · rw [← g5]; simp only [List.append_assoc]
        · exact pnd_a _ _ (pnd_le (by decide) _ g6) ⟨⟨by rw [y.2.2.1]; exact Int32.le_refl _, hgn.2, hgn.1⟩, trivial⟩
        · intro k hk2
          have hk3 : k < b := hbb ▸ hk2
          rw [g7 k hk3, pk_un (by omega)]; exact h7 k hk3
        · rw [hbb]
          rcases g9 with z | z | z
          · exact Or.inl z
          · rcases rk34 z with z2 | z2
            · exact Or.inr (Or.inl z2)
            · exact Or.inr (Or.inr ⟨z2, hz2, by decide⟩)
          · exact absurd z.2.2 (by decide)
        · rw [hbb]
          intro R t
          refine TS R (g10 R ?_)
          have t2 : TE L tp (nI ky) false b ((G (avF L tp ρ)).1, cs ++ (me ++ e12), p2 ++ [sgm (tp ρ.1.2.1)] ++ ws, at_ + (nn + n2), tq2) R := t
          rw [← List.append_assoc, List.append_assoc p2, ← Nat.add_assoc] at t2
          exact t2
      · have hfl : (emF (-(tp ρ.1.2.1)) (G (avF L tp ρ))).2.1 = some q := hq
        refine ⟨fun q2 z => ?_, fun z => absurd (hfl.symm.trans z) (by simp)⟩
        obtain rfl : q = q2 := Option.some.inj (hfl.symm.trans z)
        have z2 := S.1 q hq
        rw [hb2] at z2
        exact TS _ z2
    · have hstep : tsG L tp G ρ = ρ := cI_f hTt
      rw [hstep]
      refine ⟨fun q z => absurd (hq0.symm.trans z) (by simp), fun _ => ⟨e, me, nn, e1, pend, tq', h1, h2, h3, h4, h5, pnd_le (by decide) _ h6, (fun k hk2 => h7 k (hbb ▸ hk2)), (fun z => absurd z (by decide)), ?_, ?_⟩⟩
      · rw [hbb]
        by_cases ez : sgV ρ.1.1 (tp ρ.1.2.1) = 0
        · exact Or.inl ez
        · obtain ⟨z1, z2, z3⟩ := sgV_z ez
          rcases h9 with z | z | z
          · exact Or.inl z
          · rcases rk34 z with x | x
            · exact Or.inr (Or.inl x)
            · rw [z2] at x
              exact absurd (((sg_rk _ z3).2.2.1 x).imp (fun x => ⟨hq0, z1, x⟩) (fun x => x.imp (fun x => ⟨hq0, z1, x⟩) (fun x => ⟨hq0, z1, x⟩))) hTt
          · exact absurd z.2.2 (by decide)
      · rw [hbb]; exact h10
  · have hn : ¬ sgT tp (G ρ0) := fun z => by
      have y := (sgT_g z).1
      rw [hq0] at y
      cases y
    have hstep : tsG L tp G (G ρ0) = G ρ0 := cI_f hn
    rw [hstep]
    exact ⟨S0.1, fun z => absurd (hq0.symm.trans z) (by simp)⟩
theorem sp_test {L : Nat} {tp : Nat → Int32} {ky D : Nat} {P : RS → RS} (hG : SpG L tp ky D 4 (smF L tp P)) (hO : PO L tp D P) : SpG L tp ky D 3 (tsF L tp P) := ts_sp hG (sm_ok hO)
def SpP (L : Nat) (tp : Nat → Int32) (ky D : Nat) (G : RS → RS) : Prop := ∀ ρ, WR L tp ρ → 17 ≤ D + ρ.2.2.2.2.2.1 + ρ.2.2.2.2.2.2 → ρ.2.1 = none → ρ.2.2.1 = nI ky → ρ.2.2.2.1.length + 3 ≤ ρ.1.2.1 → ∀ cs ws at_ tq, nO ws = ρ.2.2.2.2.2.2 →
  (∀ q, (G ρ).2.1 = some q → TE L tp (nI ky) true ρ.2.2.2.2.2.1 (ρ.1, cs, ws, at_, tq) (none, q)) ∧ ((G ρ).2.1 = none → ∃ e me nn tq', (G ρ).2.2.2.1 = ρ.2.2.2.1 ++ e ∧ XE ky e me nn ∧ (G ρ).2.2.2.2.1 = ρ.2.2.2.2.1 + nn ∧ e.length + ρ.1.2.1 ≤ (G ρ).1.2.1 ∧ (∀ k, k ≤ ρ.2.2.2.2.2.1 → tq' k = tq k) ∧ ∀ R, TE L tp (nI ky) false ρ.2.2.2.2.2.1 ((G ρ).1, (stl 6 (cs ++ me) ws).1, (stl 6 (cs ++ me) ws).2, at_ + nn, tq') R → TE L tp (nI ky) true ρ.2.2.2.2.2.1 (ρ.1, cs, ws, at_, tq) R)
theorem sg6 (b : Int32) (h : sgm b ≠ 0) : rkM (sgm b) < 6 := by
  have z := sgm_s b h
  rcases z with ⟨z, _⟩ | ⟨z, _⟩ | ⟨z, _⟩ | ⟨z, _⟩ | ⟨z, _⟩ | ⟨z, _⟩ | ⟨z, _⟩ | ⟨z, _⟩ | ⟨z, _⟩ <;> (rw [z]; decide)
theorem sp_6 {L : Nat} {tp : Nat → Int32} {ky D : Nat} {G : RS → RS} (h : SpP L tp ky D G) : SpG L tp ky D 6 G := by
  intro ρ W hd hf hk hc cs ws at_ tq hno _ htop
  have S := h ρ W hd hf hk hc cs ws at_ tq hno
  refine ⟨S.1, fun z => ?_⟩
  obtain ⟨e, me, nn, tq', h1, h2, h3, h4, h5, h6⟩ := S.2 z
  refine ⟨e, me, nn, me, [], tq', h1, h2, h3, h4, List.append_nil _, trivial, (fun k hk => h5 k (by omega)), (fun _ => by rw [h5 _ (Nat.le_refl _)]), ?_, fun R t => h6 R ?_⟩
  · by_cases ez : sgV (G ρ).1.1 (tp (G ρ).1.2.1) = 0
    · exact Or.inl ez
    · obtain ⟨z1, z2, z3⟩ := sgV_z ez
      exact Or.inr (Or.inl (by rw [z2]; exact sg6 _ z3))
  · rw [stl_top htop]; exact t
theorem nm_lt2 {ky v j : Nat} (hk : ky < 3) (h : nmF (nmS (nI ky)) v = some j) : j < nmk ky := by
  rcases (show ky = 0 ∨ ky = 1 ∨ ky = 2 by omega) with rfl | rfl | rfl
  · have e : nmS (nI 0) = 3 := rfl
    rw [e] at h
    unfold nmF at h
    rw [if_pos rfl] at h
    show j < 3
    repeat' split at h
    all_goals first | (have z := Option.some.inj h; omega) | cases h
  · have e : nmS (nI 1) = 4 := rfl
    rw [e] at h
    unfold nmF at h
    rw [if_neg (by decide), if_pos rfl] at h
    show j < 2
    repeat' split at h
    all_goals first | (have z := Option.some.inj h; omega) | cases h
  · have e : nmS (nI 2) = 5 := rfl
    rw [e] at h
    unfold nmF at h
    rw [if_neg (by decide), if_neg (by decide)] at h
    show j < 2
    repeat' split at h
    all_goals first | (have z := Option.some.inj h; omega) | cases h
theorem nm_eq {tp : Nat → Int32} {ρ : RS} : nameO tp ρ = nmK ρ.2.2.1 tp ρ.1 := rfl
theorem stl_not {cs ws : List Int32} : stl 6 cs ((-10) :: ws) = stl 6 (cs ++ [-10]) ws := by
  rw [stl, if_neg (by decide)]
set_option maxHeartbeats 2000000 in
theorem sp_piece {L : Nat} {tp : Nat → Int32} {ky : Nat} (hky : ky < 3) : ∀ (D : Nat), SpP L tp ky D (pcF L tp D) := by
  intro D
  induction D with
  | zero =>
    intro ρ W hd
    have a := W.2.2.2.1
    have b := W.2.2.2.2.1
    omega
  | succ D ih =>
    intro ρ W hd hf hk hc cs ws at_ tq hno
    have hO := pc_ok (L := L) (tp := tp) D
    have hOr := sp_or (sp_and (sp_test (sp_sum (sp_prod (sp_6 ih) hO) hO) hO) hO) hO
    have wk := W.1
    have w1 := wk.1
    have w2 := wk.2.1
    have w96 := W.2.1
    have hl : ρ.2.2.2.1.length < 96 := by omega
    by_cases k2 : ρ.1.1 = 2
    · have e9 : pcF L tp (D + 1) ρ = avF L tp (eoF (numF tp ρ) ρ) := (cI_t hf).trans (cI_t k2)
      rw [e9]
      have hu := adv_up wk (by omega)
      obtain ⟨v, hv, ev⟩ := num_v wk k2
      have ev' : numF tp ρ = nI v := ev
      refine ⟨fun q z => absurd (hf.symm.trans z) (by simp), fun _ => ⟨[nI v], [nI v], 1, tq, ?_, xe_num hv, rfl, ?_, fun _ _ => rfl, fun R t => ?_⟩⟩
      · show emL ρ.2.2.2.1 (numF tp ρ) = _
        rw [em_app hl, ev']
      · show 1 + ρ.1.2.1 ≤ (adv L tp ρ.1).2.1
        have z := hu.2; omega
      · refine te_pt _ ρ.1 cs ws at_ tq R (nI v) (fun z => by have y := z.1; omega) (fun z => by have y := z.1; omega) ?_ t
        rw [← ev]; exact if_pos k2
    · rcases hn : nameO tp ρ with _ | j
      · by_cases c33 : isSg tp ρ 33 ∧ ρ.2.2.2.2.2.2 < 8
        · have e9 : pcF L tp (D + 1) ρ = emF (-33) (ogF (pcF L tp D (avF L tp (ogF ρ (ρ.2.2.2.2.2.2 + 1)))) ρ.2.2.2.2.2.2) := (cI_t hf).trans ((cI_f k2).trans (by rw [hn]; exact cI_t c33))
          rw [e9]
          have hu := adv_up wk (by have z := c33.1.2.1; omega)
          have hu2 : ρ.1.2.1 + 1 ≤ (adv L tp ρ.1).2.1 := hu.2
          have W2 : WR L tp (avF L tp (ogF ρ (ρ.2.2.2.2.2.2 + 1))) := wr_av (wr_og (by omega) W)
          have hd2 : 17 ≤ D + ρ.2.2.2.2.2.1 + (ρ.2.2.2.2.2.2 + 1) := by omega
          have S := ih (avF L tp (ogF ρ (ρ.2.2.2.2.2.2 + 1))) W2 hd2 hf hk (by show ρ.2.2.2.1.length + 3 ≤ (adv L tp ρ.1).2.1; omega) cs ((-10) :: ws) at_ tq (by show (if (-10 : Int32) = -10 then 1 else 0) + nO ws = ρ.2.2.2.2.2.2 + 1; rw [if_pos rfl, hno]; omega)
          have K2 := hO (avF L tp (ogF ρ (ρ.2.2.2.2.2.2 + 1))) W2 hd2
          have TS : ∀ R, TE L tp (nI ky) true ρ.2.2.2.2.2.1 (adv L tp ρ.1, cs, (-10) :: ws, at_, tq) R → TE L tp (nI ky) true ρ.2.2.2.2.2.1 (ρ.1, cs, ws, at_, tq) R := fun R t => te_33 _ ρ.1 cs ws at_ tq R ⟨c33.1.2.1, c33.1.2.2, by rw [hno]; exact c33.2⟩ t
          refine ⟨fun q z => TS _ (S.1 q z), fun z => ?_⟩
          obtain ⟨e, me, nn, tq', h1, h2, h3, h4, h5, h6⟩ := S.2 z
          have h1' : (pcF L tp D (avF L tp (ogF ρ (ρ.2.2.2.2.2.2 + 1)))).2.2.2.1 = ρ.2.2.2.1 ++ e := h1
          have h4' : e.length + (adv L tp ρ.1).2.1 ≤ (pcF L tp D (avF L tp (ogF ρ (ρ.2.2.2.2.2.2 + 1)))).1.2.1 := h4
          have k1 := K2.1.1.1
          have k22 := K2.1.1.2.1
          have hl3 : (pcF L tp D (avF L tp (ogF ρ (ρ.2.2.2.2.2.2 + 1)))).2.2.2.1.length < 96 := by rw [h1', List.length_append]; omega
          refine ⟨e ++ [-33], me ++ [-10], nn, tq', ?_, xe_not h2, h3, ?_, h5, fun R t => TS R (h6 R ?_)⟩
          · show emL (pcF L tp D (avF L tp (ogF ρ (ρ.2.2.2.2.2.2 + 1)))).2.2.2.1 (-33) = _
            rw [em_app hl3, h1', List.append_assoc]
          · show (e ++ [-33]).length + ρ.1.2.1 ≤ (pcF L tp D (avF L tp (ogF ρ (ρ.2.2.2.2.2.2 + 1)))).1.2.1
            rw [List.length_append, List.length_singleton]; omega
          · rw [stl_not, List.append_assoc]; exact t
        · by_cases c40 : isSg tp ρ 40 ∧ ρ.2.2.2.2.2.1 < 8
          · have e9 : pcF L tp (D + 1) ρ = cbF L tp (obF (orF L tp (pcF L tp D) (avF L tp (obF ρ (ρ.2.2.2.2.2.1 + 1)))) ρ.2.2.2.2.2.1) := (cI_t hf).trans ((cI_f k2).trans (by rw [hn]; exact (cI_f c33).trans (cI_t c40)))
            rw [e9]
            have hu := adv_up wk (by have z := c40.1.2.1; omega)
            have hu2 : ρ.1.2.1 + 1 ≤ (adv L tp ρ.1).2.1 := hu.2
            have W2 : WR L tp (avF L tp (obF ρ (ρ.2.2.2.2.2.1 + 1))) := wr_av (wr_ob (by omega) W)
            have hd2 : 17 ≤ D + (ρ.2.2.2.2.2.1 + 1) + ρ.2.2.2.2.2.2 := by omega
            have S := hOr (avF L tp (obF ρ (ρ.2.2.2.2.2.1 + 1))) W2 hd2 hf hk (by show ρ.2.2.2.1.length + 3 ≤ (adv L tp ρ.1).2.1; omega) cs ((-11) :: ws) at_ (upd tq (ρ.2.2.2.2.2.1 + 1) 0) (by show (if (-11 : Int32) = -10 then 1 else 0) + nO ws = ρ.2.2.2.2.2.2; rw [if_neg (by decide), hno]; omega) (fun _ => pk_us) (Or.inr ⟨_, _, rfl, Or.inl rfl⟩)
            have K2 := or_ok hO (avF L tp (obF ρ (ρ.2.2.2.2.2.1 + 1))) W2 hd2
            have TS : ∀ R, TE L tp (nI ky) true (ρ.2.2.2.2.2.1 + 1) (adv L tp ρ.1, cs, (-11) :: ws, at_, upd tq (ρ.2.2.2.2.2.1 + 1) 0) R → TE L tp (nI ky) true ρ.2.2.2.2.2.1 (ρ.1, cs, ws, at_, tq) R := fun R t => te_40 _ ρ.1 cs ws at_ tq R (fun z => absurd (c40.1.2.2.symm.trans z.2.1) (by decide)) ⟨c40.1.2.1, c40.1.2.2, c40.2⟩ t
            generalize hρ3 : orF L tp (pcF L tp D) (avF L tp (obF ρ (ρ.2.2.2.2.2.1 + 1))) = ρ3 at *
            have wk3 := K2.1.1
            rcases hq : ρ3.2.1 with _ | q
            · obtain ⟨e, me, nn, e1, pend, tq', h1, h2, h3, h4, h5, h6, h7, h8, h9, h10⟩ := S.2 hq
              have h4' : e.length + (adv L tp ρ.1).2.1 ≤ ρ3.1.2.1 := h4
              by_cases c41 : isSg tp (obF ρ3 ρ.2.2.2.2.2.1) 41
              · have e10 : cbF L tp (obF ρ3 ρ.2.2.2.2.2.1) = avF L tp (obF ρ3 ρ.2.2.2.2.2.1) := cI_t c41
                rw [e10]
                have t3 : ρ3.1.1 = 3 := c41.2.1
                have hu3 := adv_up wk3 (by omega)
                have hu4 : ρ3.1.2.1 + 1 ≤ (adv L tp ρ3.1).2.1 := hu3.2
                refine ⟨fun q z => absurd (hq.symm.trans z) (by simp), fun _ => ⟨e, me, nn, tq', h1, h2, h3, ?_, ?_, fun R t => TS R (h10 R ?_)⟩⟩
                · show e.length + ρ.1.2.1 ≤ (adv L tp ρ3.1).2.1; omega
                · intro k hk2
                  rw [h7 k (by show k < ρ.2.2.2.2.2.1 + 1; omega), pk_un (by omega)]
                · have hs0 : stl 0 (cs ++ e1) (pend ++ (-11) :: ws) = (cs ++ me, (-11) :: ws) := by
                    rw [stl_pnd (Or.inr ⟨_, _, rfl, Or.inl rfl⟩) pend _ (pnd_le (by decide) _ h6), List.append_assoc, h5]
                  exact te_41 (ρ.2.2.2.2.2.1 + 1) ρ3.1 (cs ++ e1) (pend ++ (-11) :: ws) (at_ + nn) tq' R (cs ++ me) ws ⟨t3, c41.2.2, by omega⟩ hs0 t
              · have e10 : cbF L tp (obF ρ3 ρ.2.2.2.2.2.1) = flF (obF ρ3 ρ.2.2.2.2.2.1) := cI_f c41
                have e11 : (flF (obF ρ3 ρ.2.2.2.2.2.1)).2.1 = some ρ3.1.2.1 := by show flO ρ3.2.1 ρ3.1.2.1 = _; rw [hq]; rfl
                rw [e10]
                refine ⟨fun q z => ?_, fun z => absurd (e11.symm.trans z) (by simp)⟩
                obtain rfl : ρ3.1.2.1 = q := Option.some.inj (e11.symm.trans z)
                refine TS _ (h10 _ ?_)
                by_cases z0 : ρ3.1.1 = 0
                · exact te_E0 _ ρ3.1 _ _ _ _ z0 (by show ¬ ρ.2.2.2.2.2.1 + 1 = 0; omega)
                · refine te_nn _ ρ3.1 _ _ _ _ z0 (fun z => c41 ⟨hq, z.1, z.2.1⟩) ?_
                  rcases h9 with x | x | x
                  · exact Or.inl x
                  · exact absurd x (Int32.not_lt.mpr (rkM_le _).1)
                  · exact Or.inr ⟨x.1, x.2.1⟩
            · have e10 : cbF L tp (obF ρ3 ρ.2.2.2.2.2.1) = flF (obF ρ3 ρ.2.2.2.2.2.1) := cI_f (fun z => by have y : ρ3.2.1 = none := z.1; rw [hq] at y; cases y)
              have e11 : (flF (obF ρ3 ρ.2.2.2.2.2.1)).2.1 = some q := by show flO ρ3.2.1 ρ3.1.2.1 = _; rw [hq]; rfl
              rw [e10]
              refine ⟨fun q2 z => ?_, fun z => absurd (e11.symm.trans z) (by simp)⟩
              obtain rfl : q = q2 := Option.some.inj (e11.symm.trans z)
              exact TS _ (S.1 q hq)
          · have e9 : pcF L tp (D + 1) ρ = flF ρ := (cI_t hf).trans ((cI_f k2).trans (by rw [hn]; exact (cI_f c33).trans (cI_f c40)))
            rw [e9]
            have e11 : (flF ρ).2.1 = some ρ.1.2.1 := by show flO ρ.2.1 ρ.1.2.1 = _; rw [hf]; rfl
            refine ⟨fun q z => ?_, fun z => absurd (e11.symm.trans z) (by simp)⟩
            obtain rfl : ρ.1.2.1 = q := Option.some.inj (e11.symm.trans z)
            refine te_no _ ρ.1 cs ws at_ tq (fun z => c33 ⟨⟨hf, z.1, z.2.1⟩, by have y := z.2.2; rw [hno] at y; exact y⟩) (fun z => c40 ⟨⟨hf, z.1, z.2.1⟩, z.2.2⟩) ?_
            unfold ptO
            rw [if_neg k2, ← hk, ← nm_eq, hn]; rfl
      · have e9 : pcF L tp (D + 1) ρ = avF L tp (eoF (-1 - nI j) ρ) := (cI_t hf).trans ((cI_f k2).trans (by rw [hn]))
        rw [e9]
        have hn2 : nmK (nI ky) tp ρ.1 = some j := by rw [← hk, ← nm_eq]; exact hn
        have hk1 : ρ.1.1 = 1 ∧ ρ.1.2.2 = ρ.1.2.1 + 1 := by
          unfold nmK at hn2
          split at hn2
          · assumption
          · cases hn2
        have hj : j < nmk ky := by
          unfold nmK at hn2
          rw [if_pos hk1] at hn2
          exact nm_lt2 hky hn2
        have hu := adv_up wk (by omega)
        refine ⟨fun q z => absurd (hf.symm.trans z) (by simp), fun _ => ⟨[-1 - nI j], [nI (10000 + j)], 1, tq, em_app hl, xe_name hj, rfl, ?_, fun _ _ => rfl, fun R t => ?_⟩⟩
        · show 1 + ρ.1.2.1 ≤ (adv L tp ρ.1).2.1
          have z := hu.2; omega
        · refine te_pt _ ρ.1 cs ws at_ tq R (nI (10000 + j)) (fun z => by have y := z.1; omega) (fun z => by have y := z.1; omega) ?_ t
          unfold ptO
          rw [if_neg k2, hn2]; rfl
theorem sp_all {L : Nat} {tp : Nat → Int32} {ky : Nat} (hky : ky < 3) : SpG L tp ky 17 1 (orF L tp (pcF L tp 17)) := by
  have hO := pc_ok (L := L) (tp := tp) 17
  exact sp_or (sp_and (sp_test (sp_sum (sp_prod (sp_6 (sp_piece hky 17)) hO) hO) hO) hO) hO
def TOP (L : Nat) (tp : Nat → Int32) (j : Nat) (K : Nat × Nat × Nat) (tq : Nat → Int32) (ρ : RS) (R : RT9) : Prop := TE L tp (nI j) true 0 (K, [], [], 0, tq) R ∧ (∀ q, ρ.2.1 = some q → R = (none, q)) ∧ (ρ.2.1 = none → ρ.2.2.1 = nI j ∧ ∃ e me nn, ρ.2.2.2.1 = e ∧ ρ.2.2.2.2.1 = nn ∧ XE j e me nn ∧ R.1 = some (me, nn) ∧ e.length + 3 ≤ 96)
theorem top_j {L : Nat} {tp : Nat → Int32} {j : Nat} {k : Int32} {tq : Nat → Int32} (hL : L ≤ 96) (hj : j < 3) (h0 : tq 0 = 0) (h1 : (adv L tp (0, 0, 0)).1 = 1) (h3 : (adv L tp (0, 0, 0)).2.1 + 3 ≤ (adv L tp (0, 0, 0)).2.2) (hr : rkF L tp (avF L tp (ρI k)) = avF L tp (kyF (avF L tp (ρI k)) (nI j))) : ∃ R, TOP L tp j (adv L tp (adv L tp (0, 0, 0))) tq (ffF L tp k) R := by
  have W1 := wr_I (L := L) (tp := tp) (k := k) hL
  have W2 : WR L tp (avF L tp (kyF (avF L tp (ρI k)) (nI j))) := wr_av (wr_ky W1)
  have wk0 : WFK L tp (adv L tp (0, 0, 0)) := W1.1
  have wk2 := adv_wf wk0
  have w22 := wk2.2
  have S := sp_all (L := L) (tp := tp) hj (avF L tp (kyF (avF L tp (ρI k)) (nI j))) W2 (by show 17 ≤ 17 + 0 + 0; omega) rfl rfl (by show 0 + 3 ≤ (adv L tp (adv L tp (0, 0, 0))).2.1; omega) [] [] 0 tq rfl (fun _ => h0) (Or.inl rfl)
  have K2 := or_ok (pc_ok (L := L) (tp := tp) 17) (avF L tp (kyF (avF L tp (ρI k)) (nI j))) W2 (by show 17 ≤ 17 + 0 + 0; omega)
  rw [← hr] at S K2
  have hC : orF L tp (pcF L tp 17) (rkF L tp (avF L tp (ρI k))) = ffC L tp k := rfl
  rw [hC] at S K2
  have wk3 := K2.1.1
  have hkey : (ffC L tp k).2.2.1 = nI j := K2.2.1.trans (by rw [hr]; rfl)
  have hK : (rkF L tp (avF L tp (ρI k))).1 = adv L tp (adv L tp (0, 0, 0)) := by rw [hr]; rfl
  have hb : (rkF L tp (avF L tp (ρI k))).2.2.2.2.2.1 = 0 := by rw [hr]; rfl
  have hcd : (rkF L tp (avF L tp (ρI k))).2.2.2.1 = [] := by rw [hr]; rfl
  have hop : (rkF L tp (avF L tp (ρI k))).2.2.2.2.1 = 0 := by rw [hr]; rfl
  rcases hq : (ffC L tp k).2.1 with _ | q
  · obtain ⟨e, me, nn, e1, pend, tq', g1, g2, g3, g4, g5, g6, g7, g8, g9, g10⟩ := S.2 hq
    rw [hb] at g9 g10
    rw [hK] at g4 g10
    rw [hcd] at g1
    rw [hop] at g3
    have g1' : (ffC L tp k).2.2.2.1 = e := g1
    have g3' : (ffC L tp k).2.2.2.2.1 = nn := g3.trans (Nat.zero_add _)
    have g4' : e.length + (adv L tp (adv L tp (0, 0, 0))).2.1 ≤ (ffC L tp k).1.2.1 := g4
    have hs0 : stl 0 ([] ++ e1) (pend ++ []) = (me, []) := by
      rw [stl_pnd (Or.inl rfl) pend _ (pnd_le (by decide) _ g6), List.nil_append, g5]
    by_cases z0 : (ffC L tp k).1.1 = 0
    · have ef : ffF L tp k = ffC L tp k := cI_t z0
      rw [ef]
      have t := te_E1 (L := L) (tp := tp) (y := nI j) 0 (ffC L tp k).1 ([] ++ e1) (pend ++ []) (0 + nn) tq' z0 rfl
      rw [hs0] at t
      have a1 := wk3.1
      have a2 := wk3.2.1
      refine ⟨_, g10 _ t, fun q z => absurd (hq.symm.trans z) (by simp), fun _ => ⟨hkey, e, me, nn, g1', g3', g2, ?_, by omega⟩⟩
      show some (me, 0 + nn) = some (me, nn)
      rw [Nat.zero_add]
    · have ef : ffF L tp k = flF (ffC L tp k) := cI_f z0
      have e11 : (flF (ffC L tp k)).2.1 = some (ffC L tp k).1.2.1 := by show flO (ffC L tp k).2.1 (ffC L tp k).1.2.1 = _; rw [hq]; rfl
      rw [ef]
      refine ⟨(none, (ffC L tp k).1.2.1), g10 _ (te_nn 0 (ffC L tp k).1 _ _ _ _ z0 (fun z => absurd z.2.2 (by decide)) ?_), fun q z => ?_, fun z => absurd (e11.symm.trans z) (by simp)⟩
      · rcases g9 with x | x | x
        · exact Or.inl x
        · exact absurd x (Int32.not_lt.mpr (rkM_le _).1)
        · exact Or.inr ⟨x.1, x.2.1⟩
      · rw [Option.some.inj (e11.symm.trans z)]
  · have t := S.1 q hq
    rw [hb, hK] at t
    have e11 : (ffF L tp k).2.1 = some q := by
      by_cases z0 : (ffC L tp k).1.1 = 0
      · rw [show ffF L tp k = ffC L tp k from cI_t z0]; exact hq
      · rw [show ffF L tp k = flF (ffC L tp k) from cI_f z0]
        show flO (ffC L tp k).2.1 (ffC L tp k).1.2.1 = _
        rw [hq]; rfl
    exact ⟨(none, q), t, fun q2 z => by rw [Option.some.inj (e11.symm.trans z)], fun z => absurd (e11.symm.trans z) (by simp)⟩
theorem pc_flt {L : Nat} {tp : Nat → Int32} {ρ : RS} (h : ρ.2.1 ≠ none) : ∀ (D : Nat), pcF L tp D ρ = ρ := by
  intro D
  cases D with
  | zero => rfl
  | succ D => exact cI_f h
theorem or_flt {L D : Nat} {tp : Nat → Int32} {ρ : RS} (h : ρ.2.1 ≠ none) : orF L tp (pcF L tp D) ρ = ρ := by
  have hs : ∀ c, ∀ ρ, isSg tp ρ c → ρ.2.1 = none := fun c ρ z => z.1
  have e1 : pdF L tp (pcF L tp D) ρ = ρ := by
    unfold pdF; rw [pc_flt h]; exact lp_flt (fun ρ z => z.elim (fun y => y.1) (fun y => y.1)) 96 ρ h
  have e2 : smF L tp (pcF L tp D) ρ = ρ := by
    unfold smF; rw [e1]; exact lp_flt (fun ρ z => z.elim (fun y => y.1) (fun y => y.1)) 96 ρ h
  have e3 : tsF L tp (pcF L tp D) ρ = ρ := by
    unfold tsF; rw [e2]; exact cI_f (fun z => h (sgT_g z).1)
  have e4 : anF L tp (pcF L tp D) ρ = ρ := by
    unfold anF; rw [e3]; exact lp_flt (fun ρ z => z.1) 96 ρ h
  unfold orF; rw [e4]; exact lp_flt (fun ρ z => z.1) 96 ρ h
theorem ff_no {L : Nat} {tp : Nat → Int32} {k : Int32} (h0 : ¬ wz0 tp (avF L tp (ρI k))) (h1 : ¬ wz1 tp (avF L tp (ρI k))) (h2 : ¬ wz2 tp (avF L tp (ρI k))) : (ffF L tp k).2.1 = some (adv L tp (0, 0, 0)).2.1 := by
  have e : rkF L tp (avF L tp (ρI k)) = flF (avF L tp (ρI k)) := (cI_f h0).trans ((cI_f h1).trans (cI_f h2))
  have hf : (flF (avF L tp (ρI k))).2.1 = some (adv L tp (0, 0, 0)).2.1 := rfl
  have e2 : ffC L tp k = flF (avF L tp (ρI k)) := by
    unfold ffC; rw [e]; exact or_flt (by rw [hf]; simp)
  by_cases z0 : (ffC L tp k).1.1 = 0
  · rw [show ffF L tp k = ffC L tp k from cI_t z0, e2]; exact hf
  · rw [show ffF L tp k = flF (ffC L tp k) from cI_f z0, e2]; rfl
theorem vl_vld {cf : Nat → Int32} : ∀ (xs : List Int32) (i t u : Nat), vlL xs t u → (∀ z, z < xs.length → cf (i + z) = xs.getD z 0) → vld cf xs.length i t := by
  intro xs
  induction xs with
  | nil => intro i t u _ _; trivial
  | cons x xs ih =>
    intro i t u h hc
    have h0 : cf i = x := hc 0 (by show 0 < xs.length + 1; omega)
    have hr : ∀ z, z < xs.length → cf (i + 1 + z) = xs.getD z 0 := fun z hz => by
      have q := hc (z + 1) (by show z + 1 < xs.length + 1; omega)
      rw [show i + 1 + z = i + (z + 1) by omega]; exact q
    show vld cf (xs.length + 1) i t
    rcases h with ⟨⟨v, q1, q2⟩, r, s⟩ | ⟨⟨v, q1, q2⟩, r, s⟩ | ⟨q, r, s⟩ | ⟨⟨c, q⟩, r, s⟩
    · exact Or.inl ⟨v, q1, h0.trans q2, r, ih _ _ _ s hr⟩
    · exact Or.inr (Or.inl ⟨v, q1, h0.trans q2, r, ih _ _ _ s hr⟩)
    · exact Or.inr (Or.inr (Or.inl ⟨h0.trans q, r, ih _ _ _ s hr⟩))
    · exact Or.inr (Or.inr (Or.inr ⟨c, by rw [h0]; exact q, r, ih _ _ _ s hr⟩))
theorem cnt_l {cf : Nat → Int32} : ∀ (xs : List Int32) (i : Nat), (∀ z, z < xs.length → cf (i + z) = xs.getD z 0) → cnt cf xs.length i = cntL xs := by
  intro xs
  induction xs with
  | nil => intro i _; rfl
  | cons x xs ih =>
    intro i hc
    have h0 : cf i = x := hc 0 (by show 0 < xs.length + 1; omega)
    have hr : ∀ z, z < xs.length → cf (i + 1 + z) = xs.getD z 0 := fun z hz => by
      have q := hc (z + 1) (by show z + 1 < xs.length + 1; omega)
      rw [show i + 1 + z = i + (z + 1) by omega]; exact q
    show (if cf i < 0 then 0 else 1) + cnt cf xs.length (i + 1) = (if x < 0 then 0 else 1) + cntL xs
    rw [h0, ih (i + 1) hr]
theorem cr_at {k : Nat} : ∀ (e me : List Int32), crL k e me → ∀ i, i < e.length → cr1 k (e.getD i 0) (me.getD i 0) := by
  intro e
  induction e with
  | nil => intro me _ i hi; exact absurd hi (Nat.not_lt_zero i)
  | cons x e ih =>
    intro me h i hi
    cases me with
    | nil => exact absurd h id
    | cons y me =>
      cases i with
      | zero => exact h.1
      | succ i => exact ih me h.2 i (by have z : i + 1 < e.length + 1 := hi; omega)
theorem cntL_le : ∀ (xs : List Int32), cntL xs ≤ xs.length := by
  intro xs
  induction xs with
  | nil => exact Nat.le_refl _
  | cons x xs ih => show (if x < 0 then 0 else 1) + cntL xs ≤ xs.length + 1; split <;> omega
theorem tx_hd {N : Nat → Int32} {c j at_ : Nat} {cs : List Int32} (hc : c < 14) (hl : cs.length ≤ 96) : txN N c j cs at_ (62 + 2 * c) = nI (1000 * j + cs.length) ∧ txN N c j cs at_ (63 + 2 * c) = nI at_ ∧ txN N c j cs at_ 7 = nI (c + 1) ∧ (∀ z, z < cs.length → txN N c j cs at_ (90 + 96 * c + z) = cs.getD z 0) ∧ (∀ k, k ≠ 7 → k ≠ 62 + 2 * c → k ≠ 63 + 2 * c → (k < 90 + 96 * c ∨ 90 + 96 * c + 96 ≤ k) → txN N c j cs at_ k = N k) := by
  refine ⟨?_, ?_, pk_us, fun z hz => ?_, fun k k1 k2 k3 k4 => ?_⟩
  · refine (pk_un (by omega)).trans ((if_neg (by omega)).trans ((pk_un (by omega)).trans pk_us))
  · refine (pk_un (by omega)).trans ((if_neg (by omega)).trans pk_us)
  · refine (pk_un (by omega)).trans ((if_pos ⟨by omega, by omega⟩).trans ?_)
    rw [show 90 + 96 * c + z - (90 + 96 * c) = z by omega]
  · refine (pk_un k1).trans ((if_neg (by omega)).trans ((pk_un k3).trans (pk_un k2)))
def upN (f : Nat → Nat) (k v : Nat) : Nat → Nat := fun j => if j = k then v else f j
def upF (f : Nat → Nat → Int32) (k : Nat) (g : Nat → Int32) : Nat → Nat → Int32 := fun j => if j = k then g else f j
def tbN (tb : TB) (ky nn lc : Nat) (cf : Nat → Int32) : TB := (tb.1 + 1, upd tb.2.1 tb.1 (nI ky), upd tb.2.2.1 tb.1 (nI nn), upN tb.2.2.2.1 tb.1 lc, upF tb.2.2.2.2.1 tb.1 cf, upN tb.2.2.2.2.2 tb.1 (mx1 nn))
theorem upN_s {f : Nat → Nat} {k v : Nat} : upN f k v k = v := if_pos rfl
theorem upN_n {f : Nat → Nat} {k v j : Nat} (h : j ≠ k) : upN f k v j = f j := if_neg h
theorem upF_s {f : Nat → Nat → Int32} {k : Nat} {g : Nat → Int32} : upF f k g k = g := if_pos rfl
theorem upF_n {f : Nat → Nat → Int32} {k j : Nat} {g : Nat → Int32} (h : j ≠ k) : upF f k g j = f j := if_neg h
theorem tt_new {tb : TB} {h h9 : am_H} {ky nn lc : Nat} {cf : Nat → Int32} (F : TT tb h) (hf : ∀ k, 92 ≤ k → k < 92 + 3 * tb.1 → h9 k = h k) (hn : nn < 1000) (hl : lc < 1000) (h0 : h9 (92 + 3 * tb.1) = some (.inr (5, [.int (nI ky), .int (nI nn), .ref (93 + 3 * tb.1), .ref (94 + 3 * tb.1)]))) (h1 : h9 (93 + 3 * tb.1) = some (.inl (0, tl lc cf))) (h2 : h9 (94 + 3 * tb.1) = some (.inl (0, tl (mx1 nn) (fun _ => 0)))) : TT (tbN tb ky nn lc cf) h9 := by
  intro a ha
  have ha2 : a < tb.1 + 1 := ha
  show h9 (92 + 3 * a) = some (.inr (5, [.int (upd tb.2.1 tb.1 (nI ky) a), .int (upd tb.2.2.1 tb.1 (nI nn) a), .ref (93 + 3 * a), .ref (94 + 3 * a)])) ∧ h9 (93 + 3 * a) = some (.inl (0, tl (upN tb.2.2.2.1 tb.1 lc a) (upF tb.2.2.2.2.1 tb.1 cf a))) ∧ (∃ sf, h9 (94 + 3 * a) = some (.inl (0, tl (upN tb.2.2.2.2.2 tb.1 (mx1 nn) a) sf))) ∧ upN tb.2.2.2.1 tb.1 lc a < 1000 ∧ upN tb.2.2.2.2.2 tb.1 (mx1 nn) a < 1000 ∧ 0 < upN tb.2.2.2.2.2 tb.1 (mx1 nn) a
  by_cases e : a = tb.1
  · subst e
    rw [pk_us, pk_us, upN_s, upF_s, upN_s]
    exact ⟨h0, h1, ⟨_, h2⟩, hl, by unfold mx1; split <;> omega, by unfold mx1; split <;> omega⟩
  · rw [pk_un e, pk_un e, upN_n e, upF_n e, upN_n e]
    obtain ⟨f0, f1, ⟨sf, f2⟩, f3⟩ := F a (by omega)
    exact ⟨(hf _ (by omega) (by omega)).trans f0, (hf _ (by omega) (by omega)).trans f1, ⟨sf, (hf _ (by omega) (by omega)).trans f2⟩, f3⟩
theorem vld_cg {cf cg : Nat → Int32} : ∀ (m i t : Nat), (∀ z, i ≤ z → z < i + m → cf z = cg z) → vld cf m i t → vld cg m i t := by
  intro m
  induction m with
  | zero => intro i t _ _; trivial
  | succ m ih =>
    intro i t he h
    have e0 := he i (Nat.le_refl _) (by omega)
    have er : ∀ z, i + 1 ≤ z → z < i + 1 + m → cf z = cg z := fun z h1 h2 => he z (by omega) (by omega)
    rcases h with ⟨v, q1, q2, r, s⟩ | ⟨v, q1, q2, r, s⟩ | ⟨q, r, s⟩ | ⟨c, q, r, s⟩
    · exact Or.inl ⟨v, q1, e0.symm.trans q2, r, ih _ _ er s⟩
    · exact Or.inr (Or.inl ⟨v, q1, e0.symm.trans q2, r, ih _ _ er s⟩)
    · exact Or.inr (Or.inr (Or.inl ⟨e0.symm.trans q, r, ih _ _ er s⟩))
    · exact Or.inr (Or.inr (Or.inr ⟨c, by rw [← e0]; exact q, r, ih _ _ er s⟩))
theorem cnt_cg {cf cg : Nat → Int32} : ∀ (m i : Nat), (∀ z, i ≤ z → z < i + m → cf z = cg z) → cnt cf m i = cnt cg m i := by
  intro m
  induction m with
  | zero => intro i _; rfl
  | succ m ih =>
    intro i he
    show (if cf i < 0 then 0 else 1) + cnt cf m (i + 1) = (if cg i < 0 then 0 else 1) + cnt cg m (i + 1)
    rw [he i (Nat.le_refl _) (by omega), ih (i + 1) (fun z h1 h2 => he z (by omega) (by omega))]
theorem tc_new {tb : TB} {tx : List Value} {lk N : Nat → Int32} {c ky nn : Nat} {e me : List Int32} {cf : Nat → Int32} (H : TC tb tx lk N c) (hc : c < 14) (hky : ky < 3) (X : XE ky e me nn) (hl : e.length + 3 ≤ 96) (hcf : ∀ j, j < e.length → cf j = e.getD j 0) : TC (tbN tb ky nn e.length cf) (tx.set c (.ref (92 + 3 * tb.1))) (upd lk ky (nI c)) (txN N c ky me nn) (c + 1) := by
  obtain ⟨⟨t1, t2, t3, t4⟩, h7, hlk, ht⟩ := H
  obtain ⟨x1, x2, x3, x4⟩ := X
  have hlen := crL_len e me x1
  have hcl := cntL_le me
  obtain ⟨d1, d2, d3, d4, d5⟩ := tx_hd (N := N) (j := ky) (at_ := nn) (cs := me) hc (by omega)
  have hold : ∀ t, t < c → txN N c ky me nn (62 + 2 * t) = N (62 + 2 * t) := fun t h => d5 _ (by omega) (by omega) (by omega) (by omega)
  have hset : (tx.set c (.ref (92 + 3 * tb.1)))[c]? = some (.ref (92 + 3 * tb.1)) := by
    rw [List.getElem?_set_self (by omega)]
  have hsetn : ∀ t, t ≠ c → (tx.set c (.ref (92 + 3 * tb.1)))[t]? = tx[t]? := fun t h => List.getElem?_set_ne (fun z => h z.symm)
  refine ⟨⟨by rw [List.length_set]; exact t1, by omega, fun t v hv => ?_, fun t h => ?_⟩, d3, fun k hk => ?_, fun t h => ?_⟩
  · by_cases q : t = c
    · subst q
      rw [hset] at hv
      exact Or.inr ⟨tb.1, by show tb.1 < tb.1 + 1; omega, (Option.some.inj hv).symm⟩
    · rw [hsetn t q] at hv
      exact (t3 t v hv).imp id (fun ⟨a, ha, e⟩ => ⟨a, by show a < tb.1 + 1; omega, e⟩)
  · by_cases q : t = c
    · subst q; exact ⟨tb.1, by show tb.1 < tb.1 + 1; omega, hset⟩
    · obtain ⟨a, ha, e⟩ := t4 t (by omega)
      exact ⟨a, by show a < tb.1 + 1; omega, (hsetn t q).trans e⟩
  · show upd lk ky (nI c) k = bI (if txN N c ky me nn (62 + 2 * c) / 1000 = nI k then some c else cntM (nI k) (txN N c ky me nn) c)
    rw [d1, show (1000 : Int32) = nI 1000 from rfl, pk_div (by omega) (by omega) (by omega), show (1000 * ky + me.length) / 1000 = ky by omega]
    by_cases q : k = ky
    · subst q; rw [pk_us, if_pos rfl]; rfl
    · rw [pk_un q, if_neg (fun z => q ((nI_eq (a := ky) (b := k) (by omega) (by omega)).mp z).symm), cntM_cg hold]; exact hlk k hk
  · by_cases q : t = c
    · subst q
      have hz : ∀ z, z < me.length → (fun z => txN N t ky me nn (90 + 96 * t + z)) (0 + z) = me.getD z 0 := fun z hz => by
        show txN N t ky me nn (90 + 96 * t + (0 + z)) = _
        rw [Nat.zero_add]; exact d4 z hz
      refine ⟨tb.1, ky, e.length, by show tb.1 < tb.1 + 1; omega, hset, hky, by omega, by omega, by rw [hlen]; exact d1, pk_us, ?_, upN_s, ?_, fun i hi => ?_, ?_⟩
      · show upd tb.2.2.1 tb.1 (nI nn) tb.1 = _
        rw [pk_us]; exact d2.symm
      · rw [hlen]; exact vl_vld me 0 0 1 (x4 0 (by omega)) hz
      · show cr1 ky (upF tb.2.2.2.2.1 tb.1 cf tb.1 i) _
        rw [upF_s, hcf i hi, d4 i (by omega)]; exact cr_at e me x1 i hi
      · rw [hlen, cnt_l me 0 hz, x2]
        show nn ≤ upN tb.2.2.2.2.2 tb.1 (mx1 nn) tb.1
        rw [upN_s]; unfold mx1; split <;> omega
    · obtain ⟨a, k2, lc, q1, q2, q3, q4, q5, q6, q7, q8, q9, q10, q11, q12⟩ := ht t (by omega)
      have hz : ∀ z, 0 ≤ z → z < 0 + lc → N (90 + 96 * t + z) = txN N c ky me nn (90 + 96 * t + z) := fun z _ h2 => (d5 _ (by omega) (by omega) (by omega) (by omega)).symm
      have ne : a ≠ tb.1 := by omega
      refine ⟨a, k2, lc, by show a < tb.1 + 1; omega, (hsetn t q).trans q2, q3, q4, q5, (hold t (by omega)).trans q6, ?_, ?_, ?_, vld_cg lc 0 0 hz q10, fun i hi => ?_, ?_⟩
      · show upd tb.2.1 tb.1 (nI ky) a = _
        rw [pk_un ne]; exact q7
      · show upd tb.2.2.1 tb.1 (nI nn) a = _
        rw [pk_un ne, d5 _ (by omega) (by omega) (by omega) (by omega)]; exact q8
      · show upN tb.2.2.2.1 tb.1 e.length a = _
        rw [upN_n ne]; exact q9
      · show cr1 k2 (upF tb.2.2.2.2.1 tb.1 cf a i) _
        rw [upF_n ne, ← hz i (Nat.zero_le _) (by omega)]; exact q11 i hi
      · show _ ≤ upN tb.2.2.2.2.2 tb.1 (mx1 nn) a
        rw [upN_n ne, ← cnt_cg lc 0 hz]; exact q12
theorem top_out {L : Nat} {tp : Nat → Int32} {j : Nat} {K : Nat × Nat × Nat} {tq : Nat → Int32} {ρ : RS} {R : RT9} (T : TOP L tp j K tq ρ R) : (∀ cs at_, R.1 = some (cs, at_) → 1 ≤ cs.length ∧ cs.length ≤ 96 ∧ at_ ≤ 96) ∧ (R.1 = none → ρ.2.1 = some R.2) ∧ (∀ cs at_, R.1 = some (cs, at_) → ρ.2.1 = none ∧ ρ.2.2.1 = nI j ∧ XE j ρ.2.2.2.1 cs at_ ∧ ρ.2.2.2.2.1 = at_ ∧ ρ.2.2.2.1.length + 3 ≤ 96) := by
  obtain ⟨_, hF, hS⟩ := T
  rcases hq : ρ.2.1 with _ | q
  · obtain ⟨hk, e, me, nn, h1, h2, h3, h4, h5⟩ := hS hq
    have hl := crL_len e me h3.1
    have hc := cntL_le me
    have h31 := h3.2.1
    have h32 := h3.2.2.1
    refine ⟨fun cs at_ z => ?_, fun z => absurd (h4.symm.trans z) (by simp), fun cs at_ z => ?_⟩
    · have y := Option.some.inj (h4.symm.trans z)
      have y1 : me = cs := congrArg Prod.fst y
      have y2 : nn = at_ := congrArg Prod.snd y
      subst y1 y2
      omega
    · have y := Option.some.inj (h4.symm.trans z)
      have y1 : me = cs := congrArg Prod.fst y
      have y2 : nn = at_ := congrArg Prod.snd y
      subst y1 y2
      exact ⟨rfl, hk, by rw [h1]; exact h3, h2, by rw [h1]; exact h5⟩
  · have e := hF q hq
    subst e
    exact ⟨(fun cs at_ z => by cases z), (fun _ => rfl), (fun cs at_ z => by cases z)⟩
set_option maxHeartbeats 2000000 in
theorem m_textF {X : List Int32} {d rc rs n : Nat} {Q : am_Q} {L : Nat} {N : Nat → Int32} {a : Nat → Nat → Int32} {o : Nat → Int32} {h : am_H} (F : MR o N a h) (h9 : o 9 = nI L) (hL : L ≤ 96) {c : Nat} {k : Int32} (hc : N 7 = nI c) (hc14 : c ≤ 14)
    (kF : ∀ q, (ffF L (a 75) k).2.1 = some q → FAILm Q n o N a h (-100 - nI q))
    (kB : (ffF L (a 75) k).2.1 = none → c = 14 → FAILm Q n o N a h (-1000000003))
    (kS : (ffF L (a 75) k).2.1 = none → c < 14 → ∀ j me, j < 3 → (ffF L (a 75) k).2.2.1 = nI j → XE j (ffF L (a 75) k).2.2.2.1 me (ffF L (a 75) k).2.2.2.2.1 → (ffF L (a 75) k).2.2.2.1.length + 3 ≤ 96 → SUCCm Q n o N a h c j me (ffF L (a 75) k).2.2.2.2.1) : AW X mX8_text (d + 6) rc rs 0 [some (.ref 69), none, none, none] [] n h Q := by
  have h0 : upd (a 80) 0 0 0 = 0 := pk_us
  have eK : nx L (a 75) 0 false = adv L (a 75) (0, 0, 0) := rfl
  by_cases z0 : wz0 (a 75) (avF L (a 75) (ρI k))
  · have hr : rkF L (a 75) (avF L (a 75) (ρI k)) = avF L (a 75) (kyF (avF L (a 75) (ρI k)) (nI 0)) := cI_t z0
    have y0 : kz0 (a 75) (nx L (a 75) 0 false).2.1 (nx L (a 75) 0 false).2.2 := z0.2
    obtain ⟨R, T⟩ := top_j (tq := upd (a 80) 0 0) hL (by decide) h0 z0.1 (by have y : (adv L (a 75) (0, 0, 0)).2.2 = (adv L (a 75) (0, 0, 0)).2.1 + 4 := z0.2.1; omega) hr
    obtain ⟨o1, o2, o3⟩ := top_out T
    refine m_text (R0 := R) (R1 := (none, 0)) (R2 := (none, 0)) F h9 hL hc hc14 (fun z => absurd y0 (z z0.1).1) (fun _ _ => T.1) (fun _ _ => o1) (fun _ _ z => kF _ (o2 z)) (fun _ _ cs at_ z => kB (o3 cs at_ z).1) (fun _ _ cs at_ z hc2 => ?_) (fun _ z => absurd y0 z) (fun _ z => absurd y0 z) (fun _ z => absurd y0 z) (fun _ z => absurd y0 z) (fun _ z => absurd y0 z) (fun _ z => absurd y0 z) (fun _ z => absurd y0 z) (fun _ z => absurd y0 z) (fun _ z => absurd y0 z) (fun _ z => absurd y0 z)
    obtain ⟨q1, q2, q3, q4, q5⟩ := o3 cs at_ z
    have q := kS q1 hc2 0 cs (by decide) q2 (by rw [q4]; exact q3) q5
    rw [q4] at q
    exact q
  · have n0 : (nx L (a 75) 0 false).1 = 1 → ¬ kz0 (a 75) (nx L (a 75) 0 false).2.1 (nx L (a 75) 0 false).2.2 := fun x y => z0 ⟨x, y⟩
    by_cases z1 : wz1 (a 75) (avF L (a 75) (ρI k))
    · have hr : rkF L (a 75) (avF L (a 75) (ρI k)) = avF L (a 75) (kyF (avF L (a 75) (ρI k)) (nI 1)) := (cI_f z0).trans (cI_t z1)
      have y1 : kz1 (a 75) (nx L (a 75) 0 false).2.1 (nx L (a 75) 0 false).2.2 := z1.2
      obtain ⟨R, T⟩ := top_j (tq := upd (a 80) 0 0) hL (by decide) h0 z1.1 (by have y : (adv L (a 75) (0, 0, 0)).2.2 = (adv L (a 75) (0, 0, 0)).2.1 + 3 := z1.2.1; omega) hr
      obtain ⟨o1, o2, o3⟩ := top_out T
      refine m_text (R0 := (none, 0)) (R1 := R) (R2 := (none, 0)) F h9 hL hc hc14 (fun z => absurd y1 (z z1.1).2.1) (fun x y => absurd y (n0 x)) (fun x y => absurd y (n0 x)) (fun x y => absurd y (n0 x)) (fun x y => absurd y (n0 x)) (fun x y => absurd y (n0 x)) (fun _ _ _ => T.1) (fun _ _ _ => o1) (fun _ _ _ z => kF _ (o2 z)) (fun _ _ _ cs at_ z => kB (o3 cs at_ z).1) (fun _ _ _ cs at_ z hc2 => ?_) (fun _ _ z => absurd y1 z) (fun _ _ z => absurd y1 z) (fun _ _ z => absurd y1 z) (fun _ _ z => absurd y1 z) (fun _ _ z => absurd y1 z)
      obtain ⟨q1, q2, q3, q4, q5⟩ := o3 cs at_ z
      have q := kS q1 hc2 1 cs (by decide) q2 (by rw [q4]; exact q3) q5
      rw [q4] at q
      exact q
    · have n1 : (nx L (a 75) 0 false).1 = 1 → ¬ kz1 (a 75) (nx L (a 75) 0 false).2.1 (nx L (a 75) 0 false).2.2 := fun x y => z1 ⟨x, y⟩
      by_cases z2 : wz2 (a 75) (avF L (a 75) (ρI k))
      · have hr : rkF L (a 75) (avF L (a 75) (ρI k)) = avF L (a 75) (kyF (avF L (a 75) (ρI k)) (nI 2)) := (cI_f z0).trans ((cI_f z1).trans (cI_t z2))
        have y2 : kz2 (a 75) (nx L (a 75) 0 false).2.1 (nx L (a 75) 0 false).2.2 := z2.2
        obtain ⟨R, T⟩ := top_j (tq := upd (a 80) 0 0) hL (by decide) h0 z2.1 (by have y : (adv L (a 75) (0, 0, 0)).2.2 = (adv L (a 75) (0, 0, 0)).2.1 + 4 := z2.2.1; omega) hr
        obtain ⟨o1, o2, o3⟩ := top_out T
        refine m_text (R0 := (none, 0)) (R1 := (none, 0)) (R2 := R) F h9 hL hc hc14 (fun z => absurd y2 (z z2.1).2.2) (fun x y => absurd y (n0 x)) (fun x y => absurd y (n0 x)) (fun x y => absurd y (n0 x)) (fun x y => absurd y (n0 x)) (fun x y => absurd y (n0 x)) (fun x _ y => absurd y (n1 x)) (fun x _ y => absurd y (n1 x)) (fun x _ y => absurd y (n1 x)) (fun x _ y => absurd y (n1 x)) (fun x _ y => absurd y (n1 x)) (fun _ _ _ _ => T.1) (fun _ _ _ _ => o1) (fun _ _ _ _ z => kF _ (o2 z)) (fun _ _ _ _ cs at_ z => kB (o3 cs at_ z).1) (fun _ _ _ _ cs at_ z hc2 => ?_)
        obtain ⟨q1, q2, q3, q4, q5⟩ := o3 cs at_ z
        have q := kS q1 hc2 2 cs (by decide) q2 (by rw [q4]; exact q3) q5
        rw [q4] at q
        exact q
      · have n2 : (nx L (a 75) 0 false).1 = 1 → ¬ kz2 (a 75) (nx L (a 75) 0 false).2.1 (nx L (a 75) 0 false).2.2 := fun x y => z2 ⟨x, y⟩
        exact m_text (R0 := (none, 0)) (R1 := (none, 0)) (R2 := (none, 0)) F h9 hL hc hc14 (fun _ => kF _ (ff_no z0 z1 z2)) (fun x y => absurd y (n0 x)) (fun x y => absurd y (n0 x)) (fun x y => absurd y (n0 x)) (fun x y => absurd y (n0 x)) (fun x y => absurd y (n0 x)) (fun x _ y => absurd y (n1 x)) (fun x _ y => absurd y (n1 x)) (fun x _ y => absurd y (n1 x)) (fun x _ y => absurd y (n1 x)) (fun x _ y => absurd y (n1 x)) (fun x _ _ y => absurd y (n2 x)) (fun x _ _ y => absurd y (n2 x)) (fun x _ _ y => absurd y (n2 x)) (fun x _ _ y => absurd y (n2 x)) (fun x _ _ y => absurd y (n2 x))
theorem ff_ok {L : Nat} {tp : Nat → Int32} {k : Int32} (hL : L ≤ 96) (hn : (ffF L tp k).2.1 = none) : ∃ j me, j < 3 ∧ (ffF L tp k).2.2.1 = nI j ∧ XE j (ffF L tp k).2.2.2.1 me (ffF L tp k).2.2.2.2.1 ∧ (ffF L tp k).2.2.2.1.length + 3 ≤ 96 ∧ (ffF L tp k).2.2.2.2.1 ≤ 96 := by
  have out : ∀ (j : Nat) (K : Nat × Nat × Nat) (R : RT9), j < 3 → TOP L tp j K (fun _ => 0) (ffF L tp k) R → ∃ j me, j < 3 ∧ (ffF L tp k).2.2.1 = nI j ∧ XE j (ffF L tp k).2.2.2.1 me (ffF L tp k).2.2.2.2.1 ∧ (ffF L tp k).2.2.2.1.length + 3 ≤ 96 ∧ (ffF L tp k).2.2.2.2.1 ≤ 96 := by
    intro j K R hj T
    obtain ⟨hk, e, me, nn, h1, h2, h3, h4, h5⟩ := T.2.2 hn
    have hl := crL_len e me h3.1
    have hc := cntL_le me
    have h31 := h3.2.1
    exact ⟨j, me, hj, hk, by rw [h1, h2]; exact h3, by rw [h1]; exact h5, by rw [h2]; omega⟩
  by_cases z0 : wz0 tp (avF L tp (ρI k))
  · obtain ⟨R, T⟩ := top_j (tq := fun _ => 0) hL (show 0 < 3 by decide) rfl z0.1 (by have y : (adv L tp (0, 0, 0)).2.2 = (adv L tp (0, 0, 0)).2.1 + 4 := z0.2.1; omega) (cI_t z0)
    exact out _ _ _ (by decide) T
  · by_cases z1 : wz1 tp (avF L tp (ρI k))
    · obtain ⟨R, T⟩ := top_j (tq := fun _ => 0) hL (show 1 < 3 by decide) rfl z1.1 (by have y : (adv L tp (0, 0, 0)).2.2 = (adv L tp (0, 0, 0)).2.1 + 3 := z1.2.1; omega) ((cI_f z0).trans (cI_t z1))
      exact out _ _ _ (by decide) T
    · by_cases z2 : wz2 tp (avF L tp (ρI k))
      · obtain ⟨R, T⟩ := top_j (tq := fun _ => 0) hL (show 2 < 3 by decide) rfl z2.1 (by have y : (adv L tp (0, 0, 0)).2.2 = (adv L tp (0, 0, 0)).2.1 + 4 := z2.2.1; omega) ((cI_f z0).trans ((cI_f z1).trans (cI_t z2)))
        exact out _ _ _ (by decide) T
      · exact absurd ((ff_no z0 z1 z2).symm.trans hn) (by simp)
