def topB (r : Int32) (ws : List Int32) : Prop := ws = [] ∨ ∃ w u, ws = w :: u ∧ (w = -11 ∨ rkM w < r)
def endC (tp : Nat → Int32) (r : Int32) (K : Nat × Nat × Nat) (x : Int32) : Prop := sgV K.1 (tp K.2.1) = 0 ∨ rkM (sgV K.1 (tp K.2.1)) < r ∨ (rkM (sgV K.1 (tp K.2.1)) = 3 ∧ ¬ x = 0 ∧ r ≤ 3)
def pnd (r : Int32) : List Int32 → Prop
  | [] => True
  | x :: xs => (r ≤ rkM x ∧ x ≠ -11 ∧ x ≠ -10) ∧ pnd r xs
theorem pnd_a {r : Int32} : ∀ (a b : List Int32), pnd r a → pnd r b → pnd r (a ++ b) := by
  intro a
  induction a with
  | nil => intro b _ h; exact h
  | cons x a ih => intro b h g; exact ⟨h.1, ih b h.2 g⟩
theorem pnd_le {r s : Int32} (h : s ≤ r) : ∀ (a : List Int32), pnd r a → pnd s a := by
  intro a
  induction a with
  | nil => intro _; trivial
  | cons x a ih => intro g; exact ⟨⟨Int32.le_trans h g.1.1, g.1.2⟩, ih g.2⟩
theorem stl_top {r : Int32} {cs ws : List Int32} (h : topB r ws) : stl r cs ws = (cs, ws) := by
  rcases h with rfl | ⟨w, u, rfl, h⟩
  · rfl
  · unfold stl; rw [if_pos h]
theorem stl_pnd {r : Int32} {ws : List Int32} (h : topB r ws) : ∀ (p cs : List Int32), pnd r p → stl r cs (p ++ ws) = (cs ++ p, ws) := by
  intro p
  induction p with
  | nil => intro cs _; rw [List.append_nil]; exact stl_top h
  | cons x p ih =>
    intro cs g
    show stl r cs (x :: (p ++ ws)) = (cs ++ (x :: p), ws)
    unfold stl
    rw [if_neg (fun z => z.elim g.1.2.1 (fun y => absurd y (Int32.not_lt.mpr g.1.1))), ih _ g.2, List.append_assoc]
    rfl
theorem nO_p {r : Int32} : ∀ (p ws : List Int32), pnd r p → nO (p ++ ws) = nO ws := by
  intro p
  induction p with
  | nil => intro ws _; rfl
  | cons x p ih =>
    intro ws g
    show (if x = -10 then 1 else 0) + nO (p ++ ws) = nO ws
    rw [if_neg g.1.2.2, Nat.zero_add, ih ws g.2]
theorem rkM_le (x : Int32) : 1 ≤ rkM x ∧ rkM x ≤ 6 := by
  unfold rkM
  repeat' split
  all_goals decide
def OKs (L : Nat) (tp : Nat → Int32) (ky : Nat) (r : Int32) (ρ ρ' : RS) (cs ws : List Int32) (at_ : Nat) (tq : Nat → Int32) : Prop := ∃ e me nn e1 pend tq', ρ'.2.2.2.1 = ρ.2.2.2.1 ++ e ∧ XE ky e me nn ∧ ρ'.2.2.2.2.1 = ρ.2.2.2.2.1 + nn ∧ e.length + ρ.1.2.1 ≤ ρ'.1.2.1 ∧ e1 ++ pend = me ∧ pnd r pend ∧ (∀ k, k < ρ.2.2.2.2.2.1 → tq' k = tq k) ∧ (3 < r → (tq' ρ.2.2.2.2.2.1 = 0 ↔ tq ρ.2.2.2.2.2.1 = 0)) ∧ endC tp r ρ'.1 (tq' ρ.2.2.2.2.2.1) ∧ ∀ R, TE L tp (nI ky) false ρ.2.2.2.2.2.1 (ρ'.1, cs ++ e1, pend ++ ws, at_ + nn, tq') R → TE L tp (nI ky) true ρ.2.2.2.2.2.1 (ρ.1, cs, ws, at_, tq) R
def SpG (L : Nat) (tp : Nat → Int32) (ky D : Nat) (r : Int32) (G : RS → RS) : Prop := ∀ ρ, WR L tp ρ → 17 ≤ D + ρ.2.2.2.2.2.1 + ρ.2.2.2.2.2.2 → ρ.2.1 = none → ρ.2.2.1 = nI ky → ρ.2.2.2.1.length + 3 ≤ ρ.1.2.1 → ∀ cs ws at_ tq, nO ws = ρ.2.2.2.2.2.2 → (r ≤ 3 → tq ρ.2.2.2.2.2.1 = 0) → topB r ws →
  (∀ q, (G ρ).2.1 = some q → TE L tp (nI ky) true ρ.2.2.2.2.2.1 (ρ.1, cs, ws, at_, tq) (none, q)) ∧ ((G ρ).2.1 = none → OKs L tp ky r ρ (G ρ) cs ws at_ tq)
theorem lp_flt {L : Nat} {tp : Nat → Int32} {G : RS → RS} {T : RS → Prop} (hT : ∀ ρ, T ρ → ρ.2.1 = none) : ∀ (m : Nat) (ρ : RS), ρ.2.1 ≠ none → lpF L tp G T m ρ = ρ := by
  intro m ρ h
  cases m with
  | zero => rfl
  | succ m => exact cI_f (fun z => h (hT ρ z))
theorem tsV_lo {g x : Int32} (h : rkM g < 3) : tsV g x = 0 := by
  unfold tsV
  exact if_neg (fun z => z.elim (fun y => absurd h (by rw [y]; decide)) (fun y => Int32.lt_irrefl (Int32.lt_trans h y.1)))
theorem tsV_hi {g x : Int32} (h : 3 < rkM g) : (tsV g x = 0 ↔ x = 0) := by
  unfold tsV
  by_cases e : x = 0
  · rw [if_neg (fun z => z.elim (fun y => absurd h (by rw [y]; decide)) (fun y => y.2 e))]; exact ⟨fun _ => e, fun _ => rfl⟩
  · rw [if_pos (Or.inr ⟨h, e⟩)]; exact ⟨fun z => absurd z (by decide), fun z => absurd z e⟩
theorem em_app {cs : List Int32} {c : Int32} (h : cs.length < 96) : emL cs c = cs ++ [c] := if_pos h
