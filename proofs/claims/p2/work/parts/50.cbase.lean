noncomputable def cI {α : Type} (p : Prop) (a b : α) : α := @ite α p (Classical.propDecidable p) a b
theorem cI_t {α : Type} {p : Prop} {a b : α} (h : p) : cI p a b = a := if_pos h
theorem cI_f {α : Type} {p : Prop} {a b : α} (h : ¬ p) : cI p a b = b := if_neg h
def fN (x : Int32) : Nat := x.toNatClampNeg
theorem fN_nI {j : Nat} (h : j < 2 ^ 31) : fN (nI j) = j := nI_clamp h
def am_fp (P : Nat → Prop) (h' h : am_H) : Prop := ∀ k, P k → h' k = h k
theorem am_fp0 {P : Nat → Prop} {h : am_H} : am_fp P h h := fun _ _ => rfl
theorem am_fpU {P : Nat → Prop} {a : Nat} {h h' : am_H} {c : am_AC} (ha : ¬ P a) (hf : am_fp P h' h) : am_fp P (am_up h' a c) h := fun k hk => by
  have hne : k ≠ a := fun e => ha (e ▸ hk)
  rw [am_nE hne]
  exact hf k hk
theorem am_fpT {P : Nat → Prop} {h h' h'' : am_H} (h1 : am_fp P h'' h') (h2 : am_fp P h' h) : am_fp P h'' h := fun k hk => (h1 k hk).trans (h2 k hk)
def OB (ik wc : Int32) (h : am_H) : Prop := h 0 = some (.inr (7, [.ref 1, .ref 13, .ref 25, .int ik, .ref 37, .ref 39, .ref 40, .ref 43, .ref 44, .ref 45, .int wc])) ∧ h 43 = some (.inr (13, [.ref 46, .ref 48, .ref 50, .ref 52])) ∧ h 44 = some (.inr (14, [.ref 54, .ref 57, .ref 60, .ref 63, .ref 66]))
theorem ob_frame {ik wc : Int32} {h h' : am_H} (F : OB ik wc h) (h0 : h' 0 = h 0) (h1 : h' 43 = h 43) (h2 : h' 44 = h 44) : OB ik wc h' := ⟨h0.trans F.1, h1.trans F.2.1, h2.trans F.2.2⟩
theorem ob_out {ik wc : Int32} {h : am_H} {a : Nat} {c : am_AC} (ha : a ≠ 0 ∧ a ≠ 43 ∧ a ≠ 44) (F : OB ik wc h) : OB ik wc (am_up h a c) := ob_frame F (am_nE (fun e => ha.1 e.symm)) (am_nE (fun e => ha.2.1 e.symm)) (am_nE (fun e => ha.2.2 e.symm))
theorem ob_p3 {ik wc v : Int32} {h : am_H} (F : OB ik wc h) : OB v wc (am_up h 0 (.inr (7, ([.ref 1, .ref 13, .ref 25, .int ik, .ref 37, .ref 39, .ref 40, .ref 43, .ref 44, .ref 45, .int wc] : List Value).set 3 (.int v)))) := ⟨am_eq, am_ne (by decide) F.2.1, am_ne (by decide) F.2.2⟩
theorem ob_p10 {ik wc v : Int32} {h : am_H} (F : OB ik wc h) : OB ik v (am_up h 0 (.inr (7, ([.ref 1, .ref 13, .ref 25, .int ik, .ref 37, .ref 39, .ref 40, .ref 43, .ref 44, .ref 45, .int wc] : List Value).set 10 (.int v)))) := ⟨am_eq, am_ne (by decide) F.2.1, am_ne (by decide) F.2.2⟩
theorem sh_at {j : Nat} (h : j < 4) : ([.ref 46, .ref 48, .ref 50, .ref 52] : List Value)[j]? = some (.ref (46 + 2 * j)) := by
  rcases (show j = 0 ∨ j = 1 ∨ j = 2 ∨ j = 3 by omega) with rfl | rfl | rfl | rfl <;> rfl
theorem sl_at {j : Nat} (h : j < 5) : ([.ref 54, .ref 57, .ref 60, .ref 63, .ref 66] : List Value)[j]? = some (.ref (54 + 3 * j)) := by
  rcases (show j = 0 ∨ j = 1 ∨ j = 2 ∨ j = 3 ∨ j = 4 by omega) with rfl | rfl | rfl | rfl | rfl <;> rfl
def WT (wt : Nat → Int32) (h : am_H) : Prop := h 45 = some (.inl (0, tl 60 wt))
theorem wt_out {wt : Nat → Int32} {h : am_H} {a : Nat} {c : am_AC} (ha : a ≠ 45) (F : WT wt h) : WT wt (am_up h a c) := (am_nE (fun e => ha e.symm)).trans F
theorem wt_set {wt : Nat → Int32} {h : am_H} {j : Nat} {v : Int32} (_F : WT wt h) : WT (upd wt j v) (am_up h 45 (.inl (0, (tl 60 wt).set j v))) := am_eq.trans (congrArg (fun l : List Int32 => (some (.inl (0, l)) : Option am_AC)) tl_set)
def WY (a0 a1 : Int32) (wy : Nat → Int32) (h : am_H) : Prop := h 37 = some (.inr (6, [.ref 38, .int a0, .int a1])) ∧ h 38 = some (.inl (0, tl 4 wy))
theorem wy_out {a0 a1 : Int32} {wy : Nat → Int32} {h : am_H} {a : Nat} {c : am_AC} (ha : a ≠ 37 ∧ a ≠ 38) (F : WY a0 a1 wy h) : WY a0 a1 wy (am_up h a c) := ⟨(am_nE (fun e => ha.1 e.symm)).trans F.1, (am_nE (fun e => ha.2 e.symm)).trans F.2⟩
theorem wy_frame {a0 a1 : Int32} {wy : Nat → Int32} {h h' : am_H} (F : WY a0 a1 wy h) (h0 : h' 37 = h 37) (h1 : h' 38 = h 38) : WY a0 a1 wy h' := ⟨h0.trans F.1, h1.trans F.2⟩
theorem wy_p1 {a0 a1 v : Int32} {wy : Nat → Int32} {h : am_H} (F : WY a0 a1 wy h) : WY v a1 wy (am_up h 37 (.inr (6, ([.ref 38, .int a0, .int a1] : List Value).set 1 (.int v)))) := ⟨am_eq, am_ne (by decide) F.2⟩
theorem wy_p2 {a0 a1 v : Int32} {wy : Nat → Int32} {h : am_H} (F : WY a0 a1 wy h) : WY a0 v wy (am_up h 37 (.inr (6, ([.ref 38, .int a0, .int a1] : List Value).set 2 (.int v)))) := ⟨am_eq, am_ne (by decide) F.2⟩
theorem wy_set {a0 a1 : Int32} {wy : Nat → Int32} {h : am_H} {j : Nat} {v : Int32} (F : WY a0 a1 wy h) : WY a0 a1 (upd wy j v) (am_up h 38 (.inl (0, (tl 4 wy).set j v))) := ⟨am_ne (by decide) F.1, am_eq.trans (congrArg (fun l : List Int32 => (some (.inl (0, l)) : Option am_AC)) tl_set)⟩
def RO (r : Nat → Int32) : List Value := [.ref 40, .int (r 1), .int (r 2), .int (r 3), .int (r 4), .int (r 5), .ref 42, .int (r 7), .int (r 8), .int (r 9), .int (r 10)]
def RD (r : Nat → Int32) (tn : Int32) (tp cd : Nat → Int32) (h : am_H) : Prop := h 39 = some (.inr (1, RO r)) ∧ h 40 = some (.inr (4, [.ref 41, .int tn])) ∧ h 41 = some (.inl (0, tl 96 tp)) ∧ h 42 = some (.inl (0, tl 96 cd))
theorem rd_frame {r : Nat → Int32} {tn : Int32} {tp cd : Nat → Int32} {h h' : am_H} (F : RD r tn tp cd h) (hf : ∀ k, 39 ≤ k → k < 43 → h' k = h k) : RD r tn tp cd h' := ⟨(hf _ (by decide) (by decide)).trans F.1, (hf _ (by decide) (by decide)).trans F.2.1, (hf _ (by decide) (by decide)).trans F.2.2.1, (hf _ (by decide) (by decide)).trans F.2.2.2⟩
theorem rd_out {r : Nat → Int32} {tn : Int32} {tp cd : Nat → Int32} {h : am_H} {a : Nat} {c : am_AC} (ha : a < 39 ∨ 43 ≤ a) (F : RD r tn tp cd h) : RD r tn tp cd (am_up h a c) := rd_frame F (fun k h1 h2 => am_nE (by omega))
theorem rd_len {r : Nat → Int32} {tn v : Int32} {tp cd : Nat → Int32} {h : am_H} (F : RD r tn tp cd h) : RD r v tp cd (am_up h 40 (.inr (4, ([.ref 41, .int tn] : List Value).set 1 (.int v)))) := ⟨am_ne (by decide) F.1, am_eq, am_ne (by decide) F.2.2.1, am_ne (by decide) F.2.2.2⟩
theorem rd_byte {r : Nat → Int32} {tn v : Int32} {tp cd : Nat → Int32} {h : am_H} {j : Nat} (F : RD r tn tp cd h) : RD r tn (upd tp j v) cd (am_up h 41 (.inl (0, (tl 96 tp).set j v))) := ⟨am_ne (by decide) F.1, am_ne (by decide) F.2.1, am_eq.trans (congrArg (fun l : List Int32 => (some (.inl (0, l)) : Option am_AC)) tl_set), am_ne (by decide) F.2.2.2⟩
theorem rd_code {r : Nat → Int32} {tn v : Int32} {tp cd : Nat → Int32} {h : am_H} {j : Nat} (F : RD r tn tp cd h) : RD r tn tp (upd cd j v) (am_up h 42 (.inl (0, (tl 96 cd).set j v))) := ⟨am_ne (by decide) F.1, am_ne (by decide) F.2.1, am_ne (by decide) F.2.2.1, am_eq.trans (congrArg (fun l : List Int32 => (some (.inl (0, l)) : Option am_AC)) tl_set)⟩
theorem rd_r1 {r : Nat → Int32} {tn v : Int32} {tp cd : Nat → Int32} {h : am_H} (F : RD r tn tp cd h) : RD (upd r 1 v) tn tp cd (am_up h 39 (.inr (1, (RO r).set 1 (.int v)))) := ⟨am_eq, am_ne (by decide) F.2.1, am_ne (by decide) F.2.2.1, am_ne (by decide) F.2.2.2⟩
theorem rd_r2 {r : Nat → Int32} {tn v : Int32} {tp cd : Nat → Int32} {h : am_H} (F : RD r tn tp cd h) : RD (upd r 2 v) tn tp cd (am_up h 39 (.inr (1, (RO r).set 2 (.int v)))) := ⟨am_eq, am_ne (by decide) F.2.1, am_ne (by decide) F.2.2.1, am_ne (by decide) F.2.2.2⟩
theorem rd_r3 {r : Nat → Int32} {tn v : Int32} {tp cd : Nat → Int32} {h : am_H} (F : RD r tn tp cd h) : RD (upd r 3 v) tn tp cd (am_up h 39 (.inr (1, (RO r).set 3 (.int v)))) := ⟨am_eq, am_ne (by decide) F.2.1, am_ne (by decide) F.2.2.1, am_ne (by decide) F.2.2.2⟩
theorem rd_r4 {r : Nat → Int32} {tn v : Int32} {tp cd : Nat → Int32} {h : am_H} (F : RD r tn tp cd h) : RD (upd r 4 v) tn tp cd (am_up h 39 (.inr (1, (RO r).set 4 (.int v)))) := ⟨am_eq, am_ne (by decide) F.2.1, am_ne (by decide) F.2.2.1, am_ne (by decide) F.2.2.2⟩
theorem rd_r5 {r : Nat → Int32} {tn v : Int32} {tp cd : Nat → Int32} {h : am_H} (F : RD r tn tp cd h) : RD (upd r 5 v) tn tp cd (am_up h 39 (.inr (1, (RO r).set 5 (.int v)))) := ⟨am_eq, am_ne (by decide) F.2.1, am_ne (by decide) F.2.2.1, am_ne (by decide) F.2.2.2⟩
theorem rd_r7 {r : Nat → Int32} {tn v : Int32} {tp cd : Nat → Int32} {h : am_H} (F : RD r tn tp cd h) : RD (upd r 7 v) tn tp cd (am_up h 39 (.inr (1, (RO r).set 7 (.int v)))) := ⟨am_eq, am_ne (by decide) F.2.1, am_ne (by decide) F.2.2.1, am_ne (by decide) F.2.2.2⟩
theorem rd_r8 {r : Nat → Int32} {tn v : Int32} {tp cd : Nat → Int32} {h : am_H} (F : RD r tn tp cd h) : RD (upd r 8 v) tn tp cd (am_up h 39 (.inr (1, (RO r).set 8 (.int v)))) := ⟨am_eq, am_ne (by decide) F.2.1, am_ne (by decide) F.2.2.1, am_ne (by decide) F.2.2.2⟩
theorem rd_r9 {r : Nat → Int32} {tn v : Int32} {tp cd : Nat → Int32} {h : am_H} (F : RD r tn tp cd h) : RD (upd r 9 v) tn tp cd (am_up h 39 (.inr (1, (RO r).set 9 (.int v)))) := ⟨am_eq, am_ne (by decide) F.2.1, am_ne (by decide) F.2.2.1, am_ne (by decide) F.2.2.2⟩
theorem rd_r10 {r : Nat → Int32} {tn v : Int32} {tp cd : Nat → Int32} {h : am_H} (F : RD r tn tp cd h) : RD (upd r 10 v) tn tp cd (am_up h 39 (.inr (1, (RO r).set 10 (.int v)))) := ⟨am_eq, am_ne (by decide) F.2.1, am_ne (by decide) F.2.2.1, am_ne (by decide) F.2.2.2⟩
def rwO (sr sz : Nat → Int32) (s : Nat) : List Value := [.int (sr s), .int (sz s), .ref (47 + 2 * s)]
def RW (sr sz cl : Nat → Int32) (h : am_H) : Prop := ∀ s, s < 4 → h (46 + 2 * s) = some (.inr (2, rwO sr sz s)) ∧ h (47 + 2 * s) = some (.inl (0, tl 24 (fun i => cl (24 * s + i))))
theorem rw_frame {sr sz cl : Nat → Int32} {h h' : am_H} (F : RW sr sz cl h) (hf : ∀ k, 46 ≤ k → k < 54 → h' k = h k) : RW sr sz cl h' := fun s hs => ⟨(hf _ (by omega) (by omega)).trans (F s hs).1, (hf _ (by omega) (by omega)).trans (F s hs).2⟩
theorem rw_out {sr sz cl : Nat → Int32} {h : am_H} {a : Nat} {c : am_AC} (ha : a < 46 ∨ 54 ≤ a) (F : RW sr sz cl h) : RW sr sz cl (am_up h a c) := rw_frame F (fun k h1 h2 => am_nE (by omega))
theorem rw_sort {sr sz cl : Nat → Int32} {h : am_H} {s : Nat} {v : Int32} (F : RW sr sz cl h) : RW (upd sr s v) sz cl (am_up h (46 + 2 * s) (.inr (2, (rwO sr sz s).set 0 (.int v)))) := fun t ht => by
  refine ⟨?_, am_ne (by omega) (F t ht).2⟩
  by_cases e : t = s
  · subst e; exact am_eq.trans (by simp [rwO, pk_us])
  · exact am_ne (by omega) ((F t ht).1.trans (by simp [rwO, pk_un e]))
theorem rw_size {sr sz cl : Nat → Int32} {h : am_H} {s : Nat} {v : Int32} (F : RW sr sz cl h) : RW sr (upd sz s v) cl (am_up h (46 + 2 * s) (.inr (2, (rwO sr sz s).set 1 (.int v)))) := fun t ht => by
  refine ⟨?_, am_ne (by omega) (F t ht).2⟩
  by_cases e : t = s
  · subst e; exact am_eq.trans (by simp [rwO, pk_us])
  · exact am_ne (by omega) ((F t ht).1.trans (by simp [rwO, pk_un e]))
theorem rw_arr {sr sz cl cl' : Nat → Int32} {h : am_H} {s : Nat} {l : List Int32} (F : RW sr sz cl h) (h1 : l = tl 24 (fun i => cl' (24 * s + i))) (h2 : ∀ t i, t < 4 → i < 24 → t ≠ s → cl' (24 * t + i) = cl (24 * t + i)) : RW sr sz cl' (am_up h (47 + 2 * s) (.inl (0, l))) := fun t ht => by
  refine ⟨am_ne (by omega) (F t ht).1, ?_⟩
  by_cases e : t = s
  · subst e; rw [h1]; exact am_eq
  · exact am_ne (by omega) ((F t ht).2.trans (congrArg (fun l : List Int32 => (some (.inl (0, l)) : Option am_AC)) (tl_congr (fun i hi => (h2 t i ht hi e).symm))))
theorem rw_cell {sr sz cl : Nat → Int32} {h : am_H} {s j : Nat} {v : Int32} (F : RW sr sz cl h) (hj : j < 24) : RW sr sz (upd cl (24 * s + j) v) (am_up h (47 + 2 * s) (.inl (0, (tl 24 (fun i => cl (24 * s + i))).set j v))) := rw_arr F (by
  rw [tl_set]
  refine tl_congr (fun i hi => ?_)
  by_cases e : i = j
  · subst e; rw [pk_us, pk_us]
  · rw [pk_un e, pk_un (by omega)]) (fun t i ht hi e => pk_un (by omega))
def slO (th kd pr nu : Nat → Int32) (s : Nat) : List Value := [.int (th s), .int (kd s), .int (pr s), .int (nu s), .ref (55 + 3 * s)]
def slR (ss zs : Nat → Int32) (s : Nat) : List Value := [.int (ss s), .int (zs s), .ref (56 + 3 * s)]
def SL (th kd pr nu ss zs hc : Nat → Int32) (h : am_H) : Prop := ∀ s, s < 5 → h (54 + 3 * s) = some (.inr (3, slO th kd pr nu s)) ∧ h (55 + 3 * s) = some (.inr (2, slR ss zs s)) ∧ h (56 + 3 * s) = some (.inl (0, tl 24 (fun i => hc (24 * s + i))))
theorem sl_frame {th kd pr nu ss zs hc : Nat → Int32} {h h' : am_H} (F : SL th kd pr nu ss zs hc h) (hf : ∀ k, 54 ≤ k → k < 69 → h' k = h k) : SL th kd pr nu ss zs hc h' := fun s hs => ⟨(hf _ (by omega) (by omega)).trans (F s hs).1, (hf _ (by omega) (by omega)).trans (F s hs).2.1, (hf _ (by omega) (by omega)).trans (F s hs).2.2⟩
theorem sl_out {th kd pr nu ss zs hc : Nat → Int32} {h : am_H} {a : Nat} {c : am_AC} (ha : a < 54 ∨ 69 ≤ a) (F : SL th kd pr nu ss zs hc h) : SL th kd pr nu ss zs hc (am_up h a c) := sl_frame F (fun k h1 h2 => am_nE (by omega))
theorem sl_th {th kd pr nu ss zs hc : Nat → Int32} {h : am_H} {s : Nat} {v : Int32} (F : SL th kd pr nu ss zs hc h) : SL (upd th s v) kd pr nu ss zs hc (am_up h (54 + 3 * s) (.inr (3, (slO th kd pr nu s).set 0 (.int v)))) := fun t ht => by
  refine ⟨?_, am_ne (by omega) (F t ht).2.1, am_ne (by omega) (F t ht).2.2⟩
  by_cases e : t = s
  · subst e; exact am_eq.trans (by simp [slO, pk_us])
  · exact am_ne (by omega) ((F t ht).1.trans (by simp [slO, pk_un e]))
theorem sl_kd {th kd pr nu ss zs hc : Nat → Int32} {h : am_H} {s : Nat} {v : Int32} (F : SL th kd pr nu ss zs hc h) : SL th (upd kd s v) pr nu ss zs hc (am_up h (54 + 3 * s) (.inr (3, (slO th kd pr nu s).set 1 (.int v)))) := fun t ht => by
  refine ⟨?_, am_ne (by omega) (F t ht).2.1, am_ne (by omega) (F t ht).2.2⟩
  by_cases e : t = s
  · subst e; exact am_eq.trans (by simp [slO, pk_us])
  · exact am_ne (by omega) ((F t ht).1.trans (by simp [slO, pk_un e]))
theorem sl_pr {th kd pr nu ss zs hc : Nat → Int32} {h : am_H} {s : Nat} {v : Int32} (F : SL th kd pr nu ss zs hc h) : SL th kd (upd pr s v) nu ss zs hc (am_up h (54 + 3 * s) (.inr (3, (slO th kd pr nu s).set 2 (.int v)))) := fun t ht => by
  refine ⟨?_, am_ne (by omega) (F t ht).2.1, am_ne (by omega) (F t ht).2.2⟩
  by_cases e : t = s
  · subst e; exact am_eq.trans (by simp [slO, pk_us])
  · exact am_ne (by omega) ((F t ht).1.trans (by simp [slO, pk_un e]))
theorem sl_nu {th kd pr nu ss zs hc : Nat → Int32} {h : am_H} {s : Nat} {v : Int32} (F : SL th kd pr nu ss zs hc h) : SL th kd pr (upd nu s v) ss zs hc (am_up h (54 + 3 * s) (.inr (3, (slO th kd pr nu s).set 3 (.int v)))) := fun t ht => by
  refine ⟨?_, am_ne (by omega) (F t ht).2.1, am_ne (by omega) (F t ht).2.2⟩
  by_cases e : t = s
  · subst e; exact am_eq.trans (by simp [slO, pk_us])
  · exact am_ne (by omega) ((F t ht).1.trans (by simp [slO, pk_un e]))
theorem sl_ss {th kd pr nu ss zs hc : Nat → Int32} {h : am_H} {s : Nat} {v : Int32} (F : SL th kd pr nu ss zs hc h) : SL th kd pr nu (upd ss s v) zs hc (am_up h (55 + 3 * s) (.inr (2, (slR ss zs s).set 0 (.int v)))) := fun t ht => by
  refine ⟨am_ne (by omega) (F t ht).1, ?_, am_ne (by omega) (F t ht).2.2⟩
  by_cases e : t = s
  · subst e; exact am_eq.trans (by simp [slR, pk_us])
  · exact am_ne (by omega) ((F t ht).2.1.trans (by simp [slR, pk_un e]))
theorem sl_zs {th kd pr nu ss zs hc : Nat → Int32} {h : am_H} {s : Nat} {v : Int32} (F : SL th kd pr nu ss zs hc h) : SL th kd pr nu ss (upd zs s v) hc (am_up h (55 + 3 * s) (.inr (2, (slR ss zs s).set 1 (.int v)))) := fun t ht => by
  refine ⟨am_ne (by omega) (F t ht).1, ?_, am_ne (by omega) (F t ht).2.2⟩
  by_cases e : t = s
  · subst e; exact am_eq.trans (by simp [slR, pk_us])
  · exact am_ne (by omega) ((F t ht).2.1.trans (by simp [slR, pk_un e]))
theorem sl_arr {th kd pr nu ss zs hc hc' : Nat → Int32} {h : am_H} {s : Nat} {l : List Int32} (F : SL th kd pr nu ss zs hc h) (h1 : l = tl 24 (fun i => hc' (24 * s + i))) (h2 : ∀ t i, t < 5 → i < 24 → t ≠ s → hc' (24 * t + i) = hc (24 * t + i)) : SL th kd pr nu ss zs hc' (am_up h (56 + 3 * s) (.inl (0, l))) := fun t ht => by
  refine ⟨am_ne (by omega) (F t ht).1, am_ne (by omega) (F t ht).2.1, ?_⟩
  by_cases e : t = s
  · subst e; rw [h1]; exact am_eq
  · exact am_ne (by omega) ((F t ht).2.2.trans (congrArg (fun l : List Int32 => (some (.inl (0, l)) : Option am_AC)) (tl_congr (fun i hi => (h2 t i ht hi e).symm))))
def RG (N : Nat → Int32) (fr c : Nat) : Prop := N 1 = nI fr ∧ fr ≤ 8 ∧ N 7 = nI c ∧ c ≤ 14 ∧ (∀ f, f < 8 → wi (N (22 + 5 * f)) 0 5 ∧ wi (N (23 + 5 * f)) 0 1 ∧ wi (N (24 + 5 * f)) 0 99) ∧ (∀ t, t < 4 → wi (N (8 + t)) 0 9) ∧ (∀ j, j < 8 → wi (N (12 + j)) 0 9) ∧ (∀ s, s < 2 → wi (N (20 + s)) 0 400) ∧ wi (N 2) 0 9999 ∧ wi (N 3) 0 99 ∧ wi (N 4) 1 99 ∧ wi (N 5) 0 100
theorem rg_wk {N : Nat → Int32} {fr c : Nat} (H : RG N fr c) : WK N := fun f hf => ⟨(H.2.2.2.2.1 f hf).1, (H.2.2.2.2.1 f hf).2.1⟩
theorem sw_0_7 (x : Int32) : x = 0 ∨ x = 1 ∨ x = 2 ∨ x = 3 ∨ x = 4 ∨ x = 5 ∨ x = 6 ∨ x = 7 ∨ ((x.toInt < 0 ∨ 7 < x.toInt) ∧ ¬ x = 0 ∧ ¬ x = 1 ∧ ¬ x = 2 ∧ ¬ x = 3 ∧ ¬ x = 4 ∧ ¬ x = 5 ∧ ¬ x = 6 ∧ ¬ x = 7) := by
  by_cases h0 : x = 0
  · exact Or.inl h0
  by_cases h1 : x = 1
  · exact Or.inr (Or.inl h1)
  by_cases h2 : x = 2
  · exact Or.inr (Or.inr (Or.inl h2))
  by_cases h3 : x = 3
  · exact Or.inr (Or.inr (Or.inr (Or.inl h3)))
  by_cases h4 : x = 4
  · exact Or.inr (Or.inr (Or.inr (Or.inr (Or.inl h4))))
  by_cases h5 : x = 5
  · exact Or.inr (Or.inr (Or.inr (Or.inr (Or.inr (Or.inl h5)))))
  by_cases h6 : x = 6
  · exact Or.inr (Or.inr (Or.inr (Or.inr (Or.inr (Or.inr (Or.inl h6))))))
  by_cases h7 : x = 7
  · exact Or.inr (Or.inr (Or.inr (Or.inr (Or.inr (Or.inr (Or.inr (Or.inl h7)))))))
  refine Or.inr (Or.inr (Or.inr (Or.inr (Or.inr (Or.inr (Or.inr (Or.inr (⟨?_, h0, h1, h2, h3, h4, h5, h6, h7⟩))))))))
  have g0 : x.toInt ≠ 0 := fun z => h0 (Int32.toInt_inj.mp (by rw [z]; rfl))
  have g1 : x.toInt ≠ 1 := fun z => h1 (Int32.toInt_inj.mp (by rw [z]; rfl))
  have g2 : x.toInt ≠ 2 := fun z => h2 (Int32.toInt_inj.mp (by rw [z]; rfl))
  have g3 : x.toInt ≠ 3 := fun z => h3 (Int32.toInt_inj.mp (by rw [z]; rfl))
  have g4 : x.toInt ≠ 4 := fun z => h4 (Int32.toInt_inj.mp (by rw [z]; rfl))
  have g5 : x.toInt ≠ 5 := fun z => h5 (Int32.toInt_inj.mp (by rw [z]; rfl))
  have g6 : x.toInt ≠ 6 := fun z => h6 (Int32.toInt_inj.mp (by rw [z]; rfl))
  have g7 : x.toInt ≠ 7 := fun z => h7 (Int32.toInt_inj.mp (by rw [z]; rfl))
  omega
theorem sw_0_6 (x : Int32) : x = 0 ∨ x = 1 ∨ x = 2 ∨ x = 3 ∨ x = 4 ∨ x = 5 ∨ x = 6 ∨ ((x.toInt < 0 ∨ 6 < x.toInt) ∧ ¬ x = 0 ∧ ¬ x = 1 ∧ ¬ x = 2 ∧ ¬ x = 3 ∧ ¬ x = 4 ∧ ¬ x = 5 ∧ ¬ x = 6) := by
  by_cases h0 : x = 0
  · exact Or.inl h0
  by_cases h1 : x = 1
  · exact Or.inr (Or.inl h1)
  by_cases h2 : x = 2
  · exact Or.inr (Or.inr (Or.inl h2))
  by_cases h3 : x = 3
  · exact Or.inr (Or.inr (Or.inr (Or.inl h3)))
  by_cases h4 : x = 4
  · exact Or.inr (Or.inr (Or.inr (Or.inr (Or.inl h4))))
  by_cases h5 : x = 5
  · exact Or.inr (Or.inr (Or.inr (Or.inr (Or.inr (Or.inl h5)))))
  by_cases h6 : x = 6
  · exact Or.inr (Or.inr (Or.inr (Or.inr (Or.inr (Or.inr (Or.inl h6))))))
  refine Or.inr (Or.inr (Or.inr (Or.inr (Or.inr (Or.inr (Or.inr (⟨?_, h0, h1, h2, h3, h4, h5, h6⟩)))))))
  have g0 : x.toInt ≠ 0 := fun z => h0 (Int32.toInt_inj.mp (by rw [z]; rfl))
  have g1 : x.toInt ≠ 1 := fun z => h1 (Int32.toInt_inj.mp (by rw [z]; rfl))
  have g2 : x.toInt ≠ 2 := fun z => h2 (Int32.toInt_inj.mp (by rw [z]; rfl))
  have g3 : x.toInt ≠ 3 := fun z => h3 (Int32.toInt_inj.mp (by rw [z]; rfl))
  have g4 : x.toInt ≠ 4 := fun z => h4 (Int32.toInt_inj.mp (by rw [z]; rfl))
  have g5 : x.toInt ≠ 5 := fun z => h5 (Int32.toInt_inj.mp (by rw [z]; rfl))
  have g6 : x.toInt ≠ 6 := fun z => h6 (Int32.toInt_inj.mp (by rw [z]; rfl))
  omega
theorem sw_0_8 (x : Int32) : x = 0 ∨ x = 1 ∨ x = 2 ∨ x = 3 ∨ x = 4 ∨ x = 5 ∨ x = 6 ∨ x = 7 ∨ x = 8 ∨ ((x.toInt < 0 ∨ 8 < x.toInt) ∧ ¬ x = 0 ∧ ¬ x = 1 ∧ ¬ x = 2 ∧ ¬ x = 3 ∧ ¬ x = 4 ∧ ¬ x = 5 ∧ ¬ x = 6 ∧ ¬ x = 7 ∧ ¬ x = 8) := by
  by_cases h0 : x = 0
  · exact Or.inl h0
  by_cases h1 : x = 1
  · exact Or.inr (Or.inl h1)
  by_cases h2 : x = 2
  · exact Or.inr (Or.inr (Or.inl h2))
  by_cases h3 : x = 3
  · exact Or.inr (Or.inr (Or.inr (Or.inl h3)))
  by_cases h4 : x = 4
  · exact Or.inr (Or.inr (Or.inr (Or.inr (Or.inl h4))))
  by_cases h5 : x = 5
  · exact Or.inr (Or.inr (Or.inr (Or.inr (Or.inr (Or.inl h5)))))
  by_cases h6 : x = 6
  · exact Or.inr (Or.inr (Or.inr (Or.inr (Or.inr (Or.inr (Or.inl h6))))))
  by_cases h7 : x = 7
  · exact Or.inr (Or.inr (Or.inr (Or.inr (Or.inr (Or.inr (Or.inr (Or.inl h7)))))))
  by_cases h8 : x = 8
  · exact Or.inr (Or.inr (Or.inr (Or.inr (Or.inr (Or.inr (Or.inr (Or.inr (Or.inl h8))))))))
  refine Or.inr (Or.inr (Or.inr (Or.inr (Or.inr (Or.inr (Or.inr (Or.inr (Or.inr (⟨?_, h0, h1, h2, h3, h4, h5, h6, h7, h8⟩)))))))))
  have g0 : x.toInt ≠ 0 := fun z => h0 (Int32.toInt_inj.mp (by rw [z]; rfl))
  have g1 : x.toInt ≠ 1 := fun z => h1 (Int32.toInt_inj.mp (by rw [z]; rfl))
  have g2 : x.toInt ≠ 2 := fun z => h2 (Int32.toInt_inj.mp (by rw [z]; rfl))
  have g3 : x.toInt ≠ 3 := fun z => h3 (Int32.toInt_inj.mp (by rw [z]; rfl))
  have g4 : x.toInt ≠ 4 := fun z => h4 (Int32.toInt_inj.mp (by rw [z]; rfl))
  have g5 : x.toInt ≠ 5 := fun z => h5 (Int32.toInt_inj.mp (by rw [z]; rfl))
  have g6 : x.toInt ≠ 6 := fun z => h6 (Int32.toInt_inj.mp (by rw [z]; rfl))
  have g7 : x.toInt ≠ 7 := fun z => h7 (Int32.toInt_inj.mp (by rw [z]; rfl))
  have g8 : x.toInt ≠ 8 := fun z => h8 (Int32.toInt_inj.mp (by rw [z]; rfl))
  omega
theorem sw_1_5 (x : Int32) : x = 1 ∨ x = 2 ∨ x = 3 ∨ x = 4 ∨ x = 5 ∨ ((x.toInt < 1 ∨ 5 < x.toInt) ∧ ¬ x = 1 ∧ ¬ x = 2 ∧ ¬ x = 3 ∧ ¬ x = 4 ∧ ¬ x = 5) := by
  by_cases h1 : x = 1
  · exact Or.inl h1
  by_cases h2 : x = 2
  · exact Or.inr (Or.inl h2)
  by_cases h3 : x = 3
  · exact Or.inr (Or.inr (Or.inl h3))
  by_cases h4 : x = 4
  · exact Or.inr (Or.inr (Or.inr (Or.inl h4)))
  by_cases h5 : x = 5
  · exact Or.inr (Or.inr (Or.inr (Or.inr (Or.inl h5))))
  refine Or.inr (Or.inr (Or.inr (Or.inr (Or.inr (⟨?_, h1, h2, h3, h4, h5⟩)))))
  have g1 : x.toInt ≠ 1 := fun z => h1 (Int32.toInt_inj.mp (by rw [z]; rfl))
  have g2 : x.toInt ≠ 2 := fun z => h2 (Int32.toInt_inj.mp (by rw [z]; rfl))
  have g3 : x.toInt ≠ 3 := fun z => h3 (Int32.toInt_inj.mp (by rw [z]; rfl))
  have g4 : x.toInt ≠ 4 := fun z => h4 (Int32.toInt_inj.mp (by rw [z]; rfl))
  have g5 : x.toInt ≠ 5 := fun z => h5 (Int32.toInt_inj.mp (by rw [z]; rfl))
  omega
theorem sw_0_3 (x : Int32) : x = 0 ∨ x = 1 ∨ x = 2 ∨ x = 3 ∨ ((x.toInt < 0 ∨ 3 < x.toInt) ∧ ¬ x = 0 ∧ ¬ x = 1 ∧ ¬ x = 2 ∧ ¬ x = 3) := by
  by_cases h0 : x = 0
  · exact Or.inl h0
  by_cases h1 : x = 1
  · exact Or.inr (Or.inl h1)
  by_cases h2 : x = 2
  · exact Or.inr (Or.inr (Or.inl h2))
  by_cases h3 : x = 3
  · exact Or.inr (Or.inr (Or.inr (Or.inl h3)))
  refine Or.inr (Or.inr (Or.inr (Or.inr (⟨?_, h0, h1, h2, h3⟩))))
  have g0 : x.toInt ≠ 0 := fun z => h0 (Int32.toInt_inj.mp (by rw [z]; rfl))
  have g1 : x.toInt ≠ 1 := fun z => h1 (Int32.toInt_inj.mp (by rw [z]; rfl))
  have g2 : x.toInt ≠ 2 := fun z => h2 (Int32.toInt_inj.mp (by rw [z]; rfl))
  have g3 : x.toInt ≠ 3 := fun z => h3 (Int32.toInt_inj.mp (by rw [z]; rfl))
  omega
theorem sw_0_2 (x : Int32) : x = 0 ∨ x = 1 ∨ x = 2 ∨ ((x.toInt < 0 ∨ 2 < x.toInt) ∧ ¬ x = 0 ∧ ¬ x = 1 ∧ ¬ x = 2) := by
  by_cases h0 : x = 0
  · exact Or.inl h0
  by_cases h1 : x = 1
  · exact Or.inr (Or.inl h1)
  by_cases h2 : x = 2
  · exact Or.inr (Or.inr (Or.inl h2))
  refine Or.inr (Or.inr (Or.inr (⟨?_, h0, h1, h2⟩)))
  have g0 : x.toInt ≠ 0 := fun z => h0 (Int32.toInt_inj.mp (by rw [z]; rfl))
  have g1 : x.toInt ≠ 1 := fun z => h1 (Int32.toInt_inj.mp (by rw [z]; rfl))
  have g2 : x.toInt ≠ 2 := fun z => h2 (Int32.toInt_inj.mp (by rw [z]; rfl))
  omega
theorem sw_1_2 (x : Int32) : x = 1 ∨ x = 2 ∨ ((x.toInt < 1 ∨ 2 < x.toInt) ∧ ¬ x = 1 ∧ ¬ x = 2) := by
  by_cases h1 : x = 1
  · exact Or.inl h1
  by_cases h2 : x = 2
  · exact Or.inr (Or.inl h2)
  refine Or.inr (Or.inr (⟨?_, h1, h2⟩))
  have g1 : x.toInt ≠ 1 := fun z => h1 (Int32.toInt_inj.mp (by rw [z]; rfl))
  have g2 : x.toInt ≠ 2 := fun z => h2 (Int32.toInt_inj.mp (by rw [z]; rfl))
  omega
