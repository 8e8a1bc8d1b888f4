noncomputable def cI {α : Type} (p : Prop) (a b : α) : α := @ite α p (Classical.propDecidable p) a b
theorem cI_t {α : Type} {p : Prop} {a b : α} (h : p) : cI p a b = a := if_pos h
theorem cI_f {α : Type} {p : Prop} {a b : α} (h : ¬ p) : cI p a b = b := if_neg h
def fN (x : Int32) : Nat := x.toNatClampNeg
theorem fN_nI {j : Nat} (h : j < 2 ^ 31) : fN (nI j) = j := nI_clamp h
def am_fp (P : Nat → Prop) (h' h : am_H) : Prop := ∀ k, P k → h' k = h k
theorem am_fp0 {P : Nat → Prop} {h : am_H} : am_fp P h h := fun _ _ => rfl
theorem am_fpU {P : Nat → Prop} {a : Nat} {h h' : am_H} {c : am_AC} (ha : ¬ P a) (hf : am_fp P h' h) : am_fp P (am_up h' a c) h := fun k hk => by
  have hne : k ≠ a := fun e => ha (e ▸ hk)
  rw [am_nE hne]
  exact hf k hk
theorem am_fpT {P : Nat → Prop} {h h' h'' : am_H} (h1 : am_fp P h'' h') (h2 : am_fp P h' h) : am_fp P h'' h := fun k hk => (h1 k hk).trans (h2 k hk)
def OB (ik wc : Int32) (h : am_H) : Prop := h 0 = some (.inr (7, [.ref 1, .ref 13, .ref 25, .int ik, .ref 37, .ref 39, .ref 40, .ref 43, .ref 44, .ref 45, .int wc])) ∧ h 43 = some (.inr (13, [.ref 46, .ref 48, .ref 50, .ref 52])) ∧ h 44 = some (.inr (14, [.ref 54, .ref 57, .ref 60, .ref 63, .ref 66]))
theorem ob_frame {ik wc : Int32} {h h' : am_H} (F : OB ik wc h) (h0 : h' 0 = h 0) (h1 : h' 43 = h 43) (h2 : h' 44 = h 44) : OB ik wc h' := ⟨h0.trans F.1, h1.trans F.2.1, h2.trans F.2.2⟩
theorem ob_out {ik wc : Int32} {h : am_H} {a : Nat} {c : am_AC} (ha : a ≠ 0 ∧ a ≠ 43 ∧ a ≠ 44) (F : OB ik wc h) : OB ik wc (am_up h a c) := ob_frame F (am_nE (fun e => ha.1 e.symm)) (am_nE (fun e => ha.2.1 e.symm)) (am_nE (fun e => ha.2.2 e.symm))
theorem ob_p3 {ik wc v : Int32} {h : am_H} (F : OB ik wc h) : OB v wc (am_up h 0 (.inr (7, ([.ref 1, .ref 13, .ref 25, .int ik, .ref 37, .ref 39, .ref 40, .ref 43, .ref 44, .ref 45, .int wc] : List Value).set 3 (.int v)))) := ⟨am_eq, am_ne (by decide) F.2.1, am_ne (by decide) F.2.2⟩
theorem ob_p10 {ik wc v : Int32} {h : am_H} (F : OB ik wc h) : OB ik v (am_up h 0 (.inr (7, ([.ref 1, .ref 13, .ref 25, .int ik, .ref 37, .ref 39, .ref 40, .ref 43, .ref 44, .ref 45, .int wc] : List Value).set 10 (.int v)))) := ⟨am_eq, am_ne (by decide) F.2.1, am_ne (by decide) F.2.2⟩
theorem sh_at {j : Nat} (h : j < 4) : ([.ref 46, .ref 48, .ref 50, .ref 52] : List Value)[j]? = some (.ref (46 + 2 * j)) := by
  rcases (show j = 0 ∨ j = 1 ∨ j = 2 ∨ j = 3 by omega) with rfl | rfl | rfl | rfl <;> rfl
theorem sl_at {j : Nat} (h : j < 5) : ([.ref 54, .ref 57, .ref 60, .ref 63, .ref 66] : List Value)[j]? = some (.ref (54 + 3 * j)) := by
  rcases (show j = 0 ∨ j = 1 ∨ j = 2 ∨ j = 3 ∨ j = 4 by omega) with rfl | rfl | rfl | rfl | rfl <;> rfl
def WT (wt : Nat → Int32) (h : am_H) : Prop := h 45 = some (.inl (0, tl 60 wt))
theorem wt_out {wt : Nat → Int32} {h : am_H} {a : Nat} {c : am_AC} (ha : a ≠ 45) (F : WT wt h) : WT wt (am_up h a c) := (am_nE (fun e => ha e.symm)).trans F
theorem wt_set {wt : Nat → Int32} {h : am_H} {j : Nat} {v : Int32} (_F : WT wt h) : WT (upd wt j v) (am_up h 45 (.inl (0, (tl 60 wt).set j v))) := am_eq.trans (congrArg (fun l : List Int32 => (some (.inl (0, l)) : Option am_AC)) tl_set)
def WY (a0 a1 : Int32) (wy : Nat → Int32) (h : am_H) : Prop := h 37 = some (.inr (6, [.ref 38, .int a0, .int a1])) ∧ h 38 = some (.inl (0, tl 4 wy))
theorem wy_out {a0 a1 : Int32} {wy : Nat → Int32} {h : am_H} {a : Nat} {c : am_AC} (ha : a ≠ 37 ∧ a ≠ 38) (F : WY a0 a1 wy h) : WY a0 a1 wy (am_up h a c) := ⟨(am_nE (fun e => ha.1 e.symm)).trans F.1, (am_nE (fun e => ha.2 e.symm)).trans F.2⟩
theorem wy_frame {a0 a1 : Int32} {wy : Nat → Int32} {h h' : am_H} (F : WY a0 a1 wy h) (h0 : h' 37 = h 37) (h1 : h' 38 = h 38) : WY a0 a1 wy h' := ⟨h0.trans F.1, h1.trans F.2⟩
theorem wy_p1 {a0 a1 v : Int32} {wy : Nat → Int32} {h : am_H} (F : WY a0 a1 wy h) : WY v a1 wy (am_up h 37 (.inr (6, ([.ref 38, .int a0, .int a1] : List Value).set 1 (.int v)))) := ⟨am_eq, am_ne (by decide) F.2⟩
theorem wy_p2 {a0 a1 v : Int32} {wy : Nat → Int32} {h : am_H} (F : WY a0 a1 wy h) : WY a0 v wy (am_up h 37 (.inr (6, ([.ref 38, .int a0, .int a1] : List Value).set 2 (.int v)))) := ⟨am_eq, am_ne (by decide) F.2⟩
theorem wy_set {a0 a1 : Int32} {wy : Nat → Int32} {h : am_H} {j : Nat} {v : Int32} (F : WY a0 a1 wy h) : WY a0 a1 (upd wy j v) (am_up h 38 (.inl (0, (tl 4 wy).set j v))) := ⟨am_ne (by decide) F.1, am_eq.trans (congrArg (fun l : List Int32 => (some (.inl (0, l)) : Option am_AC)) tl_set)⟩
def RO (r : Nat → Int32) : List Value := [.ref 40, .int (r 1), .int (r 2), .int (r 3), .int (r 4), .int (r 5), .ref 42, .int (r 7), .int (r 8), .int (r 9), .int (r 10)]
def RD (r : Nat → Int32) (tn : Int32) (tp cd : Nat → Int32) (h : am_H) : Prop := h 39 = some (.inr (1, RO r)) ∧ h 40 = some (.inr (4, [.ref 41, .int tn])) ∧ h 41 = some (.inl (0, tl 96 tp)) ∧ h 42 = some (.inl (0, tl 96 cd))
theorem rd_frame {r : Nat → Int32} {tn : Int32} {tp cd : Nat → Int32} {h h' : am_H} (F : RD r tn tp cd h) (hf : ∀ k, 39 ≤ k → k < 43 → h' k = h k) : RD r tn tp cd h' := ⟨(hf _ (by decide) (by decide)).trans F.1, (hf _ (by decide) (by decide)).trans F.2.1, (hf _ (by decide) (by decide)).trans F.2.2.1, (hf _ (by decide) (by decide)).trans F.2.2.2⟩
theorem rd_out {r : Nat → Int32} {tn : Int32} {tp cd : Nat → Int32} {h : am_H} {a : Nat} {c : am_AC} (ha : a < 39 ∨ 43 ≤ a) (F : RD r tn tp cd h) : RD r tn tp cd (am_up h a c) := rd_frame F (fun k h1 h2 => am_nE (by omega))
theorem rd_len {r : Nat → Int32} {tn v : Int32} {tp cd : Nat → Int32} {h : am_H} (F : RD r tn tp cd h) : RD r v tp cd (am_up h 40 (.inr (4, ([.ref 41, .int tn] : List Value).set 1 (.int v)))) := ⟨am_ne (by decide) F.1, am_eq, am_ne (by decide) F.2.2.1, am_ne (by decide) F.2.2.2⟩
theorem rd_byte {r : Nat → Int32} {tn v : Int32} {tp cd : Nat → Int32} {h : am_H} {j : Nat} (F : RD r tn tp cd h) : RD r tn (upd tp j v) cd (am_up h 41 (.inl (0, (tl 96 tp).set j v))) := ⟨am_ne (by decide) F.1, am_ne (by decide) F.2.1, am_eq.trans (congrArg (fun l : List Int32 => (some (.inl (0, l)) : Option am_AC)) tl_set), am_ne (by decide) F.2.2.2⟩
theorem rd_code {r : Nat → Int32} {tn v : Int32} {tp cd : Nat → Int32} {h : am_H} {j : Nat} (F : RD r tn tp cd h) : RD r tn tp (upd cd j v) (am_up h 42 (.inl (0, (tl 96 cd).set j v))) := ⟨am_ne (by decide) F.1, am_ne (by decide) F.2.1, am_ne (by decide) F.2.2.1, am_eq.trans (congrArg (fun l : List Int32 => (some (.inl (0, l)) : Option am_AC)) tl_set)⟩
theorem rd_r1 {r : Nat → Int32} {tn v : Int32} {tp cd : Nat → Int32} {h : am_H} (F : RD r tn tp cd h) : RD (upd r 1 v) tn tp cd (am_up h 39 (.inr (1, (RO r).set 1 (.int v)))) := ⟨am_eq, am_ne (by decide) F.2.1, am_ne (by decide) F.2.2.1, am_ne (by decide) F.2.2.2⟩
theorem rd_r2 {r : Nat → Int32} {tn v : Int32} {tp cd : Nat → Int32} {h : am_H} (F : RD r tn tp cd h) : RD (upd r 2 v) tn tp cd (am_up h 39 (.inr (1, (RO r).set 2 (.int v)))) := ⟨am_eq, am_ne (by decide) F.2.1, am_ne (by decide) F.2.2.1, am_ne (by decide) F.2.2.2⟩
theorem rd_r3 {r : Nat → Int32} {tn v : Int32} {tp cd : Nat → Int32} {h : am_H} (F : RD r tn tp cd h) : RD (upd r 3 v) tn tp cd (am_up h 39 (.inr (1, (RO r).set 3 (.int v)))) := ⟨am_eq, am_ne (by decide) F.2.1, am_ne (by decide) F.2.2.1, am_ne (by decide) F.2.2.2⟩
theorem rd_r4 {r : Nat → Int32} {tn v : Int32} {tp cd : Nat → Int32} {h : am_H} (F : RD r tn tp cd h) : RD (upd r 4 v) tn tp cd (am_up h 39 (.inr (1, (RO r).set 4 (.int v)))) := ⟨am_eq, am_ne (by decide) F.2.1, am_ne (by decide) F.2.2.1, am_ne (by decide) F.2.2.2⟩
theorem rd_r5 {r : Nat → Int32} {tn v : Int32} {tp cd : Nat → Int32} {h : am_H} (F : RD r tn tp cd h) : RD (upd r 5 v) tn tp cd (am_up h 39 (.inr (1, (RO r).set 5 (.int v)))) := ⟨am_eq, am_ne (by decide) F.2.1, am_ne (by decide) F.2.2.1, am_ne (by decide) F.2.2.2⟩
theorem rd_r7 {r : Nat → Int32} {tn v : Int32} {tp cd : Nat → Int32} {h : am_H} (F : RD r tn tp cd h) : RD (upd r 7 v) tn tp cd (am_up h 39 (.inr (1, (RO r).set 7 (.int v)))) := ⟨am_eq, am_ne (by decide) F.2.1, am_ne (by decide) F.2.2.1, am_ne (by decide) F.2.2.2⟩
theorem rd_r8 {r : Nat → Int32} {tn v : Int32} {tp cd : Nat → Int32} {h : am_H} (F : RD r tn tp cd h) : RD (upd r 8 v) tn tp cd (am_up h 39 (.inr (1, (RO r).set 8 (.int v)))) := ⟨am_eq, am_ne (by decide) F.2.1, am_ne (by decide) F.2.2.1, am_ne (by decide) F.2.2.2⟩
theorem rd_r9 {r : Nat → Int32} {tn v : Int32} {tp cd : Nat → Int32} {h : am_H} (F : RD r tn tp cd h) : RD (upd r 9 v) tn tp cd (am_up h 39 (.inr (1, (RO r).set 9 (.int v)))) := ⟨am_eq, am_ne (by decide) F.2.1, am_ne (by decide) F.2.2.1, am_ne (by decide) F.2.2.2⟩
theorem rd_r10 {r : Nat → Int32} {tn v : Int32} {tp cd : Nat → Int32} {h : am_H} (F : RD r tn tp cd h) : RD (upd r 10 v) tn tp cd (am_up h 39 (.inr (1, (RO r).set 10 (.int v)))) := ⟨am_eq, am_ne (by decide) F.2.1, am_ne (by decide) F.2.2.1, am_ne (by decide) F.2.2.2⟩
def rwO (sr sz : Nat → Int32) (s : Nat) : List Value := [.int (sr s), .int (sz s), .ref (47 + 2 * s)]
def RW (sr sz cl : Nat → Int32) (h : am_H) : Prop := ∀ s, s < 4 → h (46 + 2 * s) = some (.inr (2, rwO sr sz s)) ∧ h (47 + 2 * s) = some (.inl (0, tl 24 (fun i => cl (24 * s + i))))
theorem rw_frame {sr sz cl : Nat → Int32} {h h' : am_H} (F : RW sr sz cl h) (hf : ∀ k, 46 ≤ k → k < 54 → h' k = h k) : RW sr sz cl h' := fun s hs => ⟨(hf _ (by omega) (by omega)).trans (F s hs).1, (hf _ (by omega) (by omega)).trans (F s hs).2⟩
theorem rw_out {sr sz cl : Nat → Int32} {h : am_H} {a : Nat} {c : am_AC} (ha : a < 46 ∨ 54 ≤ a) (F : RW sr sz cl h) : RW sr sz cl (am_up h a c) := rw_frame F (fun k h1 h2 => am_nE (by omega))
theorem rw_sort {sr sz cl : Nat → Int32} {h : am_H} {s : Nat} {v : Int32} (F : RW sr sz cl h) : RW (upd sr s v) sz cl (am_up h (46 + 2 * s) (.inr (2, (rwO sr sz s).set 0 (.int v)))) := fun t ht => by
  refine ⟨?_, am_ne (by omega) (F t ht).2⟩
  by_cases e : t = s
  · subst e; exact am_eq.trans (by simp [rwO, pk_us])
  · exact am_ne (by omega) ((F t ht).1.trans (by simp [rwO, pk_un e]))
theorem rw_size {sr sz cl : Nat → Int32} {h : am_H} {s : Nat} {v : Int32} (F : RW sr sz cl h) : RW sr (upd sz s v) cl (am_up h (46 + 2 * s) (.inr (2, (rwO sr sz s).set 1 (.int v)))) := fun t ht => by
  refine ⟨?_, am_ne (by omega) (F t ht).2⟩
  by_cases e : t = s
  · subst e; exact am_eq.trans (by simp [rwO, pk_us])
  · exact am_ne (by omega) ((F t ht).1.trans (by simp [rwO, pk_un e]))
theorem rw_arr {sr sz cl cl' : Nat → Int32} {h : am_H} {s : Nat} {l : List Int32} (F : RW sr sz cl h) (h1 : l = tl 24 (fun i => cl' (24 * s + i))) (h2 : ∀ t i, t < 4 → i < 24 → t ≠ s → cl' (24 * t + i) = cl (24 * t + i)) : RW sr sz cl' (am_up h (47 + 2 * s) (.inl (0, l))) := fun t ht => by
  refine ⟨am_ne (by omega) (F t ht).1, ?_⟩
  by_cases e : t = s
  · subst e; rw [h1]; exact am_eq
  · exact am_ne (by omega) ((F t ht).2.trans (congrArg (fun l : List Int32 => (some (.inl (0, l)) : Option am_AC)) (tl_congr (fun i hi => (h2 t i ht hi e).symm))))
theorem rw_cell {sr sz cl : Nat → Int32} {h : am_H} {s j : Nat} {v : Int32} (F : RW sr sz cl h) (hj : j < 24) : RW sr sz (upd cl (24 * s + j) v) (am_up h (47 + 2 * s) (.inl (0, (tl 24 (fun i => cl (24 * s + i))).set j v))) := rw_arr F (by
  rw [tl_set]
  refine tl_congr (fun i hi => ?_)
  by_cases e : i = j
  · subst e; rw [pk_us, pk_us]
  · rw [pk_un e, pk_un (by omega)]) (fun t i ht hi e => pk_un (by omega))
def slO (th kd pr nu : Nat → Int32) (s : Nat) : List Value := [.int (th s), .int (kd s), .int (pr s), .int (nu s), .ref (55 + 3 * s)]
def slR (ss zs : Nat → Int32) (s : Nat) : List Value := [.int (ss s), .int (zs s), .ref (56 + 3 * s)]
def SL (th kd pr nu ss zs hc : Nat → Int32) (h : am_H) : Prop := ∀ s, s < 5 → h (54 + 3 * s) = some (.inr (3, slO th kd pr nu s)) ∧ h (55 + 3 * s) = some (.inr (2, slR ss zs s)) ∧ h (56 + 3 * s) = some (.inl (0, tl 24 (fun i => hc (24 * s + i))))
theorem sl_frame {th kd pr nu ss zs hc : Nat → Int32} {h h' : am_H} (F : SL th kd pr nu ss zs hc h) (hf : ∀ k, 54 ≤ k → k < 69 → h' k = h k) : SL th kd pr nu ss zs hc h' := fun s hs => ⟨(hf _ (by omega) (by omega)).trans (F s hs).1, (hf _ (by omega) (by omega)).trans (F s hs).2.1, (hf _ (by omega) (by omega)).trans (F s hs).2.2⟩
theorem sl_out {th kd pr nu ss zs hc : Nat → Int32} {h : am_H} {a : Nat} {c : am_AC} (ha : a < 54 ∨ 69 ≤ a) (F : SL th kd pr nu ss zs hc h) : SL th kd pr nu ss zs hc (am_up h a c) := sl_frame F (fun k h1 h2 => am_nE (by omega))
theorem sl_th {th kd pr nu ss zs hc : Nat → Int32} {h : am_H} {s : Nat} {v : Int32} (F : SL th kd pr nu ss zs hc h) : SL (upd th s v) kd pr nu ss zs hc (am_up h (54 + 3 * s) (.inr (3, (slO th kd pr nu s).set 0 (.int v)))) := fun t ht => by
  refine ⟨?_, am_ne (by omega) (F t ht).2.1, am_ne (by omega) (F t ht).2.2⟩
  by_cases e : t = s
  · subst e; exact am_eq.trans (by simp [slO, pk_us])
  · exact am_ne (by omega) ((F t ht).1.trans (by simp [slO, pk_un e]))
theorem sl_kd {th kd pr nu ss zs hc : Nat → Int32} {h : am_H} {s : Nat} {v : Int32} (F : SL th kd pr nu ss zs hc h) : SL th (upd kd s v) pr nu ss zs hc (am_up h (54 + 3 * s) (.inr (3, (slO th kd pr nu s).set 1 (.int v)))) := fun t ht => by
  refine ⟨?_, am_ne (by omega) (F t ht).2.1, am_ne (by omega) (F t ht).2.2⟩
  by_cases e : t = s
  · subst e; exact am_eq.trans (by simp [slO, pk_us])
  · exact am_ne (by omega) ((F t ht).1.trans (by simp [slO, pk_un e]))
theorem sl_pr {th kd pr nu ss zs hc : Nat → Int32} {h : am_H} {s : Nat} {v : Int32} (F : SL th kd pr nu ss zs hc h) : SL th kd (upd pr s v) nu ss zs hc (am_up h (54 + 3 * s) (.inr (3, (slO th kd pr nu s).set 2 (.int v)))) := fun t ht => by
  refine ⟨?_, am_ne (by omega) (F t ht).2.1, am_ne (by omega) (F t ht).2.2⟩
  by_cases e : t = s
  · subst e; exact am_eq.trans (by simp [slO, pk_us])
  · exact am_ne (by omega) ((F t ht).1.trans (by simp [slO, pk_un e]))
theorem sl_nu {th kd pr nu ss zs hc : Nat → Int32} {h : am_H} {s : Nat} {v : Int32} (F : SL th kd pr nu ss zs hc h) : SL th kd pr (upd nu s v) ss zs hc (am_up h (54 + 3 * s) (.inr (3, (slO th kd pr nu s).set 3 (.int v)))) := fun t ht => by
  refine ⟨?_, am_ne (by omega) (F t ht).2.1, am_ne (by omega) (F t ht).2.2⟩
  by_cases e : t = s
  · subst e; exact am_eq.trans (by simp [slO, pk_us])
  · exact am_ne (by omega) ((F t ht).1.trans (by simp [slO, pk_un e]))
theorem sl_ss {th kd pr nu ss zs hc : Nat → Int32} {h : am_H} {s : Nat} {v : Int32} (F : SL th kd pr nu ss zs hc h) : SL th kd pr nu (upd ss s v) zs hc (am_up h (55 + 3 * s) (.inr (2, (slR ss zs s).set 0 (.int v)))) := fun t ht => by
  refine ⟨am_ne (by omega) (F t ht).1, ?_, am_ne (by omega) (F t ht).2.2⟩
  by_cases e : t = s
  · subst e; exact am_eq.trans (by simp [slR, pk_us])
  · exact am_ne (by omega) ((F t ht).2.1.trans (by simp [slR, pk_un e]))
theorem sl_zs {th kd pr nu ss zs hc : Nat → Int32} {h : am_H} {s : Nat} {v : Int32} (F : SL th kd pr nu ss zs hc h) : SL th kd pr nu ss (upd zs s v) hc (am_up h (55 + 3 * s) (.inr (2, (slR ss zs s).set 1 (.int v)))) := fun t ht => by
  refine ⟨am_ne (by omega) (F t ht).1, ?_, am_ne (by omega) (F t ht).2.2⟩
  by_cases e : t = s
  · subst e; exact am_eq.trans (by simp [slR, pk_us])
  · exact am_ne (by omega) ((F t ht).2.1.trans (by simp [slR, pk_un e]))
theorem sl_arr {th kd pr nu ss zs hc hc' : Nat → Int32} {h : am_H} {s : Nat} {l : List Int32} (F : SL th kd pr nu ss zs hc h) (h1 : l = tl 24 (fun i => hc' (24 * s + i))) (h2 : ∀ t i, t < 5 → i < 24 → t ≠ s → hc' (24 * t + i) = hc (24 * t + i)) : SL th kd pr nu ss zs hc' (am_up h (56 + 3 * s) (.inl (0, l))) := fun t ht => by
  refine ⟨am_ne (by omega) (F t ht).1, am_ne (by omega) (F t ht).2.1, ?_⟩
  by_cases e : t = s
  · subst e; rw [h1]; exact am_eq
  · exact am_ne (by omega) ((F t ht).2.2.trans (congrArg (fun l : List Int32 => (some (.inl (0, l)) : Option am_AC)) (tl_congr (fun i hi => (h2 t i ht hi e).symm))))
def RG (N : Nat → Int32) (fr c : Nat) : Prop := N 1 = nI fr ∧ fr ≤ 8 ∧ N 7 = nI c ∧ c ≤ 14 ∧ (∀ f, f < 8 → wi (N (22 + 5 * f)) 0 5 ∧ wi (N (23 + 5 * f)) 0 1 ∧ wi (N (24 + 5 * f)) 0 99) ∧ (∀ t, t < 4 → wi (N (8 + t)) 0 9) ∧ (∀ j, j < 8 → wi (N (12 + j)) 0 9) ∧ (∀ s, s < 2 → wi (N (20 + s)) 0 400) ∧ wi (N 2) 0 9999 ∧ wi (N 3) 0 99 ∧ wi (N 4) 1 99 ∧ wi (N 5) 0 100
theorem rg_wk {N : Nat → Int32} {fr c : Nat} (H : RG N fr c) : WK N := fun f hf => ⟨(H.2.2.2.2.1 f hf).1, (H.2.2.2.2.1 f hf).2.1⟩
theorem sw_0_7 (x : Int32) : x = 0 ∨ x = 1 ∨ x = 2 ∨ x = 3 ∨ x = 4 ∨ x = 5 ∨ x = 6 ∨ x = 7 ∨ ((x.toInt < 0 ∨ 7 < x.toInt) ∧ ¬ x = 0 ∧ ¬ x = 1 ∧ ¬ x = 2 ∧ ¬ x = 3 ∧ ¬ x = 4 ∧ ¬ x = 5 ∧ ¬ x = 6 ∧ ¬ x = 7) := by
  by_cases h0 : x = 0
  · exact Or.inl h0
  by_cases h1 : x = 1
  · exact Or.inr (Or.inl h1)
  by_cases h2 : x = 2
  · exact Or.inr (Or.inr (Or.inl h2))
  by_cases h3 : x = 3
  · exact Or.inr (Or.inr (Or.inr (Or.inl h3)))
  by_cases h4 : x = 4
  · exact Or.inr (Or.inr (Or.inr (Or.inr (Or.inl h4))))
  by_cases h5 : x = 5
  · exact Or.inr (Or.inr (Or.inr (Or.inr (Or.inr (Or.inl h5)))))
  by_cases h6 : x = 6
  · exact Or.inr (Or.inr (Or.inr (Or.inr (Or.inr (Or.inr (Or.inl h6))))))
  by_cases h7 : x = 7
  · exact Or.inr (Or.inr (Or.inr (Or.inr (Or.inr (Or.inr (Or.inr (Or.inl h7)))))))
  refine Or.inr (Or.inr (Or.inr (Or.inr (Or.inr (Or.inr (Or.inr (Or.inr (⟨?_, h0, h1, h2, h3, h4, h5, h6, h7⟩))))))))
  have g0 : x.toInt ≠ 0 := fun z => h0 (Int32.toInt_inj.mp (by rw [z]; rfl))
  have g1 : x.toInt ≠ 1 := fun z => h1 (Int32.toInt_inj.mp (by rw [z]; rfl))
  have g2 : x.toInt ≠ 2 := fun z => h2 (Int32.toInt_inj.mp (by rw [z]; rfl))
  have g3 : x.toInt ≠ 3 := fun z => h3 (Int32.toInt_inj.mp (by rw [z]; rfl))
  have g4 : x.toInt ≠ 4 := fun z => h4 (Int32.toInt_inj.mp (by rw [z]; rfl))
  have g5 : x.toInt ≠ 5 := fun z => h5 (Int32.toInt_inj.mp (by rw [z]; rfl))
  have g6 : x.toInt ≠ 6 := fun z => h6 (Int32.toInt_inj.mp (by rw [z]; rfl))
  have g7 : x.toInt ≠ 7 := fun z => h7 (Int32.toInt_inj.mp (by rw [z]; rfl))
  omega
theorem sw_0_6 (x : Int32) : x = 0 ∨ x = 1 ∨ x = 2 ∨ x = 3 ∨ x = 4 ∨ x = 5 ∨ x = 6 ∨ ((x.toInt < 0 ∨ 6 < x.toInt) ∧ ¬ x = 0 ∧ ¬ x = 1 ∧ ¬ x = 2 ∧ ¬ x = 3 ∧ ¬ x = 4 ∧ ¬ x = 5 ∧ ¬ x = 6) := by
  by_cases h0 : x = 0
  · exact Or.inl h0
  by_cases h1 : x = 1
  · exact Or.inr (Or.inl h1)
  by_cases h2 : x = 2
  · exact Or.inr (Or.inr (Or.inl h2))
  by_cases h3 : x = 3
  · exact Or.inr (Or.inr (Or.inr (Or.inl h3)))
  by_cases h4 : x = 4
  · exact Or.inr (Or.inr (Or.inr (Or.inr (Or.inl h4))))
  by_cases h5 : x = 5
  · exact Or.inr (Or.inr (Or.inr (Or.inr (Or.inr (Or.inl h5)))))
  by_cases h6 : x = 6
  · exact Or.inr (Or.inr (Or.inr (Or.inr (Or.inr (Or.inr (Or.inl h6))))))
  refine Or.inr (Or.inr (Or.inr (Or.inr (Or.inr (Or.inr (Or.inr (⟨?_, h0, h1, h2, h3, h4, h5, h6⟩)))))))
  have g0 : x.toInt ≠ 0 := fun z => h0 (Int32.toInt_inj.mp (by rw [z]; rfl))
  have g1 : x.toInt ≠ 1 := fun z => h1 (Int32.toInt_inj.mp (by rw [z]; rfl))
  have g2 : x.toInt ≠ 2 := fun z => h2 (Int32.toInt_inj.mp (by rw [z]; rfl))
  have g3 : x.toInt ≠ 3 := fun z => h3 (Int32.toInt_inj.mp (by rw [z]; rfl))
  have g4 : x.toInt ≠ 4 := fun z => h4 (Int32.toInt_inj.mp (by rw [z]; rfl))
  have g5 : x.toInt ≠ 5 := fun z => h5 (Int32.toInt_inj.mp (by rw [z]; rfl))
  have g6 : x.toInt ≠ 6 := fun z => h6 (Int32.toInt_inj.mp (by rw [z]; rfl))
  omega
theorem sw_0_8 (x : Int32) : x = 0 ∨ x = 1 ∨ x = 2 ∨ x = 3 ∨ x = 4 ∨ x = 5 ∨ x = 6 ∨ x = 7 ∨ x = 8 ∨ ((x.toInt < 0 ∨ 8 < x.toInt) ∧ ¬ x = 0 ∧ ¬ x = 1 ∧ ¬ x = 2 ∧ ¬ x = 3 ∧ ¬ x = 4 ∧ ¬ x = 5 ∧ ¬ x = 6 ∧ ¬ x = 7 ∧ ¬ x = 8) := by
  by_cases h0 : x = 0
  · exact Or.inl h0
  by_cases h1 : x = 1
  · exact Or.inr (Or.inl h1)
  by_cases h2 : x = 2
  · exact Or.inr (Or.inr (Or.inl h2))
  by_cases h3 : x = 3
  · exact Or.inr (Or.inr (Or.inr (Or.inl h3)))
  by_cases h4 : x = 4
  · exact Or.inr (Or.inr (Or.inr (Or.inr (Or.inl h4))))
  by_cases h5 : x = 5
  · exact Or.inr (Or.inr (Or.inr (Or.inr (Or.inr (Or.inl h5)))))
  by_cases h6 : x = 6
  · exact Or.inr (Or.inr (Or.inr (Or.inr (Or.inr (Or.inr (Or.inl h6))))))
  by_cases h7 : x = 7
  · exact Or.inr (Or.inr (Or.inr (Or.inr (Or.inr (Or.inr (Or.inr (Or.inl h7)))))))
  by_cases h8 : x = 8
  · exact Or.inr (Or.inr (Or.inr (Or.inr (Or.inr (Or.inr (Or.inr (Or.inr (Or.inl h8))))))))
  refine Or.inr (Or.inr (Or.inr (Or.inr (Or.inr (Or.inr (Or.inr (Or.inr (Or.inr (⟨?_, h0, h1, h2, h3, h4, h5, h6, h7, h8⟩)))))))))
  have g0 : x.toInt ≠ 0 := fun z => h0 (Int32.toInt_inj.mp (by rw [z]; rfl))
  have g1 : x.toInt ≠ 1 := fun z => h1 (Int32.toInt_inj.mp (by rw [z]; rfl))
  have g2 : x.toInt ≠ 2 := fun z => h2 (Int32.toInt_inj.mp (by rw [z]; rfl))
  have g3 : x.toInt ≠ 3 := fun z => h3 (Int32.toInt_inj.mp (by rw [z]; rfl))
  have g4 : x.toInt ≠ 4 := fun z => h4 (Int32.toInt_inj.mp (by rw [z]; rfl))
  have g5 : x.toInt ≠ 5 := fun z => h5 (Int32.toInt_inj.mp (by rw [z]; rfl))
  have g6 : x.toInt ≠ 6 := fun z => h6 (Int32.toInt_inj.mp (by rw [z]; rfl))
  have g7 : x.toInt ≠ 7 := fun z => h7 (Int32.toInt_inj.mp (by rw [z]; rfl))
  have g8 : x.toInt ≠ 8 := fun z => h8 (Int32.toInt_inj.mp (by rw [z]; rfl))
  omega
theorem sw_1_5 (x : Int32) : x = 1 ∨ x = 2 ∨ x = 3 ∨ x = 4 ∨ x = 5 ∨ ((x.toInt < 1 ∨ 5 < x.toInt) ∧ ¬ x = 1 ∧ ¬ x = 2 ∧ ¬ x = 3 ∧ ¬ x = 4 ∧ ¬ x = 5) := by
  by_cases h1 : x = 1
  · exact Or.inl h1
  by_cases h2 : x = 2
  · exact Or.inr (Or.inl h2)
  by_cases h3 : x = 3
  · exact Or.inr (Or.inr (Or.inl h3))
  by_cases h4 : x = 4
  · exact Or.inr (Or.inr (Or.inr (Or.inl h4)))
  by_cases h5 : x = 5
  · exact Or.inr (Or.inr (Or.inr (Or.inr (Or.inl h5))))
  refine Or.inr (Or.inr (Or.inr (Or.inr (Or.inr (⟨?_, h1, h2, h3, h4, h5⟩)))))
  have g1 : x.toInt ≠ 1 := fun z => h1 (Int32.toInt_inj.mp (by rw [z]; rfl))
  have g2 : x.toInt ≠ 2 := fun z => h2 (Int32.toInt_inj.mp (by rw [z]; rfl))
  have g3 : x.toInt ≠ 3 := fun z => h3 (Int32.toInt_inj.mp (by rw [z]; rfl))
  have g4 : x.toInt ≠ 4 := fun z => h4 (Int32.toInt_inj.mp (by rw [z]; rfl))
  have g5 : x.toInt ≠ 5 := fun z => h5 (Int32.toInt_inj.mp (by rw [z]; rfl))
  omega
theorem sw_0_3 (x : Int32) : x = 0 ∨ x = 1 ∨ x = 2 ∨ x = 3 ∨ ((x.toInt < 0 ∨ 3 < x.toInt) ∧ ¬ x = 0 ∧ ¬ x = 1 ∧ ¬ x = 2 ∧ ¬ x = 3) := by
  by_cases h0 : x = 0
  · exact Or.inl h0
  by_cases h1 : x = 1
  · exact Or.inr (Or.inl h1)
  by_cases h2 : x = 2
  · exact Or.inr (Or.inr (Or.inl h2))
  by_cases h3 : x = 3
  · exact Or.inr (Or.inr (Or.inr (Or.inl h3)))
  refine Or.inr (Or.inr (Or.inr (Or.inr (⟨?_, h0, h1, h2, h3⟩))))
  have g0 : x.toInt ≠ 0 := fun z => h0 (Int32.toInt_inj.mp (by rw [z]; rfl))
  have g1 : x.toInt ≠ 1 := fun z => h1 (Int32.toInt_inj.mp (by rw [z]; rfl))
  have g2 : x.toInt ≠ 2 := fun z => h2 (Int32.toInt_inj.mp (by rw [z]; rfl))
  have g3 : x.toInt ≠ 3 := fun z => h3 (Int32.toInt_inj.mp (by rw [z]; rfl))
  omega
theorem sw_0_2 (x : Int32) : x = 0 ∨ x = 1 ∨ x = 2 ∨ ((x.toInt < 0 ∨ 2 < x.toInt) ∧ ¬ x = 0 ∧ ¬ x = 1 ∧ ¬ x = 2) := by
  by_cases h0 : x = 0
  · exact Or.inl h0
  by_cases h1 : x = 1
  · exact Or.inr (Or.inl h1)
  by_cases h2 : x = 2
  · exact Or.inr (Or.inr (Or.inl h2))
  refine Or.inr (Or.inr (Or.inr (⟨?_, h0, h1, h2⟩)))
  have g0 : x.toInt ≠ 0 := fun z => h0 (Int32.toInt_inj.mp (by rw [z]; rfl))
  have g1 : x.toInt ≠ 1 := fun z => h1 (Int32.toInt_inj.mp (by rw [z]; rfl))
  have g2 : x.toInt ≠ 2 := fun z => h2 (Int32.toInt_inj.mp (by rw [z]; rfl))
  omega
theorem sw_1_2 (x : Int32) : x = 1 ∨ x = 2 ∨ ((x.toInt < 1 ∨ 2 < x.toInt) ∧ ¬ x = 1 ∧ ¬ x = 2) := by
  by_cases h1 : x = 1
  · exact Or.inl h1
  by_cases h2 : x = 2
  · exact Or.inr (Or.inl h2)
  refine Or.inr (Or.inr (⟨?_, h1, h2⟩))
  have g1 : x.toInt ≠ 1 := fun z => h1 (Int32.toInt_inj.mp (by rw [z]; rfl))
  have g2 : x.toInt ≠ 2 := fun z => h2 (Int32.toInt_inj.mp (by rw [z]; rfl))
  omega
noncomputable def frV (fr : Nat) (k s p : Int32) : Int32 := cI (wi k 0 5 ∧ wi s 0 1 ∧ wi p 0 99) (cI (fr < 8) (nI fr) (-1000000003)) (-1000000001)
noncomputable def frN (N : Nat → Int32) (fr : Nat) (k s p : Int32) : Nat → Int32 := cI (wi k 0 5 ∧ wi s 0 1 ∧ wi p 0 99) (cI (fr < 8) (addN N fr k s p) N) N
set_option maxHeartbeats 4000000 in
set_option maxRecDepth 100000 in
theorem C_friend {X : List Int32} {d rc rs n : Nat} {Q : am_Q} {h : am_H} {N : Nat → Int32} {tx : List Value} {lk mv : Nat → Int32} {ik wc : Int32} {fr c : Nat} {k : Int32} {s : Int32} {p : Int32} (O : OB ik wc h) (F : QR 1 N tx lk mv h) (hR : RG N fr c) (hq : ∀ v9 N9 h9, v9 = frV fr k s p → N9 = frN N fr k s p → QR 1 N9 tx lk mv h9 → am_fp (fun k => k < 1 ∨ 13 ≤ k) h9 h → Q (some (.int v9)) n h9) : AW X mX7_friend (d + 12) rc rs 0 [some (.ref 0), some (.int k), some (.int s), some (.int p)] [] n h Q := by
  have h8r := hR.2.1
  have h14r := hR.2.2.2.1
  refine aw_iload_n (npc := 1) rfl dX7_friend_0 rfl ?_
  refine aw_callS (npc := 4) (N := mX7_isKind) (mc := 0) (ms := 0) (A := [.int k]) (S := []) (L0 := [some (.int k)]) dX7_friend_1 rfl km_X7_isKind kk_X7_67 rfl ⟨rfl, by decide⟩ rfl (Nat.le_of_ble_eq_true rfl) (Nat.zero_add _) (Nat.zero_add _) rfl ?_
  refine c_X7_isKind (fun hw1 => ?_) (fun hw1 => ?_)
  · refine aw_re (S' := [.int 1]) rfl ?_
    refine aw_if_eq (npc := 7) (tgt := 24) dX7_friend_4 rfl (by decide) (fun hc => absurd hc (by decide)) (fun _ => ?_)
    refine aw_iload_n (npc := 8) rfl dX7_friend_7 rfl ?_
    refine aw_callS (npc := 11) (N := mX7_isSide) (mc := 0) (ms := 0) (A := [.int s]) (S := []) (L0 := [some (.int s)]) dX7_friend_8 rfl km_X7_isSide kk_X7_71 rfl ⟨rfl, by decide⟩ rfl (Nat.le_of_ble_eq_true rfl) (Nat.zero_add _) (Nat.zero_add _) rfl ?_
    refine c_X7_isSide (fun hw2 => ?_) (fun hw2 => ?_)
    · refine aw_re (S' := [.int 1]) rfl ?_
      refine aw_if_eq (npc := 14) (tgt := 24) dX7_friend_11 rfl (by decide) (fun hc => absurd hc (by decide)) (fun _ => ?_)
      refine aw_iload_n (npc := 15) rfl dX7_friend_14 rfl ?_
      refine aw_iconst (npc := 16) (v := 0) (by decide) dX7_friend_15 rfl ?_
      refine aw_bipush (npc := 18) (v := 99) (by decide) dX7_friend_16 rfl ?_
      refine aw_callS (npc := 21) (N := mX7_within) (mc := 0) (ms := 0) (A := [.int p, .int 0, .int 99]) (S := []) (L0 := [some (.int p), some (.int 0), some (.int 99)]) dX7_friend_18 rfl km_X7_within kk_X7_74 rfl ⟨rfl, by decide⟩ rfl (Nat.le_of_ble_eq_true rfl) (Nat.zero_add _) (Nat.zero_add _) rfl ?_
      refine c_X7_within (fun hw3 => ?_) (fun hw3 => ?_)
      · refine aw_re (S' := [.int 1]) rfl ?_
        refine aw_if_ne (npc := 24) (tgt := 27) dX7_friend_21 rfl (by decide) (fun _ => ?_) (fun hc => absurd hc (by decide))
        refine aw_aload_n (npc := 28) rfl dX7_friend_27 rfl ?_
        refine aw_get (npc := 31) dX7_friend_28 rfl kf_X7_10 O.1 rfl ?_
        refine aw_get (npc := 34) dX7_friend_31 rfl kf_X7_79 F.1 rfl ?_
        refine aw_top (y := nI fr) (hR.1) ?_
        refine aw_bipush (npc := 36) (v := 8) (by decide) dX7_friend_34 rfl ?_
        refine aw_icmp_lt (npc := 39) (tgt := 42) dX7_friend_36 rfl (by decide) (fun hc4 => ?_) (fun hc4 => ?_)
        · have hc4N := (nI_ltI (a := fr) (b := 8) (by omega) (by omega)).mp hc4
          refine aw_aload_n (npc := 43) rfl dX7_friend_42 rfl ?_
          refine aw_get (npc := 46) dX7_friend_43 rfl kf_X7_10 O.1 rfl ?_
          refine aw_iload_n (npc := 47) rfl dX7_friend_46 rfl ?_
          refine aw_iload_n (npc := 48) rfl dX7_friend_47 rfl ?_
          refine aw_iload_n (npc := 49) rfl dX7_friend_48 rfl ?_
          refine aw_callV (npc := 52) (N := mX0_addFriend) (b := 1) (mc := 0) (ms := 0) (A := [.int k, .int s, .int p]) (S := []) (L0 := [some (.ref 1), some (.int k), some (.int s), some (.int p)]) dX7_friend_49 rfl km_X0_addFriend kk_X7_83 F.1 ⟨by decide, rfl⟩ rfl ⟨rfl, by decide⟩ rfl (Nat.le_of_ble_eq_true rfl) (Nat.zero_add _) (Nat.zero_add _) rfl ?_
          have hlt9 : fr < 8 := by omega
          refine g_addFriend (f := fr) F hR.1 hlt9 (fun hp7 F5 fz6 => ?_)
          have O8 := ob_frame O (fz6 0 (by omega)) (fz6 43 (by omega)) (fz6 44 (by omega))
          refine aw_aload_n (npc := 53) rfl dX7_friend_52 rfl ?_
          refine aw_get (npc := 56) dX7_friend_53 rfl kf_X7_10 O8.1 rfl ?_
          refine aw_get (npc := 59) dX7_friend_56 rfl kf_X7_79 F5.1 rfl ?_
          refine aw_top (y := nI (fr + 1)) (pk_us) ?_
          refine aw_iconst (npc := 60) (v := 1) (by decide) dX7_friend_59 rfl ?_
          refine aw_isubV (npc := 61) (v := nI ((fr + 1) - 1)) dX7_friend_60 rfl (pk_sub (b := 1) (by omega)) ?_
          refine aw_iret rfl dX7_friend_61 ?_
          exact hq _ _ _ (by by_cases hz9 : fr < 8 <;> first | (exfalso; omega) | (simp [frV, frN, cI, hz9, hw1, hw2, hw3, hc4, hc4N]; done) | (simp [frV, frN, cI, hz9, hw1, hw2, hw3, hc4, hc4N]; omega)) (by by_cases hz9 : fr < 8 <;> first | (exfalso; omega) | (simp [frV, frN, cI, hz9, hw1, hw2, hw3, hc4, hc4N]; done) | (simp [frV, frN, cI, hz9, hw1, hw2, hw3, hc4, hc4N]; omega)) F5 (am_fpT (fun k (hk : k < 1 ∨ 13 ≤ k) => fz6 k (by omega)) am_fp0)
        · have hc4N : ¬ fr < 8 := fun z => hc4 ((nI_ltI (a := fr) (b := 8) (by omega) (by omega)).mpr z)
          refine aw_ldc (npc := 41) kc_X7_82 dX7_friend_39 rfl ?_
          refine aw_iret rfl dX7_friend_41 ?_
          exact hq _ _ _ (by by_cases hz9 : fr < 8 <;> first | (exfalso; omega) | (simp [frV, frN, cI, hz9, hw1, hw2, hw3, hc4, hc4N]; done) | (simp [frV, frN, cI, hz9, hw1, hw2, hw3, hc4, hc4N]; omega)) (by by_cases hz9 : fr < 8 <;> first | (exfalso; omega) | (simp [frV, frN, cI, hz9, hw1, hw2, hw3, hc4, hc4N]; done) | (simp [frV, frN, cI, hz9, hw1, hw2, hw3, hc4, hc4N]; omega)) F am_fp0
      · refine aw_re (S' := [.int 0]) rfl ?_
        refine aw_if_ne (npc := 24) (tgt := 27) dX7_friend_21 rfl (by decide) (fun hc => absurd (by decide) hc) (fun _ => ?_)
        refine aw_ldc (npc := 26) kc_X7_78 dX7_friend_24 rfl ?_
        refine aw_iret rfl dX7_friend_26 ?_
        exact hq _ _ _ (by by_cases hz9 : fr < 8 <;> first | (exfalso; omega) | (simp [frV, frN, cI, hz9, hw1, hw2, hw3]; done) | (simp [frV, frN, cI, hz9, hw1, hw2, hw3]; omega)) (by by_cases hz9 : fr < 8 <;> first | (exfalso; omega) | (simp [frV, frN, cI, hz9, hw1, hw2, hw3]; done) | (simp [frV, frN, cI, hz9, hw1, hw2, hw3]; omega)) F am_fp0
    · refine aw_re (S' := [.int 0]) rfl ?_
      refine aw_if_eq (npc := 14) (tgt := 24) dX7_friend_11 rfl (by decide) (fun _ => ?_) (fun hc => absurd (by decide) hc)
      refine aw_ldc (npc := 26) kc_X7_78 dX7_friend_24 rfl ?_
      refine aw_iret rfl dX7_friend_26 ?_
      exact hq _ _ _ (by by_cases hz9 : fr < 8 <;> first | (exfalso; omega) | (simp [frV, frN, cI, hz9, hw1, hw2]; done) | (simp [frV, frN, cI, hz9, hw1, hw2]; omega)) (by by_cases hz9 : fr < 8 <;> first | (exfalso; omega) | (simp [frV, frN, cI, hz9, hw1, hw2]; done) | (simp [frV, frN, cI, hz9, hw1, hw2]; omega)) F am_fp0
  · refine aw_re (S' := [.int 0]) rfl ?_
    refine aw_if_eq (npc := 7) (tgt := 24) dX7_friend_4 rfl (by decide) (fun _ => ?_) (fun hc => absurd (by decide) hc)
    refine aw_ldc (npc := 26) kc_X7_78 dX7_friend_24 rfl ?_
    refine aw_iret rfl dX7_friend_26 ?_
    exact hq _ _ _ (by by_cases hz9 : fr < 8 <;> first | (exfalso; omega) | (simp [frV, frN, cI, hz9, hw1]; done) | (simp [frV, frN, cI, hz9, hw1]; omega)) (by by_cases hz9 : fr < 8 <;> first | (exfalso; omega) | (simp [frV, frN, cI, hz9, hw1]; done) | (simp [frV, frN, cI, hz9, hw1]; omega)) F am_fp0
set_option maxHeartbeats 4000000 in
set_option maxRecDepth 100000 in
theorem M_friend {X : List Int32} {d rc rs n : Nat} {Q : am_Q} {h : am_H} {o N : Nat → Int32} {a : Nat → Nat → Int32} {fr c : Nat} {k : Int32} {s : Int32} {p : Int32} (F : MR o N a h) (hR : RG N fr c) (hq : ∀ v9 N9 h9, v9 = frV fr k s p → N9 = frN N fr k s p → MR o N9 a h9 → am_fp (fun k => k < 69 ∨ 92 ≤ k) h9 h → Q (some (.int v9)) n h9) : AW X mX8_friend (d + 12) rc rs 0 [some (.ref 69), some (.int k), some (.int s), some (.int p)] [] n h Q := by
  have h8r := hR.2.1
  have h14r := hR.2.2.2.1
  refine aw_iload_n (npc := 1) rfl dX8_friend_0 rfl ?_
  refine aw_iconst (npc := 2) (v := 0) (by decide) dX8_friend_1 rfl ?_
  refine aw_iconst (npc := 3) (v := 5) (by decide) dX8_friend_2 rfl ?_
  refine aw_callS (npc := 6) (N := mX8_in) (mc := 0) (ms := 0) (A := [.int k, .int 0, .int 5]) (S := []) (L0 := [some (.int k), some (.int 0), some (.int 5)]) dX8_friend_3 rfl km_X8_in kk_X8_83 rfl ⟨rfl, by decide⟩ rfl (Nat.le_of_ble_eq_true rfl) (Nat.zero_add _) (Nat.zero_add _) rfl ?_
  refine c_X8_in (fun hw1 => ?_) (fun hw1 => ?_)
  · refine aw_re (S' := [.int 1]) rfl ?_
    refine aw_if_eq (npc := 9) (tgt := 28) dX8_friend_6 rfl (by decide) (fun hc => absurd hc (by decide)) (fun _ => ?_)
    refine aw_iload_n (npc := 10) rfl dX8_friend_9 rfl ?_
    refine aw_iconst (npc := 11) (v := 0) (by decide) dX8_friend_10 rfl ?_
    refine aw_iconst (npc := 12) (v := 1) (by decide) dX8_friend_11 rfl ?_
    refine aw_callS (npc := 15) (N := mX8_in) (mc := 0) (ms := 0) (A := [.int s, .int 0, .int 1]) (S := []) (L0 := [some (.int s), some (.int 0), some (.int 1)]) dX8_friend_12 rfl km_X8_in kk_X8_83 rfl ⟨rfl, by decide⟩ rfl (Nat.le_of_ble_eq_true rfl) (Nat.zero_add _) (Nat.zero_add _) rfl ?_
    refine c_X8_in (fun hw2 => ?_) (fun hw2 => ?_)
    · refine aw_re (S' := [.int 1]) rfl ?_
      refine aw_if_eq (npc := 18) (tgt := 28) dX8_friend_15 rfl (by decide) (fun hc => absurd hc (by decide)) (fun _ => ?_)
      refine aw_iload_n (npc := 19) rfl dX8_friend_18 rfl ?_
      refine aw_iconst (npc := 20) (v := 0) (by decide) dX8_friend_19 rfl ?_
      refine aw_bipush (npc := 22) (v := 99) (by decide) dX8_friend_20 rfl ?_
      refine aw_callS (npc := 25) (N := mX8_in) (mc := 0) (ms := 0) (A := [.int p, .int 0, .int 99]) (S := []) (L0 := [some (.int p), some (.int 0), some (.int 99)]) dX8_friend_22 rfl km_X8_in kk_X8_83 rfl ⟨rfl, by decide⟩ rfl (Nat.le_of_ble_eq_true rfl) (Nat.zero_add _) (Nat.zero_add _) rfl ?_
      refine c_X8_in (fun hw3 => ?_) (fun hw3 => ?_)
      · refine aw_re (S' := [.int 1]) rfl ?_
        refine aw_if_ne (npc := 28) (tgt := 31) dX8_friend_25 rfl (by decide) (fun _ => ?_) (fun hc => absurd hc (by decide))
        refine aw_aload_n (npc := 32) rfl dX8_friend_31 rfl ?_
        refine aw_get (npc := 35) dX8_friend_32 rfl kf_X8_9 F.1 rfl ?_
        refine aw_iconst (npc := 36) (v := 1) (by decide) dX8_friend_35 rfl ?_
        refine aw_iald (npc := 37) (x := N 1) (j := 1) dX8_friend_36 rfl F.2.1 ⟨by decide, by decide⟩ (tl_at (by omega)) ?_
        refine aw_top (y := nI fr) (hR.1) ?_
        refine aw_bipush (npc := 39) (v := 8) (by decide) dX8_friend_37 rfl ?_
        refine aw_icmp_ne (npc := 42) (tgt := 47) dX8_friend_39 rfl (by decide) (fun hc4 => ?_) (fun hc4 => ?_)
        · have hc4N : ¬ fr = 8 := fun z => hc4 ((nI_eq (a := fr) (b := 8) (by omega) (by omega)).mpr z)
          refine aw_aload_n (npc := 48) rfl dX8_friend_47 rfl ?_
          refine aw_iload_n (npc := 49) rfl dX8_friend_48 rfl ?_
          refine aw_iload_n (npc := 50) rfl dX8_friend_49 rfl ?_
          refine aw_iload_n (npc := 51) rfl dX8_friend_50 rfl ?_
          refine aw_callV (npc := 54) (N := mX8_comes) (b := 69) (mc := 0) (ms := 0) (A := [.int k, .int s, .int p]) (S := []) (L0 := [some (.ref 69), some (.int k), some (.int s), some (.int p), none]) dX8_friend_51 rfl km_X8_comes kk_X8_93 F.1 ⟨by decide, rfl⟩ rfl ⟨rfl, by decide⟩ rfl (Nat.le_of_ble_eq_true rfl) (Nat.zero_add _) (Nat.zero_add _) rfl ?_
          have hlt9 : fr < 8 := by have z := hR.2.1; omega
          refine m_comes (f := fr) F hR.1 hlt9 (fun hp7 F5 fz6 => ?_)
          refine aw_re (S' := [.int (nI fr)]) rfl ?_
          refine aw_iret rfl dX8_friend_54 ?_
          exact hq _ _ _ (by by_cases hz9 : fr < 8 <;> first | (exfalso; omega) | (simp [frV, frN, cI, hz9, hw1, hw2, hw3, hc4, hc4N]; done) | (simp [frV, frN, cI, hz9, hw1, hw2, hw3, hc4, hc4N]; omega)) (by by_cases hz9 : fr < 8 <;> first | (exfalso; omega) | (simp [frV, frN, cI, hz9, hw1, hw2, hw3, hc4, hc4N]; done) | (simp [frV, frN, cI, hz9, hw1, hw2, hw3, hc4, hc4N]; omega)) F5 (am_fpT (fun k (hk : k < 69 ∨ 92 ≤ k) => fz6 k (by omega)) am_fp0)
        · have hc4N := (nI_eq (a := fr) (b := 8) (by omega) (by omega)).mp hc4
          refine aw_ldc (npc := 44) kc_X8_92 dX8_friend_42 rfl ?_
          refine aw_goto (npc := 54) dX8_friend_44 (by decide) ?_
          refine aw_iret rfl dX8_friend_54 ?_
          exact hq _ _ _ (by by_cases hz9 : fr < 8 <;> first | (exfalso; omega) | (simp [frV, frN, cI, hz9, hw1, hw2, hw3, hc4, hc4N]; done) | (simp [frV, frN, cI, hz9, hw1, hw2, hw3, hc4, hc4N]; omega)) (by by_cases hz9 : fr < 8 <;> first | (exfalso; omega) | (simp [frV, frN, cI, hz9, hw1, hw2, hw3, hc4, hc4N]; done) | (simp [frV, frN, cI, hz9, hw1, hw2, hw3, hc4, hc4N]; omega)) F am_fp0
      · refine aw_re (S' := [.int 0]) rfl ?_
        refine aw_if_ne (npc := 28) (tgt := 31) dX8_friend_25 rfl (by decide) (fun hc => absurd (by decide) hc) (fun _ => ?_)
        refine aw_ldc (npc := 30) kc_X8_91 dX8_friend_28 rfl ?_
        refine aw_iret rfl dX8_friend_30 ?_
        exact hq _ _ _ (by by_cases hz9 : fr < 8 <;> first | (exfalso; omega) | (simp [frV, frN, cI, hz9, hw1, hw2, hw3]; done) | (simp [frV, frN, cI, hz9, hw1, hw2, hw3]; omega)) (by by_cases hz9 : fr < 8 <;> first | (exfalso; omega) | (simp [frV, frN, cI, hz9, hw1, hw2, hw3]; done) | (simp [frV, frN, cI, hz9, hw1, hw2, hw3]; omega)) F am_fp0
    · refine aw_re (S' := [.int 0]) rfl ?_
      refine aw_if_eq (npc := 18) (tgt := 28) dX8_friend_15 rfl (by decide) (fun _ => ?_) (fun hc => absurd (by decide) hc)
      refine aw_ldc (npc := 30) kc_X8_91 dX8_friend_28 rfl ?_
      refine aw_iret rfl dX8_friend_30 ?_
      exact hq _ _ _ (by by_cases hz9 : fr < 8 <;> first | (exfalso; omega) | (simp [frV, frN, cI, hz9, hw1, hw2]; done) | (simp [frV, frN, cI, hz9, hw1, hw2]; omega)) (by by_cases hz9 : fr < 8 <;> first | (exfalso; omega) | (simp [frV, frN, cI, hz9, hw1, hw2]; done) | (simp [frV, frN, cI, hz9, hw1, hw2]; omega)) F am_fp0
  · refine aw_re (S' := [.int 0]) rfl ?_
    refine aw_if_eq (npc := 9) (tgt := 28) dX8_friend_6 rfl (by decide) (fun _ => ?_) (fun hc => absurd (by decide) hc)
    refine aw_ldc (npc := 30) kc_X8_91 dX8_friend_28 rfl ?_
    refine aw_iret rfl dX8_friend_30 ?_
    exact hq _ _ _ (by by_cases hz9 : fr < 8 <;> first | (exfalso; omega) | (simp [frV, frN, cI, hz9, hw1]; done) | (simp [frV, frN, cI, hz9, hw1]; omega)) (by by_cases hz9 : fr < 8 <;> first | (exfalso; omega) | (simp [frV, frN, cI, hz9, hw1]; done) | (simp [frV, frN, cI, hz9, hw1]; omega)) F am_fp0
def undr (k g : Int32) : Bool := g == 0 || k == g || (g == 1 && k == 3) || (g == 2 && k == 4)
theorem undr_all : ∀ k : Fin 6, ∀ g : Fin 6, True := fun _ _ => trivial
set_option maxHeartbeats 4000000 in
set_option maxRecDepth 100000 in
theorem c_X7_isUnder {X : List Int32} {d rc rs n : Nat} {Q : am_Q} {h : am_H} {k g : Int32} (hk : wi k 0 5) (hg : wi g 0 5) (hq : Q (some (.int (if undr k g then 1 else 0))) n h) : AW X mX7_isUnder (d + 3) rc rs 0 [some (.int k), some (.int g), none, none] [] n h Q := by
  rcases wi_c0_5 hk with ek | ek | ek | ek | ek | ek <;> rcases wi_c0_5 hg with eg | eg | eg | eg | eg | eg
  · refine aw_locs (L' := [some (.int 0), some (.int 0), none, none]) (by rw [ek, eg]) ?_
    refine aw_iload_n (npc := 1) rfl dX7_isUnder_0 rfl ?_
    refine aw_istore_n (npc := 2) (L' := [some (.int 0), some (.int 0), some (.int 0), none]) dX7_isUnder_1 rfl (by decide) rfl rfl ?_
    refine aw_iconst (npc := 3) (v := 0) (by decide) dX7_isUnder_2 rfl ?_
    refine aw_istore_n (npc := 4) (L' := [some (.int 0), some (.int 0), some (.int 0), some (.int 0)]) dX7_isUnder_3 rfl (by decide) rfl rfl ?_
    refine aw_iload_n (npc := 5) rfl dX7_isUnder_4 rfl ?_
    refine aw_bipush (npc := 7) (v := 6) (by decide) dX7_isUnder_5 rfl ?_
    refine aw_icmp_ge (npc := 10) (tgt := 36) dX7_isUnder_7 rfl (by decide) (fun hc => absurd hc (by decide)) (fun _ => ?_)
    refine aw_iload_n (npc := 11) rfl dX7_isUnder_10 rfl ?_
    refine aw_callS (npc := 14) (N := mX7_isKind) (mc := 0) (ms := 0) (A := [.int 0]) (S := []) (L0 := [some (.int 0)]) dX7_isUnder_11 rfl km_X7_isKind kk_X7_67 rfl ⟨rfl, by decide⟩ rfl (Nat.le_of_ble_eq_true rfl) (Nat.zero_add _) (Nat.zero_add _) rfl ?_
    refine c_X7_isKind (fun _ => ?_) (fun hw1 => absurd ⟨by decide, by decide⟩ hw1)
    refine aw_re (S' := [.int 1]) rfl ?_
    refine aw_if_eq (npc := 17) (tgt := 36) dX7_isUnder_14 rfl (by decide) (fun hc => absurd hc (by decide)) (fun _ => ?_)
    refine aw_iload_n (npc := 18) rfl dX7_isUnder_17 rfl ?_
    refine aw_iload_n (npc := 19) rfl dX7_isUnder_18 rfl ?_
    refine aw_icmp_ne (npc := 22) (tgt := 24) dX7_isUnder_19 rfl (by decide) (fun hc => absurd (by decide) hc) (fun _ => ?_)
    refine aw_iconst (npc := 23) (v := 1) (by decide) dX7_isUnder_22 rfl ?_
    refine aw_zret rfl rfl dX7_isUnder_23 ?_
    exact (show (if undr k g then (1 : Int32) else 0) = 1 by rw [ek, eg]; decide) ▸ hq
  · refine aw_locs (L' := [some (.int 0), some (.int 1), none, none]) (by rw [ek, eg]) ?_
    refine aw_iload_n (npc := 1) rfl dX7_isUnder_0 rfl ?_
    refine aw_istore_n (npc := 2) (L' := [some (.int 0), some (.int 1), some (.int 0), none]) dX7_isUnder_1 rfl (by decide) rfl rfl ?_
    refine aw_iconst (npc := 3) (v := 0) (by decide) dX7_isUnder_2 rfl ?_
    refine aw_istore_n (npc := 4) (L' := [some (.int 0), some (.int 1), some (.int 0), some (.int 0)]) dX7_isUnder_3 rfl (by decide) rfl rfl ?_
    refine aw_iload_n (npc := 5) rfl dX7_isUnder_4 rfl ?_
    refine aw_bipush (npc := 7) (v := 6) (by decide) dX7_isUnder_5 rfl ?_
    refine aw_icmp_ge (npc := 10) (tgt := 36) dX7_isUnder_7 rfl (by decide) (fun hc => absurd hc (by decide)) (fun _ => ?_)
    refine aw_iload_n (npc := 11) rfl dX7_isUnder_10 rfl ?_
    refine aw_callS (npc := 14) (N := mX7_isKind) (mc := 0) (ms := 0) (A := [.int 0]) (S := []) (L0 := [some (.int 0)]) dX7_isUnder_11 rfl km_X7_isKind kk_X7_67 rfl ⟨rfl, by decide⟩ rfl (Nat.le_of_ble_eq_true rfl) (Nat.zero_add _) (Nat.zero_add _) rfl ?_
    refine c_X7_isKind (fun _ => ?_) (fun hw2 => absurd ⟨by decide, by decide⟩ hw2)
    refine aw_re (S' := [.int 1]) rfl ?_
    refine aw_if_eq (npc := 17) (tgt := 36) dX7_isUnder_14 rfl (by decide) (fun hc => absurd hc (by decide)) (fun _ => ?_)
    refine aw_iload_n (npc := 18) rfl dX7_isUnder_17 rfl ?_
    refine aw_iload_n (npc := 19) rfl dX7_isUnder_18 rfl ?_
    refine aw_icmp_ne (npc := 22) (tgt := 24) dX7_isUnder_19 rfl (by decide) (fun _ => ?_) (fun hc => absurd hc (by decide))
    refine aw_above (npc := 27) dX7_isUnder_24 rfl ks_X7_322 ?_
    refine aw_iload_n (npc := 28) rfl dX7_isUnder_27 rfl ?_
    refine aw_above_ld (npc := 29) (j := 0) dX7_isUnder_28 rfl ⟨by decide, by decide⟩ rfl ?_
    refine aw_istore_n (npc := 30) (L' := [some (.int 0), some (.int 1), some (.int (-1)), some (.int 0)]) dX7_isUnder_29 rfl (by decide) rfl rfl ?_
    refine aw_iinc (npc := 33) (v := 1) (L' := [some (.int 0), some (.int 1), some (.int (-1)), some (.int 1)]) dX7_isUnder_30 rfl rfl (by decide) (by decide) rfl rfl ?_
    refine aw_goto (npc := 4) dX7_isUnder_33 (by decide) ?_
    refine aw_iload_n (npc := 5) rfl dX7_isUnder_4 rfl ?_
    refine aw_bipush (npc := 7) (v := 6) (by decide) dX7_isUnder_5 rfl ?_
    refine aw_icmp_ge (npc := 10) (tgt := 36) dX7_isUnder_7 rfl (by decide) (fun hc => absurd hc (by decide)) (fun _ => ?_)
    refine aw_iload_n (npc := 11) rfl dX7_isUnder_10 rfl ?_
    refine aw_callS (npc := 14) (N := mX7_isKind) (mc := 0) (ms := 0) (A := [.int (-1)]) (S := []) (L0 := [some (.int (-1))]) dX7_isUnder_11 rfl km_X7_isKind kk_X7_67 rfl ⟨rfl, by decide⟩ rfl (Nat.le_of_ble_eq_true rfl) (Nat.zero_add _) (Nat.zero_add _) rfl ?_
    refine c_X7_isKind (fun hw3 => absurd hw3 (fun z => absurd z (by unfold wi; decide))) (fun _ => ?_)
    refine aw_re (S' := [.int 0]) rfl ?_
    refine aw_if_eq (npc := 17) (tgt := 36) dX7_isUnder_14 rfl (by decide) (fun _ => ?_) (fun hc => absurd (by decide) hc)
    refine aw_iconst (npc := 37) (v := 0) (by decide) dX7_isUnder_36 rfl ?_
    refine aw_zret rfl rfl dX7_isUnder_37 ?_
    exact (show (if undr k g then (1 : Int32) else 0) = 0 by rw [ek, eg]; decide) ▸ hq
  · refine aw_locs (L' := [some (.int 0), some (.int 2), none, none]) (by rw [ek, eg]) ?_
    refine aw_iload_n (npc := 1) rfl dX7_isUnder_0 rfl ?_
    refine aw_istore_n (npc := 2) (L' := [some (.int 0), some (.int 2), some (.int 0), none]) dX7_isUnder_1 rfl (by decide) rfl rfl ?_
    refine aw_iconst (npc := 3) (v := 0) (by decide) dX7_isUnder_2 rfl ?_
    refine aw_istore_n (npc := 4) (L' := [some (.int 0), some (.int 2), some (.int 0), some (.int 0)]) dX7_isUnder_3 rfl (by decide) rfl rfl ?_
    refine aw_iload_n (npc := 5) rfl dX7_isUnder_4 rfl ?_
    refine aw_bipush (npc := 7) (v := 6) (by decide) dX7_isUnder_5 rfl ?_
    refine aw_icmp_ge (npc := 10) (tgt := 36) dX7_isUnder_7 rfl (by decide) (fun hc => absurd hc (by decide)) (fun _ => ?_)
    refine aw_iload_n (npc := 11) rfl dX7_isUnder_10 rfl ?_
    refine aw_callS (npc := 14) (N := mX7_isKind) (mc := 0) (ms := 0) (A := [.int 0]) (S := []) (L0 := [some (.int 0)]) dX7_isUnder_11 rfl km_X7_isKind kk_X7_67 rfl ⟨rfl, by decide⟩ rfl (Nat.le_of_ble_eq_true rfl) (Nat.zero_add _) (Nat.zero_add _) rfl ?_
    refine c_X7_isKind (fun _ => ?_) (fun hw4 => absurd ⟨by decide, by decide⟩ hw4)
    refine aw_re (S' := [.int 1]) rfl ?_
    refine aw_if_eq (npc := 17) (tgt := 36) dX7_isUnder_14 rfl (by decide) (fun hc => absurd hc (by decide)) (fun _ => ?_)
    refine aw_iload_n (npc := 18) rfl dX7_isUnder_17 rfl ?_
    refine aw_iload_n (npc := 19) rfl dX7_isUnder_18 rfl ?_
    refine aw_icmp_ne (npc := 22) (tgt := 24) dX7_isUnder_19 rfl (by decide) (fun _ => ?_) (fun hc => absurd hc (by decide))
    refine aw_above (npc := 27) dX7_isUnder_24 rfl ks_X7_322 ?_
    refine aw_iload_n (npc := 28) rfl dX7_isUnder_27 rfl ?_
    refine aw_above_ld (npc := 29) (j := 0) dX7_isUnder_28 rfl ⟨by decide, by decide⟩ rfl ?_
    refine aw_istore_n (npc := 30) (L' := [some (.int 0), some (.int 2), some (.int (-1)), some (.int 0)]) dX7_isUnder_29 rfl (by decide) rfl rfl ?_
    refine aw_iinc (npc := 33) (v := 1) (L' := [some (.int 0), some (.int 2), some (.int (-1)), some (.int 1)]) dX7_isUnder_30 rfl rfl (by decide) (by decide) rfl rfl ?_
    refine aw_goto (npc := 4) dX7_isUnder_33 (by decide) ?_
    refine aw_iload_n (npc := 5) rfl dX7_isUnder_4 rfl ?_
    refine aw_bipush (npc := 7) (v := 6) (by decide) dX7_isUnder_5 rfl ?_
    refine aw_icmp_ge (npc := 10) (tgt := 36) dX7_isUnder_7 rfl (by decide) (fun hc => absurd hc (by decide)) (fun _ => ?_)
    refine aw_iload_n (npc := 11) rfl dX7_isUnder_10 rfl ?_
    refine aw_callS (npc := 14) (N := mX7_isKind) (mc := 0) (ms := 0) (A := [.int (-1)]) (S := []) (L0 := [some (.int (-1))]) dX7_isUnder_11 rfl km_X7_isKind kk_X7_67 rfl ⟨rfl, by decide⟩ rfl (Nat.le_of_ble_eq_true rfl) (Nat.zero_add _) (Nat.zero_add _) rfl ?_
    refine c_X7_isKind (fun hw5 => absurd hw5 (fun z => absurd z (by unfold wi; decide))) (fun _ => ?_)
    refine aw_re (S' := [.int 0]) rfl ?_
    refine aw_if_eq (npc := 17) (tgt := 36) dX7_isUnder_14 rfl (by decide) (fun _ => ?_) (fun hc => absurd (by decide) hc)
    refine aw_iconst (npc := 37) (v := 0) (by decide) dX7_isUnder_36 rfl ?_
    refine aw_zret rfl rfl dX7_isUnder_37 ?_
    exact (show (if undr k g then (1 : Int32) else 0) = 0 by rw [ek, eg]; decide) ▸ hq
  · refine aw_locs (L' := [some (.int 0), some (.int 3), none, none]) (by rw [ek, eg]) ?_
    refine aw_iload_n (npc := 1) rfl dX7_isUnder_0 rfl ?_
    refine aw_istore_n (npc := 2) (L' := [some (.int 0), some (.int 3), some (.int 0), none]) dX7_isUnder_1 rfl (by decide) rfl rfl ?_
    refine aw_iconst (npc := 3) (v := 0) (by decide) dX7_isUnder_2 rfl ?_
    refine aw_istore_n (npc := 4) (L' := [some (.int 0), some (.int 3), some (.int 0), some (.int 0)]) dX7_isUnder_3 rfl (by decide) rfl rfl ?_
    refine aw_iload_n (npc := 5) rfl dX7_isUnder_4 rfl ?_
    refine aw_bipush (npc := 7) (v := 6) (by decide) dX7_isUnder_5 rfl ?_
    refine aw_icmp_ge (npc := 10) (tgt := 36) dX7_isUnder_7 rfl (by decide) (fun hc => absurd hc (by decide)) (fun _ => ?_)
    refine aw_iload_n (npc := 11) rfl dX7_isUnder_10 rfl ?_
    refine aw_callS (npc := 14) (N := mX7_isKind) (mc := 0) (ms := 0) (A := [.int 0]) (S := []) (L0 := [some (.int 0)]) dX7_isUnder_11 rfl km_X7_isKind kk_X7_67 rfl ⟨rfl, by decide⟩ rfl (Nat.le_of_ble_eq_true rfl) (Nat.zero_add _) (Nat.zero_add _) rfl ?_
    refine c_X7_isKind (fun _ => ?_) (fun hw6 => absurd ⟨by decide, by decide⟩ hw6)
    refine aw_re (S' := [.int 1]) rfl ?_
    refine aw_if_eq (npc := 17) (tgt := 36) dX7_isUnder_14 rfl (by decide) (fun hc => absurd hc (by decide)) (fun _ => ?_)
    refine aw_iload_n (npc := 18) rfl dX7_isUnder_17 rfl ?_
    refine aw_iload_n (npc := 19) rfl dX7_isUnder_18 rfl ?_
    refine aw_icmp_ne (npc := 22) (tgt := 24) dX7_isUnder_19 rfl (by decide) (fun _ => ?_) (fun hc => absurd hc (by decide))
    refine aw_above (npc := 27) dX7_isUnder_24 rfl ks_X7_322 ?_
    refine aw_iload_n (npc := 28) rfl dX7_isUnder_27 rfl ?_
    refine aw_above_ld (npc := 29) (j := 0) dX7_isUnder_28 rfl ⟨by decide, by decide⟩ rfl ?_
    refine aw_istore_n (npc := 30) (L' := [some (.int 0), some (.int 3), some (.int (-1)), some (.int 0)]) dX7_isUnder_29 rfl (by decide) rfl rfl ?_
    refine aw_iinc (npc := 33) (v := 1) (L' := [some (.int 0), some (.int 3), some (.int (-1)), some (.int 1)]) dX7_isUnder_30 rfl rfl (by decide) (by decide) rfl rfl ?_
    refine aw_goto (npc := 4) dX7_isUnder_33 (by decide) ?_
    refine aw_iload_n (npc := 5) rfl dX7_isUnder_4 rfl ?_
    refine aw_bipush (npc := 7) (v := 6) (by decide) dX7_isUnder_5 rfl ?_
    refine aw_icmp_ge (npc := 10) (tgt := 36) dX7_isUnder_7 rfl (by decide) (fun hc => absurd hc (by decide)) (fun _ => ?_)
    refine aw_iload_n (npc := 11) rfl dX7_isUnder_10 rfl ?_
    refine aw_callS (npc := 14) (N := mX7_isKind) (mc := 0) (ms := 0) (A := [.int (-1)]) (S := []) (L0 := [some (.int (-1))]) dX7_isUnder_11 rfl km_X7_isKind kk_X7_67 rfl ⟨rfl, by decide⟩ rfl (Nat.le_of_ble_eq_true rfl) (Nat.zero_add _) (Nat.zero_add _) rfl ?_
    refine c_X7_isKind (fun hw7 => absurd hw7 (fun z => absurd z (by unfold wi; decide))) (fun _ => ?_)
    refine aw_re (S' := [.int 0]) rfl ?_
    refine aw_if_eq (npc := 17) (tgt := 36) dX7_isUnder_14 rfl (by decide) (fun _ => ?_) (fun hc => absurd (by decide) hc)
    refine aw_iconst (npc := 37) (v := 0) (by decide) dX7_isUnder_36 rfl ?_
    refine aw_zret rfl rfl dX7_isUnder_37 ?_
    exact (show (if undr k g then (1 : Int32) else 0) = 0 by rw [ek, eg]; decide) ▸ hq
  · refine aw_locs (L' := [some (.int 0), some (.int 4), none, none]) (by rw [ek, eg]) ?_
    refine aw_iload_n (npc := 1) rfl dX7_isUnder_0 rfl ?_
    refine aw_istore_n (npc := 2) (L' := [some (.int 0), some (.int 4), some (.int 0), none]) dX7_isUnder_1 rfl (by decide) rfl rfl ?_
    refine aw_iconst (npc := 3) (v := 0) (by decide) dX7_isUnder_2 rfl ?_
    refine aw_istore_n (npc := 4) (L' := [some (.int 0), some (.int 4), some (.int 0), some (.int 0)]) dX7_isUnder_3 rfl (by decide) rfl rfl ?_
    refine aw_iload_n (npc := 5) rfl dX7_isUnder_4 rfl ?_
    refine aw_bipush (npc := 7) (v := 6) (by decide) dX7_isUnder_5 rfl ?_
    refine aw_icmp_ge (npc := 10) (tgt := 36) dX7_isUnder_7 rfl (by decide) (fun hc => absurd hc (by decide)) (fun _ => ?_)
    refine aw_iload_n (npc := 11) rfl dX7_isUnder_10 rfl ?_
    refine aw_callS (npc := 14) (N := mX7_isKind) (mc := 0) (ms := 0) (A := [.int 0]) (S := []) (L0 := [some (.int 0)]) dX7_isUnder_11 rfl km_X7_isKind kk_X7_67 rfl ⟨rfl, by decide⟩ rfl (Nat.le_of_ble_eq_true rfl) (Nat.zero_add _) (Nat.zero_add _) rfl ?_
    refine c_X7_isKind (fun _ => ?_) (fun hw8 => absurd ⟨by decide, by decide⟩ hw8)
    refine aw_re (S' := [.int 1]) rfl ?_
    refine aw_if_eq (npc := 17) (tgt := 36) dX7_isUnder_14 rfl (by decide) (fun hc => absurd hc (by decide)) (fun _ => ?_)
    refine aw_iload_n (npc := 18) rfl dX7_isUnder_17 rfl ?_
    refine aw_iload_n (npc := 19) rfl dX7_isUnder_18 rfl ?_
    refine aw_icmp_ne (npc := 22) (tgt := 24) dX7_isUnder_19 rfl (by decide) (fun _ => ?_) (fun hc => absurd hc (by decide))
    refine aw_above (npc := 27) dX7_isUnder_24 rfl ks_X7_322 ?_
    refine aw_iload_n (npc := 28) rfl dX7_isUnder_27 rfl ?_
    refine aw_above_ld (npc := 29) (j := 0) dX7_isUnder_28 rfl ⟨by decide, by decide⟩ rfl ?_
    refine aw_istore_n (npc := 30) (L' := [some (.int 0), some (.int 4), some (.int (-1)), some (.int 0)]) dX7_isUnder_29 rfl (by decide) rfl rfl ?_
    refine aw_iinc (npc := 33) (v := 1) (L' := [some (.int 0), some (.int 4), some (.int (-1)), some (.int 1)]) dX7_isUnder_30 rfl rfl (by decide) (by decide) rfl rfl ?_
    refine aw_goto (npc := 4) dX7_isUnder_33 (by decide) ?_
    refine aw_iload_n (npc := 5) rfl dX7_isUnder_4 rfl ?_
    refine aw_bipush (npc := 7) (v := 6) (by decide) dX7_isUnder_5 rfl ?_
    refine aw_icmp_ge (npc := 10) (tgt := 36) dX7_isUnder_7 rfl (by decide) (fun hc => absurd hc (by decide)) (fun _ => ?_)
    refine aw_iload_n (npc := 11) rfl dX7_isUnder_10 rfl ?_
    refine aw_callS (npc := 14) (N := mX7_isKind) (mc := 0) (ms := 0) (A := [.int (-1)]) (S := []) (L0 := [some (.int (-1))]) dX7_isUnder_11 rfl km_X7_isKind kk_X7_67 rfl ⟨rfl, by decide⟩ rfl (Nat.le_of_ble_eq_true rfl) (Nat.zero_add _) (Nat.zero_add _) rfl ?_
    refine c_X7_isKind (fun hw9 => absurd hw9 (fun z => absurd z (by unfold wi; decide))) (fun _ => ?_)
    refine aw_re (S' := [.int 0]) rfl ?_
    refine aw_if_eq (npc := 17) (tgt := 36) dX7_isUnder_14 rfl (by decide) (fun _ => ?_) (fun hc => absurd (by decide) hc)
    refine aw_iconst (npc := 37) (v := 0) (by decide) dX7_isUnder_36 rfl ?_
    refine aw_zret rfl rfl dX7_isUnder_37 ?_
    exact (show (if undr k g then (1 : Int32) else 0) = 0 by rw [ek, eg]; decide) ▸ hq
  · refine aw_locs (L' := [some (.int 0), some (.int 5), none, none]) (by rw [ek, eg]) ?_
    refine aw_iload_n (npc := 1) rfl dX7_isUnder_0 rfl ?_
    refine aw_istore_n (npc := 2) (L' := [some (.int 0), some (.int 5), some (.int 0), none]) dX7_isUnder_1 rfl (by decide) rfl rfl ?_
    refine aw_iconst (npc := 3) (v := 0) (by decide) dX7_isUnder_2 rfl ?_
    refine aw_istore_n (npc := 4) (L' := [some (.int 0), some (.int 5), some (.int 0), some (.int 0)]) dX7_isUnder_3 rfl (by decide) rfl rfl ?_
    refine aw_iload_n (npc := 5) rfl dX7_isUnder_4 rfl ?_
    refine aw_bipush (npc := 7) (v := 6) (by decide) dX7_isUnder_5 rfl ?_
    refine aw_icmp_ge (npc := 10) (tgt := 36) dX7_isUnder_7 rfl (by decide) (fun hc => absurd hc (by decide)) (fun _ => ?_)
    refine aw_iload_n (npc := 11) rfl dX7_isUnder_10 rfl ?_
    refine aw_callS (npc := 14) (N := mX7_isKind) (mc := 0) (ms := 0) (A := [.int 0]) (S := []) (L0 := [some (.int 0)]) dX7_isUnder_11 rfl km_X7_isKind kk_X7_67 rfl ⟨rfl, by decide⟩ rfl (Nat.le_of_ble_eq_true rfl) (Nat.zero_add _) (Nat.zero_add _) rfl ?_
    refine c_X7_isKind (fun _ => ?_) (fun hw10 => absurd ⟨by decide, by decide⟩ hw10)
    refine aw_re (S' := [.int 1]) rfl ?_
    refine aw_if_eq (npc := 17) (tgt := 36) dX7_isUnder_14 rfl (by decide) (fun hc => absurd hc (by decide)) (fun _ => ?_)
    refine aw_iload_n (npc := 18) rfl dX7_isUnder_17 rfl ?_
    refine aw_iload_n (npc := 19) rfl dX7_isUnder_18 rfl ?_
    refine aw_icmp_ne (npc := 22) (tgt := 24) dX7_isUnder_19 rfl (by decide) (fun _ => ?_) (fun hc => absurd hc (by decide))
    refine aw_above (npc := 27) dX7_isUnder_24 rfl ks_X7_322 ?_
    refine aw_iload_n (npc := 28) rfl dX7_isUnder_27 rfl ?_
    refine aw_above_ld (npc := 29) (j := 0) dX7_isUnder_28 rfl ⟨by decide, by decide⟩ rfl ?_
    refine aw_istore_n (npc := 30) (L' := [some (.int 0), some (.int 5), some (.int (-1)), some (.int 0)]) dX7_isUnder_29 rfl (by decide) rfl rfl ?_
    refine aw_iinc (npc := 33) (v := 1) (L' := [some (.int 0), some (.int 5), some (.int (-1)), some (.int 1)]) dX7_isUnder_30 rfl rfl (by decide) (by decide) rfl rfl ?_
    refine aw_goto (npc := 4) dX7_isUnder_33 (by decide) ?_
    refine aw_iload_n (npc := 5) rfl dX7_isUnder_4 rfl ?_
    refine aw_bipush (npc := 7) (v := 6) (by decide) dX7_isUnder_5 rfl ?_
    refine aw_icmp_ge (npc := 10) (tgt := 36) dX7_isUnder_7 rfl (by decide) (fun hc => absurd hc (by decide)) (fun _ => ?_)
    refine aw_iload_n (npc := 11) rfl dX7_isUnder_10 rfl ?_
    refine aw_callS (npc := 14) (N := mX7_isKind) (mc := 0) (ms := 0) (A := [.int (-1)]) (S := []) (L0 := [some (.int (-1))]) dX7_isUnder_11 rfl km_X7_isKind kk_X7_67 rfl ⟨rfl, by decide⟩ rfl (Nat.le_of_ble_eq_true rfl) (Nat.zero_add _) (Nat.zero_add _) rfl ?_
    refine c_X7_isKind (fun hw11 => absurd hw11 (fun z => absurd z (by unfold wi; decide))) (fun _ => ?_)
    refine aw_re (S' := [.int 0]) rfl ?_
    refine aw_if_eq (npc := 17) (tgt := 36) dX7_isUnder_14 rfl (by decide) (fun _ => ?_) (fun hc => absurd (by decide) hc)
    refine aw_iconst (npc := 37) (v := 0) (by decide) dX7_isUnder_36 rfl ?_
    refine aw_zret rfl rfl dX7_isUnder_37 ?_
    exact (show (if undr k g then (1 : Int32) else 0) = 0 by rw [ek, eg]; decide) ▸ hq
  · refine aw_locs (L' := [some (.int 1), some (.int 0), none, none]) (by rw [ek, eg]) ?_
    refine aw_iload_n (npc := 1) rfl dX7_isUnder_0 rfl ?_
    refine aw_istore_n (npc := 2) (L' := [some (.int 1), some (.int 0), some (.int 1), none]) dX7_isUnder_1 rfl (by decide) rfl rfl ?_
    refine aw_iconst (npc := 3) (v := 0) (by decide) dX7_isUnder_2 rfl ?_
    refine aw_istore_n (npc := 4) (L' := [some (.int 1), some (.int 0), some (.int 1), some (.int 0)]) dX7_isUnder_3 rfl (by decide) rfl rfl ?_
    refine aw_iload_n (npc := 5) rfl dX7_isUnder_4 rfl ?_
    refine aw_bipush (npc := 7) (v := 6) (by decide) dX7_isUnder_5 rfl ?_
    refine aw_icmp_ge (npc := 10) (tgt := 36) dX7_isUnder_7 rfl (by decide) (fun hc => absurd hc (by decide)) (fun _ => ?_)
    refine aw_iload_n (npc := 11) rfl dX7_isUnder_10 rfl ?_
    refine aw_callS (npc := 14) (N := mX7_isKind) (mc := 0) (ms := 0) (A := [.int 1]) (S := []) (L0 := [some (.int 1)]) dX7_isUnder_11 rfl km_X7_isKind kk_X7_67 rfl ⟨rfl, by decide⟩ rfl (Nat.le_of_ble_eq_true rfl) (Nat.zero_add _) (Nat.zero_add _) rfl ?_
    refine c_X7_isKind (fun _ => ?_) (fun hw12 => absurd ⟨by decide, by decide⟩ hw12)
    refine aw_re (S' := [.int 1]) rfl ?_
    refine aw_if_eq (npc := 17) (tgt := 36) dX7_isUnder_14 rfl (by decide) (fun hc => absurd hc (by decide)) (fun _ => ?_)
    refine aw_iload_n (npc := 18) rfl dX7_isUnder_17 rfl ?_
    refine aw_iload_n (npc := 19) rfl dX7_isUnder_18 rfl ?_
    refine aw_icmp_ne (npc := 22) (tgt := 24) dX7_isUnder_19 rfl (by decide) (fun _ => ?_) (fun hc => absurd hc (by decide))
    refine aw_above (npc := 27) dX7_isUnder_24 rfl ks_X7_322 ?_
    refine aw_iload_n (npc := 28) rfl dX7_isUnder_27 rfl ?_
    refine aw_above_ld (npc := 29) (j := 1) dX7_isUnder_28 rfl ⟨by decide, by decide⟩ rfl ?_
    refine aw_istore_n (npc := 30) (L' := [some (.int 1), some (.int 0), some (.int 0), some (.int 0)]) dX7_isUnder_29 rfl (by decide) rfl rfl ?_
    refine aw_iinc (npc := 33) (v := 1) (L' := [some (.int 1), some (.int 0), some (.int 0), some (.int 1)]) dX7_isUnder_30 rfl rfl (by decide) (by decide) rfl rfl ?_
    refine aw_goto (npc := 4) dX7_isUnder_33 (by decide) ?_
    refine aw_iload_n (npc := 5) rfl dX7_isUnder_4 rfl ?_
    refine aw_bipush (npc := 7) (v := 6) (by decide) dX7_isUnder_5 rfl ?_
    refine aw_icmp_ge (npc := 10) (tgt := 36) dX7_isUnder_7 rfl (by decide) (fun hc => absurd hc (by decide)) (fun _ => ?_)
    refine aw_iload_n (npc := 11) rfl dX7_isUnder_10 rfl ?_
    refine aw_callS (npc := 14) (N := mX7_isKind) (mc := 0) (ms := 0) (A := [.int 0]) (S := []) (L0 := [some (.int 0)]) dX7_isUnder_11 rfl km_X7_isKind kk_X7_67 rfl ⟨rfl, by decide⟩ rfl (Nat.le_of_ble_eq_true rfl) (Nat.zero_add _) (Nat.zero_add _) rfl ?_
    refine c_X7_isKind (fun _ => ?_) (fun hw13 => absurd ⟨by decide, by decide⟩ hw13)
    refine aw_re (S' := [.int 1]) rfl ?_
    refine aw_if_eq (npc := 17) (tgt := 36) dX7_isUnder_14 rfl (by decide) (fun hc => absurd hc (by decide)) (fun _ => ?_)
    refine aw_iload_n (npc := 18) rfl dX7_isUnder_17 rfl ?_
    refine aw_iload_n (npc := 19) rfl dX7_isUnder_18 rfl ?_
    refine aw_icmp_ne (npc := 22) (tgt := 24) dX7_isUnder_19 rfl (by decide) (fun hc => absurd (by decide) hc) (fun _ => ?_)
    refine aw_iconst (npc := 23) (v := 1) (by decide) dX7_isUnder_22 rfl ?_
    refine aw_zret rfl rfl dX7_isUnder_23 ?_
    exact (show (if undr k g then (1 : Int32) else 0) = 1 by rw [ek, eg]; decide) ▸ hq
  · refine aw_locs (L' := [some (.int 1), some (.int 1), none, none]) (by rw [ek, eg]) ?_
    refine aw_iload_n (npc := 1) rfl dX7_isUnder_0 rfl ?_
    refine aw_istore_n (npc := 2) (L' := [some (.int 1), some (.int 1), some (.int 1), none]) dX7_isUnder_1 rfl (by decide) rfl rfl ?_
    refine aw_iconst (npc := 3) (v := 0) (by decide) dX7_isUnder_2 rfl ?_
    refine aw_istore_n (npc := 4) (L' := [some (.int 1), some (.int 1), some (.int 1), some (.int 0)]) dX7_isUnder_3 rfl (by decide) rfl rfl ?_
    refine aw_iload_n (npc := 5) rfl dX7_isUnder_4 rfl ?_
    refine aw_bipush (npc := 7) (v := 6) (by decide) dX7_isUnder_5 rfl ?_
    refine aw_icmp_ge (npc := 10) (tgt := 36) dX7_isUnder_7 rfl (by decide) (fun hc => absurd hc (by decide)) (fun _ => ?_)
    refine aw_iload_n (npc := 11) rfl dX7_isUnder_10 rfl ?_
    refine aw_callS (npc := 14) (N := mX7_isKind) (mc := 0) (ms := 0) (A := [.int 1]) (S := []) (L0 := [some (.int 1)]) dX7_isUnder_11 rfl km_X7_isKind kk_X7_67 rfl ⟨rfl, by decide⟩ rfl (Nat.le_of_ble_eq_true rfl) (Nat.zero_add _) (Nat.zero_add _) rfl ?_
    refine c_X7_isKind (fun _ => ?_) (fun hw14 => absurd ⟨by decide, by decide⟩ hw14)
    refine aw_re (S' := [.int 1]) rfl ?_
    refine aw_if_eq (npc := 17) (tgt := 36) dX7_isUnder_14 rfl (by decide) (fun hc => absurd hc (by decide)) (fun _ => ?_)
    refine aw_iload_n (npc := 18) rfl dX7_isUnder_17 rfl ?_
    refine aw_iload_n (npc := 19) rfl dX7_isUnder_18 rfl ?_
    refine aw_icmp_ne (npc := 22) (tgt := 24) dX7_isUnder_19 rfl (by decide) (fun hc => absurd (by decide) hc) (fun _ => ?_)
    refine aw_iconst (npc := 23) (v := 1) (by decide) dX7_isUnder_22 rfl ?_
    refine aw_zret rfl rfl dX7_isUnder_23 ?_
    exact (show (if undr k g then (1 : Int32) else 0) = 1 by rw [ek, eg]; decide) ▸ hq
  · refine aw_locs (L' := [some (.int 1), some (.int 2), none, none]) (by rw [ek, eg]) ?_
    refine aw_iload_n (npc := 1) rfl dX7_isUnder_0 rfl ?_
    refine aw_istore_n (npc := 2) (L' := [some (.int 1), some (.int 2), some (.int 1), none]) dX7_isUnder_1 rfl (by decide) rfl rfl ?_
    refine aw_iconst (npc := 3) (v := 0) (by decide) dX7_isUnder_2 rfl ?_
    refine aw_istore_n (npc := 4) (L' := [some (.int 1), some (.int 2), some (.int 1), some (.int 0)]) dX7_isUnder_3 rfl (by decide) rfl rfl ?_
    refine aw_iload_n (npc := 5) rfl dX7_isUnder_4 rfl ?_
    refine aw_bipush (npc := 7) (v := 6) (by decide) dX7_isUnder_5 rfl ?_
    refine aw_icmp_ge (npc := 10) (tgt := 36) dX7_isUnder_7 rfl (by decide) (fun hc => absurd hc (by decide)) (fun _ => ?_)
    refine aw_iload_n (npc := 11) rfl dX7_isUnder_10 rfl ?_
    refine aw_callS (npc := 14) (N := mX7_isKind) (mc := 0) (ms := 0) (A := [.int 1]) (S := []) (L0 := [some (.int 1)]) dX7_isUnder_11 rfl km_X7_isKind kk_X7_67 rfl ⟨rfl, by decide⟩ rfl (Nat.le_of_ble_eq_true rfl) (Nat.zero_add _) (Nat.zero_add _) rfl ?_
    refine c_X7_isKind (fun _ => ?_) (fun hw15 => absurd ⟨by decide, by decide⟩ hw15)
    refine aw_re (S' := [.int 1]) rfl ?_
    refine aw_if_eq (npc := 17) (tgt := 36) dX7_isUnder_14 rfl (by decide) (fun hc => absurd hc (by decide)) (fun _ => ?_)
    refine aw_iload_n (npc := 18) rfl dX7_isUnder_17 rfl ?_
    refine aw_iload_n (npc := 19) rfl dX7_isUnder_18 rfl ?_
    refine aw_icmp_ne (npc := 22) (tgt := 24) dX7_isUnder_19 rfl (by decide) (fun _ => ?_) (fun hc => absurd hc (by decide))
    refine aw_above (npc := 27) dX7_isUnder_24 rfl ks_X7_322 ?_
    refine aw_iload_n (npc := 28) rfl dX7_isUnder_27 rfl ?_
    refine aw_above_ld (npc := 29) (j := 1) dX7_isUnder_28 rfl ⟨by decide, by decide⟩ rfl ?_
    refine aw_istore_n (npc := 30) (L' := [some (.int 1), some (.int 2), some (.int 0), some (.int 0)]) dX7_isUnder_29 rfl (by decide) rfl rfl ?_
    refine aw_iinc (npc := 33) (v := 1) (L' := [some (.int 1), some (.int 2), some (.int 0), some (.int 1)]) dX7_isUnder_30 rfl rfl (by decide) (by decide) rfl rfl ?_
    refine aw_goto (npc := 4) dX7_isUnder_33 (by decide) ?_
    refine aw_iload_n (npc := 5) rfl dX7_isUnder_4 rfl ?_
    refine aw_bipush (npc := 7) (v := 6) (by decide) dX7_isUnder_5 rfl ?_
    refine aw_icmp_ge (npc := 10) (tgt := 36) dX7_isUnder_7 rfl (by decide) (fun hc => absurd hc (by decide)) (fun _ => ?_)
    refine aw_iload_n (npc := 11) rfl dX7_isUnder_10 rfl ?_
    refine aw_callS (npc := 14) (N := mX7_isKind) (mc := 0) (ms := 0) (A := [.int 0]) (S := []) (L0 := [some (.int 0)]) dX7_isUnder_11 rfl km_X7_isKind kk_X7_67 rfl ⟨rfl, by decide⟩ rfl (Nat.le_of_ble_eq_true rfl) (Nat.zero_add _) (Nat.zero_add _) rfl ?_
    refine c_X7_isKind (fun _ => ?_) (fun hw16 => absurd ⟨by decide, by decide⟩ hw16)
    refine aw_re (S' := [.int 1]) rfl ?_
    refine aw_if_eq (npc := 17) (tgt := 36) dX7_isUnder_14 rfl (by decide) (fun hc => absurd hc (by decide)) (fun _ => ?_)
    refine aw_iload_n (npc := 18) rfl dX7_isUnder_17 rfl ?_
    refine aw_iload_n (npc := 19) rfl dX7_isUnder_18 rfl ?_
    refine aw_icmp_ne (npc := 22) (tgt := 24) dX7_isUnder_19 rfl (by decide) (fun _ => ?_) (fun hc => absurd hc (by decide))
    refine aw_above (npc := 27) dX7_isUnder_24 rfl ks_X7_322 ?_
    refine aw_iload_n (npc := 28) rfl dX7_isUnder_27 rfl ?_
    refine aw_above_ld (npc := 29) (j := 0) dX7_isUnder_28 rfl ⟨by decide, by decide⟩ rfl ?_
    refine aw_istore_n (npc := 30) (L' := [some (.int 1), some (.int 2), some (.int (-1)), some (.int 1)]) dX7_isUnder_29 rfl (by decide) rfl rfl ?_
    refine aw_iinc (npc := 33) (v := 2) (L' := [some (.int 1), some (.int 2), some (.int (-1)), some (.int 2)]) dX7_isUnder_30 rfl rfl (by decide) (by decide) rfl rfl ?_
    refine aw_goto (npc := 4) dX7_isUnder_33 (by decide) ?_
    refine aw_iload_n (npc := 5) rfl dX7_isUnder_4 rfl ?_
    refine aw_bipush (npc := 7) (v := 6) (by decide) dX7_isUnder_5 rfl ?_
    refine aw_icmp_ge (npc := 10) (tgt := 36) dX7_isUnder_7 rfl (by decide) (fun hc => absurd hc (by decide)) (fun _ => ?_)
    refine aw_iload_n (npc := 11) rfl dX7_isUnder_10 rfl ?_
    refine aw_callS (npc := 14) (N := mX7_isKind) (mc := 0) (ms := 0) (A := [.int (-1)]) (S := []) (L0 := [some (.int (-1))]) dX7_isUnder_11 rfl km_X7_isKind kk_X7_67 rfl ⟨rfl, by decide⟩ rfl (Nat.le_of_ble_eq_true rfl) (Nat.zero_add _) (Nat.zero_add _) rfl ?_
    refine c_X7_isKind (fun hw17 => absurd hw17 (fun z => absurd z (by unfold wi; decide))) (fun _ => ?_)
    refine aw_re (S' := [.int 0]) rfl ?_
    refine aw_if_eq (npc := 17) (tgt := 36) dX7_isUnder_14 rfl (by decide) (fun _ => ?_) (fun hc => absurd (by decide) hc)
    refine aw_iconst (npc := 37) (v := 0) (by decide) dX7_isUnder_36 rfl ?_
    refine aw_zret rfl rfl dX7_isUnder_37 ?_
    exact (show (if undr k g then (1 : Int32) else 0) = 0 by rw [ek, eg]; decide) ▸ hq
  · refine aw_locs (L' := [some (.int 1), some (.int 3), none, none]) (by rw [ek, eg]) ?_
    refine aw_iload_n (npc := 1) rfl dX7_isUnder_0 rfl ?_
    refine aw_istore_n (npc := 2) (L' := [some (.int 1), some (.int 3), some (.int 1), none]) dX7_isUnder_1 rfl (by decide) rfl rfl ?_
    refine aw_iconst (npc := 3) (v := 0) (by decide) dX7_isUnder_2 rfl ?_
    refine aw_istore_n (npc := 4) (L' := [some (.int 1), some (.int 3), some (.int 1), some (.int 0)]) dX7_isUnder_3 rfl (by decide) rfl rfl ?_
    refine aw_iload_n (npc := 5) rfl dX7_isUnder_4 rfl ?_
    refine aw_bipush (npc := 7) (v := 6) (by decide) dX7_isUnder_5 rfl ?_
    refine aw_icmp_ge (npc := 10) (tgt := 36) dX7_isUnder_7 rfl (by decide) (fun hc => absurd hc (by decide)) (fun _ => ?_)
    refine aw_iload_n (npc := 11) rfl dX7_isUnder_10 rfl ?_
    refine aw_callS (npc := 14) (N := mX7_isKind) (mc := 0) (ms := 0) (A := [.int 1]) (S := []) (L0 := [some (.int 1)]) dX7_isUnder_11 rfl km_X7_isKind kk_X7_67 rfl ⟨rfl, by decide⟩ rfl (Nat.le_of_ble_eq_true rfl) (Nat.zero_add _) (Nat.zero_add _) rfl ?_
    refine c_X7_isKind (fun _ => ?_) (fun hw18 => absurd ⟨by decide, by decide⟩ hw18)
    refine aw_re (S' := [.int 1]) rfl ?_
    refine aw_if_eq (npc := 17) (tgt := 36) dX7_isUnder_14 rfl (by decide) (fun hc => absurd hc (by decide)) (fun _ => ?_)
    refine aw_iload_n (npc := 18) rfl dX7_isUnder_17 rfl ?_
    refine aw_iload_n (npc := 19) rfl dX7_isUnder_18 rfl ?_
    refine aw_icmp_ne (npc := 22) (tgt := 24) dX7_isUnder_19 rfl (by decide) (fun _ => ?_) (fun hc => absurd hc (by decide))
    refine aw_above (npc := 27) dX7_isUnder_24 rfl ks_X7_322 ?_
    refine aw_iload_n (npc := 28) rfl dX7_isUnder_27 rfl ?_
    refine aw_above_ld (npc := 29) (j := 1) dX7_isUnder_28 rfl ⟨by decide, by decide⟩ rfl ?_
    refine aw_istore_n (npc := 30) (L' := [some (.int 1), some (.int 3), some (.int 0), some (.int 0)]) dX7_isUnder_29 rfl (by decide) rfl rfl ?_
    refine aw_iinc (npc := 33) (v := 1) (L' := [some (.int 1), some (.int 3), some (.int 0), some (.int 1)]) dX7_isUnder_30 rfl rfl (by decide) (by decide) rfl rfl ?_
    refine aw_goto (npc := 4) dX7_isUnder_33 (by decide) ?_
    refine aw_iload_n (npc := 5) rfl dX7_isUnder_4 rfl ?_
    refine aw_bipush (npc := 7) (v := 6) (by decide) dX7_isUnder_5 rfl ?_
    refine aw_icmp_ge (npc := 10) (tgt := 36) dX7_isUnder_7 rfl (by decide) (fun hc => absurd hc (by decide)) (fun _ => ?_)
    refine aw_iload_n (npc := 11) rfl dX7_isUnder_10 rfl ?_
    refine aw_callS (npc := 14) (N := mX7_isKind) (mc := 0) (ms := 0) (A := [.int 0]) (S := []) (L0 := [some (.int 0)]) dX7_isUnder_11 rfl km_X7_isKind kk_X7_67 rfl ⟨rfl, by decide⟩ rfl (Nat.le_of_ble_eq_true rfl) (Nat.zero_add _) (Nat.zero_add _) rfl ?_
    refine c_X7_isKind (fun _ => ?_) (fun hw19 => absurd ⟨by decide, by decide⟩ hw19)
    refine aw_re (S' := [.int 1]) rfl ?_
    refine aw_if_eq (npc := 17) (tgt := 36) dX7_isUnder_14 rfl (by decide) (fun hc => absurd hc (by decide)) (fun _ => ?_)
    refine aw_iload_n (npc := 18) rfl dX7_isUnder_17 rfl ?_
    refine aw_iload_n (npc := 19) rfl dX7_isUnder_18 rfl ?_
    refine aw_icmp_ne (npc := 22) (tgt := 24) dX7_isUnder_19 rfl (by decide) (fun _ => ?_) (fun hc => absurd hc (by decide))
    refine aw_above (npc := 27) dX7_isUnder_24 rfl ks_X7_322 ?_
    refine aw_iload_n (npc := 28) rfl dX7_isUnder_27 rfl ?_
    refine aw_above_ld (npc := 29) (j := 0) dX7_isUnder_28 rfl ⟨by decide, by decide⟩ rfl ?_
    refine aw_istore_n (npc := 30) (L' := [some (.int 1), some (.int 3), some (.int (-1)), some (.int 1)]) dX7_isUnder_29 rfl (by decide) rfl rfl ?_
    refine aw_iinc (npc := 33) (v := 2) (L' := [some (.int 1), some (.int 3), some (.int (-1)), some (.int 2)]) dX7_isUnder_30 rfl rfl (by decide) (by decide) rfl rfl ?_
    refine aw_goto (npc := 4) dX7_isUnder_33 (by decide) ?_
    refine aw_iload_n (npc := 5) rfl dX7_isUnder_4 rfl ?_
    refine aw_bipush (npc := 7) (v := 6) (by decide) dX7_isUnder_5 rfl ?_
    refine aw_icmp_ge (npc := 10) (tgt := 36) dX7_isUnder_7 rfl (by decide) (fun hc => absurd hc (by decide)) (fun _ => ?_)
    refine aw_iload_n (npc := 11) rfl dX7_isUnder_10 rfl ?_
    refine aw_callS (npc := 14) (N := mX7_isKind) (mc := 0) (ms := 0) (A := [.int (-1)]) (S := []) (L0 := [some (.int (-1))]) dX7_isUnder_11 rfl km_X7_isKind kk_X7_67 rfl ⟨rfl, by decide⟩ rfl (Nat.le_of_ble_eq_true rfl) (Nat.zero_add _) (Nat.zero_add _) rfl ?_
    refine c_X7_isKind (fun hw20 => absurd hw20 (fun z => absurd z (by unfold wi; decide))) (fun _ => ?_)
    refine aw_re (S' := [.int 0]) rfl ?_
    refine aw_if_eq (npc := 17) (tgt := 36) dX7_isUnder_14 rfl (by decide) (fun _ => ?_) (fun hc => absurd (by decide) hc)
    refine aw_iconst (npc := 37) (v := 0) (by decide) dX7_isUnder_36 rfl ?_
    refine aw_zret rfl rfl dX7_isUnder_37 ?_
    exact (show (if undr k g then (1 : Int32) else 0) = 0 by rw [ek, eg]; decide) ▸ hq
  · refine aw_locs (L' := [some (.int 1), some (.int 4), none, none]) (by rw [ek, eg]) ?_
    refine aw_iload_n (npc := 1) rfl dX7_isUnder_0 rfl ?_
    refine aw_istore_n (npc := 2) (L' := [some (.int 1), some (.int 4), some (.int 1), none]) dX7_isUnder_1 rfl (by decide) rfl rfl ?_
    refine aw_iconst (npc := 3) (v := 0) (by decide) dX7_isUnder_2 rfl ?_
    refine aw_istore_n (npc := 4) (L' := [some (.int 1), some (.int 4), some (.int 1), some (.int 0)]) dX7_isUnder_3 rfl (by decide) rfl rfl ?_
    refine aw_iload_n (npc := 5) rfl dX7_isUnder_4 rfl ?_
    refine aw_bipush (npc := 7) (v := 6) (by decide) dX7_isUnder_5 rfl ?_
    refine aw_icmp_ge (npc := 10) (tgt := 36) dX7_isUnder_7 rfl (by decide) (fun hc => absurd hc (by decide)) (fun _ => ?_)
    refine aw_iload_n (npc := 11) rfl dX7_isUnder_10 rfl ?_
    refine aw_callS (npc := 14) (N := mX7_isKind) (mc := 0) (ms := 0) (A := [.int 1]) (S := []) (L0 := [some (.int 1)]) dX7_isUnder_11 rfl km_X7_isKind kk_X7_67 rfl ⟨rfl, by decide⟩ rfl (Nat.le_of_ble_eq_true rfl) (Nat.zero_add _) (Nat.zero_add _) rfl ?_
    refine c_X7_isKind (fun _ => ?_) (fun hw21 => absurd ⟨by decide, by decide⟩ hw21)
    refine aw_re (S' := [.int 1]) rfl ?_
    refine aw_if_eq (npc := 17) (tgt := 36) dX7_isUnder_14 rfl (by decide) (fun hc => absurd hc (by decide)) (fun _ => ?_)
    refine aw_iload_n (npc := 18) rfl dX7_isUnder_17 rfl ?_
    refine aw_iload_n (npc := 19) rfl dX7_isUnder_18 rfl ?_
    refine aw_icmp_ne (npc := 22) (tgt := 24) dX7_isUnder_19 rfl (by decide) (fun _ => ?_) (fun hc => absurd hc (by decide))
    refine aw_above (npc := 27) dX7_isUnder_24 rfl ks_X7_322 ?_
    refine aw_iload_n (npc := 28) rfl dX7_isUnder_27 rfl ?_
    refine aw_above_ld (npc := 29) (j := 1) dX7_isUnder_28 rfl ⟨by decide, by decide⟩ rfl ?_
    refine aw_istore_n (npc := 30) (L' := [some (.int 1), some (.int 4), some (.int 0), some (.int 0)]) dX7_isUnder_29 rfl (by decide) rfl rfl ?_
    refine aw_iinc (npc := 33) (v := 1) (L' := [some (.int 1), some (.int 4), some (.int 0), some (.int 1)]) dX7_isUnder_30 rfl rfl (by decide) (by decide) rfl rfl ?_
    refine aw_goto (npc := 4) dX7_isUnder_33 (by decide) ?_
    refine aw_iload_n (npc := 5) rfl dX7_isUnder_4 rfl ?_
    refine aw_bipush (npc := 7) (v := 6) (by decide) dX7_isUnder_5 rfl ?_
    refine aw_icmp_ge (npc := 10) (tgt := 36) dX7_isUnder_7 rfl (by decide) (fun hc => absurd hc (by decide)) (fun _ => ?_)
    refine aw_iload_n (npc := 11) rfl dX7_isUnder_10 rfl ?_
    refine aw_callS (npc := 14) (N := mX7_isKind) (mc := 0) (ms := 0) (A := [.int 0]) (S := []) (L0 := [some (.int 0)]) dX7_isUnder_11 rfl km_X7_isKind kk_X7_67 rfl ⟨rfl, by decide⟩ rfl (Nat.le_of_ble_eq_true rfl) (Nat.zero_add _) (Nat.zero_add _) rfl ?_
    refine c_X7_isKind (fun _ => ?_) (fun hw22 => absurd ⟨by decide, by decide⟩ hw22)
    refine aw_re (S' := [.int 1]) rfl ?_
    refine aw_if_eq (npc := 17) (tgt := 36) dX7_isUnder_14 rfl (by decide) (fun hc => absurd hc (by decide)) (fun _ => ?_)
    refine aw_iload_n (npc := 18) rfl dX7_isUnder_17 rfl ?_
    refine aw_iload_n (npc := 19) rfl dX7_isUnder_18 rfl ?_
    refine aw_icmp_ne (npc := 22) (tgt := 24) dX7_isUnder_19 rfl (by decide) (fun _ => ?_) (fun hc => absurd hc (by decide))
    refine aw_above (npc := 27) dX7_isUnder_24 rfl ks_X7_322 ?_
    refine aw_iload_n (npc := 28) rfl dX7_isUnder_27 rfl ?_
    refine aw_above_ld (npc := 29) (j := 0) dX7_isUnder_28 rfl ⟨by decide, by decide⟩ rfl ?_
    refine aw_istore_n (npc := 30) (L' := [some (.int 1), some (.int 4), some (.int (-1)), some (.int 1)]) dX7_isUnder_29 rfl (by decide) rfl rfl ?_
    refine aw_iinc (npc := 33) (v := 2) (L' := [some (.int 1), some (.int 4), some (.int (-1)), some (.int 2)]) dX7_isUnder_30 rfl rfl (by decide) (by decide) rfl rfl ?_
    refine aw_goto (npc := 4) dX7_isUnder_33 (by decide) ?_
    refine aw_iload_n (npc := 5) rfl dX7_isUnder_4 rfl ?_
    refine aw_bipush (npc := 7) (v := 6) (by decide) dX7_isUnder_5 rfl ?_
    refine aw_icmp_ge (npc := 10) (tgt := 36) dX7_isUnder_7 rfl (by decide) (fun hc => absurd hc (by decide)) (fun _ => ?_)
    refine aw_iload_n (npc := 11) rfl dX7_isUnder_10 rfl ?_
    refine aw_callS (npc := 14) (N := mX7_isKind) (mc := 0) (ms := 0) (A := [.int (-1)]) (S := []) (L0 := [some (.int (-1))]) dX7_isUnder_11 rfl km_X7_isKind kk_X7_67 rfl ⟨rfl, by decide⟩ rfl (Nat.le_of_ble_eq_true rfl) (Nat.zero_add _) (Nat.zero_add _) rfl ?_
    refine c_X7_isKind (fun hw23 => absurd hw23 (fun z => absurd z (by unfold wi; decide))) (fun _ => ?_)
    refine aw_re (S' := [.int 0]) rfl ?_
    refine aw_if_eq (npc := 17) (tgt := 36) dX7_isUnder_14 rfl (by decide) (fun _ => ?_) (fun hc => absurd (by decide) hc)
    refine aw_iconst (npc := 37) (v := 0) (by decide) dX7_isUnder_36 rfl ?_
    refine aw_zret rfl rfl dX7_isUnder_37 ?_
    exact (show (if undr k g then (1 : Int32) else 0) = 0 by rw [ek, eg]; decide) ▸ hq
  · refine aw_locs (L' := [some (.int 1), some (.int 5), none, none]) (by rw [ek, eg]) ?_
    refine aw_iload_n (npc := 1) rfl dX7_isUnder_0 rfl ?_
    refine aw_istore_n (npc := 2) (L' := [some (.int 1), some (.int 5), some (.int 1), none]) dX7_isUnder_1 rfl (by decide) rfl rfl ?_
    refine aw_iconst (npc := 3) (v := 0) (by decide) dX7_isUnder_2 rfl ?_
    refine aw_istore_n (npc := 4) (L' := [some (.int 1), some (.int 5), some (.int 1), some (.int 0)]) dX7_isUnder_3 rfl (by decide) rfl rfl ?_
    refine aw_iload_n (npc := 5) rfl dX7_isUnder_4 rfl ?_
    refine aw_bipush (npc := 7) (v := 6) (by decide) dX7_isUnder_5 rfl ?_
    refine aw_icmp_ge (npc := 10) (tgt := 36) dX7_isUnder_7 rfl (by decide) (fun hc => absurd hc (by decide)) (fun _ => ?_)
    refine aw_iload_n (npc := 11) rfl dX7_isUnder_10 rfl ?_
    refine aw_callS (npc := 14) (N := mX7_isKind) (mc := 0) (ms := 0) (A := [.int 1]) (S := []) (L0 := [some (.int 1)]) dX7_isUnder_11 rfl km_X7_isKind kk_X7_67 rfl ⟨rfl, by decide⟩ rfl (Nat.le_of_ble_eq_true rfl) (Nat.zero_add _) (Nat.zero_add _) rfl ?_
    refine c_X7_isKind (fun _ => ?_) (fun hw24 => absurd ⟨by decide, by decide⟩ hw24)
    refine aw_re (S' := [.int 1]) rfl ?_
    refine aw_if_eq (npc := 17) (tgt := 36) dX7_isUnder_14 rfl (by decide) (fun hc => absurd hc (by decide)) (fun _ => ?_)
    refine aw_iload_n (npc := 18) rfl dX7_isUnder_17 rfl ?_
    refine aw_iload_n (npc := 19) rfl dX7_isUnder_18 rfl ?_
    refine aw_icmp_ne (npc := 22) (tgt := 24) dX7_isUnder_19 rfl (by decide) (fun _ => ?_) (fun hc => absurd hc (by decide))
    refine aw_above (npc := 27) dX7_isUnder_24 rfl ks_X7_322 ?_
    refine aw_iload_n (npc := 28) rfl dX7_isUnder_27 rfl ?_
    refine aw_above_ld (npc := 29) (j := 1) dX7_isUnder_28 rfl ⟨by decide, by decide⟩ rfl ?_
    refine aw_istore_n (npc := 30) (L' := [some (.int 1), some (.int 5), some (.int 0), some (.int 0)]) dX7_isUnder_29 rfl (by decide) rfl rfl ?_
    refine aw_iinc (npc := 33) (v := 1) (L' := [some (.int 1), some (.int 5), some (.int 0), some (.int 1)]) dX7_isUnder_30 rfl rfl (by decide) (by decide) rfl rfl ?_
    refine aw_goto (npc := 4) dX7_isUnder_33 (by decide) ?_
    refine aw_iload_n (npc := 5) rfl dX7_isUnder_4 rfl ?_
    refine aw_bipush (npc := 7) (v := 6) (by decide) dX7_isUnder_5 rfl ?_
    refine aw_icmp_ge (npc := 10) (tgt := 36) dX7_isUnder_7 rfl (by decide) (fun hc => absurd hc (by decide)) (fun _ => ?_)
    refine aw_iload_n (npc := 11) rfl dX7_isUnder_10 rfl ?_
    refine aw_callS (npc := 14) (N := mX7_isKind) (mc := 0) (ms := 0) (A := [.int 0]) (S := []) (L0 := [some (.int 0)]) dX7_isUnder_11 rfl km_X7_isKind kk_X7_67 rfl ⟨rfl, by decide⟩ rfl (Nat.le_of_ble_eq_true rfl) (Nat.zero_add _) (Nat.zero_add _) rfl ?_
    refine c_X7_isKind (fun _ => ?_) (fun hw25 => absurd ⟨by decide, by decide⟩ hw25)
    refine aw_re (S' := [.int 1]) rfl ?_
    refine aw_if_eq (npc := 17) (tgt := 36) dX7_isUnder_14 rfl (by decide) (fun hc => absurd hc (by decide)) (fun _ => ?_)
    refine aw_iload_n (npc := 18) rfl dX7_isUnder_17 rfl ?_
    refine aw_iload_n (npc := 19) rfl dX7_isUnder_18 rfl ?_
    refine aw_icmp_ne (npc := 22) (tgt := 24) dX7_isUnder_19 rfl (by decide) (fun _ => ?_) (fun hc => absurd hc (by decide))
    refine aw_above (npc := 27) dX7_isUnder_24 rfl ks_X7_322 ?_
    refine aw_iload_n (npc := 28) rfl dX7_isUnder_27 rfl ?_
    refine aw_above_ld (npc := 29) (j := 0) dX7_isUnder_28 rfl ⟨by decide, by decide⟩ rfl ?_
    refine aw_istore_n (npc := 30) (L' := [some (.int 1), some (.int 5), some (.int (-1)), some (.int 1)]) dX7_isUnder_29 rfl (by decide) rfl rfl ?_
    refine aw_iinc (npc := 33) (v := 2) (L' := [some (.int 1), some (.int 5), some (.int (-1)), some (.int 2)]) dX7_isUnder_30 rfl rfl (by decide) (by decide) rfl rfl ?_
    refine aw_goto (npc := 4) dX7_isUnder_33 (by decide) ?_
    refine aw_iload_n (npc := 5) rfl dX7_isUnder_4 rfl ?_
    refine aw_bipush (npc := 7) (v := 6) (by decide) dX7_isUnder_5 rfl ?_
    refine aw_icmp_ge (npc := 10) (tgt := 36) dX7_isUnder_7 rfl (by decide) (fun hc => absurd hc (by decide)) (fun _ => ?_)
    refine aw_iload_n (npc := 11) rfl dX7_isUnder_10 rfl ?_
    refine aw_callS (npc := 14) (N := mX7_isKind) (mc := 0) (ms := 0) (A := [.int (-1)]) (S := []) (L0 := [some (.int (-1))]) dX7_isUnder_11 rfl km_X7_isKind kk_X7_67 rfl ⟨rfl, by decide⟩ rfl (Nat.le_of_ble_eq_true rfl) (Nat.zero_add _) (Nat.zero_add _) rfl ?_
    refine c_X7_isKind (fun hw26 => absurd hw26 (fun z => absurd z (by unfold wi; decide))) (fun _ => ?_)
    refine aw_re (S' := [.int 0]) rfl ?_
    refine aw_if_eq (npc := 17) (tgt := 36) dX7_isUnder_14 rfl (by decide) (fun _ => ?_) (fun hc => absurd (by decide) hc)
    refine aw_iconst (npc := 37) (v := 0) (by decide) dX7_isUnder_36 rfl ?_
    refine aw_zret rfl rfl dX7_isUnder_37 ?_
    exact (show (if undr k g then (1 : Int32) else 0) = 0 by rw [ek, eg]; decide) ▸ hq
  · refine aw_locs (L' := [some (.int 2), some (.int 0), none, none]) (by rw [ek, eg]) ?_
    refine aw_iload_n (npc := 1) rfl dX7_isUnder_0 rfl ?_
    refine aw_istore_n (npc := 2) (L' := [some (.int 2), some (.int 0), some (.int 2), none]) dX7_isUnder_1 rfl (by decide) rfl rfl ?_
    refine aw_iconst (npc := 3) (v := 0) (by decide) dX7_isUnder_2 rfl ?_
    refine aw_istore_n (npc := 4) (L' := [some (.int 2), some (.int 0), some (.int 2), some (.int 0)]) dX7_isUnder_3 rfl (by decide) rfl rfl ?_
    refine aw_iload_n (npc := 5) rfl dX7_isUnder_4 rfl ?_
    refine aw_bipush (npc := 7) (v := 6) (by decide) dX7_isUnder_5 rfl ?_
    refine aw_icmp_ge (npc := 10) (tgt := 36) dX7_isUnder_7 rfl (by decide) (fun hc => absurd hc (by decide)) (fun _ => ?_)
    refine aw_iload_n (npc := 11) rfl dX7_isUnder_10 rfl ?_
    refine aw_callS (npc := 14) (N := mX7_isKind) (mc := 0) (ms := 0) (A := [.int 2]) (S := []) (L0 := [some (.int 2)]) dX7_isUnder_11 rfl km_X7_isKind kk_X7_67 rfl ⟨rfl, by decide⟩ rfl (Nat.le_of_ble_eq_true rfl) (Nat.zero_add _) (Nat.zero_add _) rfl ?_
    refine c_X7_isKind (fun _ => ?_) (fun hw27 => absurd ⟨by decide, by decide⟩ hw27)
    refine aw_re (S' := [.int 1]) rfl ?_
    refine aw_if_eq (npc := 17) (tgt := 36) dX7_isUnder_14 rfl (by decide) (fun hc => absurd hc (by decide)) (fun _ => ?_)
    refine aw_iload_n (npc := 18) rfl dX7_isUnder_17 rfl ?_
    refine aw_iload_n (npc := 19) rfl dX7_isUnder_18 rfl ?_
    refine aw_icmp_ne (npc := 22) (tgt := 24) dX7_isUnder_19 rfl (by decide) (fun _ => ?_) (fun hc => absurd hc (by decide))
    refine aw_above (npc := 27) dX7_isUnder_24 rfl ks_X7_322 ?_
    refine aw_iload_n (npc := 28) rfl dX7_isUnder_27 rfl ?_
    refine aw_above_ld (npc := 29) (j := 2) dX7_isUnder_28 rfl ⟨by decide, by decide⟩ rfl ?_
    refine aw_istore_n (npc := 30) (L' := [some (.int 2), some (.int 0), some (.int 0), some (.int 0)]) dX7_isUnder_29 rfl (by decide) rfl rfl ?_
    refine aw_iinc (npc := 33) (v := 1) (L' := [some (.int 2), some (.int 0), some (.int 0), some (.int 1)]) dX7_isUnder_30 rfl rfl (by decide) (by decide) rfl rfl ?_
    refine aw_goto (npc := 4) dX7_isUnder_33 (by decide) ?_
    refine aw_iload_n (npc := 5) rfl dX7_isUnder_4 rfl ?_
    refine aw_bipush (npc := 7) (v := 6) (by decide) dX7_isUnder_5 rfl ?_
    refine aw_icmp_ge (npc := 10) (tgt := 36) dX7_isUnder_7 rfl (by decide) (fun hc => absurd hc (by decide)) (fun _ => ?_)
    refine aw_iload_n (npc := 11) rfl dX7_isUnder_10 rfl ?_
    refine aw_callS (npc := 14) (N := mX7_isKind) (mc := 0) (ms := 0) (A := [.int 0]) (S := []) (L0 := [some (.int 0)]) dX7_isUnder_11 rfl km_X7_isKind kk_X7_67 rfl ⟨rfl, by decide⟩ rfl (Nat.le_of_ble_eq_true rfl) (Nat.zero_add _) (Nat.zero_add _) rfl ?_
    refine c_X7_isKind (fun _ => ?_) (fun hw28 => absurd ⟨by decide, by decide⟩ hw28)
    refine aw_re (S' := [.int 1]) rfl ?_
    refine aw_if_eq (npc := 17) (tgt := 36) dX7_isUnder_14 rfl (by decide) (fun hc => absurd hc (by decide)) (fun _ => ?_)
    refine aw_iload_n (npc := 18) rfl dX7_isUnder_17 rfl ?_
    refine aw_iload_n (npc := 19) rfl dX7_isUnder_18 rfl ?_
    refine aw_icmp_ne (npc := 22) (tgt := 24) dX7_isUnder_19 rfl (by decide) (fun hc => absurd (by decide) hc) (fun _ => ?_)
    refine aw_iconst (npc := 23) (v := 1) (by decide) dX7_isUnder_22 rfl ?_
    refine aw_zret rfl rfl dX7_isUnder_23 ?_
    exact (show (if undr k g then (1 : Int32) else 0) = 1 by rw [ek, eg]; decide) ▸ hq
  · refine aw_locs (L' := [some (.int 2), some (.int 1), none, none]) (by rw [ek, eg]) ?_
    refine aw_iload_n (npc := 1) rfl dX7_isUnder_0 rfl ?_
    refine aw_istore_n (npc := 2) (L' := [some (.int 2), some (.int 1), some (.int 2), none]) dX7_isUnder_1 rfl (by decide) rfl rfl ?_
    refine aw_iconst (npc := 3) (v := 0) (by decide) dX7_isUnder_2 rfl ?_
    refine aw_istore_n (npc := 4) (L' := [some (.int 2), some (.int 1), some (.int 2), some (.int 0)]) dX7_isUnder_3 rfl (by decide) rfl rfl ?_
    refine aw_iload_n (npc := 5) rfl dX7_isUnder_4 rfl ?_
    refine aw_bipush (npc := 7) (v := 6) (by decide) dX7_isUnder_5 rfl ?_
    refine aw_icmp_ge (npc := 10) (tgt := 36) dX7_isUnder_7 rfl (by decide) (fun hc => absurd hc (by decide)) (fun _ => ?_)
    refine aw_iload_n (npc := 11) rfl dX7_isUnder_10 rfl ?_
    refine aw_callS (npc := 14) (N := mX7_isKind) (mc := 0) (ms := 0) (A := [.int 2]) (S := []) (L0 := [some (.int 2)]) dX7_isUnder_11 rfl km_X7_isKind kk_X7_67 rfl ⟨rfl, by decide⟩ rfl (Nat.le_of_ble_eq_true rfl) (Nat.zero_add _) (Nat.zero_add _) rfl ?_
    refine c_X7_isKind (fun _ => ?_) (fun hw29 => absurd ⟨by decide, by decide⟩ hw29)
    refine aw_re (S' := [.int 1]) rfl ?_
    refine aw_if_eq (npc := 17) (tgt := 36) dX7_isUnder_14 rfl (by decide) (fun hc => absurd hc (by decide)) (fun _ => ?_)
    refine aw_iload_n (npc := 18) rfl dX7_isUnder_17 rfl ?_
    refine aw_iload_n (npc := 19) rfl dX7_isUnder_18 rfl ?_
    refine aw_icmp_ne (npc := 22) (tgt := 24) dX7_isUnder_19 rfl (by decide) (fun _ => ?_) (fun hc => absurd hc (by decide))
    refine aw_above (npc := 27) dX7_isUnder_24 rfl ks_X7_322 ?_
    refine aw_iload_n (npc := 28) rfl dX7_isUnder_27 rfl ?_
    refine aw_above_ld (npc := 29) (j := 2) dX7_isUnder_28 rfl ⟨by decide, by decide⟩ rfl ?_
    refine aw_istore_n (npc := 30) (L' := [some (.int 2), some (.int 1), some (.int 0), some (.int 0)]) dX7_isUnder_29 rfl (by decide) rfl rfl ?_
    refine aw_iinc (npc := 33) (v := 1) (L' := [some (.int 2), some (.int 1), some (.int 0), some (.int 1)]) dX7_isUnder_30 rfl rfl (by decide) (by decide) rfl rfl ?_
    refine aw_goto (npc := 4) dX7_isUnder_33 (by decide) ?_
    refine aw_iload_n (npc := 5) rfl dX7_isUnder_4 rfl ?_
    refine aw_bipush (npc := 7) (v := 6) (by decide) dX7_isUnder_5 rfl ?_
    refine aw_icmp_ge (npc := 10) (tgt := 36) dX7_isUnder_7 rfl (by decide) (fun hc => absurd hc (by decide)) (fun _ => ?_)
    refine aw_iload_n (npc := 11) rfl dX7_isUnder_10 rfl ?_
    refine aw_callS (npc := 14) (N := mX7_isKind) (mc := 0) (ms := 0) (A := [.int 0]) (S := []) (L0 := [some (.int 0)]) dX7_isUnder_11 rfl km_X7_isKind kk_X7_67 rfl ⟨rfl, by decide⟩ rfl (Nat.le_of_ble_eq_true rfl) (Nat.zero_add _) (Nat.zero_add _) rfl ?_
    refine c_X7_isKind (fun _ => ?_) (fun hw30 => absurd ⟨by decide, by decide⟩ hw30)
    refine aw_re (S' := [.int 1]) rfl ?_
    refine aw_if_eq (npc := 17) (tgt := 36) dX7_isUnder_14 rfl (by decide) (fun hc => absurd hc (by decide)) (fun _ => ?_)
    refine aw_iload_n (npc := 18) rfl dX7_isUnder_17 rfl ?_
    refine aw_iload_n (npc := 19) rfl dX7_isUnder_18 rfl ?_
    refine aw_icmp_ne (npc := 22) (tgt := 24) dX7_isUnder_19 rfl (by decide) (fun _ => ?_) (fun hc => absurd hc (by decide))
    refine aw_above (npc := 27) dX7_isUnder_24 rfl ks_X7_322 ?_
    refine aw_iload_n (npc := 28) rfl dX7_isUnder_27 rfl ?_
    refine aw_above_ld (npc := 29) (j := 0) dX7_isUnder_28 rfl ⟨by decide, by decide⟩ rfl ?_
    refine aw_istore_n (npc := 30) (L' := [some (.int 2), some (.int 1), some (.int (-1)), some (.int 1)]) dX7_isUnder_29 rfl (by decide) rfl rfl ?_
    refine aw_iinc (npc := 33) (v := 2) (L' := [some (.int 2), some (.int 1), some (.int (-1)), some (.int 2)]) dX7_isUnder_30 rfl rfl (by decide) (by decide) rfl rfl ?_
    refine aw_goto (npc := 4) dX7_isUnder_33 (by decide) ?_
    refine aw_iload_n (npc := 5) rfl dX7_isUnder_4 rfl ?_
    refine aw_bipush (npc := 7) (v := 6) (by decide) dX7_isUnder_5 rfl ?_
    refine aw_icmp_ge (npc := 10) (tgt := 36) dX7_isUnder_7 rfl (by decide) (fun hc => absurd hc (by decide)) (fun _ => ?_)
    refine aw_iload_n (npc := 11) rfl dX7_isUnder_10 rfl ?_
    refine aw_callS (npc := 14) (N := mX7_isKind) (mc := 0) (ms := 0) (A := [.int (-1)]) (S := []) (L0 := [some (.int (-1))]) dX7_isUnder_11 rfl km_X7_isKind kk_X7_67 rfl ⟨rfl, by decide⟩ rfl (Nat.le_of_ble_eq_true rfl) (Nat.zero_add _) (Nat.zero_add _) rfl ?_
    refine c_X7_isKind (fun hw31 => absurd hw31 (fun z => absurd z (by unfold wi; decide))) (fun _ => ?_)
    refine aw_re (S' := [.int 0]) rfl ?_
    refine aw_if_eq (npc := 17) (tgt := 36) dX7_isUnder_14 rfl (by decide) (fun _ => ?_) (fun hc => absurd (by decide) hc)
    refine aw_iconst (npc := 37) (v := 0) (by decide) dX7_isUnder_36 rfl ?_
    refine aw_zret rfl rfl dX7_isUnder_37 ?_
    exact (show (if undr k g then (1 : Int32) else 0) = 0 by rw [ek, eg]; decide) ▸ hq
  · refine aw_locs (L' := [some (.int 2), some (.int 2), none, none]) (by rw [ek, eg]) ?_
    refine aw_iload_n (npc := 1) rfl dX7_isUnder_0 rfl ?_
    refine aw_istore_n (npc := 2) (L' := [some (.int 2), some (.int 2), some (.int 2), none]) dX7_isUnder_1 rfl (by decide) rfl rfl ?_
    refine aw_iconst (npc := 3) (v := 0) (by decide) dX7_isUnder_2 rfl ?_
    refine aw_istore_n (npc := 4) (L' := [some (.int 2), some (.int 2), some (.int 2), some (.int 0)]) dX7_isUnder_3 rfl (by decide) rfl rfl ?_
    refine aw_iload_n (npc := 5) rfl dX7_isUnder_4 rfl ?_
    refine aw_bipush (npc := 7) (v := 6) (by decide) dX7_isUnder_5 rfl ?_
    refine aw_icmp_ge (npc := 10) (tgt := 36) dX7_isUnder_7 rfl (by decide) (fun hc => absurd hc (by decide)) (fun _ => ?_)
    refine aw_iload_n (npc := 11) rfl dX7_isUnder_10 rfl ?_
    refine aw_callS (npc := 14) (N := mX7_isKind) (mc := 0) (ms := 0) (A := [.int 2]) (S := []) (L0 := [some (.int 2)]) dX7_isUnder_11 rfl km_X7_isKind kk_X7_67 rfl ⟨rfl, by decide⟩ rfl (Nat.le_of_ble_eq_true rfl) (Nat.zero_add _) (Nat.zero_add _) rfl ?_
    refine c_X7_isKind (fun _ => ?_) (fun hw32 => absurd ⟨by decide, by decide⟩ hw32)
    refine aw_re (S' := [.int 1]) rfl ?_
    refine aw_if_eq (npc := 17) (tgt := 36) dX7_isUnder_14 rfl (by decide) (fun hc => absurd hc (by decide)) (fun _ => ?_)
    refine aw_iload_n (npc := 18) rfl dX7_isUnder_17 rfl ?_
    refine aw_iload_n (npc := 19) rfl dX7_isUnder_18 rfl ?_
    refine aw_icmp_ne (npc := 22) (tgt := 24) dX7_isUnder_19 rfl (by decide) (fun hc => absurd (by decide) hc) (fun _ => ?_)
    refine aw_iconst (npc := 23) (v := 1) (by decide) dX7_isUnder_22 rfl ?_
    refine aw_zret rfl rfl dX7_isUnder_23 ?_
    exact (show (if undr k g then (1 : Int32) else 0) = 1 by rw [ek, eg]; decide) ▸ hq
  · refine aw_locs (L' := [some (.int 2), some (.int 3), none, none]) (by rw [ek, eg]) ?_
    refine aw_iload_n (npc := 1) rfl dX7_isUnder_0 rfl ?_
    refine aw_istore_n (npc := 2) (L' := [some (.int 2), some (.int 3), some (.int 2), none]) dX7_isUnder_1 rfl (by decide) rfl rfl ?_
    refine aw_iconst (npc := 3) (v := 0) (by decide) dX7_isUnder_2 rfl ?_
    refine aw_istore_n (npc := 4) (L' := [some (.int 2), some (.int 3), some (.int 2), some (.int 0)]) dX7_isUnder_3 rfl (by decide) rfl rfl ?_
    refine aw_iload_n (npc := 5) rfl dX7_isUnder_4 rfl ?_
    refine aw_bipush (npc := 7) (v := 6) (by decide) dX7_isUnder_5 rfl ?_
    refine aw_icmp_ge (npc := 10) (tgt := 36) dX7_isUnder_7 rfl (by decide) (fun hc => absurd hc (by decide)) (fun _ => ?_)
    refine aw_iload_n (npc := 11) rfl dX7_isUnder_10 rfl ?_
    refine aw_callS (npc := 14) (N := mX7_isKind) (mc := 0) (ms := 0) (A := [.int 2]) (S := []) (L0 := [some (.int 2)]) dX7_isUnder_11 rfl km_X7_isKind kk_X7_67 rfl ⟨rfl, by decide⟩ rfl (Nat.le_of_ble_eq_true rfl) (Nat.zero_add _) (Nat.zero_add _) rfl ?_
    refine c_X7_isKind (fun _ => ?_) (fun hw33 => absurd ⟨by decide, by decide⟩ hw33)
    refine aw_re (S' := [.int 1]) rfl ?_
    refine aw_if_eq (npc := 17) (tgt := 36) dX7_isUnder_14 rfl (by decide) (fun hc => absurd hc (by decide)) (fun _ => ?_)
    refine aw_iload_n (npc := 18) rfl dX7_isUnder_17 rfl ?_
    refine aw_iload_n (npc := 19) rfl dX7_isUnder_18 rfl ?_
    refine aw_icmp_ne (npc := 22) (tgt := 24) dX7_isUnder_19 rfl (by decide) (fun _ => ?_) (fun hc => absurd hc (by decide))
    refine aw_above (npc := 27) dX7_isUnder_24 rfl ks_X7_322 ?_
    refine aw_iload_n (npc := 28) rfl dX7_isUnder_27 rfl ?_
    refine aw_above_ld (npc := 29) (j := 2) dX7_isUnder_28 rfl ⟨by decide, by decide⟩ rfl ?_
    refine aw_istore_n (npc := 30) (L' := [some (.int 2), some (.int 3), some (.int 0), some (.int 0)]) dX7_isUnder_29 rfl (by decide) rfl rfl ?_
    refine aw_iinc (npc := 33) (v := 1) (L' := [some (.int 2), some (.int 3), some (.int 0), some (.int 1)]) dX7_isUnder_30 rfl rfl (by decide) (by decide) rfl rfl ?_
    refine aw_goto (npc := 4) dX7_isUnder_33 (by decide) ?_
    refine aw_iload_n (npc := 5) rfl dX7_isUnder_4 rfl ?_
    refine aw_bipush (npc := 7) (v := 6) (by decide) dX7_isUnder_5 rfl ?_
    refine aw_icmp_ge (npc := 10) (tgt := 36) dX7_isUnder_7 rfl (by decide) (fun hc => absurd hc (by decide)) (fun _ => ?_)
    refine aw_iload_n (npc := 11) rfl dX7_isUnder_10 rfl ?_
    refine aw_callS (npc := 14) (N := mX7_isKind) (mc := 0) (ms := 0) (A := [.int 0]) (S := []) (L0 := [some (.int 0)]) dX7_isUnder_11 rfl km_X7_isKind kk_X7_67 rfl ⟨rfl, by decide⟩ rfl (Nat.le_of_ble_eq_true rfl) (Nat.zero_add _) (Nat.zero_add _) rfl ?_
    refine c_X7_isKind (fun _ => ?_) (fun hw34 => absurd ⟨by decide, by decide⟩ hw34)
    refine aw_re (S' := [.int 1]) rfl ?_
    refine aw_if_eq (npc := 17) (tgt := 36) dX7_isUnder_14 rfl (by decide) (fun hc => absurd hc (by decide)) (fun _ => ?_)
    refine aw_iload_n (npc := 18) rfl dX7_isUnder_17 rfl ?_
    refine aw_iload_n (npc := 19) rfl dX7_isUnder_18 rfl ?_
    refine aw_icmp_ne (npc := 22) (tgt := 24) dX7_isUnder_19 rfl (by decide) (fun _ => ?_) (fun hc => absurd hc (by decide))
    refine aw_above (npc := 27) dX7_isUnder_24 rfl ks_X7_322 ?_
    refine aw_iload_n (npc := 28) rfl dX7_isUnder_27 rfl ?_
    refine aw_above_ld (npc := 29) (j := 0) dX7_isUnder_28 rfl ⟨by decide, by decide⟩ rfl ?_
    refine aw_istore_n (npc := 30) (L' := [some (.int 2), some (.int 3), some (.int (-1)), some (.int 1)]) dX7_isUnder_29 rfl (by decide) rfl rfl ?_
    refine aw_iinc (npc := 33) (v := 2) (L' := [some (.int 2), some (.int 3), some (.int (-1)), some (.int 2)]) dX7_isUnder_30 rfl rfl (by decide) (by decide) rfl rfl ?_
    refine aw_goto (npc := 4) dX7_isUnder_33 (by decide) ?_
    refine aw_iload_n (npc := 5) rfl dX7_isUnder_4 rfl ?_
    refine aw_bipush (npc := 7) (v := 6) (by decide) dX7_isUnder_5 rfl ?_
    refine aw_icmp_ge (npc := 10) (tgt := 36) dX7_isUnder_7 rfl (by decide) (fun hc => absurd hc (by decide)) (fun _ => ?_)
    refine aw_iload_n (npc := 11) rfl dX7_isUnder_10 rfl ?_
    refine aw_callS (npc := 14) (N := mX7_isKind) (mc := 0) (ms := 0) (A := [.int (-1)]) (S := []) (L0 := [some (.int (-1))]) dX7_isUnder_11 rfl km_X7_isKind kk_X7_67 rfl ⟨rfl, by decide⟩ rfl (Nat.le_of_ble_eq_true rfl) (Nat.zero_add _) (Nat.zero_add _) rfl ?_
    refine c_X7_isKind (fun hw35 => absurd hw35 (fun z => absurd z (by unfold wi; decide))) (fun _ => ?_)
    refine aw_re (S' := [.int 0]) rfl ?_
    refine aw_if_eq (npc := 17) (tgt := 36) dX7_isUnder_14 rfl (by decide) (fun _ => ?_) (fun hc => absurd (by decide) hc)
    refine aw_iconst (npc := 37) (v := 0) (by decide) dX7_isUnder_36 rfl ?_
    refine aw_zret rfl rfl dX7_isUnder_37 ?_
    exact (show (if undr k g then (1 : Int32) else 0) = 0 by rw [ek, eg]; decide) ▸ hq
  · refine aw_locs (L' := [some (.int 2), some (.int 4), none, none]) (by rw [ek, eg]) ?_
    refine aw_iload_n (npc := 1) rfl dX7_isUnder_0 rfl ?_
    refine aw_istore_n (npc := 2) (L' := [some (.int 2), some (.int 4), some (.int 2), none]) dX7_isUnder_1 rfl (by decide) rfl rfl ?_
    refine aw_iconst (npc := 3) (v := 0) (by decide) dX7_isUnder_2 rfl ?_
    refine aw_istore_n (npc := 4) (L' := [some (.int 2), some (.int 4), some (.int 2), some (.int 0)]) dX7_isUnder_3 rfl (by decide) rfl rfl ?_
    refine aw_iload_n (npc := 5) rfl dX7_isUnder_4 rfl ?_
    refine aw_bipush (npc := 7) (v := 6) (by decide) dX7_isUnder_5 rfl ?_
    refine aw_icmp_ge (npc := 10) (tgt := 36) dX7_isUnder_7 rfl (by decide) (fun hc => absurd hc (by decide)) (fun _ => ?_)
    refine aw_iload_n (npc := 11) rfl dX7_isUnder_10 rfl ?_
    refine aw_callS (npc := 14) (N := mX7_isKind) (mc := 0) (ms := 0) (A := [.int 2]) (S := []) (L0 := [some (.int 2)]) dX7_isUnder_11 rfl km_X7_isKind kk_X7_67 rfl ⟨rfl, by decide⟩ rfl (Nat.le_of_ble_eq_true rfl) (Nat.zero_add _) (Nat.zero_add _) rfl ?_
    refine c_X7_isKind (fun _ => ?_) (fun hw36 => absurd ⟨by decide, by decide⟩ hw36)
    refine aw_re (S' := [.int 1]) rfl ?_
    refine aw_if_eq (npc := 17) (tgt := 36) dX7_isUnder_14 rfl (by decide) (fun hc => absurd hc (by decide)) (fun _ => ?_)
    refine aw_iload_n (npc := 18) rfl dX7_isUnder_17 rfl ?_
    refine aw_iload_n (npc := 19) rfl dX7_isUnder_18 rfl ?_
    refine aw_icmp_ne (npc := 22) (tgt := 24) dX7_isUnder_19 rfl (by decide) (fun _ => ?_) (fun hc => absurd hc (by decide))
    refine aw_above (npc := 27) dX7_isUnder_24 rfl ks_X7_322 ?_
    refine aw_iload_n (npc := 28) rfl dX7_isUnder_27 rfl ?_
    refine aw_above_ld (npc := 29) (j := 2) dX7_isUnder_28 rfl ⟨by decide, by decide⟩ rfl ?_
    refine aw_istore_n (npc := 30) (L' := [some (.int 2), some (.int 4), some (.int 0), some (.int 0)]) dX7_isUnder_29 rfl (by decide) rfl rfl ?_
    refine aw_iinc (npc := 33) (v := 1) (L' := [some (.int 2), some (.int 4), some (.int 0), some (.int 1)]) dX7_isUnder_30 rfl rfl (by decide) (by decide) rfl rfl ?_
    refine aw_goto (npc := 4) dX7_isUnder_33 (by decide) ?_
    refine aw_iload_n (npc := 5) rfl dX7_isUnder_4 rfl ?_
    refine aw_bipush (npc := 7) (v := 6) (by decide) dX7_isUnder_5 rfl ?_
    refine aw_icmp_ge (npc := 10) (tgt := 36) dX7_isUnder_7 rfl (by decide) (fun hc => absurd hc (by decide)) (fun _ => ?_)
    refine aw_iload_n (npc := 11) rfl dX7_isUnder_10 rfl ?_
    refine aw_callS (npc := 14) (N := mX7_isKind) (mc := 0) (ms := 0) (A := [.int 0]) (S := []) (L0 := [some (.int 0)]) dX7_isUnder_11 rfl km_X7_isKind kk_X7_67 rfl ⟨rfl, by decide⟩ rfl (Nat.le_of_ble_eq_true rfl) (Nat.zero_add _) (Nat.zero_add _) rfl ?_
    refine c_X7_isKind (fun _ => ?_) (fun hw37 => absurd ⟨by decide, by decide⟩ hw37)
    refine aw_re (S' := [.int 1]) rfl ?_
    refine aw_if_eq (npc := 17) (tgt := 36) dX7_isUnder_14 rfl (by decide) (fun hc => absurd hc (by decide)) (fun _ => ?_)
    refine aw_iload_n (npc := 18) rfl dX7_isUnder_17 rfl ?_
    refine aw_iload_n (npc := 19) rfl dX7_isUnder_18 rfl ?_
    refine aw_icmp_ne (npc := 22) (tgt := 24) dX7_isUnder_19 rfl (by decide) (fun _ => ?_) (fun hc => absurd hc (by decide))
    refine aw_above (npc := 27) dX7_isUnder_24 rfl ks_X7_322 ?_
    refine aw_iload_n (npc := 28) rfl dX7_isUnder_27 rfl ?_
    refine aw_above_ld (npc := 29) (j := 0) dX7_isUnder_28 rfl ⟨by decide, by decide⟩ rfl ?_
    refine aw_istore_n (npc := 30) (L' := [some (.int 2), some (.int 4), some (.int (-1)), some (.int 1)]) dX7_isUnder_29 rfl (by decide) rfl rfl ?_
    refine aw_iinc (npc := 33) (v := 2) (L' := [some (.int 2), some (.int 4), some (.int (-1)), some (.int 2)]) dX7_isUnder_30 rfl rfl (by decide) (by decide) rfl rfl ?_
    refine aw_goto (npc := 4) dX7_isUnder_33 (by decide) ?_
    refine aw_iload_n (npc := 5) rfl dX7_isUnder_4 rfl ?_
    refine aw_bipush (npc := 7) (v := 6) (by decide) dX7_isUnder_5 rfl ?_
    refine aw_icmp_ge (npc := 10) (tgt := 36) dX7_isUnder_7 rfl (by decide) (fun hc => absurd hc (by decide)) (fun _ => ?_)
    refine aw_iload_n (npc := 11) rfl dX7_isUnder_10 rfl ?_
    refine aw_callS (npc := 14) (N := mX7_isKind) (mc := 0) (ms := 0) (A := [.int (-1)]) (S := []) (L0 := [some (.int (-1))]) dX7_isUnder_11 rfl km_X7_isKind kk_X7_67 rfl ⟨rfl, by decide⟩ rfl (Nat.le_of_ble_eq_true rfl) (Nat.zero_add _) (Nat.zero_add _) rfl ?_
    refine c_X7_isKind (fun hw38 => absurd hw38 (fun z => absurd z (by unfold wi; decide))) (fun _ => ?_)
    refine aw_re (S' := [.int 0]) rfl ?_
    refine aw_if_eq (npc := 17) (tgt := 36) dX7_isUnder_14 rfl (by decide) (fun _ => ?_) (fun hc => absurd (by decide) hc)
    refine aw_iconst (npc := 37) (v := 0) (by decide) dX7_isUnder_36 rfl ?_
    refine aw_zret rfl rfl dX7_isUnder_37 ?_
    exact (show (if undr k g then (1 : Int32) else 0) = 0 by rw [ek, eg]; decide) ▸ hq
  · refine aw_locs (L' := [some (.int 2), some (.int 5), none, none]) (by rw [ek, eg]) ?_
    refine aw_iload_n (npc := 1) rfl dX7_isUnder_0 rfl ?_
    refine aw_istore_n (npc := 2) (L' := [some (.int 2), some (.int 5), some (.int 2), none]) dX7_isUnder_1 rfl (by decide) rfl rfl ?_
    refine aw_iconst (npc := 3) (v := 0) (by decide) dX7_isUnder_2 rfl ?_
    refine aw_istore_n (npc := 4) (L' := [some (.int 2), some (.int 5), some (.int 2), some (.int 0)]) dX7_isUnder_3 rfl (by decide) rfl rfl ?_
    refine aw_iload_n (npc := 5) rfl dX7_isUnder_4 rfl ?_
    refine aw_bipush (npc := 7) (v := 6) (by decide) dX7_isUnder_5 rfl ?_
    refine aw_icmp_ge (npc := 10) (tgt := 36) dX7_isUnder_7 rfl (by decide) (fun hc => absurd hc (by decide)) (fun _ => ?_)
    refine aw_iload_n (npc := 11) rfl dX7_isUnder_10 rfl ?_
    refine aw_callS (npc := 14) (N := mX7_isKind) (mc := 0) (ms := 0) (A := [.int 2]) (S := []) (L0 := [some (.int 2)]) dX7_isUnder_11 rfl km_X7_isKind kk_X7_67 rfl ⟨rfl, by decide⟩ rfl (Nat.le_of_ble_eq_true rfl) (Nat.zero_add _) (Nat.zero_add _) rfl ?_
    refine c_X7_isKind (fun _ => ?_) (fun hw39 => absurd ⟨by decide, by decide⟩ hw39)
    refine aw_re (S' := [.int 1]) rfl ?_
    refine aw_if_eq (npc := 17) (tgt := 36) dX7_isUnder_14 rfl (by decide) (fun hc => absurd hc (by decide)) (fun _ => ?_)
    refine aw_iload_n (npc := 18) rfl dX7_isUnder_17 rfl ?_
    refine aw_iload_n (npc := 19) rfl dX7_isUnder_18 rfl ?_
    refine aw_icmp_ne (npc := 22) (tgt := 24) dX7_isUnder_19 rfl (by decide) (fun _ => ?_) (fun hc => absurd hc (by decide))
    refine aw_above (npc := 27) dX7_isUnder_24 rfl ks_X7_322 ?_
    refine aw_iload_n (npc := 28) rfl dX7_isUnder_27 rfl ?_
    refine aw_above_ld (npc := 29) (j := 2) dX7_isUnder_28 rfl ⟨by decide, by decide⟩ rfl ?_
    refine aw_istore_n (npc := 30) (L' := [some (.int 2), some (.int 5), some (.int 0), some (.int 0)]) dX7_isUnder_29 rfl (by decide) rfl rfl ?_
    refine aw_iinc (npc := 33) (v := 1) (L' := [some (.int 2), some (.int 5), some (.int 0), some (.int 1)]) dX7_isUnder_30 rfl rfl (by decide) (by decide) rfl rfl ?_
    refine aw_goto (npc := 4) dX7_isUnder_33 (by decide) ?_
    refine aw_iload_n (npc := 5) rfl dX7_isUnder_4 rfl ?_
    refine aw_bipush (npc := 7) (v := 6) (by decide) dX7_isUnder_5 rfl ?_
    refine aw_icmp_ge (npc := 10) (tgt := 36) dX7_isUnder_7 rfl (by decide) (fun hc => absurd hc (by decide)) (fun _ => ?_)
    refine aw_iload_n (npc := 11) rfl dX7_isUnder_10 rfl ?_
    refine aw_callS (npc := 14) (N := mX7_isKind) (mc := 0) (ms := 0) (A := [.int 0]) (S := []) (L0 := [some (.int 0)]) dX7_isUnder_11 rfl km_X7_isKind kk_X7_67 rfl ⟨rfl, by decide⟩ rfl (Nat.le_of_ble_eq_true rfl) (Nat.zero_add _) (Nat.zero_add _) rfl ?_
    refine c_X7_isKind (fun _ => ?_) (fun hw40 => absurd ⟨by decide, by decide⟩ hw40)
    refine aw_re (S' := [.int 1]) rfl ?_
    refine aw_if_eq (npc := 17) (tgt := 36) dX7_isUnder_14 rfl (by decide) (fun hc => absurd hc (by decide)) (fun _ => ?_)
    refine aw_iload_n (npc := 18) rfl dX7_isUnder_17 rfl ?_
    refine aw_iload_n (npc := 19) rfl dX7_isUnder_18 rfl ?_
    refine aw_icmp_ne (npc := 22) (tgt := 24) dX7_isUnder_19 rfl (by decide) (fun _ => ?_) (fun hc => absurd hc (by decide))
    refine aw_above (npc := 27) dX7_isUnder_24 rfl ks_X7_322 ?_
    refine aw_iload_n (npc := 28) rfl dX7_isUnder_27 rfl ?_
    refine aw_above_ld (npc := 29) (j := 0) dX7_isUnder_28 rfl ⟨by decide, by decide⟩ rfl ?_
    refine aw_istore_n (npc := 30) (L' := [some (.int 2), some (.int 5), some (.int (-1)), some (.int 1)]) dX7_isUnder_29 rfl (by decide) rfl rfl ?_
    refine aw_iinc (npc := 33) (v := 2) (L' := [some (.int 2), some (.int 5), some (.int (-1)), some (.int 2)]) dX7_isUnder_30 rfl rfl (by decide) (by decide) rfl rfl ?_
    refine aw_goto (npc := 4) dX7_isUnder_33 (by decide) ?_
    refine aw_iload_n (npc := 5) rfl dX7_isUnder_4 rfl ?_
    refine aw_bipush (npc := 7) (v := 6) (by decide) dX7_isUnder_5 rfl ?_
    refine aw_icmp_ge (npc := 10) (tgt := 36) dX7_isUnder_7 rfl (by decide) (fun hc => absurd hc (by decide)) (fun _ => ?_)
    refine aw_iload_n (npc := 11) rfl dX7_isUnder_10 rfl ?_
    refine aw_callS (npc := 14) (N := mX7_isKind) (mc := 0) (ms := 0) (A := [.int (-1)]) (S := []) (L0 := [some (.int (-1))]) dX7_isUnder_11 rfl km_X7_isKind kk_X7_67 rfl ⟨rfl, by decide⟩ rfl (Nat.le_of_ble_eq_true rfl) (Nat.zero_add _) (Nat.zero_add _) rfl ?_
    refine c_X7_isKind (fun hw41 => absurd hw41 (fun z => absurd z (by unfold wi; decide))) (fun _ => ?_)
    refine aw_re (S' := [.int 0]) rfl ?_
    refine aw_if_eq (npc := 17) (tgt := 36) dX7_isUnder_14 rfl (by decide) (fun _ => ?_) (fun hc => absurd (by decide) hc)
    refine aw_iconst (npc := 37) (v := 0) (by decide) dX7_isUnder_36 rfl ?_
    refine aw_zret rfl rfl dX7_isUnder_37 ?_
    exact (show (if undr k g then (1 : Int32) else 0) = 0 by rw [ek, eg]; decide) ▸ hq
  · refine aw_locs (L' := [some (.int 3), some (.int 0), none, none]) (by rw [ek, eg]) ?_
    refine aw_iload_n (npc := 1) rfl dX7_isUnder_0 rfl ?_
    refine aw_istore_n (npc := 2) (L' := [some (.int 3), some (.int 0), some (.int 3), none]) dX7_isUnder_1 rfl (by decide) rfl rfl ?_
    refine aw_iconst (npc := 3) (v := 0) (by decide) dX7_isUnder_2 rfl ?_
    refine aw_istore_n (npc := 4) (L' := [some (.int 3), some (.int 0), some (.int 3), some (.int 0)]) dX7_isUnder_3 rfl (by decide) rfl rfl ?_
    refine aw_iload_n (npc := 5) rfl dX7_isUnder_4 rfl ?_
    refine aw_bipush (npc := 7) (v := 6) (by decide) dX7_isUnder_5 rfl ?_
    refine aw_icmp_ge (npc := 10) (tgt := 36) dX7_isUnder_7 rfl (by decide) (fun hc => absurd hc (by decide)) (fun _ => ?_)
    refine aw_iload_n (npc := 11) rfl dX7_isUnder_10 rfl ?_
    refine aw_callS (npc := 14) (N := mX7_isKind) (mc := 0) (ms := 0) (A := [.int 3]) (S := []) (L0 := [some (.int 3)]) dX7_isUnder_11 rfl km_X7_isKind kk_X7_67 rfl ⟨rfl, by decide⟩ rfl (Nat.le_of_ble_eq_true rfl) (Nat.zero_add _) (Nat.zero_add _) rfl ?_
    refine c_X7_isKind (fun _ => ?_) (fun hw42 => absurd ⟨by decide, by decide⟩ hw42)
    refine aw_re (S' := [.int 1]) rfl ?_
    refine aw_if_eq (npc := 17) (tgt := 36) dX7_isUnder_14 rfl (by decide) (fun hc => absurd hc (by decide)) (fun _ => ?_)
    refine aw_iload_n (npc := 18) rfl dX7_isUnder_17 rfl ?_
    refine aw_iload_n (npc := 19) rfl dX7_isUnder_18 rfl ?_
    refine aw_icmp_ne (npc := 22) (tgt := 24) dX7_isUnder_19 rfl (by decide) (fun _ => ?_) (fun hc => absurd hc (by decide))
    refine aw_above (npc := 27) dX7_isUnder_24 rfl ks_X7_322 ?_
    refine aw_iload_n (npc := 28) rfl dX7_isUnder_27 rfl ?_
    refine aw_above_ld (npc := 29) (j := 3) dX7_isUnder_28 rfl ⟨by decide, by decide⟩ rfl ?_
    refine aw_istore_n (npc := 30) (L' := [some (.int 3), some (.int 0), some (.int 1), some (.int 0)]) dX7_isUnder_29 rfl (by decide) rfl rfl ?_
    refine aw_iinc (npc := 33) (v := 1) (L' := [some (.int 3), some (.int 0), some (.int 1), some (.int 1)]) dX7_isUnder_30 rfl rfl (by decide) (by decide) rfl rfl ?_
    refine aw_goto (npc := 4) dX7_isUnder_33 (by decide) ?_
    refine aw_iload_n (npc := 5) rfl dX7_isUnder_4 rfl ?_
    refine aw_bipush (npc := 7) (v := 6) (by decide) dX7_isUnder_5 rfl ?_
    refine aw_icmp_ge (npc := 10) (tgt := 36) dX7_isUnder_7 rfl (by decide) (fun hc => absurd hc (by decide)) (fun _ => ?_)
    refine aw_iload_n (npc := 11) rfl dX7_isUnder_10 rfl ?_
    refine aw_callS (npc := 14) (N := mX7_isKind) (mc := 0) (ms := 0) (A := [.int 1]) (S := []) (L0 := [some (.int 1)]) dX7_isUnder_11 rfl km_X7_isKind kk_X7_67 rfl ⟨rfl, by decide⟩ rfl (Nat.le_of_ble_eq_true rfl) (Nat.zero_add _) (Nat.zero_add _) rfl ?_
    refine c_X7_isKind (fun _ => ?_) (fun hw43 => absurd ⟨by decide, by decide⟩ hw43)
    refine aw_re (S' := [.int 1]) rfl ?_
    refine aw_if_eq (npc := 17) (tgt := 36) dX7_isUnder_14 rfl (by decide) (fun hc => absurd hc (by decide)) (fun _ => ?_)
    refine aw_iload_n (npc := 18) rfl dX7_isUnder_17 rfl ?_
    refine aw_iload_n (npc := 19) rfl dX7_isUnder_18 rfl ?_
    refine aw_icmp_ne (npc := 22) (tgt := 24) dX7_isUnder_19 rfl (by decide) (fun _ => ?_) (fun hc => absurd hc (by decide))
    refine aw_above (npc := 27) dX7_isUnder_24 rfl ks_X7_322 ?_
    refine aw_iload_n (npc := 28) rfl dX7_isUnder_27 rfl ?_
    refine aw_above_ld (npc := 29) (j := 1) dX7_isUnder_28 rfl ⟨by decide, by decide⟩ rfl ?_
    refine aw_istore_n (npc := 30) (L' := [some (.int 3), some (.int 0), some (.int 0), some (.int 1)]) dX7_isUnder_29 rfl (by decide) rfl rfl ?_
    refine aw_iinc (npc := 33) (v := 2) (L' := [some (.int 3), some (.int 0), some (.int 0), some (.int 2)]) dX7_isUnder_30 rfl rfl (by decide) (by decide) rfl rfl ?_
    refine aw_goto (npc := 4) dX7_isUnder_33 (by decide) ?_
    refine aw_iload_n (npc := 5) rfl dX7_isUnder_4 rfl ?_
    refine aw_bipush (npc := 7) (v := 6) (by decide) dX7_isUnder_5 rfl ?_
    refine aw_icmp_ge (npc := 10) (tgt := 36) dX7_isUnder_7 rfl (by decide) (fun hc => absurd hc (by decide)) (fun _ => ?_)
    refine aw_iload_n (npc := 11) rfl dX7_isUnder_10 rfl ?_
    refine aw_callS (npc := 14) (N := mX7_isKind) (mc := 0) (ms := 0) (A := [.int 0]) (S := []) (L0 := [some (.int 0)]) dX7_isUnder_11 rfl km_X7_isKind kk_X7_67 rfl ⟨rfl, by decide⟩ rfl (Nat.le_of_ble_eq_true rfl) (Nat.zero_add _) (Nat.zero_add _) rfl ?_
    refine c_X7_isKind (fun _ => ?_) (fun hw44 => absurd ⟨by decide, by decide⟩ hw44)
    refine aw_re (S' := [.int 1]) rfl ?_
    refine aw_if_eq (npc := 17) (tgt := 36) dX7_isUnder_14 rfl (by decide) (fun hc => absurd hc (by decide)) (fun _ => ?_)
    refine aw_iload_n (npc := 18) rfl dX7_isUnder_17 rfl ?_
    refine aw_iload_n (npc := 19) rfl dX7_isUnder_18 rfl ?_
    refine aw_icmp_ne (npc := 22) (tgt := 24) dX7_isUnder_19 rfl (by decide) (fun hc => absurd (by decide) hc) (fun _ => ?_)
    refine aw_iconst (npc := 23) (v := 1) (by decide) dX7_isUnder_22 rfl ?_
    refine aw_zret rfl rfl dX7_isUnder_23 ?_
    exact (show (if undr k g then (1 : Int32) else 0) = 1 by rw [ek, eg]; decide) ▸ hq
  · refine aw_locs (L' := [some (.int 3), some (.int 1), none, none]) (by rw [ek, eg]) ?_
    refine aw_iload_n (npc := 1) rfl dX7_isUnder_0 rfl ?_
    refine aw_istore_n (npc := 2) (L' := [some (.int 3), some (.int 1), some (.int 3), none]) dX7_isUnder_1 rfl (by decide) rfl rfl ?_
    refine aw_iconst (npc := 3) (v := 0) (by decide) dX7_isUnder_2 rfl ?_
    refine aw_istore_n (npc := 4) (L' := [some (.int 3), some (.int 1), some (.int 3), some (.int 0)]) dX7_isUnder_3 rfl (by decide) rfl rfl ?_
    refine aw_iload_n (npc := 5) rfl dX7_isUnder_4 rfl ?_
    refine aw_bipush (npc := 7) (v := 6) (by decide) dX7_isUnder_5 rfl ?_
    refine aw_icmp_ge (npc := 10) (tgt := 36) dX7_isUnder_7 rfl (by decide) (fun hc => absurd hc (by decide)) (fun _ => ?_)
    refine aw_iload_n (npc := 11) rfl dX7_isUnder_10 rfl ?_
    refine aw_callS (npc := 14) (N := mX7_isKind) (mc := 0) (ms := 0) (A := [.int 3]) (S := []) (L0 := [some (.int 3)]) dX7_isUnder_11 rfl km_X7_isKind kk_X7_67 rfl ⟨rfl, by decide⟩ rfl (Nat.le_of_ble_eq_true rfl) (Nat.zero_add _) (Nat.zero_add _) rfl ?_
    refine c_X7_isKind (fun _ => ?_) (fun hw45 => absurd ⟨by decide, by decide⟩ hw45)
    refine aw_re (S' := [.int 1]) rfl ?_
    refine aw_if_eq (npc := 17) (tgt := 36) dX7_isUnder_14 rfl (by decide) (fun hc => absurd hc (by decide)) (fun _ => ?_)
    refine aw_iload_n (npc := 18) rfl dX7_isUnder_17 rfl ?_
    refine aw_iload_n (npc := 19) rfl dX7_isUnder_18 rfl ?_
    refine aw_icmp_ne (npc := 22) (tgt := 24) dX7_isUnder_19 rfl (by decide) (fun _ => ?_) (fun hc => absurd hc (by decide))
    refine aw_above (npc := 27) dX7_isUnder_24 rfl ks_X7_322 ?_
    refine aw_iload_n (npc := 28) rfl dX7_isUnder_27 rfl ?_
    refine aw_above_ld (npc := 29) (j := 3) dX7_isUnder_28 rfl ⟨by decide, by decide⟩ rfl ?_
    refine aw_istore_n (npc := 30) (L' := [some (.int 3), some (.int 1), some (.int 1), some (.int 0)]) dX7_isUnder_29 rfl (by decide) rfl rfl ?_
    refine aw_iinc (npc := 33) (v := 1) (L' := [some (.int 3), some (.int 1), some (.int 1), some (.int 1)]) dX7_isUnder_30 rfl rfl (by decide) (by decide) rfl rfl ?_
    refine aw_goto (npc := 4) dX7_isUnder_33 (by decide) ?_
    refine aw_iload_n (npc := 5) rfl dX7_isUnder_4 rfl ?_
    refine aw_bipush (npc := 7) (v := 6) (by decide) dX7_isUnder_5 rfl ?_
    refine aw_icmp_ge (npc := 10) (tgt := 36) dX7_isUnder_7 rfl (by decide) (fun hc => absurd hc (by decide)) (fun _ => ?_)
    refine aw_iload_n (npc := 11) rfl dX7_isUnder_10 rfl ?_
    refine aw_callS (npc := 14) (N := mX7_isKind) (mc := 0) (ms := 0) (A := [.int 1]) (S := []) (L0 := [some (.int 1)]) dX7_isUnder_11 rfl km_X7_isKind kk_X7_67 rfl ⟨rfl, by decide⟩ rfl (Nat.le_of_ble_eq_true rfl) (Nat.zero_add _) (Nat.zero_add _) rfl ?_
    refine c_X7_isKind (fun _ => ?_) (fun hw46 => absurd ⟨by decide, by decide⟩ hw46)
    refine aw_re (S' := [.int 1]) rfl ?_
    refine aw_if_eq (npc := 17) (tgt := 36) dX7_isUnder_14 rfl (by decide) (fun hc => absurd hc (by decide)) (fun _ => ?_)
    refine aw_iload_n (npc := 18) rfl dX7_isUnder_17 rfl ?_
    refine aw_iload_n (npc := 19) rfl dX7_isUnder_18 rfl ?_
    refine aw_icmp_ne (npc := 22) (tgt := 24) dX7_isUnder_19 rfl (by decide) (fun hc => absurd (by decide) hc) (fun _ => ?_)
    refine aw_iconst (npc := 23) (v := 1) (by decide) dX7_isUnder_22 rfl ?_
    refine aw_zret rfl rfl dX7_isUnder_23 ?_
    exact (show (if undr k g then (1 : Int32) else 0) = 1 by rw [ek, eg]; decide) ▸ hq
  · refine aw_locs (L' := [some (.int 3), some (.int 2), none, none]) (by rw [ek, eg]) ?_
    refine aw_iload_n (npc := 1) rfl dX7_isUnder_0 rfl ?_
    refine aw_istore_n (npc := 2) (L' := [some (.int 3), some (.int 2), some (.int 3), none]) dX7_isUnder_1 rfl (by decide) rfl rfl ?_
    refine aw_iconst (npc := 3) (v := 0) (by decide) dX7_isUnder_2 rfl ?_
    refine aw_istore_n (npc := 4) (L' := [some (.int 3), some (.int 2), some (.int 3), some (.int 0)]) dX7_isUnder_3 rfl (by decide) rfl rfl ?_
    refine aw_iload_n (npc := 5) rfl dX7_isUnder_4 rfl ?_
    refine aw_bipush (npc := 7) (v := 6) (by decide) dX7_isUnder_5 rfl ?_
    refine aw_icmp_ge (npc := 10) (tgt := 36) dX7_isUnder_7 rfl (by decide) (fun hc => absurd hc (by decide)) (fun _ => ?_)
    refine aw_iload_n (npc := 11) rfl dX7_isUnder_10 rfl ?_
    refine aw_callS (npc := 14) (N := mX7_isKind) (mc := 0) (ms := 0) (A := [.int 3]) (S := []) (L0 := [some (.int 3)]) dX7_isUnder_11 rfl km_X7_isKind kk_X7_67 rfl ⟨rfl, by decide⟩ rfl (Nat.le_of_ble_eq_true rfl) (Nat.zero_add _) (Nat.zero_add _) rfl ?_
    refine c_X7_isKind (fun _ => ?_) (fun hw47 => absurd ⟨by decide, by decide⟩ hw47)
    refine aw_re (S' := [.int 1]) rfl ?_
    refine aw_if_eq (npc := 17) (tgt := 36) dX7_isUnder_14 rfl (by decide) (fun hc => absurd hc (by decide)) (fun _ => ?_)
    refine aw_iload_n (npc := 18) rfl dX7_isUnder_17 rfl ?_
    refine aw_iload_n (npc := 19) rfl dX7_isUnder_18 rfl ?_
    refine aw_icmp_ne (npc := 22) (tgt := 24) dX7_isUnder_19 rfl (by decide) (fun _ => ?_) (fun hc => absurd hc (by decide))
    refine aw_above (npc := 27) dX7_isUnder_24 rfl ks_X7_322 ?_
    refine aw_iload_n (npc := 28) rfl dX7_isUnder_27 rfl ?_
    refine aw_above_ld (npc := 29) (j := 3) dX7_isUnder_28 rfl ⟨by decide, by decide⟩ rfl ?_
    refine aw_istore_n (npc := 30) (L' := [some (.int 3), some (.int 2), some (.int 1), some (.int 0)]) dX7_isUnder_29 rfl (by decide) rfl rfl ?_
    refine aw_iinc (npc := 33) (v := 1) (L' := [some (.int 3), some (.int 2), some (.int 1), some (.int 1)]) dX7_isUnder_30 rfl rfl (by decide) (by decide) rfl rfl ?_
    refine aw_goto (npc := 4) dX7_isUnder_33 (by decide) ?_
    refine aw_iload_n (npc := 5) rfl dX7_isUnder_4 rfl ?_
    refine aw_bipush (npc := 7) (v := 6) (by decide) dX7_isUnder_5 rfl ?_
    refine aw_icmp_ge (npc := 10) (tgt := 36) dX7_isUnder_7 rfl (by decide) (fun hc => absurd hc (by decide)) (fun _ => ?_)
    refine aw_iload_n (npc := 11) rfl dX7_isUnder_10 rfl ?_
    refine aw_callS (npc := 14) (N := mX7_isKind) (mc := 0) (ms := 0) (A := [.int 1]) (S := []) (L0 := [some (.int 1)]) dX7_isUnder_11 rfl km_X7_isKind kk_X7_67 rfl ⟨rfl, by decide⟩ rfl (Nat.le_of_ble_eq_true rfl) (Nat.zero_add _) (Nat.zero_add _) rfl ?_
    refine c_X7_isKind (fun _ => ?_) (fun hw48 => absurd ⟨by decide, by decide⟩ hw48)
    refine aw_re (S' := [.int 1]) rfl ?_
    refine aw_if_eq (npc := 17) (tgt := 36) dX7_isUnder_14 rfl (by decide) (fun hc => absurd hc (by decide)) (fun _ => ?_)
    refine aw_iload_n (npc := 18) rfl dX7_isUnder_17 rfl ?_
    refine aw_iload_n (npc := 19) rfl dX7_isUnder_18 rfl ?_
    refine aw_icmp_ne (npc := 22) (tgt := 24) dX7_isUnder_19 rfl (by decide) (fun _ => ?_) (fun hc => absurd hc (by decide))
    refine aw_above (npc := 27) dX7_isUnder_24 rfl ks_X7_322 ?_
    refine aw_iload_n (npc := 28) rfl dX7_isUnder_27 rfl ?_
    refine aw_above_ld (npc := 29) (j := 1) dX7_isUnder_28 rfl ⟨by decide, by decide⟩ rfl ?_
    refine aw_istore_n (npc := 30) (L' := [some (.int 3), some (.int 2), some (.int 0), some (.int 1)]) dX7_isUnder_29 rfl (by decide) rfl rfl ?_
    refine aw_iinc (npc := 33) (v := 2) (L' := [some (.int 3), some (.int 2), some (.int 0), some (.int 2)]) dX7_isUnder_30 rfl rfl (by decide) (by decide) rfl rfl ?_
    refine aw_goto (npc := 4) dX7_isUnder_33 (by decide) ?_
    refine aw_iload_n (npc := 5) rfl dX7_isUnder_4 rfl ?_
    refine aw_bipush (npc := 7) (v := 6) (by decide) dX7_isUnder_5 rfl ?_
    refine aw_icmp_ge (npc := 10) (tgt := 36) dX7_isUnder_7 rfl (by decide) (fun hc => absurd hc (by decide)) (fun _ => ?_)
    refine aw_iload_n (npc := 11) rfl dX7_isUnder_10 rfl ?_
    refine aw_callS (npc := 14) (N := mX7_isKind) (mc := 0) (ms := 0) (A := [.int 0]) (S := []) (L0 := [some (.int 0)]) dX7_isUnder_11 rfl km_X7_isKind kk_X7_67 rfl ⟨rfl, by decide⟩ rfl (Nat.le_of_ble_eq_true rfl) (Nat.zero_add _) (Nat.zero_add _) rfl ?_
    refine c_X7_isKind (fun _ => ?_) (fun hw49 => absurd ⟨by decide, by decide⟩ hw49)
    refine aw_re (S' := [.int 1]) rfl ?_
    refine aw_if_eq (npc := 17) (tgt := 36) dX7_isUnder_14 rfl (by decide) (fun hc => absurd hc (by decide)) (fun _ => ?_)
    refine aw_iload_n (npc := 18) rfl dX7_isUnder_17 rfl ?_
    refine aw_iload_n (npc := 19) rfl dX7_isUnder_18 rfl ?_
    refine aw_icmp_ne (npc := 22) (tgt := 24) dX7_isUnder_19 rfl (by decide) (fun _ => ?_) (fun hc => absurd hc (by decide))
    refine aw_above (npc := 27) dX7_isUnder_24 rfl ks_X7_322 ?_
    refine aw_iload_n (npc := 28) rfl dX7_isUnder_27 rfl ?_
    refine aw_above_ld (npc := 29) (j := 0) dX7_isUnder_28 rfl ⟨by decide, by decide⟩ rfl ?_
    refine aw_istore_n (npc := 30) (L' := [some (.int 3), some (.int 2), some (.int (-1)), some (.int 2)]) dX7_isUnder_29 rfl (by decide) rfl rfl ?_
    refine aw_iinc (npc := 33) (v := 3) (L' := [some (.int 3), some (.int 2), some (.int (-1)), some (.int 3)]) dX7_isUnder_30 rfl rfl (by decide) (by decide) rfl rfl ?_
    refine aw_goto (npc := 4) dX7_isUnder_33 (by decide) ?_
    refine aw_iload_n (npc := 5) rfl dX7_isUnder_4 rfl ?_
    refine aw_bipush (npc := 7) (v := 6) (by decide) dX7_isUnder_5 rfl ?_
    refine aw_icmp_ge (npc := 10) (tgt := 36) dX7_isUnder_7 rfl (by decide) (fun hc => absurd hc (by decide)) (fun _ => ?_)
    refine aw_iload_n (npc := 11) rfl dX7_isUnder_10 rfl ?_
    refine aw_callS (npc := 14) (N := mX7_isKind) (mc := 0) (ms := 0) (A := [.int (-1)]) (S := []) (L0 := [some (.int (-1))]) dX7_isUnder_11 rfl km_X7_isKind kk_X7_67 rfl ⟨rfl, by decide⟩ rfl (Nat.le_of_ble_eq_true rfl) (Nat.zero_add _) (Nat.zero_add _) rfl ?_
    refine c_X7_isKind (fun hw50 => absurd hw50 (fun z => absurd z (by unfold wi; decide))) (fun _ => ?_)
    refine aw_re (S' := [.int 0]) rfl ?_
    refine aw_if_eq (npc := 17) (tgt := 36) dX7_isUnder_14 rfl (by decide) (fun _ => ?_) (fun hc => absurd (by decide) hc)
    refine aw_iconst (npc := 37) (v := 0) (by decide) dX7_isUnder_36 rfl ?_
    refine aw_zret rfl rfl dX7_isUnder_37 ?_
    exact (show (if undr k g then (1 : Int32) else 0) = 0 by rw [ek, eg]; decide) ▸ hq
  · refine aw_locs (L' := [some (.int 3), some (.int 3), none, none]) (by rw [ek, eg]) ?_
    refine aw_iload_n (npc := 1) rfl dX7_isUnder_0 rfl ?_
    refine aw_istore_n (npc := 2) (L' := [some (.int 3), some (.int 3), some (.int 3), none]) dX7_isUnder_1 rfl (by decide) rfl rfl ?_
    refine aw_iconst (npc := 3) (v := 0) (by decide) dX7_isUnder_2 rfl ?_
    refine aw_istore_n (npc := 4) (L' := [some (.int 3), some (.int 3), some (.int 3), some (.int 0)]) dX7_isUnder_3 rfl (by decide) rfl rfl ?_
    refine aw_iload_n (npc := 5) rfl dX7_isUnder_4 rfl ?_
    refine aw_bipush (npc := 7) (v := 6) (by decide) dX7_isUnder_5 rfl ?_
    refine aw_icmp_ge (npc := 10) (tgt := 36) dX7_isUnder_7 rfl (by decide) (fun hc => absurd hc (by decide)) (fun _ => ?_)
    refine aw_iload_n (npc := 11) rfl dX7_isUnder_10 rfl ?_
    refine aw_callS (npc := 14) (N := mX7_isKind) (mc := 0) (ms := 0) (A := [.int 3]) (S := []) (L0 := [some (.int 3)]) dX7_isUnder_11 rfl km_X7_isKind kk_X7_67 rfl ⟨rfl, by decide⟩ rfl (Nat.le_of_ble_eq_true rfl) (Nat.zero_add _) (Nat.zero_add _) rfl ?_
    refine c_X7_isKind (fun _ => ?_) (fun hw51 => absurd ⟨by decide, by decide⟩ hw51)
    refine aw_re (S' := [.int 1]) rfl ?_
    refine aw_if_eq (npc := 17) (tgt := 36) dX7_isUnder_14 rfl (by decide) (fun hc => absurd hc (by decide)) (fun _ => ?_)
    refine aw_iload_n (npc := 18) rfl dX7_isUnder_17 rfl ?_
    refine aw_iload_n (npc := 19) rfl dX7_isUnder_18 rfl ?_
    refine aw_icmp_ne (npc := 22) (tgt := 24) dX7_isUnder_19 rfl (by decide) (fun hc => absurd (by decide) hc) (fun _ => ?_)
    refine aw_iconst (npc := 23) (v := 1) (by decide) dX7_isUnder_22 rfl ?_
    refine aw_zret rfl rfl dX7_isUnder_23 ?_
    exact (show (if undr k g then (1 : Int32) else 0) = 1 by rw [ek, eg]; decide) ▸ hq
  · refine aw_locs (L' := [some (.int 3), some (.int 4), none, none]) (by rw [ek, eg]) ?_
    refine aw_iload_n (npc := 1) rfl dX7_isUnder_0 rfl ?_
    refine aw_istore_n (npc := 2) (L' := [some (.int 3), some (.int 4), some (.int 3), none]) dX7_isUnder_1 rfl (by decide) rfl rfl ?_
    refine aw_iconst (npc := 3) (v := 0) (by decide) dX7_isUnder_2 rfl ?_
    refine aw_istore_n (npc := 4) (L' := [some (.int 3), some (.int 4), some (.int 3), some (.int 0)]) dX7_isUnder_3 rfl (by decide) rfl rfl ?_
    refine aw_iload_n (npc := 5) rfl dX7_isUnder_4 rfl ?_
    refine aw_bipush (npc := 7) (v := 6) (by decide) dX7_isUnder_5 rfl ?_
    refine aw_icmp_ge (npc := 10) (tgt := 36) dX7_isUnder_7 rfl (by decide) (fun hc => absurd hc (by decide)) (fun _ => ?_)
    refine aw_iload_n (npc := 11) rfl dX7_isUnder_10 rfl ?_
    refine aw_callS (npc := 14) (N := mX7_isKind) (mc := 0) (ms := 0) (A := [.int 3]) (S := []) (L0 := [some (.int 3)]) dX7_isUnder_11 rfl km_X7_isKind kk_X7_67 rfl ⟨rfl, by decide⟩ rfl (Nat.le_of_ble_eq_true rfl) (Nat.zero_add _) (Nat.zero_add _) rfl ?_
    refine c_X7_isKind (fun _ => ?_) (fun hw52 => absurd ⟨by decide, by decide⟩ hw52)
    refine aw_re (S' := [.int 1]) rfl ?_
    refine aw_if_eq (npc := 17) (tgt := 36) dX7_isUnder_14 rfl (by decide) (fun hc => absurd hc (by decide)) (fun _ => ?_)
    refine aw_iload_n (npc := 18) rfl dX7_isUnder_17 rfl ?_
    refine aw_iload_n (npc := 19) rfl dX7_isUnder_18 rfl ?_
    refine aw_icmp_ne (npc := 22) (tgt := 24) dX7_isUnder_19 rfl (by decide) (fun _ => ?_) (fun hc => absurd hc (by decide))
    refine aw_above (npc := 27) dX7_isUnder_24 rfl ks_X7_322 ?_
    refine aw_iload_n (npc := 28) rfl dX7_isUnder_27 rfl ?_
    refine aw_above_ld (npc := 29) (j := 3) dX7_isUnder_28 rfl ⟨by decide, by decide⟩ rfl ?_
    refine aw_istore_n (npc := 30) (L' := [some (.int 3), some (.int 4), some (.int 1), some (.int 0)]) dX7_isUnder_29 rfl (by decide) rfl rfl ?_
    refine aw_iinc (npc := 33) (v := 1) (L' := [some (.int 3), some (.int 4), some (.int 1), some (.int 1)]) dX7_isUnder_30 rfl rfl (by decide) (by decide) rfl rfl ?_
    refine aw_goto (npc := 4) dX7_isUnder_33 (by decide) ?_
    refine aw_iload_n (npc := 5) rfl dX7_isUnder_4 rfl ?_
    refine aw_bipush (npc := 7) (v := 6) (by decide) dX7_isUnder_5 rfl ?_
    refine aw_icmp_ge (npc := 10) (tgt := 36) dX7_isUnder_7 rfl (by decide) (fun hc => absurd hc (by decide)) (fun _ => ?_)
    refine aw_iload_n (npc := 11) rfl dX7_isUnder_10 rfl ?_
    refine aw_callS (npc := 14) (N := mX7_isKind) (mc := 0) (ms := 0) (A := [.int 1]) (S := []) (L0 := [some (.int 1)]) dX7_isUnder_11 rfl km_X7_isKind kk_X7_67 rfl ⟨rfl, by decide⟩ rfl (Nat.le_of_ble_eq_true rfl) (Nat.zero_add _) (Nat.zero_add _) rfl ?_
    refine c_X7_isKind (fun _ => ?_) (fun hw53 => absurd ⟨by decide, by decide⟩ hw53)
    refine aw_re (S' := [.int 1]) rfl ?_
    refine aw_if_eq (npc := 17) (tgt := 36) dX7_isUnder_14 rfl (by decide) (fun hc => absurd hc (by decide)) (fun _ => ?_)
    refine aw_iload_n (npc := 18) rfl dX7_isUnder_17 rfl ?_
    refine aw_iload_n (npc := 19) rfl dX7_isUnder_18 rfl ?_
    refine aw_icmp_ne (npc := 22) (tgt := 24) dX7_isUnder_19 rfl (by decide) (fun _ => ?_) (fun hc => absurd hc (by decide))
    refine aw_above (npc := 27) dX7_isUnder_24 rfl ks_X7_322 ?_
    refine aw_iload_n (npc := 28) rfl dX7_isUnder_27 rfl ?_
    refine aw_above_ld (npc := 29) (j := 1) dX7_isUnder_28 rfl ⟨by decide, by decide⟩ rfl ?_
    refine aw_istore_n (npc := 30) (L' := [some (.int 3), some (.int 4), some (.int 0), some (.int 1)]) dX7_isUnder_29 rfl (by decide) rfl rfl ?_
    refine aw_iinc (npc := 33) (v := 2) (L' := [some (.int 3), some (.int 4), some (.int 0), some (.int 2)]) dX7_isUnder_30 rfl rfl (by decide) (by decide) rfl rfl ?_
    refine aw_goto (npc := 4) dX7_isUnder_33 (by decide) ?_
    refine aw_iload_n (npc := 5) rfl dX7_isUnder_4 rfl ?_
    refine aw_bipush (npc := 7) (v := 6) (by decide) dX7_isUnder_5 rfl ?_
    refine aw_icmp_ge (npc := 10) (tgt := 36) dX7_isUnder_7 rfl (by decide) (fun hc => absurd hc (by decide)) (fun _ => ?_)
    refine aw_iload_n (npc := 11) rfl dX7_isUnder_10 rfl ?_
    refine aw_callS (npc := 14) (N := mX7_isKind) (mc := 0) (ms := 0) (A := [.int 0]) (S := []) (L0 := [some (.int 0)]) dX7_isUnder_11 rfl km_X7_isKind kk_X7_67 rfl ⟨rfl, by decide⟩ rfl (Nat.le_of_ble_eq_true rfl) (Nat.zero_add _) (Nat.zero_add _) rfl ?_
    refine c_X7_isKind (fun _ => ?_) (fun hw54 => absurd ⟨by decide, by decide⟩ hw54)
    refine aw_re (S' := [.int 1]) rfl ?_
    refine aw_if_eq (npc := 17) (tgt := 36) dX7_isUnder_14 rfl (by decide) (fun hc => absurd hc (by decide)) (fun _ => ?_)
    refine aw_iload_n (npc := 18) rfl dX7_isUnder_17 rfl ?_
    refine aw_iload_n (npc := 19) rfl dX7_isUnder_18 rfl ?_
    refine aw_icmp_ne (npc := 22) (tgt := 24) dX7_isUnder_19 rfl (by decide) (fun _ => ?_) (fun hc => absurd hc (by decide))
    refine aw_above (npc := 27) dX7_isUnder_24 rfl ks_X7_322 ?_
    refine aw_iload_n (npc := 28) rfl dX7_isUnder_27 rfl ?_
    refine aw_above_ld (npc := 29) (j := 0) dX7_isUnder_28 rfl ⟨by decide, by decide⟩ rfl ?_
    refine aw_istore_n (npc := 30) (L' := [some (.int 3), some (.int 4), some (.int (-1)), some (.int 2)]) dX7_isUnder_29 rfl (by decide) rfl rfl ?_
    refine aw_iinc (npc := 33) (v := 3) (L' := [some (.int 3), some (.int 4), some (.int (-1)), some (.int 3)]) dX7_isUnder_30 rfl rfl (by decide) (by decide) rfl rfl ?_
    refine aw_goto (npc := 4) dX7_isUnder_33 (by decide) ?_
    refine aw_iload_n (npc := 5) rfl dX7_isUnder_4 rfl ?_
    refine aw_bipush (npc := 7) (v := 6) (by decide) dX7_isUnder_5 rfl ?_
    refine aw_icmp_ge (npc := 10) (tgt := 36) dX7_isUnder_7 rfl (by decide) (fun hc => absurd hc (by decide)) (fun _ => ?_)
    refine aw_iload_n (npc := 11) rfl dX7_isUnder_10 rfl ?_
    refine aw_callS (npc := 14) (N := mX7_isKind) (mc := 0) (ms := 0) (A := [.int (-1)]) (S := []) (L0 := [some (.int (-1))]) dX7_isUnder_11 rfl km_X7_isKind kk_X7_67 rfl ⟨rfl, by decide⟩ rfl (Nat.le_of_ble_eq_true rfl) (Nat.zero_add _) (Nat.zero_add _) rfl ?_
    refine c_X7_isKind (fun hw55 => absurd hw55 (fun z => absurd z (by unfold wi; decide))) (fun _ => ?_)
    refine aw_re (S' := [.int 0]) rfl ?_
    refine aw_if_eq (npc := 17) (tgt := 36) dX7_isUnder_14 rfl (by decide) (fun _ => ?_) (fun hc => absurd (by decide) hc)
    refine aw_iconst (npc := 37) (v := 0) (by decide) dX7_isUnder_36 rfl ?_
    refine aw_zret rfl rfl dX7_isUnder_37 ?_
    exact (show (if undr k g then (1 : Int32) else 0) = 0 by rw [ek, eg]; decide) ▸ hq
  · refine aw_locs (L' := [some (.int 3), some (.int 5), none, none]) (by rw [ek, eg]) ?_
    refine aw_iload_n (npc := 1) rfl dX7_isUnder_0 rfl ?_
    refine aw_istore_n (npc := 2) (L' := [some (.int 3), some (.int 5), some (.int 3), none]) dX7_isUnder_1 rfl (by decide) rfl rfl ?_
    refine aw_iconst (npc := 3) (v := 0) (by decide) dX7_isUnder_2 rfl ?_
    refine aw_istore_n (npc := 4) (L' := [some (.int 3), some (.int 5), some (.int 3), some (.int 0)]) dX7_isUnder_3 rfl (by decide) rfl rfl ?_
    refine aw_iload_n (npc := 5) rfl dX7_isUnder_4 rfl ?_
    refine aw_bipush (npc := 7) (v := 6) (by decide) dX7_isUnder_5 rfl ?_
    refine aw_icmp_ge (npc := 10) (tgt := 36) dX7_isUnder_7 rfl (by decide) (fun hc => absurd hc (by decide)) (fun _ => ?_)
    refine aw_iload_n (npc := 11) rfl dX7_isUnder_10 rfl ?_
    refine aw_callS (npc := 14) (N := mX7_isKind) (mc := 0) (ms := 0) (A := [.int 3]) (S := []) (L0 := [some (.int 3)]) dX7_isUnder_11 rfl km_X7_isKind kk_X7_67 rfl ⟨rfl, by decide⟩ rfl (Nat.le_of_ble_eq_true rfl) (Nat.zero_add _) (Nat.zero_add _) rfl ?_
    refine c_X7_isKind (fun _ => ?_) (fun hw56 => absurd ⟨by decide, by decide⟩ hw56)
    refine aw_re (S' := [.int 1]) rfl ?_
    refine aw_if_eq (npc := 17) (tgt := 36) dX7_isUnder_14 rfl (by decide) (fun hc => absurd hc (by decide)) (fun _ => ?_)
    refine aw_iload_n (npc := 18) rfl dX7_isUnder_17 rfl ?_
    refine aw_iload_n (npc := 19) rfl dX7_isUnder_18 rfl ?_
    refine aw_icmp_ne (npc := 22) (tgt := 24) dX7_isUnder_19 rfl (by decide) (fun _ => ?_) (fun hc => absurd hc (by decide))
    refine aw_above (npc := 27) dX7_isUnder_24 rfl ks_X7_322 ?_
    refine aw_iload_n (npc := 28) rfl dX7_isUnder_27 rfl ?_
    refine aw_above_ld (npc := 29) (j := 3) dX7_isUnder_28 rfl ⟨by decide, by decide⟩ rfl ?_
    refine aw_istore_n (npc := 30) (L' := [some (.int 3), some (.int 5), some (.int 1), some (.int 0)]) dX7_isUnder_29 rfl (by decide) rfl rfl ?_
    refine aw_iinc (npc := 33) (v := 1) (L' := [some (.int 3), some (.int 5), some (.int 1), some (.int 1)]) dX7_isUnder_30 rfl rfl (by decide) (by decide) rfl rfl ?_
    refine aw_goto (npc := 4) dX7_isUnder_33 (by decide) ?_
    refine aw_iload_n (npc := 5) rfl dX7_isUnder_4 rfl ?_
    refine aw_bipush (npc := 7) (v := 6) (by decide) dX7_isUnder_5 rfl ?_
    refine aw_icmp_ge (npc := 10) (tgt := 36) dX7_isUnder_7 rfl (by decide) (fun hc => absurd hc (by decide)) (fun _ => ?_)
    refine aw_iload_n (npc := 11) rfl dX7_isUnder_10 rfl ?_
    refine aw_callS (npc := 14) (N := mX7_isKind) (mc := 0) (ms := 0) (A := [.int 1]) (S := []) (L0 := [some (.int 1)]) dX7_isUnder_11 rfl km_X7_isKind kk_X7_67 rfl ⟨rfl, by decide⟩ rfl (Nat.le_of_ble_eq_true rfl) (Nat.zero_add _) (Nat.zero_add _) rfl ?_
    refine c_X7_isKind (fun _ => ?_) (fun hw57 => absurd ⟨by decide, by decide⟩ hw57)
    refine aw_re (S' := [.int 1]) rfl ?_
    refine aw_if_eq (npc := 17) (tgt := 36) dX7_isUnder_14 rfl (by decide) (fun hc => absurd hc (by decide)) (fun _ => ?_)
    refine aw_iload_n (npc := 18) rfl dX7_isUnder_17 rfl ?_
    refine aw_iload_n (npc := 19) rfl dX7_isUnder_18 rfl ?_
    refine aw_icmp_ne (npc := 22) (tgt := 24) dX7_isUnder_19 rfl (by decide) (fun _ => ?_) (fun hc => absurd hc (by decide))
    refine aw_above (npc := 27) dX7_isUnder_24 rfl ks_X7_322 ?_
    refine aw_iload_n (npc := 28) rfl dX7_isUnder_27 rfl ?_
    refine aw_above_ld (npc := 29) (j := 1) dX7_isUnder_28 rfl ⟨by decide, by decide⟩ rfl ?_
    refine aw_istore_n (npc := 30) (L' := [some (.int 3), some (.int 5), some (.int 0), some (.int 1)]) dX7_isUnder_29 rfl (by decide) rfl rfl ?_
    refine aw_iinc (npc := 33) (v := 2) (L' := [some (.int 3), some (.int 5), some (.int 0), some (.int 2)]) dX7_isUnder_30 rfl rfl (by decide) (by decide) rfl rfl ?_
    refine aw_goto (npc := 4) dX7_isUnder_33 (by decide) ?_
    refine aw_iload_n (npc := 5) rfl dX7_isUnder_4 rfl ?_
    refine aw_bipush (npc := 7) (v := 6) (by decide) dX7_isUnder_5 rfl ?_
    refine aw_icmp_ge (npc := 10) (tgt := 36) dX7_isUnder_7 rfl (by decide) (fun hc => absurd hc (by decide)) (fun _ => ?_)
    refine aw_iload_n (npc := 11) rfl dX7_isUnder_10 rfl ?_
    refine aw_callS (npc := 14) (N := mX7_isKind) (mc := 0) (ms := 0) (A := [.int 0]) (S := []) (L0 := [some (.int 0)]) dX7_isUnder_11 rfl km_X7_isKind kk_X7_67 rfl ⟨rfl, by decide⟩ rfl (Nat.le_of_ble_eq_true rfl) (Nat.zero_add _) (Nat.zero_add _) rfl ?_
    refine c_X7_isKind (fun _ => ?_) (fun hw58 => absurd ⟨by decide, by decide⟩ hw58)
    refine aw_re (S' := [.int 1]) rfl ?_
    refine aw_if_eq (npc := 17) (tgt := 36) dX7_isUnder_14 rfl (by decide) (fun hc => absurd hc (by decide)) (fun _ => ?_)
    refine aw_iload_n (npc := 18) rfl dX7_isUnder_17 rfl ?_
    refine aw_iload_n (npc := 19) rfl dX7_isUnder_18 rfl ?_
    refine aw_icmp_ne (npc := 22) (tgt := 24) dX7_isUnder_19 rfl (by decide) (fun _ => ?_) (fun hc => absurd hc (by decide))
    refine aw_above (npc := 27) dX7_isUnder_24 rfl ks_X7_322 ?_
    refine aw_iload_n (npc := 28) rfl dX7_isUnder_27 rfl ?_
    refine aw_above_ld (npc := 29) (j := 0) dX7_isUnder_28 rfl ⟨by decide, by decide⟩ rfl ?_
    refine aw_istore_n (npc := 30) (L' := [some (.int 3), some (.int 5), some (.int (-1)), some (.int 2)]) dX7_isUnder_29 rfl (by decide) rfl rfl ?_
    refine aw_iinc (npc := 33) (v := 3) (L' := [some (.int 3), some (.int 5), some (.int (-1)), some (.int 3)]) dX7_isUnder_30 rfl rfl (by decide) (by decide) rfl rfl ?_
    refine aw_goto (npc := 4) dX7_isUnder_33 (by decide) ?_
    refine aw_iload_n (npc := 5) rfl dX7_isUnder_4 rfl ?_
    refine aw_bipush (npc := 7) (v := 6) (by decide) dX7_isUnder_5 rfl ?_
    refine aw_icmp_ge (npc := 10) (tgt := 36) dX7_isUnder_7 rfl (by decide) (fun hc => absurd hc (by decide)) (fun _ => ?_)
    refine aw_iload_n (npc := 11) rfl dX7_isUnder_10 rfl ?_
    refine aw_callS (npc := 14) (N := mX7_isKind) (mc := 0) (ms := 0) (A := [.int (-1)]) (S := []) (L0 := [some (.int (-1))]) dX7_isUnder_11 rfl km_X7_isKind kk_X7_67 rfl ⟨rfl, by decide⟩ rfl (Nat.le_of_ble_eq_true rfl) (Nat.zero_add _) (Nat.zero_add _) rfl ?_
    refine c_X7_isKind (fun hw59 => absurd hw59 (fun z => absurd z (by unfold wi; decide))) (fun _ => ?_)
    refine aw_re (S' := [.int 0]) rfl ?_
    refine aw_if_eq (npc := 17) (tgt := 36) dX7_isUnder_14 rfl (by decide) (fun _ => ?_) (fun hc => absurd (by decide) hc)
    refine aw_iconst (npc := 37) (v := 0) (by decide) dX7_isUnder_36 rfl ?_
    refine aw_zret rfl rfl dX7_isUnder_37 ?_
    exact (show (if undr k g then (1 : Int32) else 0) = 0 by rw [ek, eg]; decide) ▸ hq
  · refine aw_locs (L' := [some (.int 4), some (.int 0), none, none]) (by rw [ek, eg]) ?_
    refine aw_iload_n (npc := 1) rfl dX7_isUnder_0 rfl ?_
    refine aw_istore_n (npc := 2) (L' := [some (.int 4), some (.int 0), some (.int 4), none]) dX7_isUnder_1 rfl (by decide) rfl rfl ?_
    refine aw_iconst (npc := 3) (v := 0) (by decide) dX7_isUnder_2 rfl ?_
    refine aw_istore_n (npc := 4) (L' := [some (.int 4), some (.int 0), some (.int 4), some (.int 0)]) dX7_isUnder_3 rfl (by decide) rfl rfl ?_
    refine aw_iload_n (npc := 5) rfl dX7_isUnder_4 rfl ?_
    refine aw_bipush (npc := 7) (v := 6) (by decide) dX7_isUnder_5 rfl ?_
    refine aw_icmp_ge (npc := 10) (tgt := 36) dX7_isUnder_7 rfl (by decide) (fun hc => absurd hc (by decide)) (fun _ => ?_)
    refine aw_iload_n (npc := 11) rfl dX7_isUnder_10 rfl ?_
    refine aw_callS (npc := 14) (N := mX7_isKind) (mc := 0) (ms := 0) (A := [.int 4]) (S := []) (L0 := [some (.int 4)]) dX7_isUnder_11 rfl km_X7_isKind kk_X7_67 rfl ⟨rfl, by decide⟩ rfl (Nat.le_of_ble_eq_true rfl) (Nat.zero_add _) (Nat.zero_add _) rfl ?_
    refine c_X7_isKind (fun _ => ?_) (fun hw60 => absurd ⟨by decide, by decide⟩ hw60)
    refine aw_re (S' := [.int 1]) rfl ?_
    refine aw_if_eq (npc := 17) (tgt := 36) dX7_isUnder_14 rfl (by decide) (fun hc => absurd hc (by decide)) (fun _ => ?_)
    refine aw_iload_n (npc := 18) rfl dX7_isUnder_17 rfl ?_
    refine aw_iload_n (npc := 19) rfl dX7_isUnder_18 rfl ?_
    refine aw_icmp_ne (npc := 22) (tgt := 24) dX7_isUnder_19 rfl (by decide) (fun _ => ?_) (fun hc => absurd hc (by decide))
    refine aw_above (npc := 27) dX7_isUnder_24 rfl ks_X7_322 ?_
    refine aw_iload_n (npc := 28) rfl dX7_isUnder_27 rfl ?_
    refine aw_above_ld (npc := 29) (j := 4) dX7_isUnder_28 rfl ⟨by decide, by decide⟩ rfl ?_
    refine aw_istore_n (npc := 30) (L' := [some (.int 4), some (.int 0), some (.int 2), some (.int 0)]) dX7_isUnder_29 rfl (by decide) rfl rfl ?_
    refine aw_iinc (npc := 33) (v := 1) (L' := [some (.int 4), some (.int 0), some (.int 2), some (.int 1)]) dX7_isUnder_30 rfl rfl (by decide) (by decide) rfl rfl ?_
    refine aw_goto (npc := 4) dX7_isUnder_33 (by decide) ?_
    refine aw_iload_n (npc := 5) rfl dX7_isUnder_4 rfl ?_
    refine aw_bipush (npc := 7) (v := 6) (by decide) dX7_isUnder_5 rfl ?_
    refine aw_icmp_ge (npc := 10) (tgt := 36) dX7_isUnder_7 rfl (by decide) (fun hc => absurd hc (by decide)) (fun _ => ?_)
    refine aw_iload_n (npc := 11) rfl dX7_isUnder_10 rfl ?_
    refine aw_callS (npc := 14) (N := mX7_isKind) (mc := 0) (ms := 0) (A := [.int 2]) (S := []) (L0 := [some (.int 2)]) dX7_isUnder_11 rfl km_X7_isKind kk_X7_67 rfl ⟨rfl, by decide⟩ rfl (Nat.le_of_ble_eq_true rfl) (Nat.zero_add _) (Nat.zero_add _) rfl ?_
    refine c_X7_isKind (fun _ => ?_) (fun hw61 => absurd ⟨by decide, by decide⟩ hw61)
    refine aw_re (S' := [.int 1]) rfl ?_
    refine aw_if_eq (npc := 17) (tgt := 36) dX7_isUnder_14 rfl (by decide) (fun hc => absurd hc (by decide)) (fun _ => ?_)
    refine aw_iload_n (npc := 18) rfl dX7_isUnder_17 rfl ?_
    refine aw_iload_n (npc := 19) rfl dX7_isUnder_18 rfl ?_
    refine aw_icmp_ne (npc := 22) (tgt := 24) dX7_isUnder_19 rfl (by decide) (fun _ => ?_) (fun hc => absurd hc (by decide))
    refine aw_above (npc := 27) dX7_isUnder_24 rfl ks_X7_322 ?_
    refine aw_iload_n (npc := 28) rfl dX7_isUnder_27 rfl ?_
    refine aw_above_ld (npc := 29) (j := 2) dX7_isUnder_28 rfl ⟨by decide, by decide⟩ rfl ?_
    refine aw_istore_n (npc := 30) (L' := [some (.int 4), some (.int 0), some (.int 0), some (.int 1)]) dX7_isUnder_29 rfl (by decide) rfl rfl ?_
    refine aw_iinc (npc := 33) (v := 2) (L' := [some (.int 4), some (.int 0), some (.int 0), some (.int 2)]) dX7_isUnder_30 rfl rfl (by decide) (by decide) rfl rfl ?_
    refine aw_goto (npc := 4) dX7_isUnder_33 (by decide) ?_
    refine aw_iload_n (npc := 5) rfl dX7_isUnder_4 rfl ?_
    refine aw_bipush (npc := 7) (v := 6) (by decide) dX7_isUnder_5 rfl ?_
    refine aw_icmp_ge (npc := 10) (tgt := 36) dX7_isUnder_7 rfl (by decide) (fun hc => absurd hc (by decide)) (fun _ => ?_)
    refine aw_iload_n (npc := 11) rfl dX7_isUnder_10 rfl ?_
    refine aw_callS (npc := 14) (N := mX7_isKind) (mc := 0) (ms := 0) (A := [.int 0]) (S := []) (L0 := [some (.int 0)]) dX7_isUnder_11 rfl km_X7_isKind kk_X7_67 rfl ⟨rfl, by decide⟩ rfl (Nat.le_of_ble_eq_true rfl) (Nat.zero_add _) (Nat.zero_add _) rfl ?_
    refine c_X7_isKind (fun _ => ?_) (fun hw62 => absurd ⟨by decide, by decide⟩ hw62)
    refine aw_re (S' := [.int 1]) rfl ?_
    refine aw_if_eq (npc := 17) (tgt := 36) dX7_isUnder_14 rfl (by decide) (fun hc => absurd hc (by decide)) (fun _ => ?_)
    refine aw_iload_n (npc := 18) rfl dX7_isUnder_17 rfl ?_
    refine aw_iload_n (npc := 19) rfl dX7_isUnder_18 rfl ?_
    refine aw_icmp_ne (npc := 22) (tgt := 24) dX7_isUnder_19 rfl (by decide) (fun hc => absurd (by decide) hc) (fun _ => ?_)
    refine aw_iconst (npc := 23) (v := 1) (by decide) dX7_isUnder_22 rfl ?_
    refine aw_zret rfl rfl dX7_isUnder_23 ?_
    exact (show (if undr k g then (1 : Int32) else 0) = 1 by rw [ek, eg]; decide) ▸ hq
  · refine aw_locs (L' := [some (.int 4), some (.int 1), none, none]) (by rw [ek, eg]) ?_
    refine aw_iload_n (npc := 1) rfl dX7_isUnder_0 rfl ?_
    refine aw_istore_n (npc := 2) (L' := [some (.int 4), some (.int 1), some (.int 4), none]) dX7_isUnder_1 rfl (by decide) rfl rfl ?_
    refine aw_iconst (npc := 3) (v := 0) (by decide) dX7_isUnder_2 rfl ?_
    refine aw_istore_n (npc := 4) (L' := [some (.int 4), some (.int 1), some (.int 4), some (.int 0)]) dX7_isUnder_3 rfl (by decide) rfl rfl ?_
    refine aw_iload_n (npc := 5) rfl dX7_isUnder_4 rfl ?_
    refine aw_bipush (npc := 7) (v := 6) (by decide) dX7_isUnder_5 rfl ?_
    refine aw_icmp_ge (npc := 10) (tgt := 36) dX7_isUnder_7 rfl (by decide) (fun hc => absurd hc (by decide)) (fun _ => ?_)
    refine aw_iload_n (npc := 11) rfl dX7_isUnder_10 rfl ?_
    refine aw_callS (npc := 14) (N := mX7_isKind) (mc := 0) (ms := 0) (A := [.int 4]) (S := []) (L0 := [some (.int 4)]) dX7_isUnder_11 rfl km_X7_isKind kk_X7_67 rfl ⟨rfl, by decide⟩ rfl (Nat.le_of_ble_eq_true rfl) (Nat.zero_add _) (Nat.zero_add _) rfl ?_
    refine c_X7_isKind (fun _ => ?_) (fun hw63 => absurd ⟨by decide, by decide⟩ hw63)
    refine aw_re (S' := [.int 1]) rfl ?_
    refine aw_if_eq (npc := 17) (tgt := 36) dX7_isUnder_14 rfl (by decide) (fun hc => absurd hc (by decide)) (fun _ => ?_)
    refine aw_iload_n (npc := 18) rfl dX7_isUnder_17 rfl ?_
    refine aw_iload_n (npc := 19) rfl dX7_isUnder_18 rfl ?_
    refine aw_icmp_ne (npc := 22) (tgt := 24) dX7_isUnder_19 rfl (by decide) (fun _ => ?_) (fun hc => absurd hc (by decide))
    refine aw_above (npc := 27) dX7_isUnder_24 rfl ks_X7_322 ?_
    refine aw_iload_n (npc := 28) rfl dX7_isUnder_27 rfl ?_
    refine aw_above_ld (npc := 29) (j := 4) dX7_isUnder_28 rfl ⟨by decide, by decide⟩ rfl ?_
    refine aw_istore_n (npc := 30) (L' := [some (.int 4), some (.int 1), some (.int 2), some (.int 0)]) dX7_isUnder_29 rfl (by decide) rfl rfl ?_
    refine aw_iinc (npc := 33) (v := 1) (L' := [some (.int 4), some (.int 1), some (.int 2), some (.int 1)]) dX7_isUnder_30 rfl rfl (by decide) (by decide) rfl rfl ?_
    refine aw_goto (npc := 4) dX7_isUnder_33 (by decide) ?_
    refine aw_iload_n (npc := 5) rfl dX7_isUnder_4 rfl ?_
    refine aw_bipush (npc := 7) (v := 6) (by decide) dX7_isUnder_5 rfl ?_
    refine aw_icmp_ge (npc := 10) (tgt := 36) dX7_isUnder_7 rfl (by decide) (fun hc => absurd hc (by decide)) (fun _ => ?_)
    refine aw_iload_n (npc := 11) rfl dX7_isUnder_10 rfl ?_
    refine aw_callS (npc := 14) (N := mX7_isKind) (mc := 0) (ms := 0) (A := [.int 2]) (S := []) (L0 := [some (.int 2)]) dX7_isUnder_11 rfl km_X7_isKind kk_X7_67 rfl ⟨rfl, by decide⟩ rfl (Nat.le_of_ble_eq_true rfl) (Nat.zero_add _) (Nat.zero_add _) rfl ?_
    refine c_X7_isKind (fun _ => ?_) (fun hw64 => absurd ⟨by decide, by decide⟩ hw64)
    refine aw_re (S' := [.int 1]) rfl ?_
    refine aw_if_eq (npc := 17) (tgt := 36) dX7_isUnder_14 rfl (by decide) (fun hc => absurd hc (by decide)) (fun _ => ?_)
    refine aw_iload_n (npc := 18) rfl dX7_isUnder_17 rfl ?_
    refine aw_iload_n (npc := 19) rfl dX7_isUnder_18 rfl ?_
    refine aw_icmp_ne (npc := 22) (tgt := 24) dX7_isUnder_19 rfl (by decide) (fun _ => ?_) (fun hc => absurd hc (by decide))
    refine aw_above (npc := 27) dX7_isUnder_24 rfl ks_X7_322 ?_
    refine aw_iload_n (npc := 28) rfl dX7_isUnder_27 rfl ?_
    refine aw_above_ld (npc := 29) (j := 2) dX7_isUnder_28 rfl ⟨by decide, by decide⟩ rfl ?_
    refine aw_istore_n (npc := 30) (L' := [some (.int 4), some (.int 1), some (.int 0), some (.int 1)]) dX7_isUnder_29 rfl (by decide) rfl rfl ?_
    refine aw_iinc (npc := 33) (v := 2) (L' := [some (.int 4), some (.int 1), some (.int 0), some (.int 2)]) dX7_isUnder_30 rfl rfl (by decide) (by decide) rfl rfl ?_
    refine aw_goto (npc := 4) dX7_isUnder_33 (by decide) ?_
    refine aw_iload_n (npc := 5) rfl dX7_isUnder_4 rfl ?_
    refine aw_bipush (npc := 7) (v := 6) (by decide) dX7_isUnder_5 rfl ?_
    refine aw_icmp_ge (npc := 10) (tgt := 36) dX7_isUnder_7 rfl (by decide) (fun hc => absurd hc (by decide)) (fun _ => ?_)
    refine aw_iload_n (npc := 11) rfl dX7_isUnder_10 rfl ?_
    refine aw_callS (npc := 14) (N := mX7_isKind) (mc := 0) (ms := 0) (A := [.int 0]) (S := []) (L0 := [some (.int 0)]) dX7_isUnder_11 rfl km_X7_isKind kk_X7_67 rfl ⟨rfl, by decide⟩ rfl (Nat.le_of_ble_eq_true rfl) (Nat.zero_add _) (Nat.zero_add _) rfl ?_
    refine c_X7_isKind (fun _ => ?_) (fun hw65 => absurd ⟨by decide, by decide⟩ hw65)
    refine aw_re (S' := [.int 1]) rfl ?_
    refine aw_if_eq (npc := 17) (tgt := 36) dX7_isUnder_14 rfl (by decide) (fun hc => absurd hc (by decide)) (fun _ => ?_)
    refine aw_iload_n (npc := 18) rfl dX7_isUnder_17 rfl ?_
    refine aw_iload_n (npc := 19) rfl dX7_isUnder_18 rfl ?_
    refine aw_icmp_ne (npc := 22) (tgt := 24) dX7_isUnder_19 rfl (by decide) (fun _ => ?_) (fun hc => absurd hc (by decide))
    refine aw_above (npc := 27) dX7_isUnder_24 rfl ks_X7_322 ?_
    refine aw_iload_n (npc := 28) rfl dX7_isUnder_27 rfl ?_
    refine aw_above_ld (npc := 29) (j := 0) dX7_isUnder_28 rfl ⟨by decide, by decide⟩ rfl ?_
    refine aw_istore_n (npc := 30) (L' := [some (.int 4), some (.int 1), some (.int (-1)), some (.int 2)]) dX7_isUnder_29 rfl (by decide) rfl rfl ?_
    refine aw_iinc (npc := 33) (v := 3) (L' := [some (.int 4), some (.int 1), some (.int (-1)), some (.int 3)]) dX7_isUnder_30 rfl rfl (by decide) (by decide) rfl rfl ?_
    refine aw_goto (npc := 4) dX7_isUnder_33 (by decide) ?_
    refine aw_iload_n (npc := 5) rfl dX7_isUnder_4 rfl ?_
    refine aw_bipush (npc := 7) (v := 6) (by decide) dX7_isUnder_5 rfl ?_
    refine aw_icmp_ge (npc := 10) (tgt := 36) dX7_isUnder_7 rfl (by decide) (fun hc => absurd hc (by decide)) (fun _ => ?_)
    refine aw_iload_n (npc := 11) rfl dX7_isUnder_10 rfl ?_
    refine aw_callS (npc := 14) (N := mX7_isKind) (mc := 0) (ms := 0) (A := [.int (-1)]) (S := []) (L0 := [some (.int (-1))]) dX7_isUnder_11 rfl km_X7_isKind kk_X7_67 rfl ⟨rfl, by decide⟩ rfl (Nat.le_of_ble_eq_true rfl) (Nat.zero_add _) (Nat.zero_add _) rfl ?_
    refine c_X7_isKind (fun hw66 => absurd hw66 (fun z => absurd z (by unfold wi; decide))) (fun _ => ?_)
    refine aw_re (S' := [.int 0]) rfl ?_
    refine aw_if_eq (npc := 17) (tgt := 36) dX7_isUnder_14 rfl (by decide) (fun _ => ?_) (fun hc => absurd (by decide) hc)
    refine aw_iconst (npc := 37) (v := 0) (by decide) dX7_isUnder_36 rfl ?_
    refine aw_zret rfl rfl dX7_isUnder_37 ?_
    exact (show (if undr k g then (1 : Int32) else 0) = 0 by rw [ek, eg]; decide) ▸ hq
  · refine aw_locs (L' := [some (.int 4), some (.int 2), none, none]) (by rw [ek, eg]) ?_
    refine aw_iload_n (npc := 1) rfl dX7_isUnder_0 rfl ?_
    refine aw_istore_n (npc := 2) (L' := [some (.int 4), some (.int 2), some (.int 4), none]) dX7_isUnder_1 rfl (by decide) rfl rfl ?_
    refine aw_iconst (npc := 3) (v := 0) (by decide) dX7_isUnder_2 rfl ?_
    refine aw_istore_n (npc := 4) (L' := [some (.int 4), some (.int 2), some (.int 4), some (.int 0)]) dX7_isUnder_3 rfl (by decide) rfl rfl ?_
    refine aw_iload_n (npc := 5) rfl dX7_isUnder_4 rfl ?_
    refine aw_bipush (npc := 7) (v := 6) (by decide) dX7_isUnder_5 rfl ?_
    refine aw_icmp_ge (npc := 10) (tgt := 36) dX7_isUnder_7 rfl (by decide) (fun hc => absurd hc (by decide)) (fun _ => ?_)
    refine aw_iload_n (npc := 11) rfl dX7_isUnder_10 rfl ?_
    refine aw_callS (npc := 14) (N := mX7_isKind) (mc := 0) (ms := 0) (A := [.int 4]) (S := []) (L0 := [some (.int 4)]) dX7_isUnder_11 rfl km_X7_isKind kk_X7_67 rfl ⟨rfl, by decide⟩ rfl (Nat.le_of_ble_eq_true rfl) (Nat.zero_add _) (Nat.zero_add _) rfl ?_
    refine c_X7_isKind (fun _ => ?_) (fun hw67 => absurd ⟨by decide, by decide⟩ hw67)
    refine aw_re (S' := [.int 1]) rfl ?_
    refine aw_if_eq (npc := 17) (tgt := 36) dX7_isUnder_14 rfl (by decide) (fun hc => absurd hc (by decide)) (fun _ => ?_)
    refine aw_iload_n (npc := 18) rfl dX7_isUnder_17 rfl ?_
    refine aw_iload_n (npc := 19) rfl dX7_isUnder_18 rfl ?_
    refine aw_icmp_ne (npc := 22) (tgt := 24) dX7_isUnder_19 rfl (by decide) (fun _ => ?_) (fun hc => absurd hc (by decide))
    refine aw_above (npc := 27) dX7_isUnder_24 rfl ks_X7_322 ?_
    refine aw_iload_n (npc := 28) rfl dX7_isUnder_27 rfl ?_
    refine aw_above_ld (npc := 29) (j := 4) dX7_isUnder_28 rfl ⟨by decide, by decide⟩ rfl ?_
    refine aw_istore_n (npc := 30) (L' := [some (.int 4), some (.int 2), some (.int 2), some (.int 0)]) dX7_isUnder_29 rfl (by decide) rfl rfl ?_
    refine aw_iinc (npc := 33) (v := 1) (L' := [some (.int 4), some (.int 2), some (.int 2), some (.int 1)]) dX7_isUnder_30 rfl rfl (by decide) (by decide) rfl rfl ?_
    refine aw_goto (npc := 4) dX7_isUnder_33 (by decide) ?_
    refine aw_iload_n (npc := 5) rfl dX7_isUnder_4 rfl ?_
    refine aw_bipush (npc := 7) (v := 6) (by decide) dX7_isUnder_5 rfl ?_
    refine aw_icmp_ge (npc := 10) (tgt := 36) dX7_isUnder_7 rfl (by decide) (fun hc => absurd hc (by decide)) (fun _ => ?_)
    refine aw_iload_n (npc := 11) rfl dX7_isUnder_10 rfl ?_
    refine aw_callS (npc := 14) (N := mX7_isKind) (mc := 0) (ms := 0) (A := [.int 2]) (S := []) (L0 := [some (.int 2)]) dX7_isUnder_11 rfl km_X7_isKind kk_X7_67 rfl ⟨rfl, by decide⟩ rfl (Nat.le_of_ble_eq_true rfl) (Nat.zero_add _) (Nat.zero_add _) rfl ?_
    refine c_X7_isKind (fun _ => ?_) (fun hw68 => absurd ⟨by decide, by decide⟩ hw68)
    refine aw_re (S' := [.int 1]) rfl ?_
    refine aw_if_eq (npc := 17) (tgt := 36) dX7_isUnder_14 rfl (by decide) (fun hc => absurd hc (by decide)) (fun _ => ?_)
    refine aw_iload_n (npc := 18) rfl dX7_isUnder_17 rfl ?_
    refine aw_iload_n (npc := 19) rfl dX7_isUnder_18 rfl ?_
    refine aw_icmp_ne (npc := 22) (tgt := 24) dX7_isUnder_19 rfl (by decide) (fun hc => absurd (by decide) hc) (fun _ => ?_)
    refine aw_iconst (npc := 23) (v := 1) (by decide) dX7_isUnder_22 rfl ?_
    refine aw_zret rfl rfl dX7_isUnder_23 ?_
    exact (show (if undr k g then (1 : Int32) else 0) = 1 by rw [ek, eg]; decide) ▸ hq
  · refine aw_locs (L' := [some (.int 4), some (.int 3), none, none]) (by rw [ek, eg]) ?_
    refine aw_iload_n (npc := 1) rfl dX7_isUnder_0 rfl ?_
    refine aw_istore_n (npc := 2) (L' := [some (.int 4), some (.int 3), some (.int 4), none]) dX7_isUnder_1 rfl (by decide) rfl rfl ?_
    refine aw_iconst (npc := 3) (v := 0) (by decide) dX7_isUnder_2 rfl ?_
    refine aw_istore_n (npc := 4) (L' := [some (.int 4), some (.int 3), some (.int 4), some (.int 0)]) dX7_isUnder_3 rfl (by decide) rfl rfl ?_
    refine aw_iload_n (npc := 5) rfl dX7_isUnder_4 rfl ?_
    refine aw_bipush (npc := 7) (v := 6) (by decide) dX7_isUnder_5 rfl ?_
    refine aw_icmp_ge (npc := 10) (tgt := 36) dX7_isUnder_7 rfl (by decide) (fun hc => absurd hc (by decide)) (fun _ => ?_)
    refine aw_iload_n (npc := 11) rfl dX7_isUnder_10 rfl ?_
    refine aw_callS (npc := 14) (N := mX7_isKind) (mc := 0) (ms := 0) (A := [.int 4]) (S := []) (L0 := [some (.int 4)]) dX7_isUnder_11 rfl km_X7_isKind kk_X7_67 rfl ⟨rfl, by decide⟩ rfl (Nat.le_of_ble_eq_true rfl) (Nat.zero_add _) (Nat.zero_add _) rfl ?_
    refine c_X7_isKind (fun _ => ?_) (fun hw69 => absurd ⟨by decide, by decide⟩ hw69)
    refine aw_re (S' := [.int 1]) rfl ?_
    refine aw_if_eq (npc := 17) (tgt := 36) dX7_isUnder_14 rfl (by decide) (fun hc => absurd hc (by decide)) (fun _ => ?_)
    refine aw_iload_n (npc := 18) rfl dX7_isUnder_17 rfl ?_
    refine aw_iload_n (npc := 19) rfl dX7_isUnder_18 rfl ?_
    refine aw_icmp_ne (npc := 22) (tgt := 24) dX7_isUnder_19 rfl (by decide) (fun _ => ?_) (fun hc => absurd hc (by decide))
    refine aw_above (npc := 27) dX7_isUnder_24 rfl ks_X7_322 ?_
    refine aw_iload_n (npc := 28) rfl dX7_isUnder_27 rfl ?_
    refine aw_above_ld (npc := 29) (j := 4) dX7_isUnder_28 rfl ⟨by decide, by decide⟩ rfl ?_
    refine aw_istore_n (npc := 30) (L' := [some (.int 4), some (.int 3), some (.int 2), some (.int 0)]) dX7_isUnder_29 rfl (by decide) rfl rfl ?_
    refine aw_iinc (npc := 33) (v := 1) (L' := [some (.int 4), some (.int 3), some (.int 2), some (.int 1)]) dX7_isUnder_30 rfl rfl (by decide) (by decide) rfl rfl ?_
    refine aw_goto (npc := 4) dX7_isUnder_33 (by decide) ?_
    refine aw_iload_n (npc := 5) rfl dX7_isUnder_4 rfl ?_
    refine aw_bipush (npc := 7) (v := 6) (by decide) dX7_isUnder_5 rfl ?_
    refine aw_icmp_ge (npc := 10) (tgt := 36) dX7_isUnder_7 rfl (by decide) (fun hc => absurd hc (by decide)) (fun _ => ?_)
    refine aw_iload_n (npc := 11) rfl dX7_isUnder_10 rfl ?_
    refine aw_callS (npc := 14) (N := mX7_isKind) (mc := 0) (ms := 0) (A := [.int 2]) (S := []) (L0 := [some (.int 2)]) dX7_isUnder_11 rfl km_X7_isKind kk_X7_67 rfl ⟨rfl, by decide⟩ rfl (Nat.le_of_ble_eq_true rfl) (Nat.zero_add _) (Nat.zero_add _) rfl ?_
    refine c_X7_isKind (fun _ => ?_) (fun hw70 => absurd ⟨by decide, by decide⟩ hw70)
    refine aw_re (S' := [.int 1]) rfl ?_
    refine aw_if_eq (npc := 17) (tgt := 36) dX7_isUnder_14 rfl (by decide) (fun hc => absurd hc (by decide)) (fun _ => ?_)
    refine aw_iload_n (npc := 18) rfl dX7_isUnder_17 rfl ?_
    refine aw_iload_n (npc := 19) rfl dX7_isUnder_18 rfl ?_
    refine aw_icmp_ne (npc := 22) (tgt := 24) dX7_isUnder_19 rfl (by decide) (fun _ => ?_) (fun hc => absurd hc (by decide))
    refine aw_above (npc := 27) dX7_isUnder_24 rfl ks_X7_322 ?_
    refine aw_iload_n (npc := 28) rfl dX7_isUnder_27 rfl ?_
    refine aw_above_ld (npc := 29) (j := 2) dX7_isUnder_28 rfl ⟨by decide, by decide⟩ rfl ?_
    refine aw_istore_n (npc := 30) (L' := [some (.int 4), some (.int 3), some (.int 0), some (.int 1)]) dX7_isUnder_29 rfl (by decide) rfl rfl ?_
    refine aw_iinc (npc := 33) (v := 2) (L' := [some (.int 4), some (.int 3), some (.int 0), some (.int 2)]) dX7_isUnder_30 rfl rfl (by decide) (by decide) rfl rfl ?_
    refine aw_goto (npc := 4) dX7_isUnder_33 (by decide) ?_
    refine aw_iload_n (npc := 5) rfl dX7_isUnder_4 rfl ?_
    refine aw_bipush (npc := 7) (v := 6) (by decide) dX7_isUnder_5 rfl ?_
    refine aw_icmp_ge (npc := 10) (tgt := 36) dX7_isUnder_7 rfl (by decide) (fun hc => absurd hc (by decide)) (fun _ => ?_)
    refine aw_iload_n (npc := 11) rfl dX7_isUnder_10 rfl ?_
    refine aw_callS (npc := 14) (N := mX7_isKind) (mc := 0) (ms := 0) (A := [.int 0]) (S := []) (L0 := [some (.int 0)]) dX7_isUnder_11 rfl km_X7_isKind kk_X7_67 rfl ⟨rfl, by decide⟩ rfl (Nat.le_of_ble_eq_true rfl) (Nat.zero_add _) (Nat.zero_add _) rfl ?_
    refine c_X7_isKind (fun _ => ?_) (fun hw71 => absurd ⟨by decide, by decide⟩ hw71)
    refine aw_re (S' := [.int 1]) rfl ?_
    refine aw_if_eq (npc := 17) (tgt := 36) dX7_isUnder_14 rfl (by decide) (fun hc => absurd hc (by decide)) (fun _ => ?_)
    refine aw_iload_n (npc := 18) rfl dX7_isUnder_17 rfl ?_
    refine aw_iload_n (npc := 19) rfl dX7_isUnder_18 rfl ?_
    refine aw_icmp_ne (npc := 22) (tgt := 24) dX7_isUnder_19 rfl (by decide) (fun _ => ?_) (fun hc => absurd hc (by decide))
    refine aw_above (npc := 27) dX7_isUnder_24 rfl ks_X7_322 ?_
    refine aw_iload_n (npc := 28) rfl dX7_isUnder_27 rfl ?_
    refine aw_above_ld (npc := 29) (j := 0) dX7_isUnder_28 rfl ⟨by decide, by decide⟩ rfl ?_
    refine aw_istore_n (npc := 30) (L' := [some (.int 4), some (.int 3), some (.int (-1)), some (.int 2)]) dX7_isUnder_29 rfl (by decide) rfl rfl ?_
    refine aw_iinc (npc := 33) (v := 3) (L' := [some (.int 4), some (.int 3), some (.int (-1)), some (.int 3)]) dX7_isUnder_30 rfl rfl (by decide) (by decide) rfl rfl ?_
    refine aw_goto (npc := 4) dX7_isUnder_33 (by decide) ?_
    refine aw_iload_n (npc := 5) rfl dX7_isUnder_4 rfl ?_
    refine aw_bipush (npc := 7) (v := 6) (by decide) dX7_isUnder_5 rfl ?_
    refine aw_icmp_ge (npc := 10) (tgt := 36) dX7_isUnder_7 rfl (by decide) (fun hc => absurd hc (by decide)) (fun _ => ?_)
    refine aw_iload_n (npc := 11) rfl dX7_isUnder_10 rfl ?_
    refine aw_callS (npc := 14) (N := mX7_isKind) (mc := 0) (ms := 0) (A := [.int (-1)]) (S := []) (L0 := [some (.int (-1))]) dX7_isUnder_11 rfl km_X7_isKind kk_X7_67 rfl ⟨rfl, by decide⟩ rfl (Nat.le_of_ble_eq_true rfl) (Nat.zero_add _) (Nat.zero_add _) rfl ?_
    refine c_X7_isKind (fun hw72 => absurd hw72 (fun z => absurd z (by unfold wi; decide))) (fun _ => ?_)
    refine aw_re (S' := [.int 0]) rfl ?_
    refine aw_if_eq (npc := 17) (tgt := 36) dX7_isUnder_14 rfl (by decide) (fun _ => ?_) (fun hc => absurd (by decide) hc)
    refine aw_iconst (npc := 37) (v := 0) (by decide) dX7_isUnder_36 rfl ?_
    refine aw_zret rfl rfl dX7_isUnder_37 ?_
    exact (show (if undr k g then (1 : Int32) else 0) = 0 by rw [ek, eg]; decide) ▸ hq
  · refine aw_locs (L' := [some (.int 4), some (.int 4), none, none]) (by rw [ek, eg]) ?_
    refine aw_iload_n (npc := 1) rfl dX7_isUnder_0 rfl ?_
    refine aw_istore_n (npc := 2) (L' := [some (.int 4), some (.int 4), some (.int 4), none]) dX7_isUnder_1 rfl (by decide) rfl rfl ?_
    refine aw_iconst (npc := 3) (v := 0) (by decide) dX7_isUnder_2 rfl ?_
    refine aw_istore_n (npc := 4) (L' := [some (.int 4), some (.int 4), some (.int 4), some (.int 0)]) dX7_isUnder_3 rfl (by decide) rfl rfl ?_
    refine aw_iload_n (npc := 5) rfl dX7_isUnder_4 rfl ?_
    refine aw_bipush (npc := 7) (v := 6) (by decide) dX7_isUnder_5 rfl ?_
    refine aw_icmp_ge (npc := 10) (tgt := 36) dX7_isUnder_7 rfl (by decide) (fun hc => absurd hc (by decide)) (fun _ => ?_)
    refine aw_iload_n (npc := 11) rfl dX7_isUnder_10 rfl ?_
    refine aw_callS (npc := 14) (N := mX7_isKind) (mc := 0) (ms := 0) (A := [.int 4]) (S := []) (L0 := [some (.int 4)]) dX7_isUnder_11 rfl km_X7_isKind kk_X7_67 rfl ⟨rfl, by decide⟩ rfl (Nat.le_of_ble_eq_true rfl) (Nat.zero_add _) (Nat.zero_add _) rfl ?_
    refine c_X7_isKind (fun _ => ?_) (fun hw73 => absurd ⟨by decide, by decide⟩ hw73)
    refine aw_re (S' := [.int 1]) rfl ?_
    refine aw_if_eq (npc := 17) (tgt := 36) dX7_isUnder_14 rfl (by decide) (fun hc => absurd hc (by decide)) (fun _ => ?_)
    refine aw_iload_n (npc := 18) rfl dX7_isUnder_17 rfl ?_
    refine aw_iload_n (npc := 19) rfl dX7_isUnder_18 rfl ?_
    refine aw_icmp_ne (npc := 22) (tgt := 24) dX7_isUnder_19 rfl (by decide) (fun hc => absurd (by decide) hc) (fun _ => ?_)
    refine aw_iconst (npc := 23) (v := 1) (by decide) dX7_isUnder_22 rfl ?_
    refine aw_zret rfl rfl dX7_isUnder_23 ?_
    exact (show (if undr k g then (1 : Int32) else 0) = 1 by rw [ek, eg]; decide) ▸ hq
  · refine aw_locs (L' := [some (.int 4), some (.int 5), none, none]) (by rw [ek, eg]) ?_
    refine aw_iload_n (npc := 1) rfl dX7_isUnder_0 rfl ?_
    refine aw_istore_n (npc := 2) (L' := [some (.int 4), some (.int 5), some (.int 4), none]) dX7_isUnder_1 rfl (by decide) rfl rfl ?_
    refine aw_iconst (npc := 3) (v := 0) (by decide) dX7_isUnder_2 rfl ?_
    refine aw_istore_n (npc := 4) (L' := [some (.int 4), some (.int 5), some (.int 4), some (.int 0)]) dX7_isUnder_3 rfl (by decide) rfl rfl ?_
    refine aw_iload_n (npc := 5) rfl dX7_isUnder_4 rfl ?_
    refine aw_bipush (npc := 7) (v := 6) (by decide) dX7_isUnder_5 rfl ?_
    refine aw_icmp_ge (npc := 10) (tgt := 36) dX7_isUnder_7 rfl (by decide) (fun hc => absurd hc (by decide)) (fun _ => ?_)
    refine aw_iload_n (npc := 11) rfl dX7_isUnder_10 rfl ?_
    refine aw_callS (npc := 14) (N := mX7_isKind) (mc := 0) (ms := 0) (A := [.int 4]) (S := []) (L0 := [some (.int 4)]) dX7_isUnder_11 rfl km_X7_isKind kk_X7_67 rfl ⟨rfl, by decide⟩ rfl (Nat.le_of_ble_eq_true rfl) (Nat.zero_add _) (Nat.zero_add _) rfl ?_
    refine c_X7_isKind (fun _ => ?_) (fun hw74 => absurd ⟨by decide, by decide⟩ hw74)
    refine aw_re (S' := [.int 1]) rfl ?_
    refine aw_if_eq (npc := 17) (tgt := 36) dX7_isUnder_14 rfl (by decide) (fun hc => absurd hc (by decide)) (fun _ => ?_)
    refine aw_iload_n (npc := 18) rfl dX7_isUnder_17 rfl ?_
    refine aw_iload_n (npc := 19) rfl dX7_isUnder_18 rfl ?_
    refine aw_icmp_ne (npc := 22) (tgt := 24) dX7_isUnder_19 rfl (by decide) (fun _ => ?_) (fun hc => absurd hc (by decide))
    refine aw_above (npc := 27) dX7_isUnder_24 rfl ks_X7_322 ?_
    refine aw_iload_n (npc := 28) rfl dX7_isUnder_27 rfl ?_
    refine aw_above_ld (npc := 29) (j := 4) dX7_isUnder_28 rfl ⟨by decide, by decide⟩ rfl ?_
    refine aw_istore_n (npc := 30) (L' := [some (.int 4), some (.int 5), some (.int 2), some (.int 0)]) dX7_isUnder_29 rfl (by decide) rfl rfl ?_
    refine aw_iinc (npc := 33) (v := 1) (L' := [some (.int 4), some (.int 5), some (.int 2), some (.int 1)]) dX7_isUnder_30 rfl rfl (by decide) (by decide) rfl rfl ?_
    refine aw_goto (npc := 4) dX7_isUnder_33 (by decide) ?_
    refine aw_iload_n (npc := 5) rfl dX7_isUnder_4 rfl ?_
    refine aw_bipush (npc := 7) (v := 6) (by decide) dX7_isUnder_5 rfl ?_
    refine aw_icmp_ge (npc := 10) (tgt := 36) dX7_isUnder_7 rfl (by decide) (fun hc => absurd hc (by decide)) (fun _ => ?_)
    refine aw_iload_n (npc := 11) rfl dX7_isUnder_10 rfl ?_
    refine aw_callS (npc := 14) (N := mX7_isKind) (mc := 0) (ms := 0) (A := [.int 2]) (S := []) (L0 := [some (.int 2)]) dX7_isUnder_11 rfl km_X7_isKind kk_X7_67 rfl ⟨rfl, by decide⟩ rfl (Nat.le_of_ble_eq_true rfl) (Nat.zero_add _) (Nat.zero_add _) rfl ?_
    refine c_X7_isKind (fun _ => ?_) (fun hw75 => absurd ⟨by decide, by decide⟩ hw75)
    refine aw_re (S' := [.int 1]) rfl ?_
    refine aw_if_eq (npc := 17) (tgt := 36) dX7_isUnder_14 rfl (by decide) (fun hc => absurd hc (by decide)) (fun _ => ?_)
    refine aw_iload_n (npc := 18) rfl dX7_isUnder_17 rfl ?_
    refine aw_iload_n (npc := 19) rfl dX7_isUnder_18 rfl ?_
    refine aw_icmp_ne (npc := 22) (tgt := 24) dX7_isUnder_19 rfl (by decide) (fun _ => ?_) (fun hc => absurd hc (by decide))
    refine aw_above (npc := 27) dX7_isUnder_24 rfl ks_X7_322 ?_
    refine aw_iload_n (npc := 28) rfl dX7_isUnder_27 rfl ?_
    refine aw_above_ld (npc := 29) (j := 2) dX7_isUnder_28 rfl ⟨by decide, by decide⟩ rfl ?_
    refine aw_istore_n (npc := 30) (L' := [some (.int 4), some (.int 5), some (.int 0), some (.int 1)]) dX7_isUnder_29 rfl (by decide) rfl rfl ?_
    refine aw_iinc (npc := 33) (v := 2) (L' := [some (.int 4), some (.int 5), some (.int 0), some (.int 2)]) dX7_isUnder_30 rfl rfl (by decide) (by decide) rfl rfl ?_
    refine aw_goto (npc := 4) dX7_isUnder_33 (by decide) ?_
    refine aw_iload_n (npc := 5) rfl dX7_isUnder_4 rfl ?_
    refine aw_bipush (npc := 7) (v := 6) (by decide) dX7_isUnder_5 rfl ?_
    refine aw_icmp_ge (npc := 10) (tgt := 36) dX7_isUnder_7 rfl (by decide) (fun hc => absurd hc (by decide)) (fun _ => ?_)
    refine aw_iload_n (npc := 11) rfl dX7_isUnder_10 rfl ?_
    refine aw_callS (npc := 14) (N := mX7_isKind) (mc := 0) (ms := 0) (A := [.int 0]) (S := []) (L0 := [some (.int 0)]) dX7_isUnder_11 rfl km_X7_isKind kk_X7_67 rfl ⟨rfl, by decide⟩ rfl (Nat.le_of_ble_eq_true rfl) (Nat.zero_add _) (Nat.zero_add _) rfl ?_
    refine c_X7_isKind (fun _ => ?_) (fun hw76 => absurd ⟨by decide, by decide⟩ hw76)
    refine aw_re (S' := [.int 1]) rfl ?_
    refine aw_if_eq (npc := 17) (tgt := 36) dX7_isUnder_14 rfl (by decide) (fun hc => absurd hc (by decide)) (fun _ => ?_)
    refine aw_iload_n (npc := 18) rfl dX7_isUnder_17 rfl ?_
    refine aw_iload_n (npc := 19) rfl dX7_isUnder_18 rfl ?_
    refine aw_icmp_ne (npc := 22) (tgt := 24) dX7_isUnder_19 rfl (by decide) (fun _ => ?_) (fun hc => absurd hc (by decide))
    refine aw_above (npc := 27) dX7_isUnder_24 rfl ks_X7_322 ?_
    refine aw_iload_n (npc := 28) rfl dX7_isUnder_27 rfl ?_
    refine aw_above_ld (npc := 29) (j := 0) dX7_isUnder_28 rfl ⟨by decide, by decide⟩ rfl ?_
    refine aw_istore_n (npc := 30) (L' := [some (.int 4), some (.int 5), some (.int (-1)), some (.int 2)]) dX7_isUnder_29 rfl (by decide) rfl rfl ?_
    refine aw_iinc (npc := 33) (v := 3) (L' := [some (.int 4), some (.int 5), some (.int (-1)), some (.int 3)]) dX7_isUnder_30 rfl rfl (by decide) (by decide) rfl rfl ?_
    refine aw_goto (npc := 4) dX7_isUnder_33 (by decide) ?_
    refine aw_iload_n (npc := 5) rfl dX7_isUnder_4 rfl ?_
    refine aw_bipush (npc := 7) (v := 6) (by decide) dX7_isUnder_5 rfl ?_
    refine aw_icmp_ge (npc := 10) (tgt := 36) dX7_isUnder_7 rfl (by decide) (fun hc => absurd hc (by decide)) (fun _ => ?_)
    refine aw_iload_n (npc := 11) rfl dX7_isUnder_10 rfl ?_
    refine aw_callS (npc := 14) (N := mX7_isKind) (mc := 0) (ms := 0) (A := [.int (-1)]) (S := []) (L0 := [some (.int (-1))]) dX7_isUnder_11 rfl km_X7_isKind kk_X7_67 rfl ⟨rfl, by decide⟩ rfl (Nat.le_of_ble_eq_true rfl) (Nat.zero_add _) (Nat.zero_add _) rfl ?_
    refine c_X7_isKind (fun hw77 => absurd hw77 (fun z => absurd z (by unfold wi; decide))) (fun _ => ?_)
    refine aw_re (S' := [.int 0]) rfl ?_
    refine aw_if_eq (npc := 17) (tgt := 36) dX7_isUnder_14 rfl (by decide) (fun _ => ?_) (fun hc => absurd (by decide) hc)
    refine aw_iconst (npc := 37) (v := 0) (by decide) dX7_isUnder_36 rfl ?_
    refine aw_zret rfl rfl dX7_isUnder_37 ?_
    exact (show (if undr k g then (1 : Int32) else 0) = 0 by rw [ek, eg]; decide) ▸ hq
  · refine aw_locs (L' := [some (.int 5), some (.int 0), none, none]) (by rw [ek, eg]) ?_
    refine aw_iload_n (npc := 1) rfl dX7_isUnder_0 rfl ?_
    refine aw_istore_n (npc := 2) (L' := [some (.int 5), some (.int 0), some (.int 5), none]) dX7_isUnder_1 rfl (by decide) rfl rfl ?_
    refine aw_iconst (npc := 3) (v := 0) (by decide) dX7_isUnder_2 rfl ?_
    refine aw_istore_n (npc := 4) (L' := [some (.int 5), some (.int 0), some (.int 5), some (.int 0)]) dX7_isUnder_3 rfl (by decide) rfl rfl ?_
    refine aw_iload_n (npc := 5) rfl dX7_isUnder_4 rfl ?_
    refine aw_bipush (npc := 7) (v := 6) (by decide) dX7_isUnder_5 rfl ?_
    refine aw_icmp_ge (npc := 10) (tgt := 36) dX7_isUnder_7 rfl (by decide) (fun hc => absurd hc (by decide)) (fun _ => ?_)
    refine aw_iload_n (npc := 11) rfl dX7_isUnder_10 rfl ?_
    refine aw_callS (npc := 14) (N := mX7_isKind) (mc := 0) (ms := 0) (A := [.int 5]) (S := []) (L0 := [some (.int 5)]) dX7_isUnder_11 rfl km_X7_isKind kk_X7_67 rfl ⟨rfl, by decide⟩ rfl (Nat.le_of_ble_eq_true rfl) (Nat.zero_add _) (Nat.zero_add _) rfl ?_
    refine c_X7_isKind (fun _ => ?_) (fun hw78 => absurd ⟨by decide, by decide⟩ hw78)
    refine aw_re (S' := [.int 1]) rfl ?_
    refine aw_if_eq (npc := 17) (tgt := 36) dX7_isUnder_14 rfl (by decide) (fun hc => absurd hc (by decide)) (fun _ => ?_)
    refine aw_iload_n (npc := 18) rfl dX7_isUnder_17 rfl ?_
    refine aw_iload_n (npc := 19) rfl dX7_isUnder_18 rfl ?_
    refine aw_icmp_ne (npc := 22) (tgt := 24) dX7_isUnder_19 rfl (by decide) (fun _ => ?_) (fun hc => absurd hc (by decide))
    refine aw_above (npc := 27) dX7_isUnder_24 rfl ks_X7_322 ?_
    refine aw_iload_n (npc := 28) rfl dX7_isUnder_27 rfl ?_
    refine aw_above_ld (npc := 29) (j := 5) dX7_isUnder_28 rfl ⟨by decide, by decide⟩ rfl ?_
    refine aw_istore_n (npc := 30) (L' := [some (.int 5), some (.int 0), some (.int 0), some (.int 0)]) dX7_isUnder_29 rfl (by decide) rfl rfl ?_
    refine aw_iinc (npc := 33) (v := 1) (L' := [some (.int 5), some (.int 0), some (.int 0), some (.int 1)]) dX7_isUnder_30 rfl rfl (by decide) (by decide) rfl rfl ?_
    refine aw_goto (npc := 4) dX7_isUnder_33 (by decide) ?_
    refine aw_iload_n (npc := 5) rfl dX7_isUnder_4 rfl ?_
    refine aw_bipush (npc := 7) (v := 6) (by decide) dX7_isUnder_5 rfl ?_
    refine aw_icmp_ge (npc := 10) (tgt := 36) dX7_isUnder_7 rfl (by decide) (fun hc => absurd hc (by decide)) (fun _ => ?_)
    refine aw_iload_n (npc := 11) rfl dX7_isUnder_10 rfl ?_
    refine aw_callS (npc := 14) (N := mX7_isKind) (mc := 0) (ms := 0) (A := [.int 0]) (S := []) (L0 := [some (.int 0)]) dX7_isUnder_11 rfl km_X7_isKind kk_X7_67 rfl ⟨rfl, by decide⟩ rfl (Nat.le_of_ble_eq_true rfl) (Nat.zero_add _) (Nat.zero_add _) rfl ?_
    refine c_X7_isKind (fun _ => ?_) (fun hw79 => absurd ⟨by decide, by decide⟩ hw79)
    refine aw_re (S' := [.int 1]) rfl ?_
    refine aw_if_eq (npc := 17) (tgt := 36) dX7_isUnder_14 rfl (by decide) (fun hc => absurd hc (by decide)) (fun _ => ?_)
    refine aw_iload_n (npc := 18) rfl dX7_isUnder_17 rfl ?_
    refine aw_iload_n (npc := 19) rfl dX7_isUnder_18 rfl ?_
    refine aw_icmp_ne (npc := 22) (tgt := 24) dX7_isUnder_19 rfl (by decide) (fun hc => absurd (by decide) hc) (fun _ => ?_)
    refine aw_iconst (npc := 23) (v := 1) (by decide) dX7_isUnder_22 rfl ?_
    refine aw_zret rfl rfl dX7_isUnder_23 ?_
    exact (show (if undr k g then (1 : Int32) else 0) = 1 by rw [ek, eg]; decide) ▸ hq
  · refine aw_locs (L' := [some (.int 5), some (.int 1), none, none]) (by rw [ek, eg]) ?_
    refine aw_iload_n (npc := 1) rfl dX7_isUnder_0 rfl ?_
    refine aw_istore_n (npc := 2) (L' := [some (.int 5), some (.int 1), some (.int 5), none]) dX7_isUnder_1 rfl (by decide) rfl rfl ?_
    refine aw_iconst (npc := 3) (v := 0) (by decide) dX7_isUnder_2 rfl ?_
    refine aw_istore_n (npc := 4) (L' := [some (.int 5), some (.int 1), some (.int 5), some (.int 0)]) dX7_isUnder_3 rfl (by decide) rfl rfl ?_
    refine aw_iload_n (npc := 5) rfl dX7_isUnder_4 rfl ?_
    refine aw_bipush (npc := 7) (v := 6) (by decide) dX7_isUnder_5 rfl ?_
    refine aw_icmp_ge (npc := 10) (tgt := 36) dX7_isUnder_7 rfl (by decide) (fun hc => absurd hc (by decide)) (fun _ => ?_)
    refine aw_iload_n (npc := 11) rfl dX7_isUnder_10 rfl ?_
    refine aw_callS (npc := 14) (N := mX7_isKind) (mc := 0) (ms := 0) (A := [.int 5]) (S := []) (L0 := [some (.int 5)]) dX7_isUnder_11 rfl km_X7_isKind kk_X7_67 rfl ⟨rfl, by decide⟩ rfl (Nat.le_of_ble_eq_true rfl) (Nat.zero_add _) (Nat.zero_add _) rfl ?_
    refine c_X7_isKind (fun _ => ?_) (fun hw80 => absurd ⟨by decide, by decide⟩ hw80)
    refine aw_re (S' := [.int 1]) rfl ?_
    refine aw_if_eq (npc := 17) (tgt := 36) dX7_isUnder_14 rfl (by decide) (fun hc => absurd hc (by decide)) (fun _ => ?_)
    refine aw_iload_n (npc := 18) rfl dX7_isUnder_17 rfl ?_
    refine aw_iload_n (npc := 19) rfl dX7_isUnder_18 rfl ?_
    refine aw_icmp_ne (npc := 22) (tgt := 24) dX7_isUnder_19 rfl (by decide) (fun _ => ?_) (fun hc => absurd hc (by decide))
    refine aw_above (npc := 27) dX7_isUnder_24 rfl ks_X7_322 ?_
    refine aw_iload_n (npc := 28) rfl dX7_isUnder_27 rfl ?_
    refine aw_above_ld (npc := 29) (j := 5) dX7_isUnder_28 rfl ⟨by decide, by decide⟩ rfl ?_
    refine aw_istore_n (npc := 30) (L' := [some (.int 5), some (.int 1), some (.int 0), some (.int 0)]) dX7_isUnder_29 rfl (by decide) rfl rfl ?_
    refine aw_iinc (npc := 33) (v := 1) (L' := [some (.int 5), some (.int 1), some (.int 0), some (.int 1)]) dX7_isUnder_30 rfl rfl (by decide) (by decide) rfl rfl ?_
    refine aw_goto (npc := 4) dX7_isUnder_33 (by decide) ?_
    refine aw_iload_n (npc := 5) rfl dX7_isUnder_4 rfl ?_
    refine aw_bipush (npc := 7) (v := 6) (by decide) dX7_isUnder_5 rfl ?_
    refine aw_icmp_ge (npc := 10) (tgt := 36) dX7_isUnder_7 rfl (by decide) (fun hc => absurd hc (by decide)) (fun _ => ?_)
    refine aw_iload_n (npc := 11) rfl dX7_isUnder_10 rfl ?_
    refine aw_callS (npc := 14) (N := mX7_isKind) (mc := 0) (ms := 0) (A := [.int 0]) (S := []) (L0 := [some (.int 0)]) dX7_isUnder_11 rfl km_X7_isKind kk_X7_67 rfl ⟨rfl, by decide⟩ rfl (Nat.le_of_ble_eq_true rfl) (Nat.zero_add _) (Nat.zero_add _) rfl ?_
    refine c_X7_isKind (fun _ => ?_) (fun hw81 => absurd ⟨by decide, by decide⟩ hw81)
    refine aw_re (S' := [.int 1]) rfl ?_
    refine aw_if_eq (npc := 17) (tgt := 36) dX7_isUnder_14 rfl (by decide) (fun hc => absurd hc (by decide)) (fun _ => ?_)
    refine aw_iload_n (npc := 18) rfl dX7_isUnder_17 rfl ?_
    refine aw_iload_n (npc := 19) rfl dX7_isUnder_18 rfl ?_
    refine aw_icmp_ne (npc := 22) (tgt := 24) dX7_isUnder_19 rfl (by decide) (fun _ => ?_) (fun hc => absurd hc (by decide))
    refine aw_above (npc := 27) dX7_isUnder_24 rfl ks_X7_322 ?_
    refine aw_iload_n (npc := 28) rfl dX7_isUnder_27 rfl ?_
    refine aw_above_ld (npc := 29) (j := 0) dX7_isUnder_28 rfl ⟨by decide, by decide⟩ rfl ?_
    refine aw_istore_n (npc := 30) (L' := [some (.int 5), some (.int 1), some (.int (-1)), some (.int 1)]) dX7_isUnder_29 rfl (by decide) rfl rfl ?_
    refine aw_iinc (npc := 33) (v := 2) (L' := [some (.int 5), some (.int 1), some (.int (-1)), some (.int 2)]) dX7_isUnder_30 rfl rfl (by decide) (by decide) rfl rfl ?_
    refine aw_goto (npc := 4) dX7_isUnder_33 (by decide) ?_
    refine aw_iload_n (npc := 5) rfl dX7_isUnder_4 rfl ?_
    refine aw_bipush (npc := 7) (v := 6) (by decide) dX7_isUnder_5 rfl ?_
    refine aw_icmp_ge (npc := 10) (tgt := 36) dX7_isUnder_7 rfl (by decide) (fun hc => absurd hc (by decide)) (fun _ => ?_)
    refine aw_iload_n (npc := 11) rfl dX7_isUnder_10 rfl ?_
    refine aw_callS (npc := 14) (N := mX7_isKind) (mc := 0) (ms := 0) (A := [.int (-1)]) (S := []) (L0 := [some (.int (-1))]) dX7_isUnder_11 rfl km_X7_isKind kk_X7_67 rfl ⟨rfl, by decide⟩ rfl (Nat.le_of_ble_eq_true rfl) (Nat.zero_add _) (Nat.zero_add _) rfl ?_
    refine c_X7_isKind (fun hw82 => absurd hw82 (fun z => absurd z (by unfold wi; decide))) (fun _ => ?_)
    refine aw_re (S' := [.int 0]) rfl ?_
    refine aw_if_eq (npc := 17) (tgt := 36) dX7_isUnder_14 rfl (by decide) (fun _ => ?_) (fun hc => absurd (by decide) hc)
    refine aw_iconst (npc := 37) (v := 0) (by decide) dX7_isUnder_36 rfl ?_
    refine aw_zret rfl rfl dX7_isUnder_37 ?_
    exact (show (if undr k g then (1 : Int32) else 0) = 0 by rw [ek, eg]; decide) ▸ hq
  · refine aw_locs (L' := [some (.int 5), some (.int 2), none, none]) (by rw [ek, eg]) ?_
    refine aw_iload_n (npc := 1) rfl dX7_isUnder_0 rfl ?_
    refine aw_istore_n (npc := 2) (L' := [some (.int 5), some (.int 2), some (.int 5), none]) dX7_isUnder_1 rfl (by decide) rfl rfl ?_
    refine aw_iconst (npc := 3) (v := 0) (by decide) dX7_isUnder_2 rfl ?_
    refine aw_istore_n (npc := 4) (L' := [some (.int 5), some (.int 2), some (.int 5), some (.int 0)]) dX7_isUnder_3 rfl (by decide) rfl rfl ?_
    refine aw_iload_n (npc := 5) rfl dX7_isUnder_4 rfl ?_
    refine aw_bipush (npc := 7) (v := 6) (by decide) dX7_isUnder_5 rfl ?_
    refine aw_icmp_ge (npc := 10) (tgt := 36) dX7_isUnder_7 rfl (by decide) (fun hc => absurd hc (by decide)) (fun _ => ?_)
    refine aw_iload_n (npc := 11) rfl dX7_isUnder_10 rfl ?_
    refine aw_callS (npc := 14) (N := mX7_isKind) (mc := 0) (ms := 0) (A := [.int 5]) (S := []) (L0 := [some (.int 5)]) dX7_isUnder_11 rfl km_X7_isKind kk_X7_67 rfl ⟨rfl, by decide⟩ rfl (Nat.le_of_ble_eq_true rfl) (Nat.zero_add _) (Nat.zero_add _) rfl ?_
    refine c_X7_isKind (fun _ => ?_) (fun hw83 => absurd ⟨by decide, by decide⟩ hw83)
    refine aw_re (S' := [.int 1]) rfl ?_
    refine aw_if_eq (npc := 17) (tgt := 36) dX7_isUnder_14 rfl (by decide) (fun hc => absurd hc (by decide)) (fun _ => ?_)
    refine aw_iload_n (npc := 18) rfl dX7_isUnder_17 rfl ?_
    refine aw_iload_n (npc := 19) rfl dX7_isUnder_18 rfl ?_
    refine aw_icmp_ne (npc := 22) (tgt := 24) dX7_isUnder_19 rfl (by decide) (fun _ => ?_) (fun hc => absurd hc (by decide))
    refine aw_above (npc := 27) dX7_isUnder_24 rfl ks_X7_322 ?_
    refine aw_iload_n (npc := 28) rfl dX7_isUnder_27 rfl ?_
    refine aw_above_ld (npc := 29) (j := 5) dX7_isUnder_28 rfl ⟨by decide, by decide⟩ rfl ?_
    refine aw_istore_n (npc := 30) (L' := [some (.int 5), some (.int 2), some (.int 0), some (.int 0)]) dX7_isUnder_29 rfl (by decide) rfl rfl ?_
    refine aw_iinc (npc := 33) (v := 1) (L' := [some (.int 5), some (.int 2), some (.int 0), some (.int 1)]) dX7_isUnder_30 rfl rfl (by decide) (by decide) rfl rfl ?_
    refine aw_goto (npc := 4) dX7_isUnder_33 (by decide) ?_
    refine aw_iload_n (npc := 5) rfl dX7_isUnder_4 rfl ?_
    refine aw_bipush (npc := 7) (v := 6) (by decide) dX7_isUnder_5 rfl ?_
    refine aw_icmp_ge (npc := 10) (tgt := 36) dX7_isUnder_7 rfl (by decide) (fun hc => absurd hc (by decide)) (fun _ => ?_)
    refine aw_iload_n (npc := 11) rfl dX7_isUnder_10 rfl ?_
    refine aw_callS (npc := 14) (N := mX7_isKind) (mc := 0) (ms := 0) (A := [.int 0]) (S := []) (L0 := [some (.int 0)]) dX7_isUnder_11 rfl km_X7_isKind kk_X7_67 rfl ⟨rfl, by decide⟩ rfl (Nat.le_of_ble_eq_true rfl) (Nat.zero_add _) (Nat.zero_add _) rfl ?_
    refine c_X7_isKind (fun _ => ?_) (fun hw84 => absurd ⟨by decide, by decide⟩ hw84)
    refine aw_re (S' := [.int 1]) rfl ?_
    refine aw_if_eq (npc := 17) (tgt := 36) dX7_isUnder_14 rfl (by decide) (fun hc => absurd hc (by decide)) (fun _ => ?_)
    refine aw_iload_n (npc := 18) rfl dX7_isUnder_17 rfl ?_
    refine aw_iload_n (npc := 19) rfl dX7_isUnder_18 rfl ?_
    refine aw_icmp_ne (npc := 22) (tgt := 24) dX7_isUnder_19 rfl (by decide) (fun _ => ?_) (fun hc => absurd hc (by decide))
    refine aw_above (npc := 27) dX7_isUnder_24 rfl ks_X7_322 ?_
    refine aw_iload_n (npc := 28) rfl dX7_isUnder_27 rfl ?_
    refine aw_above_ld (npc := 29) (j := 0) dX7_isUnder_28 rfl ⟨by decide, by decide⟩ rfl ?_
    refine aw_istore_n (npc := 30) (L' := [some (.int 5), some (.int 2), some (.int (-1)), some (.int 1)]) dX7_isUnder_29 rfl (by decide) rfl rfl ?_
    refine aw_iinc (npc := 33) (v := 2) (L' := [some (.int 5), some (.int 2), some (.int (-1)), some (.int 2)]) dX7_isUnder_30 rfl rfl (by decide) (by decide) rfl rfl ?_
    refine aw_goto (npc := 4) dX7_isUnder_33 (by decide) ?_
    refine aw_iload_n (npc := 5) rfl dX7_isUnder_4 rfl ?_
    refine aw_bipush (npc := 7) (v := 6) (by decide) dX7_isUnder_5 rfl ?_
    refine aw_icmp_ge (npc := 10) (tgt := 36) dX7_isUnder_7 rfl (by decide) (fun hc => absurd hc (by decide)) (fun _ => ?_)
    refine aw_iload_n (npc := 11) rfl dX7_isUnder_10 rfl ?_
    refine aw_callS (npc := 14) (N := mX7_isKind) (mc := 0) (ms := 0) (A := [.int (-1)]) (S := []) (L0 := [some (.int (-1))]) dX7_isUnder_11 rfl km_X7_isKind kk_X7_67 rfl ⟨rfl, by decide⟩ rfl (Nat.le_of_ble_eq_true rfl) (Nat.zero_add _) (Nat.zero_add _) rfl ?_
    refine c_X7_isKind (fun hw85 => absurd hw85 (fun z => absurd z (by unfold wi; decide))) (fun _ => ?_)
    refine aw_re (S' := [.int 0]) rfl ?_
    refine aw_if_eq (npc := 17) (tgt := 36) dX7_isUnder_14 rfl (by decide) (fun _ => ?_) (fun hc => absurd (by decide) hc)
    refine aw_iconst (npc := 37) (v := 0) (by decide) dX7_isUnder_36 rfl ?_
    refine aw_zret rfl rfl dX7_isUnder_37 ?_
    exact (show (if undr k g then (1 : Int32) else 0) = 0 by rw [ek, eg]; decide) ▸ hq
  · refine aw_locs (L' := [some (.int 5), some (.int 3), none, none]) (by rw [ek, eg]) ?_
    refine aw_iload_n (npc := 1) rfl dX7_isUnder_0 rfl ?_
    refine aw_istore_n (npc := 2) (L' := [some (.int 5), some (.int 3), some (.int 5), none]) dX7_isUnder_1 rfl (by decide) rfl rfl ?_
    refine aw_iconst (npc := 3) (v := 0) (by decide) dX7_isUnder_2 rfl ?_
    refine aw_istore_n (npc := 4) (L' := [some (.int 5), some (.int 3), some (.int 5), some (.int 0)]) dX7_isUnder_3 rfl (by decide) rfl rfl ?_
    refine aw_iload_n (npc := 5) rfl dX7_isUnder_4 rfl ?_
    refine aw_bipush (npc := 7) (v := 6) (by decide) dX7_isUnder_5 rfl ?_
    refine aw_icmp_ge (npc := 10) (tgt := 36) dX7_isUnder_7 rfl (by decide) (fun hc => absurd hc (by decide)) (fun _ => ?_)
    refine aw_iload_n (npc := 11) rfl dX7_isUnder_10 rfl ?_
    refine aw_callS (npc := 14) (N := mX7_isKind) (mc := 0) (ms := 0) (A := [.int 5]) (S := []) (L0 := [some (.int 5)]) dX7_isUnder_11 rfl km_X7_isKind kk_X7_67 rfl ⟨rfl, by decide⟩ rfl (Nat.le_of_ble_eq_true rfl) (Nat.zero_add _) (Nat.zero_add _) rfl ?_
    refine c_X7_isKind (fun _ => ?_) (fun hw86 => absurd ⟨by decide, by decide⟩ hw86)
    refine aw_re (S' := [.int 1]) rfl ?_
    refine aw_if_eq (npc := 17) (tgt := 36) dX7_isUnder_14 rfl (by decide) (fun hc => absurd hc (by decide)) (fun _ => ?_)
    refine aw_iload_n (npc := 18) rfl dX7_isUnder_17 rfl ?_
    refine aw_iload_n (npc := 19) rfl dX7_isUnder_18 rfl ?_
    refine aw_icmp_ne (npc := 22) (tgt := 24) dX7_isUnder_19 rfl (by decide) (fun _ => ?_) (fun hc => absurd hc (by decide))
    refine aw_above (npc := 27) dX7_isUnder_24 rfl ks_X7_322 ?_
    refine aw_iload_n (npc := 28) rfl dX7_isUnder_27 rfl ?_
    refine aw_above_ld (npc := 29) (j := 5) dX7_isUnder_28 rfl ⟨by decide, by decide⟩ rfl ?_
    refine aw_istore_n (npc := 30) (L' := [some (.int 5), some (.int 3), some (.int 0), some (.int 0)]) dX7_isUnder_29 rfl (by decide) rfl rfl ?_
    refine aw_iinc (npc := 33) (v := 1) (L' := [some (.int 5), some (.int 3), some (.int 0), some (.int 1)]) dX7_isUnder_30 rfl rfl (by decide) (by decide) rfl rfl ?_
    refine aw_goto (npc := 4) dX7_isUnder_33 (by decide) ?_
    refine aw_iload_n (npc := 5) rfl dX7_isUnder_4 rfl ?_
    refine aw_bipush (npc := 7) (v := 6) (by decide) dX7_isUnder_5 rfl ?_
    refine aw_icmp_ge (npc := 10) (tgt := 36) dX7_isUnder_7 rfl (by decide) (fun hc => absurd hc (by decide)) (fun _ => ?_)
    refine aw_iload_n (npc := 11) rfl dX7_isUnder_10 rfl ?_
    refine aw_callS (npc := 14) (N := mX7_isKind) (mc := 0) (ms := 0) (A := [.int 0]) (S := []) (L0 := [some (.int 0)]) dX7_isUnder_11 rfl km_X7_isKind kk_X7_67 rfl ⟨rfl, by decide⟩ rfl (Nat.le_of_ble_eq_true rfl) (Nat.zero_add _) (Nat.zero_add _) rfl ?_
    refine c_X7_isKind (fun _ => ?_) (fun hw87 => absurd ⟨by decide, by decide⟩ hw87)
    refine aw_re (S' := [.int 1]) rfl ?_
    refine aw_if_eq (npc := 17) (tgt := 36) dX7_isUnder_14 rfl (by decide) (fun hc => absurd hc (by decide)) (fun _ => ?_)
    refine aw_iload_n (npc := 18) rfl dX7_isUnder_17 rfl ?_
    refine aw_iload_n (npc := 19) rfl dX7_isUnder_18 rfl ?_
    refine aw_icmp_ne (npc := 22) (tgt := 24) dX7_isUnder_19 rfl (by decide) (fun _ => ?_) (fun hc => absurd hc (by decide))
    refine aw_above (npc := 27) dX7_isUnder_24 rfl ks_X7_322 ?_
    refine aw_iload_n (npc := 28) rfl dX7_isUnder_27 rfl ?_
    refine aw_above_ld (npc := 29) (j := 0) dX7_isUnder_28 rfl ⟨by decide, by decide⟩ rfl ?_
    refine aw_istore_n (npc := 30) (L' := [some (.int 5), some (.int 3), some (.int (-1)), some (.int 1)]) dX7_isUnder_29 rfl (by decide) rfl rfl ?_
    refine aw_iinc (npc := 33) (v := 2) (L' := [some (.int 5), some (.int 3), some (.int (-1)), some (.int 2)]) dX7_isUnder_30 rfl rfl (by decide) (by decide) rfl rfl ?_
    refine aw_goto (npc := 4) dX7_isUnder_33 (by decide) ?_
    refine aw_iload_n (npc := 5) rfl dX7_isUnder_4 rfl ?_
    refine aw_bipush (npc := 7) (v := 6) (by decide) dX7_isUnder_5 rfl ?_
    refine aw_icmp_ge (npc := 10) (tgt := 36) dX7_isUnder_7 rfl (by decide) (fun hc => absurd hc (by decide)) (fun _ => ?_)
    refine aw_iload_n (npc := 11) rfl dX7_isUnder_10 rfl ?_
    refine aw_callS (npc := 14) (N := mX7_isKind) (mc := 0) (ms := 0) (A := [.int (-1)]) (S := []) (L0 := [some (.int (-1))]) dX7_isUnder_11 rfl km_X7_isKind kk_X7_67 rfl ⟨rfl, by decide⟩ rfl (Nat.le_of_ble_eq_true rfl) (Nat.zero_add _) (Nat.zero_add _) rfl ?_
    refine c_X7_isKind (fun hw88 => absurd hw88 (fun z => absurd z (by unfold wi; decide))) (fun _ => ?_)
    refine aw_re (S' := [.int 0]) rfl ?_
    refine aw_if_eq (npc := 17) (tgt := 36) dX7_isUnder_14 rfl (by decide) (fun _ => ?_) (fun hc => absurd (by decide) hc)
    refine aw_iconst (npc := 37) (v := 0) (by decide) dX7_isUnder_36 rfl ?_
    refine aw_zret rfl rfl dX7_isUnder_37 ?_
    exact (show (if undr k g then (1 : Int32) else 0) = 0 by rw [ek, eg]; decide) ▸ hq
  · refine aw_locs (L' := [some (.int 5), some (.int 4), none, none]) (by rw [ek, eg]) ?_
    refine aw_iload_n (npc := 1) rfl dX7_isUnder_0 rfl ?_
    refine aw_istore_n (npc := 2) (L' := [some (.int 5), some (.int 4), some (.int 5), none]) dX7_isUnder_1 rfl (by decide) rfl rfl ?_
    refine aw_iconst (npc := 3) (v := 0) (by decide) dX7_isUnder_2 rfl ?_
    refine aw_istore_n (npc := 4) (L' := [some (.int 5), some (.int 4), some (.int 5), some (.int 0)]) dX7_isUnder_3 rfl (by decide) rfl rfl ?_
    refine aw_iload_n (npc := 5) rfl dX7_isUnder_4 rfl ?_
    refine aw_bipush (npc := 7) (v := 6) (by decide) dX7_isUnder_5 rfl ?_
    refine aw_icmp_ge (npc := 10) (tgt := 36) dX7_isUnder_7 rfl (by decide) (fun hc => absurd hc (by decide)) (fun _ => ?_)
    refine aw_iload_n (npc := 11) rfl dX7_isUnder_10 rfl ?_
    refine aw_callS (npc := 14) (N := mX7_isKind) (mc := 0) (ms := 0) (A := [.int 5]) (S := []) (L0 := [some (.int 5)]) dX7_isUnder_11 rfl km_X7_isKind kk_X7_67 rfl ⟨rfl, by decide⟩ rfl (Nat.le_of_ble_eq_true rfl) (Nat.zero_add _) (Nat.zero_add _) rfl ?_
    refine c_X7_isKind (fun _ => ?_) (fun hw89 => absurd ⟨by decide, by decide⟩ hw89)
    refine aw_re (S' := [.int 1]) rfl ?_
    refine aw_if_eq (npc := 17) (tgt := 36) dX7_isUnder_14 rfl (by decide) (fun hc => absurd hc (by decide)) (fun _ => ?_)
    refine aw_iload_n (npc := 18) rfl dX7_isUnder_17 rfl ?_
    refine aw_iload_n (npc := 19) rfl dX7_isUnder_18 rfl ?_
    refine aw_icmp_ne (npc := 22) (tgt := 24) dX7_isUnder_19 rfl (by decide) (fun _ => ?_) (fun hc => absurd hc (by decide))
    refine aw_above (npc := 27) dX7_isUnder_24 rfl ks_X7_322 ?_
    refine aw_iload_n (npc := 28) rfl dX7_isUnder_27 rfl ?_
    refine aw_above_ld (npc := 29) (j := 5) dX7_isUnder_28 rfl ⟨by decide, by decide⟩ rfl ?_
    refine aw_istore_n (npc := 30) (L' := [some (.int 5), some (.int 4), some (.int 0), some (.int 0)]) dX7_isUnder_29 rfl (by decide) rfl rfl ?_
    refine aw_iinc (npc := 33) (v := 1) (L' := [some (.int 5), some (.int 4), some (.int 0), some (.int 1)]) dX7_isUnder_30 rfl rfl (by decide) (by decide) rfl rfl ?_
    refine aw_goto (npc := 4) dX7_isUnder_33 (by decide) ?_
    refine aw_iload_n (npc := 5) rfl dX7_isUnder_4 rfl ?_
    refine aw_bipush (npc := 7) (v := 6) (by decide) dX7_isUnder_5 rfl ?_
    refine aw_icmp_ge (npc := 10) (tgt := 36) dX7_isUnder_7 rfl (by decide) (fun hc => absurd hc (by decide)) (fun _ => ?_)
    refine aw_iload_n (npc := 11) rfl dX7_isUnder_10 rfl ?_
    refine aw_callS (npc := 14) (N := mX7_isKind) (mc := 0) (ms := 0) (A := [.int 0]) (S := []) (L0 := [some (.int 0)]) dX7_isUnder_11 rfl km_X7_isKind kk_X7_67 rfl ⟨rfl, by decide⟩ rfl (Nat.le_of_ble_eq_true rfl) (Nat.zero_add _) (Nat.zero_add _) rfl ?_
    refine c_X7_isKind (fun _ => ?_) (fun hw90 => absurd ⟨by decide, by decide⟩ hw90)
    refine aw_re (S' := [.int 1]) rfl ?_
    refine aw_if_eq (npc := 17) (tgt := 36) dX7_isUnder_14 rfl (by decide) (fun hc => absurd hc (by decide)) (fun _ => ?_)
    refine aw_iload_n (npc := 18) rfl dX7_isUnder_17 rfl ?_
    refine aw_iload_n (npc := 19) rfl dX7_isUnder_18 rfl ?_
    refine aw_icmp_ne (npc := 22) (tgt := 24) dX7_isUnder_19 rfl (by decide) (fun _ => ?_) (fun hc => absurd hc (by decide))
    refine aw_above (npc := 27) dX7_isUnder_24 rfl ks_X7_322 ?_
    refine aw_iload_n (npc := 28) rfl dX7_isUnder_27 rfl ?_
    refine aw_above_ld (npc := 29) (j := 0) dX7_isUnder_28 rfl ⟨by decide, by decide⟩ rfl ?_
    refine aw_istore_n (npc := 30) (L' := [some (.int 5), some (.int 4), some (.int (-1)), some (.int 1)]) dX7_isUnder_29 rfl (by decide) rfl rfl ?_
    refine aw_iinc (npc := 33) (v := 2) (L' := [some (.int 5), some (.int 4), some (.int (-1)), some (.int 2)]) dX7_isUnder_30 rfl rfl (by decide) (by decide) rfl rfl ?_
    refine aw_goto (npc := 4) dX7_isUnder_33 (by decide) ?_
    refine aw_iload_n (npc := 5) rfl dX7_isUnder_4 rfl ?_
    refine aw_bipush (npc := 7) (v := 6) (by decide) dX7_isUnder_5 rfl ?_
    refine aw_icmp_ge (npc := 10) (tgt := 36) dX7_isUnder_7 rfl (by decide) (fun hc => absurd hc (by decide)) (fun _ => ?_)
    refine aw_iload_n (npc := 11) rfl dX7_isUnder_10 rfl ?_
    refine aw_callS (npc := 14) (N := mX7_isKind) (mc := 0) (ms := 0) (A := [.int (-1)]) (S := []) (L0 := [some (.int (-1))]) dX7_isUnder_11 rfl km_X7_isKind kk_X7_67 rfl ⟨rfl, by decide⟩ rfl (Nat.le_of_ble_eq_true rfl) (Nat.zero_add _) (Nat.zero_add _) rfl ?_
    refine c_X7_isKind (fun hw91 => absurd hw91 (fun z => absurd z (by unfold wi; decide))) (fun _ => ?_)
    refine aw_re (S' := [.int 0]) rfl ?_
    refine aw_if_eq (npc := 17) (tgt := 36) dX7_isUnder_14 rfl (by decide) (fun _ => ?_) (fun hc => absurd (by decide) hc)
    refine aw_iconst (npc := 37) (v := 0) (by decide) dX7_isUnder_36 rfl ?_
    refine aw_zret rfl rfl dX7_isUnder_37 ?_
    exact (show (if undr k g then (1 : Int32) else 0) = 0 by rw [ek, eg]; decide) ▸ hq
  · refine aw_locs (L' := [some (.int 5), some (.int 5), none, none]) (by rw [ek, eg]) ?_
    refine aw_iload_n (npc := 1) rfl dX7_isUnder_0 rfl ?_
    refine aw_istore_n (npc := 2) (L' := [some (.int 5), some (.int 5), some (.int 5), none]) dX7_isUnder_1 rfl (by decide) rfl rfl ?_
    refine aw_iconst (npc := 3) (v := 0) (by decide) dX7_isUnder_2 rfl ?_
    refine aw_istore_n (npc := 4) (L' := [some (.int 5), some (.int 5), some (.int 5), some (.int 0)]) dX7_isUnder_3 rfl (by decide) rfl rfl ?_
    refine aw_iload_n (npc := 5) rfl dX7_isUnder_4 rfl ?_
    refine aw_bipush (npc := 7) (v := 6) (by decide) dX7_isUnder_5 rfl ?_
    refine aw_icmp_ge (npc := 10) (tgt := 36) dX7_isUnder_7 rfl (by decide) (fun hc => absurd hc (by decide)) (fun _ => ?_)
    refine aw_iload_n (npc := 11) rfl dX7_isUnder_10 rfl ?_
    refine aw_callS (npc := 14) (N := mX7_isKind) (mc := 0) (ms := 0) (A := [.int 5]) (S := []) (L0 := [some (.int 5)]) dX7_isUnder_11 rfl km_X7_isKind kk_X7_67 rfl ⟨rfl, by decide⟩ rfl (Nat.le_of_ble_eq_true rfl) (Nat.zero_add _) (Nat.zero_add _) rfl ?_
    refine c_X7_isKind (fun _ => ?_) (fun hw92 => absurd ⟨by decide, by decide⟩ hw92)
    refine aw_re (S' := [.int 1]) rfl ?_
    refine aw_if_eq (npc := 17) (tgt := 36) dX7_isUnder_14 rfl (by decide) (fun hc => absurd hc (by decide)) (fun _ => ?_)
    refine aw_iload_n (npc := 18) rfl dX7_isUnder_17 rfl ?_
    refine aw_iload_n (npc := 19) rfl dX7_isUnder_18 rfl ?_
    refine aw_icmp_ne (npc := 22) (tgt := 24) dX7_isUnder_19 rfl (by decide) (fun hc => absurd (by decide) hc) (fun _ => ?_)
    refine aw_iconst (npc := 23) (v := 1) (by decide) dX7_isUnder_22 rfl ?_
    refine aw_zret rfl rfl dX7_isUnder_23 ?_
    exact (show (if undr k g then (1 : Int32) else 0) = 1 by rw [ek, eg]; decide) ▸ hq
set_option maxHeartbeats 4000000 in
set_option maxRecDepth 100000 in
theorem c_X8_isUnder {X : List Int32} {d rc rs n : Nat} {Q : am_Q} {h : am_H} {k g : Int32} (hk : wi k 0 5) (hg : wi g 0 5) (hq : Q (some (.int (if undr k g then 1 else 0))) n h) : AW X mX8_isUnder (d + 1) rc rs 0 [some (.int k), some (.int g)] [] n h Q := by
  rcases wi_c0_5 hk with ek | ek | ek | ek | ek | ek <;> rcases wi_c0_5 hg with eg | eg | eg | eg | eg | eg
  · refine aw_locs (L' := [some (.int 0), some (.int 0)]) (by rw [ek, eg]) ?_
    refine aw_iload_n (npc := 1) rfl dX8_isUnder_0 rfl ?_
    refine aw_if_eq (npc := 4) (tgt := 29) dX8_isUnder_1 rfl (by decide) (fun _ => ?_) (fun hc => absurd (by decide) hc)
    refine aw_iconst (npc := 30) (v := 1) (by decide) dX8_isUnder_29 rfl ?_
    refine aw_goto (npc := 34) dX8_isUnder_30 (by decide) ?_
    refine aw_zret rfl rfl dX8_isUnder_34 ?_
    exact (show (if undr k g then (1 : Int32) else 0) = 1 by rw [ek, eg]; decide) ▸ hq
  · refine aw_locs (L' := [some (.int 0), some (.int 1)]) (by rw [ek, eg]) ?_
    refine aw_iload_n (npc := 1) rfl dX8_isUnder_0 rfl ?_
    refine aw_if_eq (npc := 4) (tgt := 29) dX8_isUnder_1 rfl (by decide) (fun hc => absurd hc (by decide)) (fun _ => ?_)
    refine aw_iload_n (npc := 5) rfl dX8_isUnder_4 rfl ?_
    refine aw_iload_n (npc := 6) rfl dX8_isUnder_5 rfl ?_
    refine aw_icmp_eq (npc := 9) (tgt := 29) dX8_isUnder_6 rfl (by decide) (fun hc => absurd hc (by decide)) (fun _ => ?_)
    refine aw_iload_n (npc := 10) rfl dX8_isUnder_9 rfl ?_
    refine aw_iconst (npc := 11) (v := 1) (by decide) dX8_isUnder_10 rfl ?_
    refine aw_icmp_ne (npc := 14) (tgt := 19) dX8_isUnder_11 rfl (by decide) (fun hc => absurd (by decide) hc) (fun _ => ?_)
    refine aw_iload_n (npc := 15) rfl dX8_isUnder_14 rfl ?_
    refine aw_iconst (npc := 16) (v := 3) (by decide) dX8_isUnder_15 rfl ?_
    refine aw_icmp_eq (npc := 19) (tgt := 29) dX8_isUnder_16 rfl (by decide) (fun hc => absurd hc (by decide)) (fun _ => ?_)
    refine aw_iload_n (npc := 20) rfl dX8_isUnder_19 rfl ?_
    refine aw_iconst (npc := 21) (v := 2) (by decide) dX8_isUnder_20 rfl ?_
    refine aw_icmp_ne (npc := 24) (tgt := 33) dX8_isUnder_21 rfl (by decide) (fun _ => ?_) (fun hc => absurd hc (by decide))
    refine aw_iconst (npc := 34) (v := 0) (by decide) dX8_isUnder_33 rfl ?_
    refine aw_zret rfl rfl dX8_isUnder_34 ?_
    exact (show (if undr k g then (1 : Int32) else 0) = 0 by rw [ek, eg]; decide) ▸ hq
  · refine aw_locs (L' := [some (.int 0), some (.int 2)]) (by rw [ek, eg]) ?_
    refine aw_iload_n (npc := 1) rfl dX8_isUnder_0 rfl ?_
    refine aw_if_eq (npc := 4) (tgt := 29) dX8_isUnder_1 rfl (by decide) (fun hc => absurd hc (by decide)) (fun _ => ?_)
    refine aw_iload_n (npc := 5) rfl dX8_isUnder_4 rfl ?_
    refine aw_iload_n (npc := 6) rfl dX8_isUnder_5 rfl ?_
    refine aw_icmp_eq (npc := 9) (tgt := 29) dX8_isUnder_6 rfl (by decide) (fun hc => absurd hc (by decide)) (fun _ => ?_)
    refine aw_iload_n (npc := 10) rfl dX8_isUnder_9 rfl ?_
    refine aw_iconst (npc := 11) (v := 1) (by decide) dX8_isUnder_10 rfl ?_
    refine aw_icmp_ne (npc := 14) (tgt := 19) dX8_isUnder_11 rfl (by decide) (fun _ => ?_) (fun hc => absurd hc (by decide))
    refine aw_iload_n (npc := 20) rfl dX8_isUnder_19 rfl ?_
    refine aw_iconst (npc := 21) (v := 2) (by decide) dX8_isUnder_20 rfl ?_
    refine aw_icmp_ne (npc := 24) (tgt := 33) dX8_isUnder_21 rfl (by decide) (fun hc => absurd (by decide) hc) (fun _ => ?_)
    refine aw_iload_n (npc := 25) rfl dX8_isUnder_24 rfl ?_
    refine aw_iconst (npc := 26) (v := 4) (by decide) dX8_isUnder_25 rfl ?_
    refine aw_icmp_ne (npc := 29) (tgt := 33) dX8_isUnder_26 rfl (by decide) (fun _ => ?_) (fun hc => absurd hc (by decide))
    refine aw_iconst (npc := 34) (v := 0) (by decide) dX8_isUnder_33 rfl ?_
    refine aw_zret rfl rfl dX8_isUnder_34 ?_
    exact (show (if undr k g then (1 : Int32) else 0) = 0 by rw [ek, eg]; decide) ▸ hq
  · refine aw_locs (L' := [some (.int 0), some (.int 3)]) (by rw [ek, eg]) ?_
    refine aw_iload_n (npc := 1) rfl dX8_isUnder_0 rfl ?_
    refine aw_if_eq (npc := 4) (tgt := 29) dX8_isUnder_1 rfl (by decide) (fun hc => absurd hc (by decide)) (fun _ => ?_)
    refine aw_iload_n (npc := 5) rfl dX8_isUnder_4 rfl ?_
    refine aw_iload_n (npc := 6) rfl dX8_isUnder_5 rfl ?_
    refine aw_icmp_eq (npc := 9) (tgt := 29) dX8_isUnder_6 rfl (by decide) (fun hc => absurd hc (by decide)) (fun _ => ?_)
    refine aw_iload_n (npc := 10) rfl dX8_isUnder_9 rfl ?_
    refine aw_iconst (npc := 11) (v := 1) (by decide) dX8_isUnder_10 rfl ?_
    refine aw_icmp_ne (npc := 14) (tgt := 19) dX8_isUnder_11 rfl (by decide) (fun _ => ?_) (fun hc => absurd hc (by decide))
    refine aw_iload_n (npc := 20) rfl dX8_isUnder_19 rfl ?_
    refine aw_iconst (npc := 21) (v := 2) (by decide) dX8_isUnder_20 rfl ?_
    refine aw_icmp_ne (npc := 24) (tgt := 33) dX8_isUnder_21 rfl (by decide) (fun _ => ?_) (fun hc => absurd hc (by decide))
    refine aw_iconst (npc := 34) (v := 0) (by decide) dX8_isUnder_33 rfl ?_
    refine aw_zret rfl rfl dX8_isUnder_34 ?_
    exact (show (if undr k g then (1 : Int32) else 0) = 0 by rw [ek, eg]; decide) ▸ hq
  · refine aw_locs (L' := [some (.int 0), some (.int 4)]) (by rw [ek, eg]) ?_
    refine aw_iload_n (npc := 1) rfl dX8_isUnder_0 rfl ?_
    refine aw_if_eq (npc := 4) (tgt := 29) dX8_isUnder_1 rfl (by decide) (fun hc => absurd hc (by decide)) (fun _ => ?_)
    refine aw_iload_n (npc := 5) rfl dX8_isUnder_4 rfl ?_
    refine aw_iload_n (npc := 6) rfl dX8_isUnder_5 rfl ?_
    refine aw_icmp_eq (npc := 9) (tgt := 29) dX8_isUnder_6 rfl (by decide) (fun hc => absurd hc (by decide)) (fun _ => ?_)
    refine aw_iload_n (npc := 10) rfl dX8_isUnder_9 rfl ?_
    refine aw_iconst (npc := 11) (v := 1) (by decide) dX8_isUnder_10 rfl ?_
    refine aw_icmp_ne (npc := 14) (tgt := 19) dX8_isUnder_11 rfl (by decide) (fun _ => ?_) (fun hc => absurd hc (by decide))
    refine aw_iload_n (npc := 20) rfl dX8_isUnder_19 rfl ?_
    refine aw_iconst (npc := 21) (v := 2) (by decide) dX8_isUnder_20 rfl ?_
    refine aw_icmp_ne (npc := 24) (tgt := 33) dX8_isUnder_21 rfl (by decide) (fun _ => ?_) (fun hc => absurd hc (by decide))
    refine aw_iconst (npc := 34) (v := 0) (by decide) dX8_isUnder_33 rfl ?_
    refine aw_zret rfl rfl dX8_isUnder_34 ?_
    exact (show (if undr k g then (1 : Int32) else 0) = 0 by rw [ek, eg]; decide) ▸ hq
  · refine aw_locs (L' := [some (.int 0), some (.int 5)]) (by rw [ek, eg]) ?_
    refine aw_iload_n (npc := 1) rfl dX8_isUnder_0 rfl ?_
    refine aw_if_eq (npc := 4) (tgt := 29) dX8_isUnder_1 rfl (by decide) (fun hc => absurd hc (by decide)) (fun _ => ?_)
    refine aw_iload_n (npc := 5) rfl dX8_isUnder_4 rfl ?_
    refine aw_iload_n (npc := 6) rfl dX8_isUnder_5 rfl ?_
    refine aw_icmp_eq (npc := 9) (tgt := 29) dX8_isUnder_6 rfl (by decide) (fun hc => absurd hc (by decide)) (fun _ => ?_)
    refine aw_iload_n (npc := 10) rfl dX8_isUnder_9 rfl ?_
    refine aw_iconst (npc := 11) (v := 1) (by decide) dX8_isUnder_10 rfl ?_
    refine aw_icmp_ne (npc := 14) (tgt := 19) dX8_isUnder_11 rfl (by decide) (fun _ => ?_) (fun hc => absurd hc (by decide))
    refine aw_iload_n (npc := 20) rfl dX8_isUnder_19 rfl ?_
    refine aw_iconst (npc := 21) (v := 2) (by decide) dX8_isUnder_20 rfl ?_
    refine aw_icmp_ne (npc := 24) (tgt := 33) dX8_isUnder_21 rfl (by decide) (fun _ => ?_) (fun hc => absurd hc (by decide))
    refine aw_iconst (npc := 34) (v := 0) (by decide) dX8_isUnder_33 rfl ?_
    refine aw_zret rfl rfl dX8_isUnder_34 ?_
    exact (show (if undr k g then (1 : Int32) else 0) = 0 by rw [ek, eg]; decide) ▸ hq
  · refine aw_locs (L' := [some (.int 1), some (.int 0)]) (by rw [ek, eg]) ?_
    refine aw_iload_n (npc := 1) rfl dX8_isUnder_0 rfl ?_
    refine aw_if_eq (npc := 4) (tgt := 29) dX8_isUnder_1 rfl (by decide) (fun _ => ?_) (fun hc => absurd (by decide) hc)
    refine aw_iconst (npc := 30) (v := 1) (by decide) dX8_isUnder_29 rfl ?_
    refine aw_goto (npc := 34) dX8_isUnder_30 (by decide) ?_
    refine aw_zret rfl rfl dX8_isUnder_34 ?_
    exact (show (if undr k g then (1 : Int32) else 0) = 1 by rw [ek, eg]; decide) ▸ hq
  · refine aw_locs (L' := [some (.int 1), some (.int 1)]) (by rw [ek, eg]) ?_
    refine aw_iload_n (npc := 1) rfl dX8_isUnder_0 rfl ?_
    refine aw_if_eq (npc := 4) (tgt := 29) dX8_isUnder_1 rfl (by decide) (fun hc => absurd hc (by decide)) (fun _ => ?_)
    refine aw_iload_n (npc := 5) rfl dX8_isUnder_4 rfl ?_
    refine aw_iload_n (npc := 6) rfl dX8_isUnder_5 rfl ?_
    refine aw_icmp_eq (npc := 9) (tgt := 29) dX8_isUnder_6 rfl (by decide) (fun _ => ?_) (fun hc => absurd (by decide) hc)
    refine aw_iconst (npc := 30) (v := 1) (by decide) dX8_isUnder_29 rfl ?_
    refine aw_goto (npc := 34) dX8_isUnder_30 (by decide) ?_
    refine aw_zret rfl rfl dX8_isUnder_34 ?_
    exact (show (if undr k g then (1 : Int32) else 0) = 1 by rw [ek, eg]; decide) ▸ hq
  · refine aw_locs (L' := [some (.int 1), some (.int 2)]) (by rw [ek, eg]) ?_
    refine aw_iload_n (npc := 1) rfl dX8_isUnder_0 rfl ?_
    refine aw_if_eq (npc := 4) (tgt := 29) dX8_isUnder_1 rfl (by decide) (fun hc => absurd hc (by decide)) (fun _ => ?_)
    refine aw_iload_n (npc := 5) rfl dX8_isUnder_4 rfl ?_
    refine aw_iload_n (npc := 6) rfl dX8_isUnder_5 rfl ?_
    refine aw_icmp_eq (npc := 9) (tgt := 29) dX8_isUnder_6 rfl (by decide) (fun hc => absurd hc (by decide)) (fun _ => ?_)
    refine aw_iload_n (npc := 10) rfl dX8_isUnder_9 rfl ?_
    refine aw_iconst (npc := 11) (v := 1) (by decide) dX8_isUnder_10 rfl ?_
    refine aw_icmp_ne (npc := 14) (tgt := 19) dX8_isUnder_11 rfl (by decide) (fun _ => ?_) (fun hc => absurd hc (by decide))
    refine aw_iload_n (npc := 20) rfl dX8_isUnder_19 rfl ?_
    refine aw_iconst (npc := 21) (v := 2) (by decide) dX8_isUnder_20 rfl ?_
    refine aw_icmp_ne (npc := 24) (tgt := 33) dX8_isUnder_21 rfl (by decide) (fun hc => absurd (by decide) hc) (fun _ => ?_)
    refine aw_iload_n (npc := 25) rfl dX8_isUnder_24 rfl ?_
    refine aw_iconst (npc := 26) (v := 4) (by decide) dX8_isUnder_25 rfl ?_
    refine aw_icmp_ne (npc := 29) (tgt := 33) dX8_isUnder_26 rfl (by decide) (fun _ => ?_) (fun hc => absurd hc (by decide))
    refine aw_iconst (npc := 34) (v := 0) (by decide) dX8_isUnder_33 rfl ?_
    refine aw_zret rfl rfl dX8_isUnder_34 ?_
    exact (show (if undr k g then (1 : Int32) else 0) = 0 by rw [ek, eg]; decide) ▸ hq
  · refine aw_locs (L' := [some (.int 1), some (.int 3)]) (by rw [ek, eg]) ?_
    refine aw_iload_n (npc := 1) rfl dX8_isUnder_0 rfl ?_
    refine aw_if_eq (npc := 4) (tgt := 29) dX8_isUnder_1 rfl (by decide) (fun hc => absurd hc (by decide)) (fun _ => ?_)
    refine aw_iload_n (npc := 5) rfl dX8_isUnder_4 rfl ?_
    refine aw_iload_n (npc := 6) rfl dX8_isUnder_5 rfl ?_
    refine aw_icmp_eq (npc := 9) (tgt := 29) dX8_isUnder_6 rfl (by decide) (fun hc => absurd hc (by decide)) (fun _ => ?_)
    refine aw_iload_n (npc := 10) rfl dX8_isUnder_9 rfl ?_
    refine aw_iconst (npc := 11) (v := 1) (by decide) dX8_isUnder_10 rfl ?_
    refine aw_icmp_ne (npc := 14) (tgt := 19) dX8_isUnder_11 rfl (by decide) (fun _ => ?_) (fun hc => absurd hc (by decide))
    refine aw_iload_n (npc := 20) rfl dX8_isUnder_19 rfl ?_
    refine aw_iconst (npc := 21) (v := 2) (by decide) dX8_isUnder_20 rfl ?_
    refine aw_icmp_ne (npc := 24) (tgt := 33) dX8_isUnder_21 rfl (by decide) (fun _ => ?_) (fun hc => absurd hc (by decide))
    refine aw_iconst (npc := 34) (v := 0) (by decide) dX8_isUnder_33 rfl ?_
    refine aw_zret rfl rfl dX8_isUnder_34 ?_
    exact (show (if undr k g then (1 : Int32) else 0) = 0 by rw [ek, eg]; decide) ▸ hq
  · refine aw_locs (L' := [some (.int 1), some (.int 4)]) (by rw [ek, eg]) ?_
    refine aw_iload_n (npc := 1) rfl dX8_isUnder_0 rfl ?_
    refine aw_if_eq (npc := 4) (tgt := 29) dX8_isUnder_1 rfl (by decide) (fun hc => absurd hc (by decide)) (fun _ => ?_)
    refine aw_iload_n (npc := 5) rfl dX8_isUnder_4 rfl ?_
    refine aw_iload_n (npc := 6) rfl dX8_isUnder_5 rfl ?_
    refine aw_icmp_eq (npc := 9) (tgt := 29) dX8_isUnder_6 rfl (by decide) (fun hc => absurd hc (by decide)) (fun _ => ?_)
    refine aw_iload_n (npc := 10) rfl dX8_isUnder_9 rfl ?_
    refine aw_iconst (npc := 11) (v := 1) (by decide) dX8_isUnder_10 rfl ?_
    refine aw_icmp_ne (npc := 14) (tgt := 19) dX8_isUnder_11 rfl (by decide) (fun _ => ?_) (fun hc => absurd hc (by decide))
    refine aw_iload_n (npc := 20) rfl dX8_isUnder_19 rfl ?_
    refine aw_iconst (npc := 21) (v := 2) (by decide) dX8_isUnder_20 rfl ?_
    refine aw_icmp_ne (npc := 24) (tgt := 33) dX8_isUnder_21 rfl (by decide) (fun _ => ?_) (fun hc => absurd hc (by decide))
    refine aw_iconst (npc := 34) (v := 0) (by decide) dX8_isUnder_33 rfl ?_
    refine aw_zret rfl rfl dX8_isUnder_34 ?_
    exact (show (if undr k g then (1 : Int32) else 0) = 0 by rw [ek, eg]; decide) ▸ hq
  · refine aw_locs (L' := [some (.int 1), some (.int 5)]) (by rw [ek, eg]) ?_
    refine aw_iload_n (npc := 1) rfl dX8_isUnder_0 rfl ?_
    refine aw_if_eq (npc := 4) (tgt := 29) dX8_isUnder_1 rfl (by decide) (fun hc => absurd hc (by decide)) (fun _ => ?_)
    refine aw_iload_n (npc := 5) rfl dX8_isUnder_4 rfl ?_
    refine aw_iload_n (npc := 6) rfl dX8_isUnder_5 rfl ?_
    refine aw_icmp_eq (npc := 9) (tgt := 29) dX8_isUnder_6 rfl (by decide) (fun hc => absurd hc (by decide)) (fun _ => ?_)
    refine aw_iload_n (npc := 10) rfl dX8_isUnder_9 rfl ?_
    refine aw_iconst (npc := 11) (v := 1) (by decide) dX8_isUnder_10 rfl ?_
    refine aw_icmp_ne (npc := 14) (tgt := 19) dX8_isUnder_11 rfl (by decide) (fun _ => ?_) (fun hc => absurd hc (by decide))
    refine aw_iload_n (npc := 20) rfl dX8_isUnder_19 rfl ?_
    refine aw_iconst (npc := 21) (v := 2) (by decide) dX8_isUnder_20 rfl ?_
    refine aw_icmp_ne (npc := 24) (tgt := 33) dX8_isUnder_21 rfl (by decide) (fun _ => ?_) (fun hc => absurd hc (by decide))
    refine aw_iconst (npc := 34) (v := 0) (by decide) dX8_isUnder_33 rfl ?_
    refine aw_zret rfl rfl dX8_isUnder_34 ?_
    exact (show (if undr k g then (1 : Int32) else 0) = 0 by rw [ek, eg]; decide) ▸ hq
  · refine aw_locs (L' := [some (.int 2), some (.int 0)]) (by rw [ek, eg]) ?_
    refine aw_iload_n (npc := 1) rfl dX8_isUnder_0 rfl ?_
    refine aw_if_eq (npc := 4) (tgt := 29) dX8_isUnder_1 rfl (by decide) (fun _ => ?_) (fun hc => absurd (by decide) hc)
    refine aw_iconst (npc := 30) (v := 1) (by decide) dX8_isUnder_29 rfl ?_
    refine aw_goto (npc := 34) dX8_isUnder_30 (by decide) ?_
    refine aw_zret rfl rfl dX8_isUnder_34 ?_
    exact (show (if undr k g then (1 : Int32) else 0) = 1 by rw [ek, eg]; decide) ▸ hq
  · refine aw_locs (L' := [some (.int 2), some (.int 1)]) (by rw [ek, eg]) ?_
    refine aw_iload_n (npc := 1) rfl dX8_isUnder_0 rfl ?_
    refine aw_if_eq (npc := 4) (tgt := 29) dX8_isUnder_1 rfl (by decide) (fun hc => absurd hc (by decide)) (fun _ => ?_)
    refine aw_iload_n (npc := 5) rfl dX8_isUnder_4 rfl ?_
    refine aw_iload_n (npc := 6) rfl dX8_isUnder_5 rfl ?_
    refine aw_icmp_eq (npc := 9) (tgt := 29) dX8_isUnder_6 rfl (by decide) (fun hc => absurd hc (by decide)) (fun _ => ?_)
    refine aw_iload_n (npc := 10) rfl dX8_isUnder_9 rfl ?_
    refine aw_iconst (npc := 11) (v := 1) (by decide) dX8_isUnder_10 rfl ?_
    refine aw_icmp_ne (npc := 14) (tgt := 19) dX8_isUnder_11 rfl (by decide) (fun hc => absurd (by decide) hc) (fun _ => ?_)
    refine aw_iload_n (npc := 15) rfl dX8_isUnder_14 rfl ?_
    refine aw_iconst (npc := 16) (v := 3) (by decide) dX8_isUnder_15 rfl ?_
    refine aw_icmp_eq (npc := 19) (tgt := 29) dX8_isUnder_16 rfl (by decide) (fun hc => absurd hc (by decide)) (fun _ => ?_)
    refine aw_iload_n (npc := 20) rfl dX8_isUnder_19 rfl ?_
    refine aw_iconst (npc := 21) (v := 2) (by decide) dX8_isUnder_20 rfl ?_
    refine aw_icmp_ne (npc := 24) (tgt := 33) dX8_isUnder_21 rfl (by decide) (fun _ => ?_) (fun hc => absurd hc (by decide))
    refine aw_iconst (npc := 34) (v := 0) (by decide) dX8_isUnder_33 rfl ?_
    refine aw_zret rfl rfl dX8_isUnder_34 ?_
    exact (show (if undr k g then (1 : Int32) else 0) = 0 by rw [ek, eg]; decide) ▸ hq
  · refine aw_locs (L' := [some (.int 2), some (.int 2)]) (by rw [ek, eg]) ?_
    refine aw_iload_n (npc := 1) rfl dX8_isUnder_0 rfl ?_
    refine aw_if_eq (npc := 4) (tgt := 29) dX8_isUnder_1 rfl (by decide) (fun hc => absurd hc (by decide)) (fun _ => ?_)
    refine aw_iload_n (npc := 5) rfl dX8_isUnder_4 rfl ?_
    refine aw_iload_n (npc := 6) rfl dX8_isUnder_5 rfl ?_
    refine aw_icmp_eq (npc := 9) (tgt := 29) dX8_isUnder_6 rfl (by decide) (fun _ => ?_) (fun hc => absurd (by decide) hc)
    refine aw_iconst (npc := 30) (v := 1) (by decide) dX8_isUnder_29 rfl ?_
    refine aw_goto (npc := 34) dX8_isUnder_30 (by decide) ?_
    refine aw_zret rfl rfl dX8_isUnder_34 ?_
    exact (show (if undr k g then (1 : Int32) else 0) = 1 by rw [ek, eg]; decide) ▸ hq
  · refine aw_locs (L' := [some (.int 2), some (.int 3)]) (by rw [ek, eg]) ?_
    refine aw_iload_n (npc := 1) rfl dX8_isUnder_0 rfl ?_
    refine aw_if_eq (npc := 4) (tgt := 29) dX8_isUnder_1 rfl (by decide) (fun hc => absurd hc (by decide)) (fun _ => ?_)
    refine aw_iload_n (npc := 5) rfl dX8_isUnder_4 rfl ?_
    refine aw_iload_n (npc := 6) rfl dX8_isUnder_5 rfl ?_
    refine aw_icmp_eq (npc := 9) (tgt := 29) dX8_isUnder_6 rfl (by decide) (fun hc => absurd hc (by decide)) (fun _ => ?_)
    refine aw_iload_n (npc := 10) rfl dX8_isUnder_9 rfl ?_
    refine aw_iconst (npc := 11) (v := 1) (by decide) dX8_isUnder_10 rfl ?_
    refine aw_icmp_ne (npc := 14) (tgt := 19) dX8_isUnder_11 rfl (by decide) (fun _ => ?_) (fun hc => absurd hc (by decide))
    refine aw_iload_n (npc := 20) rfl dX8_isUnder_19 rfl ?_
    refine aw_iconst (npc := 21) (v := 2) (by decide) dX8_isUnder_20 rfl ?_
    refine aw_icmp_ne (npc := 24) (tgt := 33) dX8_isUnder_21 rfl (by decide) (fun _ => ?_) (fun hc => absurd hc (by decide))
    refine aw_iconst (npc := 34) (v := 0) (by decide) dX8_isUnder_33 rfl ?_
    refine aw_zret rfl rfl dX8_isUnder_34 ?_
    exact (show (if undr k g then (1 : Int32) else 0) = 0 by rw [ek, eg]; decide) ▸ hq
  · refine aw_locs (L' := [some (.int 2), some (.int 4)]) (by rw [ek, eg]) ?_
    refine aw_iload_n (npc := 1) rfl dX8_isUnder_0 rfl ?_
    refine aw_if_eq (npc := 4) (tgt := 29) dX8_isUnder_1 rfl (by decide) (fun hc => absurd hc (by decide)) (fun _ => ?_)
    refine aw_iload_n (npc := 5) rfl dX8_isUnder_4 rfl ?_
    refine aw_iload_n (npc := 6) rfl dX8_isUnder_5 rfl ?_
    refine aw_icmp_eq (npc := 9) (tgt := 29) dX8_isUnder_6 rfl (by decide) (fun hc => absurd hc (by decide)) (fun _ => ?_)
    refine aw_iload_n (npc := 10) rfl dX8_isUnder_9 rfl ?_
    refine aw_iconst (npc := 11) (v := 1) (by decide) dX8_isUnder_10 rfl ?_
    refine aw_icmp_ne (npc := 14) (tgt := 19) dX8_isUnder_11 rfl (by decide) (fun _ => ?_) (fun hc => absurd hc (by decide))
    refine aw_iload_n (npc := 20) rfl dX8_isUnder_19 rfl ?_
    refine aw_iconst (npc := 21) (v := 2) (by decide) dX8_isUnder_20 rfl ?_
    refine aw_icmp_ne (npc := 24) (tgt := 33) dX8_isUnder_21 rfl (by decide) (fun _ => ?_) (fun hc => absurd hc (by decide))
    refine aw_iconst (npc := 34) (v := 0) (by decide) dX8_isUnder_33 rfl ?_
    refine aw_zret rfl rfl dX8_isUnder_34 ?_
    exact (show (if undr k g then (1 : Int32) else 0) = 0 by rw [ek, eg]; decide) ▸ hq
  · refine aw_locs (L' := [some (.int 2), some (.int 5)]) (by rw [ek, eg]) ?_
    refine aw_iload_n (npc := 1) rfl dX8_isUnder_0 rfl ?_
    refine aw_if_eq (npc := 4) (tgt := 29) dX8_isUnder_1 rfl (by decide) (fun hc => absurd hc (by decide)) (fun _ => ?_)
    refine aw_iload_n (npc := 5) rfl dX8_isUnder_4 rfl ?_
    refine aw_iload_n (npc := 6) rfl dX8_isUnder_5 rfl ?_
    refine aw_icmp_eq (npc := 9) (tgt := 29) dX8_isUnder_6 rfl (by decide) (fun hc => absurd hc (by decide)) (fun _ => ?_)
    refine aw_iload_n (npc := 10) rfl dX8_isUnder_9 rfl ?_
    refine aw_iconst (npc := 11) (v := 1) (by decide) dX8_isUnder_10 rfl ?_
    refine aw_icmp_ne (npc := 14) (tgt := 19) dX8_isUnder_11 rfl (by decide) (fun _ => ?_) (fun hc => absurd hc (by decide))
    refine aw_iload_n (npc := 20) rfl dX8_isUnder_19 rfl ?_
    refine aw_iconst (npc := 21) (v := 2) (by decide) dX8_isUnder_20 rfl ?_
    refine aw_icmp_ne (npc := 24) (tgt := 33) dX8_isUnder_21 rfl (by decide) (fun _ => ?_) (fun hc => absurd hc (by decide))
    refine aw_iconst (npc := 34) (v := 0) (by decide) dX8_isUnder_33 rfl ?_
    refine aw_zret rfl rfl dX8_isUnder_34 ?_
    exact (show (if undr k g then (1 : Int32) else 0) = 0 by rw [ek, eg]; decide) ▸ hq
  · refine aw_locs (L' := [some (.int 3), some (.int 0)]) (by rw [ek, eg]) ?_
    refine aw_iload_n (npc := 1) rfl dX8_isUnder_0 rfl ?_
    refine aw_if_eq (npc := 4) (tgt := 29) dX8_isUnder_1 rfl (by decide) (fun _ => ?_) (fun hc => absurd (by decide) hc)
    refine aw_iconst (npc := 30) (v := 1) (by decide) dX8_isUnder_29 rfl ?_
    refine aw_goto (npc := 34) dX8_isUnder_30 (by decide) ?_
    refine aw_zret rfl rfl dX8_isUnder_34 ?_
    exact (show (if undr k g then (1 : Int32) else 0) = 1 by rw [ek, eg]; decide) ▸ hq
  · refine aw_locs (L' := [some (.int 3), some (.int 1)]) (by rw [ek, eg]) ?_
    refine aw_iload_n (npc := 1) rfl dX8_isUnder_0 rfl ?_
    refine aw_if_eq (npc := 4) (tgt := 29) dX8_isUnder_1 rfl (by decide) (fun hc => absurd hc (by decide)) (fun _ => ?_)
    refine aw_iload_n (npc := 5) rfl dX8_isUnder_4 rfl ?_
    refine aw_iload_n (npc := 6) rfl dX8_isUnder_5 rfl ?_
    refine aw_icmp_eq (npc := 9) (tgt := 29) dX8_isUnder_6 rfl (by decide) (fun hc => absurd hc (by decide)) (fun _ => ?_)
    refine aw_iload_n (npc := 10) rfl dX8_isUnder_9 rfl ?_
    refine aw_iconst (npc := 11) (v := 1) (by decide) dX8_isUnder_10 rfl ?_
    refine aw_icmp_ne (npc := 14) (tgt := 19) dX8_isUnder_11 rfl (by decide) (fun hc => absurd (by decide) hc) (fun _ => ?_)
    refine aw_iload_n (npc := 15) rfl dX8_isUnder_14 rfl ?_
    refine aw_iconst (npc := 16) (v := 3) (by decide) dX8_isUnder_15 rfl ?_
    refine aw_icmp_eq (npc := 19) (tgt := 29) dX8_isUnder_16 rfl (by decide) (fun _ => ?_) (fun hc => absurd (by decide) hc)
    refine aw_iconst (npc := 30) (v := 1) (by decide) dX8_isUnder_29 rfl ?_
    refine aw_goto (npc := 34) dX8_isUnder_30 (by decide) ?_
    refine aw_zret rfl rfl dX8_isUnder_34 ?_
    exact (show (if undr k g then (1 : Int32) else 0) = 1 by rw [ek, eg]; decide) ▸ hq
  · refine aw_locs (L' := [some (.int 3), some (.int 2)]) (by rw [ek, eg]) ?_
    refine aw_iload_n (npc := 1) rfl dX8_isUnder_0 rfl ?_
    refine aw_if_eq (npc := 4) (tgt := 29) dX8_isUnder_1 rfl (by decide) (fun hc => absurd hc (by decide)) (fun _ => ?_)
    refine aw_iload_n (npc := 5) rfl dX8_isUnder_4 rfl ?_
    refine aw_iload_n (npc := 6) rfl dX8_isUnder_5 rfl ?_
    refine aw_icmp_eq (npc := 9) (tgt := 29) dX8_isUnder_6 rfl (by decide) (fun hc => absurd hc (by decide)) (fun _ => ?_)
    refine aw_iload_n (npc := 10) rfl dX8_isUnder_9 rfl ?_
    refine aw_iconst (npc := 11) (v := 1) (by decide) dX8_isUnder_10 rfl ?_
    refine aw_icmp_ne (npc := 14) (tgt := 19) dX8_isUnder_11 rfl (by decide) (fun _ => ?_) (fun hc => absurd hc (by decide))
    refine aw_iload_n (npc := 20) rfl dX8_isUnder_19 rfl ?_
    refine aw_iconst (npc := 21) (v := 2) (by decide) dX8_isUnder_20 rfl ?_
    refine aw_icmp_ne (npc := 24) (tgt := 33) dX8_isUnder_21 rfl (by decide) (fun hc => absurd (by decide) hc) (fun _ => ?_)
    refine aw_iload_n (npc := 25) rfl dX8_isUnder_24 rfl ?_
    refine aw_iconst (npc := 26) (v := 4) (by decide) dX8_isUnder_25 rfl ?_
    refine aw_icmp_ne (npc := 29) (tgt := 33) dX8_isUnder_26 rfl (by decide) (fun _ => ?_) (fun hc => absurd hc (by decide))
    refine aw_iconst (npc := 34) (v := 0) (by decide) dX8_isUnder_33 rfl ?_
    refine aw_zret rfl rfl dX8_isUnder_34 ?_
    exact (show (if undr k g then (1 : Int32) else 0) = 0 by rw [ek, eg]; decide) ▸ hq
  · refine aw_locs (L' := [some (.int 3), some (.int 3)]) (by rw [ek, eg]) ?_
    refine aw_iload_n (npc := 1) rfl dX8_isUnder_0 rfl ?_
    refine aw_if_eq (npc := 4) (tgt := 29) dX8_isUnder_1 rfl (by decide) (fun hc => absurd hc (by decide)) (fun _ => ?_)
    refine aw_iload_n (npc := 5) rfl dX8_isUnder_4 rfl ?_
    refine aw_iload_n (npc := 6) rfl dX8_isUnder_5 rfl ?_
    refine aw_icmp_eq (npc := 9) (tgt := 29) dX8_isUnder_6 rfl (by decide) (fun _ => ?_) (fun hc => absurd (by decide) hc)
    refine aw_iconst (npc := 30) (v := 1) (by decide) dX8_isUnder_29 rfl ?_
    refine aw_goto (npc := 34) dX8_isUnder_30 (by decide) ?_
    refine aw_zret rfl rfl dX8_isUnder_34 ?_
    exact (show (if undr k g then (1 : Int32) else 0) = 1 by rw [ek, eg]; decide) ▸ hq
  · refine aw_locs (L' := [some (.int 3), some (.int 4)]) (by rw [ek, eg]) ?_
    refine aw_iload_n (npc := 1) rfl dX8_isUnder_0 rfl ?_
    refine aw_if_eq (npc := 4) (tgt := 29) dX8_isUnder_1 rfl (by decide) (fun hc => absurd hc (by decide)) (fun _ => ?_)
    refine aw_iload_n (npc := 5) rfl dX8_isUnder_4 rfl ?_
    refine aw_iload_n (npc := 6) rfl dX8_isUnder_5 rfl ?_
    refine aw_icmp_eq (npc := 9) (tgt := 29) dX8_isUnder_6 rfl (by decide) (fun hc => absurd hc (by decide)) (fun _ => ?_)
    refine aw_iload_n (npc := 10) rfl dX8_isUnder_9 rfl ?_
    refine aw_iconst (npc := 11) (v := 1) (by decide) dX8_isUnder_10 rfl ?_
    refine aw_icmp_ne (npc := 14) (tgt := 19) dX8_isUnder_11 rfl (by decide) (fun _ => ?_) (fun hc => absurd hc (by decide))
    refine aw_iload_n (npc := 20) rfl dX8_isUnder_19 rfl ?_
    refine aw_iconst (npc := 21) (v := 2) (by decide) dX8_isUnder_20 rfl ?_
    refine aw_icmp_ne (npc := 24) (tgt := 33) dX8_isUnder_21 rfl (by decide) (fun _ => ?_) (fun hc => absurd hc (by decide))
    refine aw_iconst (npc := 34) (v := 0) (by decide) dX8_isUnder_33 rfl ?_
    refine aw_zret rfl rfl dX8_isUnder_34 ?_
    exact (show (if undr k g then (1 : Int32) else 0) = 0 by rw [ek, eg]; decide) ▸ hq
  · refine aw_locs (L' := [some (.int 3), some (.int 5)]) (by rw [ek, eg]) ?_
    refine aw_iload_n (npc := 1) rfl dX8_isUnder_0 rfl ?_
    refine aw_if_eq (npc := 4) (tgt := 29) dX8_isUnder_1 rfl (by decide) (fun hc => absurd hc (by decide)) (fun _ => ?_)
    refine aw_iload_n (npc := 5) rfl dX8_isUnder_4 rfl ?_
    refine aw_iload_n (npc := 6) rfl dX8_isUnder_5 rfl ?_
    refine aw_icmp_eq (npc := 9) (tgt := 29) dX8_isUnder_6 rfl (by decide) (fun hc => absurd hc (by decide)) (fun _ => ?_)
    refine aw_iload_n (npc := 10) rfl dX8_isUnder_9 rfl ?_
    refine aw_iconst (npc := 11) (v := 1) (by decide) dX8_isUnder_10 rfl ?_
    refine aw_icmp_ne (npc := 14) (tgt := 19) dX8_isUnder_11 rfl (by decide) (fun _ => ?_) (fun hc => absurd hc (by decide))
    refine aw_iload_n (npc := 20) rfl dX8_isUnder_19 rfl ?_
    refine aw_iconst (npc := 21) (v := 2) (by decide) dX8_isUnder_20 rfl ?_
    refine aw_icmp_ne (npc := 24) (tgt := 33) dX8_isUnder_21 rfl (by decide) (fun _ => ?_) (fun hc => absurd hc (by decide))
    refine aw_iconst (npc := 34) (v := 0) (by decide) dX8_isUnder_33 rfl ?_
    refine aw_zret rfl rfl dX8_isUnder_34 ?_
    exact (show (if undr k g then (1 : Int32) else 0) = 0 by rw [ek, eg]; decide) ▸ hq
  · refine aw_locs (L' := [some (.int 4), some (.int 0)]) (by rw [ek, eg]) ?_
    refine aw_iload_n (npc := 1) rfl dX8_isUnder_0 rfl ?_
    refine aw_if_eq (npc := 4) (tgt := 29) dX8_isUnder_1 rfl (by decide) (fun _ => ?_) (fun hc => absurd (by decide) hc)
    refine aw_iconst (npc := 30) (v := 1) (by decide) dX8_isUnder_29 rfl ?_
    refine aw_goto (npc := 34) dX8_isUnder_30 (by decide) ?_
    refine aw_zret rfl rfl dX8_isUnder_34 ?_
    exact (show (if undr k g then (1 : Int32) else 0) = 1 by rw [ek, eg]; decide) ▸ hq
  · refine aw_locs (L' := [some (.int 4), some (.int 1)]) (by rw [ek, eg]) ?_
    refine aw_iload_n (npc := 1) rfl dX8_isUnder_0 rfl ?_
    refine aw_if_eq (npc := 4) (tgt := 29) dX8_isUnder_1 rfl (by decide) (fun hc => absurd hc (by decide)) (fun _ => ?_)
    refine aw_iload_n (npc := 5) rfl dX8_isUnder_4 rfl ?_
    refine aw_iload_n (npc := 6) rfl dX8_isUnder_5 rfl ?_
    refine aw_icmp_eq (npc := 9) (tgt := 29) dX8_isUnder_6 rfl (by decide) (fun hc => absurd hc (by decide)) (fun _ => ?_)
    refine aw_iload_n (npc := 10) rfl dX8_isUnder_9 rfl ?_
    refine aw_iconst (npc := 11) (v := 1) (by decide) dX8_isUnder_10 rfl ?_
    refine aw_icmp_ne (npc := 14) (tgt := 19) dX8_isUnder_11 rfl (by decide) (fun hc => absurd (by decide) hc) (fun _ => ?_)
    refine aw_iload_n (npc := 15) rfl dX8_isUnder_14 rfl ?_
    refine aw_iconst (npc := 16) (v := 3) (by decide) dX8_isUnder_15 rfl ?_
    refine aw_icmp_eq (npc := 19) (tgt := 29) dX8_isUnder_16 rfl (by decide) (fun hc => absurd hc (by decide)) (fun _ => ?_)
    refine aw_iload_n (npc := 20) rfl dX8_isUnder_19 rfl ?_
    refine aw_iconst (npc := 21) (v := 2) (by decide) dX8_isUnder_20 rfl ?_
    refine aw_icmp_ne (npc := 24) (tgt := 33) dX8_isUnder_21 rfl (by decide) (fun _ => ?_) (fun hc => absurd hc (by decide))
    refine aw_iconst (npc := 34) (v := 0) (by decide) dX8_isUnder_33 rfl ?_
    refine aw_zret rfl rfl dX8_isUnder_34 ?_
    exact (show (if undr k g then (1 : Int32) else 0) = 0 by rw [ek, eg]; decide) ▸ hq
  · refine aw_locs (L' := [some (.int 4), some (.int 2)]) (by rw [ek, eg]) ?_
    refine aw_iload_n (npc := 1) rfl dX8_isUnder_0 rfl ?_
    refine aw_if_eq (npc := 4) (tgt := 29) dX8_isUnder_1 rfl (by decide) (fun hc => absurd hc (by decide)) (fun _ => ?_)
    refine aw_iload_n (npc := 5) rfl dX8_isUnder_4 rfl ?_
    refine aw_iload_n (npc := 6) rfl dX8_isUnder_5 rfl ?_
    refine aw_icmp_eq (npc := 9) (tgt := 29) dX8_isUnder_6 rfl (by decide) (fun hc => absurd hc (by decide)) (fun _ => ?_)
    refine aw_iload_n (npc := 10) rfl dX8_isUnder_9 rfl ?_
    refine aw_iconst (npc := 11) (v := 1) (by decide) dX8_isUnder_10 rfl ?_
    refine aw_icmp_ne (npc := 14) (tgt := 19) dX8_isUnder_11 rfl (by decide) (fun _ => ?_) (fun hc => absurd hc (by decide))
    refine aw_iload_n (npc := 20) rfl dX8_isUnder_19 rfl ?_
    refine aw_iconst (npc := 21) (v := 2) (by decide) dX8_isUnder_20 rfl ?_
    refine aw_icmp_ne (npc := 24) (tgt := 33) dX8_isUnder_21 rfl (by decide) (fun hc => absurd (by decide) hc) (fun _ => ?_)
    refine aw_iload_n (npc := 25) rfl dX8_isUnder_24 rfl ?_
    refine aw_iconst (npc := 26) (v := 4) (by decide) dX8_isUnder_25 rfl ?_
    refine aw_icmp_ne (npc := 29) (tgt := 33) dX8_isUnder_26 rfl (by decide) (fun hc => absurd (by decide) hc) (fun _ => ?_)
    refine aw_iconst (npc := 30) (v := 1) (by decide) dX8_isUnder_29 rfl ?_
    refine aw_goto (npc := 34) dX8_isUnder_30 (by decide) ?_
    refine aw_zret rfl rfl dX8_isUnder_34 ?_
    exact (show (if undr k g then (1 : Int32) else 0) = 1 by rw [ek, eg]; decide) ▸ hq
  · refine aw_locs (L' := [some (.int 4), some (.int 3)]) (by rw [ek, eg]) ?_
    refine aw_iload_n (npc := 1) rfl dX8_isUnder_0 rfl ?_
    refine aw_if_eq (npc := 4) (tgt := 29) dX8_isUnder_1 rfl (by decide) (fun hc => absurd hc (by decide)) (fun _ => ?_)
    refine aw_iload_n (npc := 5) rfl dX8_isUnder_4 rfl ?_
    refine aw_iload_n (npc := 6) rfl dX8_isUnder_5 rfl ?_
    refine aw_icmp_eq (npc := 9) (tgt := 29) dX8_isUnder_6 rfl (by decide) (fun hc => absurd hc (by decide)) (fun _ => ?_)
    refine aw_iload_n (npc := 10) rfl dX8_isUnder_9 rfl ?_
    refine aw_iconst (npc := 11) (v := 1) (by decide) dX8_isUnder_10 rfl ?_
    refine aw_icmp_ne (npc := 14) (tgt := 19) dX8_isUnder_11 rfl (by decide) (fun _ => ?_) (fun hc => absurd hc (by decide))
    refine aw_iload_n (npc := 20) rfl dX8_isUnder_19 rfl ?_
    refine aw_iconst (npc := 21) (v := 2) (by decide) dX8_isUnder_20 rfl ?_
    refine aw_icmp_ne (npc := 24) (tgt := 33) dX8_isUnder_21 rfl (by decide) (fun _ => ?_) (fun hc => absurd hc (by decide))
    refine aw_iconst (npc := 34) (v := 0) (by decide) dX8_isUnder_33 rfl ?_
    refine aw_zret rfl rfl dX8_isUnder_34 ?_
    exact (show (if undr k g then (1 : Int32) else 0) = 0 by rw [ek, eg]; decide) ▸ hq
  · refine aw_locs (L' := [some (.int 4), some (.int 4)]) (by rw [ek, eg]) ?_
    refine aw_iload_n (npc := 1) rfl dX8_isUnder_0 rfl ?_
    refine aw_if_eq (npc := 4) (tgt := 29) dX8_isUnder_1 rfl (by decide) (fun hc => absurd hc (by decide)) (fun _ => ?_)
    refine aw_iload_n (npc := 5) rfl dX8_isUnder_4 rfl ?_
    refine aw_iload_n (npc := 6) rfl dX8_isUnder_5 rfl ?_
    refine aw_icmp_eq (npc := 9) (tgt := 29) dX8_isUnder_6 rfl (by decide) (fun _ => ?_) (fun hc => absurd (by decide) hc)
    refine aw_iconst (npc := 30) (v := 1) (by decide) dX8_isUnder_29 rfl ?_
    refine aw_goto (npc := 34) dX8_isUnder_30 (by decide) ?_
    refine aw_zret rfl rfl dX8_isUnder_34 ?_
    exact (show (if undr k g then (1 : Int32) else 0) = 1 by rw [ek, eg]; decide) ▸ hq
  · refine aw_locs (L' := [some (.int 4), some (.int 5)]) (by rw [ek, eg]) ?_
    refine aw_iload_n (npc := 1) rfl dX8_isUnder_0 rfl ?_
    refine aw_if_eq (npc := 4) (tgt := 29) dX8_isUnder_1 rfl (by decide) (fun hc => absurd hc (by decide)) (fun _ => ?_)
    refine aw_iload_n (npc := 5) rfl dX8_isUnder_4 rfl ?_
    refine aw_iload_n (npc := 6) rfl dX8_isUnder_5 rfl ?_
    refine aw_icmp_eq (npc := 9) (tgt := 29) dX8_isUnder_6 rfl (by decide) (fun hc => absurd hc (by decide)) (fun _ => ?_)
    refine aw_iload_n (npc := 10) rfl dX8_isUnder_9 rfl ?_
    refine aw_iconst (npc := 11) (v := 1) (by decide) dX8_isUnder_10 rfl ?_
    refine aw_icmp_ne (npc := 14) (tgt := 19) dX8_isUnder_11 rfl (by decide) (fun _ => ?_) (fun hc => absurd hc (by decide))
    refine aw_iload_n (npc := 20) rfl dX8_isUnder_19 rfl ?_
    refine aw_iconst (npc := 21) (v := 2) (by decide) dX8_isUnder_20 rfl ?_
    refine aw_icmp_ne (npc := 24) (tgt := 33) dX8_isUnder_21 rfl (by decide) (fun _ => ?_) (fun hc => absurd hc (by decide))
    refine aw_iconst (npc := 34) (v := 0) (by decide) dX8_isUnder_33 rfl ?_
    refine aw_zret rfl rfl dX8_isUnder_34 ?_
    exact (show (if undr k g then (1 : Int32) else 0) = 0 by rw [ek, eg]; decide) ▸ hq
  · refine aw_locs (L' := [some (.int 5), some (.int 0)]) (by rw [ek, eg]) ?_
    refine aw_iload_n (npc := 1) rfl dX8_isUnder_0 rfl ?_
    refine aw_if_eq (npc := 4) (tgt := 29) dX8_isUnder_1 rfl (by decide) (fun _ => ?_) (fun hc => absurd (by decide) hc)
    refine aw_iconst (npc := 30) (v := 1) (by decide) dX8_isUnder_29 rfl ?_
    refine aw_goto (npc := 34) dX8_isUnder_30 (by decide) ?_
    refine aw_zret rfl rfl dX8_isUnder_34 ?_
    exact (show (if undr k g then (1 : Int32) else 0) = 1 by rw [ek, eg]; decide) ▸ hq
  · refine aw_locs (L' := [some (.int 5), some (.int 1)]) (by rw [ek, eg]) ?_
    refine aw_iload_n (npc := 1) rfl dX8_isUnder_0 rfl ?_
    refine aw_if_eq (npc := 4) (tgt := 29) dX8_isUnder_1 rfl (by decide) (fun hc => absurd hc (by decide)) (fun _ => ?_)
    refine aw_iload_n (npc := 5) rfl dX8_isUnder_4 rfl ?_
    refine aw_iload_n (npc := 6) rfl dX8_isUnder_5 rfl ?_
    refine aw_icmp_eq (npc := 9) (tgt := 29) dX8_isUnder_6 rfl (by decide) (fun hc => absurd hc (by decide)) (fun _ => ?_)
    refine aw_iload_n (npc := 10) rfl dX8_isUnder_9 rfl ?_
    refine aw_iconst (npc := 11) (v := 1) (by decide) dX8_isUnder_10 rfl ?_
    refine aw_icmp_ne (npc := 14) (tgt := 19) dX8_isUnder_11 rfl (by decide) (fun hc => absurd (by decide) hc) (fun _ => ?_)
    refine aw_iload_n (npc := 15) rfl dX8_isUnder_14 rfl ?_
    refine aw_iconst (npc := 16) (v := 3) (by decide) dX8_isUnder_15 rfl ?_
    refine aw_icmp_eq (npc := 19) (tgt := 29) dX8_isUnder_16 rfl (by decide) (fun hc => absurd hc (by decide)) (fun _ => ?_)
    refine aw_iload_n (npc := 20) rfl dX8_isUnder_19 rfl ?_
    refine aw_iconst (npc := 21) (v := 2) (by decide) dX8_isUnder_20 rfl ?_
    refine aw_icmp_ne (npc := 24) (tgt := 33) dX8_isUnder_21 rfl (by decide) (fun _ => ?_) (fun hc => absurd hc (by decide))
    refine aw_iconst (npc := 34) (v := 0) (by decide) dX8_isUnder_33 rfl ?_
    refine aw_zret rfl rfl dX8_isUnder_34 ?_
    exact (show (if undr k g then (1 : Int32) else 0) = 0 by rw [ek, eg]; decide) ▸ hq
  · refine aw_locs (L' := [some (.int 5), some (.int 2)]) (by rw [ek, eg]) ?_
    refine aw_iload_n (npc := 1) rfl dX8_isUnder_0 rfl ?_
    refine aw_if_eq (npc := 4) (tgt := 29) dX8_isUnder_1 rfl (by decide) (fun hc => absurd hc (by decide)) (fun _ => ?_)
    refine aw_iload_n (npc := 5) rfl dX8_isUnder_4 rfl ?_
    refine aw_iload_n (npc := 6) rfl dX8_isUnder_5 rfl ?_
    refine aw_icmp_eq (npc := 9) (tgt := 29) dX8_isUnder_6 rfl (by decide) (fun hc => absurd hc (by decide)) (fun _ => ?_)
    refine aw_iload_n (npc := 10) rfl dX8_isUnder_9 rfl ?_
    refine aw_iconst (npc := 11) (v := 1) (by decide) dX8_isUnder_10 rfl ?_
    refine aw_icmp_ne (npc := 14) (tgt := 19) dX8_isUnder_11 rfl (by decide) (fun _ => ?_) (fun hc => absurd hc (by decide))
    refine aw_iload_n (npc := 20) rfl dX8_isUnder_19 rfl ?_
    refine aw_iconst (npc := 21) (v := 2) (by decide) dX8_isUnder_20 rfl ?_
    refine aw_icmp_ne (npc := 24) (tgt := 33) dX8_isUnder_21 rfl (by decide) (fun hc => absurd (by decide) hc) (fun _ => ?_)
    refine aw_iload_n (npc := 25) rfl dX8_isUnder_24 rfl ?_
    refine aw_iconst (npc := 26) (v := 4) (by decide) dX8_isUnder_25 rfl ?_
    refine aw_icmp_ne (npc := 29) (tgt := 33) dX8_isUnder_26 rfl (by decide) (fun _ => ?_) (fun hc => absurd hc (by decide))
    refine aw_iconst (npc := 34) (v := 0) (by decide) dX8_isUnder_33 rfl ?_
    refine aw_zret rfl rfl dX8_isUnder_34 ?_
    exact (show (if undr k g then (1 : Int32) else 0) = 0 by rw [ek, eg]; decide) ▸ hq
  · refine aw_locs (L' := [some (.int 5), some (.int 3)]) (by rw [ek, eg]) ?_
    refine aw_iload_n (npc := 1) rfl dX8_isUnder_0 rfl ?_
    refine aw_if_eq (npc := 4) (tgt := 29) dX8_isUnder_1 rfl (by decide) (fun hc => absurd hc (by decide)) (fun _ => ?_)
    refine aw_iload_n (npc := 5) rfl dX8_isUnder_4 rfl ?_
    refine aw_iload_n (npc := 6) rfl dX8_isUnder_5 rfl ?_
    refine aw_icmp_eq (npc := 9) (tgt := 29) dX8_isUnder_6 rfl (by decide) (fun hc => absurd hc (by decide)) (fun _ => ?_)
    refine aw_iload_n (npc := 10) rfl dX8_isUnder_9 rfl ?_
    refine aw_iconst (npc := 11) (v := 1) (by decide) dX8_isUnder_10 rfl ?_
    refine aw_icmp_ne (npc := 14) (tgt := 19) dX8_isUnder_11 rfl (by decide) (fun _ => ?_) (fun hc => absurd hc (by decide))
    refine aw_iload_n (npc := 20) rfl dX8_isUnder_19 rfl ?_
    refine aw_iconst (npc := 21) (v := 2) (by decide) dX8_isUnder_20 rfl ?_
    refine aw_icmp_ne (npc := 24) (tgt := 33) dX8_isUnder_21 rfl (by decide) (fun _ => ?_) (fun hc => absurd hc (by decide))
    refine aw_iconst (npc := 34) (v := 0) (by decide) dX8_isUnder_33 rfl ?_
    refine aw_zret rfl rfl dX8_isUnder_34 ?_
    exact (show (if undr k g then (1 : Int32) else 0) = 0 by rw [ek, eg]; decide) ▸ hq
  · refine aw_locs (L' := [some (.int 5), some (.int 4)]) (by rw [ek, eg]) ?_
    refine aw_iload_n (npc := 1) rfl dX8_isUnder_0 rfl ?_
    refine aw_if_eq (npc := 4) (tgt := 29) dX8_isUnder_1 rfl (by decide) (fun hc => absurd hc (by decide)) (fun _ => ?_)
    refine aw_iload_n (npc := 5) rfl dX8_isUnder_4 rfl ?_
    refine aw_iload_n (npc := 6) rfl dX8_isUnder_5 rfl ?_
    refine aw_icmp_eq (npc := 9) (tgt := 29) dX8_isUnder_6 rfl (by decide) (fun hc => absurd hc (by decide)) (fun _ => ?_)
    refine aw_iload_n (npc := 10) rfl dX8_isUnder_9 rfl ?_
    refine aw_iconst (npc := 11) (v := 1) (by decide) dX8_isUnder_10 rfl ?_
    refine aw_icmp_ne (npc := 14) (tgt := 19) dX8_isUnder_11 rfl (by decide) (fun _ => ?_) (fun hc => absurd hc (by decide))
    refine aw_iload_n (npc := 20) rfl dX8_isUnder_19 rfl ?_
    refine aw_iconst (npc := 21) (v := 2) (by decide) dX8_isUnder_20 rfl ?_
    refine aw_icmp_ne (npc := 24) (tgt := 33) dX8_isUnder_21 rfl (by decide) (fun _ => ?_) (fun hc => absurd hc (by decide))
    refine aw_iconst (npc := 34) (v := 0) (by decide) dX8_isUnder_33 rfl ?_
    refine aw_zret rfl rfl dX8_isUnder_34 ?_
    exact (show (if undr k g then (1 : Int32) else 0) = 0 by rw [ek, eg]; decide) ▸ hq
  · refine aw_locs (L' := [some (.int 5), some (.int 5)]) (by rw [ek, eg]) ?_
    refine aw_iload_n (npc := 1) rfl dX8_isUnder_0 rfl ?_
    refine aw_if_eq (npc := 4) (tgt := 29) dX8_isUnder_1 rfl (by decide) (fun hc => absurd hc (by decide)) (fun _ => ?_)
    refine aw_iload_n (npc := 5) rfl dX8_isUnder_4 rfl ?_
    refine aw_iload_n (npc := 6) rfl dX8_isUnder_5 rfl ?_
    refine aw_icmp_eq (npc := 9) (tgt := 29) dX8_isUnder_6 rfl (by decide) (fun _ => ?_) (fun hc => absurd (by decide) hc)
    refine aw_iconst (npc := 30) (v := 1) (by decide) dX8_isUnder_29 rfl ?_
    refine aw_goto (npc := 34) dX8_isUnder_30 (by decide) ?_
    refine aw_zret rfl rfl dX8_isUnder_34 ?_
    exact (show (if undr k g then (1 : Int32) else 0) = 1 by rw [ek, eg]; decide) ▸ hq
noncomputable def asV (N : Nat → Int32) (f k : Int32) : Int32 := cI (wi f 0 (N 1 - 1) ∧ wi k 0 5) (cI (undr (N (22 + 5 * fN f)) k = true) (N (24 + 5 * fN f)) (-1000000012)) (-1000000001)
set_option maxHeartbeats 4000000 in
set_option maxRecDepth 100000 in
theorem C_as {X : List Int32} {d rc rs n : Nat} {Q : am_Q} {h : am_H} {N : Nat → Int32} {tx : List Value} {lk mv : Nat → Int32} {ik wc : Int32} {fr c : Nat} {f : Int32} {k : Int32} (O : OB ik wc h) (F : QR 1 N tx lk mv h) (hR : RG N fr c) (hq : ∀ v9 N9 h9, v9 = asV N f k → N9 = N → QR 1 N9 tx lk mv h9 → am_fp (fun k => k < 1 ∨ 13 ≤ k) h9 h → Q (some (.int v9)) n h9) : AW X mX7_as (d + 12) rc rs 0 [some (.ref 0), some (.int f), some (.int k)] [] n h Q := by
  have h8r := hR.2.1
  have h14r := hR.2.2.2.1
  refine aw_aload_n (npc := 1) rfl dX7_as_0 rfl ?_
  refine aw_get (npc := 4) dX7_as_1 rfl kf_X7_10 O.1 rfl ?_
  refine aw_iload_n (npc := 5) rfl dX7_as_4 rfl ?_
  refine aw_callV (npc := 8) (N := mX0_isFriend) (b := 1) (mc := 0) (ms := 0) (A := [.int f]) (S := []) (L0 := [some (.ref 1), some (.int f)]) dX7_as_5 rfl km_X0_isFriend kk_X7_87 F.1 ⟨by decide, rfl⟩ rfl ⟨rfl, by decide⟩ rfl (Nat.le_of_ble_eq_true rfl) (Nat.zero_add _) (Nat.zero_add _) rfl ?_
  refine g_isFriend F (fun hw1 => ?_) (fun hw1 => ?_)
  · obtain ⟨fn, hfn, efn⟩ := wi_idx hR.1 (by have z := hR.2.1; omega) hw1
    subst efn
    have h8fn : fn < 8 := by have z := hR.2.1; omega
    have ffn : fN (nI fn) = fn := fN_nI (by omega)
    refine aw_re (S' := [.int 1]) rfl ?_
    refine aw_if_eq (npc := 11) (tgt := 18) dX7_as_8 rfl (by decide) (fun hc => absurd hc (by decide)) (fun _ => ?_)
    refine aw_iload_n (npc := 12) rfl dX7_as_11 rfl ?_
    refine aw_callS (npc := 15) (N := mX7_isKind) (mc := 0) (ms := 0) (A := [.int k]) (S := []) (L0 := [some (.int k)]) dX7_as_12 rfl km_X7_isKind kk_X7_67 rfl ⟨rfl, by decide⟩ rfl (Nat.le_of_ble_eq_true rfl) (Nat.zero_add _) (Nat.zero_add _) rfl ?_
    refine c_X7_isKind (fun hw2 => ?_) (fun hw2 => ?_)
    · refine aw_re (S' := [.int 1]) rfl ?_
      refine aw_if_ne (npc := 18) (tgt := 21) dX7_as_15 rfl (by decide) (fun _ => ?_) (fun hc => absurd hc (by decide))
      refine aw_aload_n (npc := 22) rfl dX7_as_21 rfl ?_
      refine aw_get (npc := 25) dX7_as_22 rfl kf_X7_10 O.1 rfl ?_
      refine aw_get (npc := 28) dX7_as_25 rfl kf_X7_90 F.1 rfl ?_
      refine aw_iload_n (npc := 29) rfl dX7_as_28 rfl ?_
      refine aw_iald (npc := 30) (x := N (22 + 5 * fn)) (j := fn) dX7_as_29 rfl F.2.2.2.2.1 (am_ix_nI (by omega)) (tl_at (by omega)) ?_
      refine aw_iload_n (npc := 31) rfl dX7_as_30 rfl ?_
      refine aw_callS (npc := 34) (N := mX7_isUnder) (mc := 0) (ms := 0) (A := [.int (N (22 + 5 * fn)), .int k]) (S := []) (L0 := [some (.int (N (22 + 5 * fn))), some (.int k), none, none]) dX7_as_31 rfl km_X7_isUnder kk_X7_119 rfl ⟨rfl, by decide⟩ rfl (Nat.le_of_ble_eq_true rfl) (Nat.zero_add _) (Nat.zero_add _) rfl ?_
      refine c_X7_isUnder (hR.2.2.2.2.1 fn (by omega)).1 hw2 ?_
      by_cases hu3 : undr (N (22 + 5 * fn)) k = true
      · refine aw_re (S' := [.int (if undr (N (22 + 5 * fn)) k then 1 else 0)]) rfl ?_
        refine aw_top (y := 1) (if_pos hu3) ?_
        refine aw_if_eq (npc := 37) (tgt := 49) dX7_as_34 rfl (by decide) (fun hc => absurd hc (by decide)) (fun _ => ?_)
        refine aw_aload_n (npc := 38) rfl dX7_as_37 rfl ?_
        refine aw_get (npc := 41) dX7_as_38 rfl kf_X7_10 O.1 rfl ?_
        refine aw_get (npc := 44) dX7_as_41 rfl kf_X7_96 F.1 rfl ?_
        refine aw_iload_n (npc := 45) rfl dX7_as_44 rfl ?_
        refine aw_iald (npc := 46) (x := N (24 + 5 * fn)) (j := fn) dX7_as_45 rfl F.2.2.2.2.2.2.1 (am_ix_nI (by omega)) (tl_at (by omega)) ?_
        refine aw_goto (npc := 51) dX7_as_46 (by decide) ?_
        refine aw_iret rfl dX7_as_51 ?_
        exact hq _ _ _ (by simp [asV, cI, hw1, hw2, hu3, ffn]) (by rfl) F am_fp0
      · refine aw_re (S' := [.int (if undr (N (22 + 5 * fn)) k then 1 else 0)]) rfl ?_
        refine aw_top (y := 0) (if_neg hu3) ?_
        refine aw_if_eq (npc := 37) (tgt := 49) dX7_as_34 rfl (by decide) (fun _ => ?_) (fun hc => absurd (by decide) hc)
        refine aw_ldc (npc := 51) kc_X7_123 dX7_as_49 rfl ?_
        refine aw_iret rfl dX7_as_51 ?_
        exact hq _ _ _ (by simp [asV, cI, hw1, hw2, hu3, ffn]) (by rfl) F am_fp0
    · refine aw_re (S' := [.int 0]) rfl ?_
      refine aw_if_ne (npc := 18) (tgt := 21) dX7_as_15 rfl (by decide) (fun hc => absurd (by decide) hc) (fun _ => ?_)
      refine aw_ldc (npc := 20) kc_X7_78 dX7_as_18 rfl ?_
      refine aw_iret rfl dX7_as_20 ?_
      exact hq _ _ _ (by simp [asV, cI, hw1, hw2, ffn]) (by rfl) F am_fp0
  · refine aw_re (S' := [.int 0]) rfl ?_
    refine aw_if_eq (npc := 11) (tgt := 18) dX7_as_8 rfl (by decide) (fun _ => ?_) (fun hc => absurd (by decide) hc)
    refine aw_ldc (npc := 20) kc_X7_78 dX7_as_18 rfl ?_
    refine aw_iret rfl dX7_as_20 ?_
    exact hq _ _ _ (by simp [asV, cI, hw1]) (by rfl) F am_fp0
set_option maxHeartbeats 4000000 in
set_option maxRecDepth 100000 in
theorem M_as {X : List Int32} {d rc rs n : Nat} {Q : am_Q} {h : am_H} {o N : Nat → Int32} {a : Nat → Nat → Int32} {fr c : Nat} {f : Int32} {k : Int32} (F : MR o N a h) (hR : RG N fr c) (hq : ∀ v9 N9 h9, v9 = asV N f k → N9 = N → MR o N9 a h9 → am_fp (fun k => k < 69 ∨ 92 ≤ k) h9 h → Q (some (.int v9)) n h9) : AW X mX8_as (d + 12) rc rs 0 [some (.ref 69), some (.int f), some (.int k)] [] n h Q := by
  have h8r := hR.2.1
  have h14r := hR.2.2.2.1
  refine aw_aload_n (npc := 1) rfl dX8_as_0 rfl ?_
  refine aw_iload_n (npc := 2) rfl dX8_as_1 rfl ?_
  refine aw_callV (npc := 5) (N := mX8_isFriend) (b := 69) (mc := 0) (ms := 0) (A := [.int f]) (S := []) (L0 := [some (.ref 69), some (.int f)]) dX8_as_2 rfl km_X8_isFriend kk_X8_114 F.1 ⟨by decide, rfl⟩ rfl ⟨rfl, by decide⟩ rfl (Nat.le_of_ble_eq_true rfl) (Nat.zero_add _) (Nat.zero_add _) rfl ?_
  refine m_isFriend F (fun hw1 => ?_) (fun hw1 => ?_)
  · obtain ⟨fn, hfn, efn⟩ := wi_idx hR.1 (by have z := hR.2.1; omega) hw1
    subst efn
    have h8fn : fn < 8 := by have z := hR.2.1; omega
    have ffn : fN (nI fn) = fn := fN_nI (by omega)
    refine aw_re (S' := [.int 1]) rfl ?_
    refine aw_if_eq (npc := 8) (tgt := 17) dX8_as_5 rfl (by decide) (fun hc => absurd hc (by decide)) (fun _ => ?_)
    refine aw_iload_n (npc := 9) rfl dX8_as_8 rfl ?_
    refine aw_iconst (npc := 10) (v := 0) (by decide) dX8_as_9 rfl ?_
    refine aw_iconst (npc := 11) (v := 5) (by decide) dX8_as_10 rfl ?_
    refine aw_callS (npc := 14) (N := mX8_in) (mc := 0) (ms := 0) (A := [.int k, .int 0, .int 5]) (S := []) (L0 := [some (.int k), some (.int 0), some (.int 5)]) dX8_as_11 rfl km_X8_in kk_X8_83 rfl ⟨rfl, by decide⟩ rfl (Nat.le_of_ble_eq_true rfl) (Nat.zero_add _) (Nat.zero_add _) rfl ?_
    refine c_X8_in (fun hw2 => ?_) (fun hw2 => ?_)
    · refine aw_re (S' := [.int 1]) rfl ?_
      refine aw_if_ne (npc := 17) (tgt := 20) dX8_as_14 rfl (by decide) (fun _ => ?_) (fun hc => absurd hc (by decide))
      refine aw_aload_n (npc := 21) rfl dX8_as_20 rfl ?_
      refine aw_iload_n (npc := 22) rfl dX8_as_21 rfl ?_
      refine aw_iconst (npc := 23) (v := 0) (by decide) dX8_as_22 rfl ?_
      refine aw_callV (npc := 26) (N := mX8_of) (b := 69) (mc := 0) (ms := 0) (A := [.int (nI fn), .int 0]) (S := []) (L0 := [some (.ref 69), some (.int (nI fn)), some (.int 0)]) dX8_as_23 rfl km_X8_of kk_X8_101 F.1 ⟨by decide, rfl⟩ rfl ⟨rfl, by decide⟩ rfl (Nat.le_of_ble_eq_true rfl) (Nat.zero_add _) (Nat.zero_add _) rfl ?_
      refine m_of0 (f := fn) F (by omega) ?_
      refine aw_re (S' := [.int (N (22 + 5 * fn))]) rfl ?_
      refine aw_iload_n (npc := 27) rfl dX8_as_26 rfl ?_
      refine aw_callS (npc := 30) (N := mX8_isUnder) (mc := 0) (ms := 0) (A := [.int (N (22 + 5 * fn)), .int k]) (S := []) (L0 := [some (.int (N (22 + 5 * fn))), some (.int k)]) dX8_as_27 rfl km_X8_isUnder kk_X8_130 rfl ⟨rfl, by decide⟩ rfl (Nat.le_of_ble_eq_true rfl) (Nat.zero_add _) (Nat.zero_add _) rfl ?_
      refine c_X8_isUnder (hR.2.2.2.2.1 fn (by omega)).1 hw2 ?_
      by_cases hu3 : undr (N (22 + 5 * fn)) k = true
      · refine aw_re (S' := [.int (if undr (N (22 + 5 * fn)) k then 1 else 0)]) rfl ?_
        refine aw_top (y := 1) (if_pos hu3) ?_
        refine aw_if_eq (npc := 33) (tgt := 42) dX8_as_30 rfl (by decide) (fun hc => absurd hc (by decide)) (fun _ => ?_)
        refine aw_aload_n (npc := 34) rfl dX8_as_33 rfl ?_
        refine aw_iload_n (npc := 35) rfl dX8_as_34 rfl ?_
        refine aw_iconst (npc := 36) (v := 2) (by decide) dX8_as_35 rfl ?_
        refine aw_callV (npc := 39) (N := mX8_of) (b := 69) (mc := 0) (ms := 0) (A := [.int (nI fn), .int 2]) (S := []) (L0 := [some (.ref 69), some (.int (nI fn)), some (.int 2)]) dX8_as_36 rfl km_X8_of kk_X8_101 F.1 ⟨by decide, rfl⟩ rfl ⟨rfl, by decide⟩ rfl (Nat.le_of_ble_eq_true rfl) (Nat.zero_add _) (Nat.zero_add _) rfl ?_
        refine m_of2 (f := fn) F (by omega) ?_
        refine aw_re (S' := [.int (N (24 + 5 * fn))]) rfl ?_
        refine aw_goto (npc := 44) dX8_as_39 (by decide) ?_
        refine aw_iret rfl dX8_as_44 ?_
        exact hq _ _ _ (by simp [asV, cI, hw1, hw2, hu3, ffn]) (by rfl) F am_fp0
      · refine aw_re (S' := [.int (if undr (N (22 + 5 * fn)) k then 1 else 0)]) rfl ?_
        refine aw_top (y := 0) (if_neg hu3) ?_
        refine aw_if_eq (npc := 33) (tgt := 42) dX8_as_30 rfl (by decide) (fun _ => ?_) (fun hc => absurd (by decide) hc)
        refine aw_ldc (npc := 44) kc_X8_134 dX8_as_42 rfl ?_
        refine aw_iret rfl dX8_as_44 ?_
        exact hq _ _ _ (by simp [asV, cI, hw1, hw2, hu3, ffn]) (by rfl) F am_fp0
    · refine aw_re (S' := [.int 0]) rfl ?_
      refine aw_if_ne (npc := 17) (tgt := 20) dX8_as_14 rfl (by decide) (fun hc => absurd (by decide) hc) (fun _ => ?_)
      refine aw_ldc (npc := 19) kc_X8_91 dX8_as_17 rfl ?_
      refine aw_iret rfl dX8_as_19 ?_
      exact hq _ _ _ (by simp [asV, cI, hw1, hw2, ffn]) (by rfl) F am_fp0
  · refine aw_re (S' := [.int 0]) rfl ?_
    refine aw_if_eq (npc := 8) (tgt := 17) dX8_as_5 rfl (by decide) (fun _ => ?_) (fun hc => absurd (by decide) hc)
    refine aw_ldc (npc := 19) kc_X8_91 dX8_as_17 rfl ?_
    refine aw_iret rfl dX8_as_19 ?_
    exact hq _ _ _ (by simp [asV, cI, hw1]) (by rfl) F am_fp0
noncomputable def tuV (N : Nat → Int32) (f k : Int32) : Int32 := cI (wi f 0 (N 1 - 1) ∧ wi k 0 5) (N (22 + 5 * fN f)) (-1000000001)
noncomputable def tuN (N : Nat → Int32) (f k : Int32) : Nat → Int32 := cI (wi f 0 (N 1 - 1) ∧ wi k 0 5) (upd N (22 + 5 * fN f) k) N
set_option maxHeartbeats 4000000 in
set_option maxRecDepth 100000 in
theorem C_turns {X : List Int32} {d rc rs n : Nat} {Q : am_Q} {h : am_H} {N : Nat → Int32} {tx : List Value} {lk mv : Nat → Int32} {ik wc : Int32} {fr c : Nat} {f : Int32} {k : Int32} (O : OB ik wc h) (F : QR 1 N tx lk mv h) (hR : RG N fr c) (hq : ∀ v9 N9 h9, v9 = tuV N f k → N9 = tuN N f k → QR 1 N9 tx lk mv h9 → am_fp (fun k => k < 1 ∨ 13 ≤ k) h9 h → Q (some (.int v9)) n h9) : AW X mX7_turns (d + 12) rc rs 0 [some (.ref 0), some (.int f), some (.int k), none] [] n h Q := by
  have h8r := hR.2.1
  have h14r := hR.2.2.2.1
  refine aw_aload_n (npc := 1) rfl dX7_turns_0 rfl ?_
  refine aw_get (npc := 4) dX7_turns_1 rfl kf_X7_10 O.1 rfl ?_
  refine aw_iload_n (npc := 5) rfl dX7_turns_4 rfl ?_
  refine aw_callV (npc := 8) (N := mX0_isFriend) (b := 1) (mc := 0) (ms := 0) (A := [.int f]) (S := []) (L0 := [some (.ref 1), some (.int f)]) dX7_turns_5 rfl km_X0_isFriend kk_X7_87 F.1 ⟨by decide, rfl⟩ rfl ⟨rfl, by decide⟩ rfl (Nat.le_of_ble_eq_true rfl) (Nat.zero_add _) (Nat.zero_add _) rfl ?_
  refine g_isFriend F (fun hw1 => ?_) (fun hw1 => ?_)
  · obtain ⟨fn, hfn, efn⟩ := wi_idx hR.1 (by have z := hR.2.1; omega) hw1
    subst efn
    have h8fn : fn < 8 := by have z := hR.2.1; omega
    have ffn : fN (nI fn) = fn := fN_nI (by omega)
    refine aw_re (S' := [.int 1]) rfl ?_
    refine aw_if_eq (npc := 11) (tgt := 18) dX7_turns_8 rfl (by decide) (fun hc => absurd hc (by decide)) (fun _ => ?_)
    refine aw_iload_n (npc := 12) rfl dX7_turns_11 rfl ?_
    refine aw_callS (npc := 15) (N := mX7_isKind) (mc := 0) (ms := 0) (A := [.int k]) (S := []) (L0 := [some (.int k)]) dX7_turns_12 rfl km_X7_isKind kk_X7_67 rfl ⟨rfl, by decide⟩ rfl (Nat.le_of_ble_eq_true rfl) (Nat.zero_add _) (Nat.zero_add _) rfl ?_
    refine c_X7_isKind (fun hw2 => ?_) (fun hw2 => ?_)
    · refine aw_re (S' := [.int 1]) rfl ?_
      refine aw_if_ne (npc := 18) (tgt := 21) dX7_turns_15 rfl (by decide) (fun _ => ?_) (fun hc => absurd hc (by decide))
      refine aw_aload_n (npc := 22) rfl dX7_turns_21 rfl ?_
      refine aw_get (npc := 25) dX7_turns_22 rfl kf_X7_10 O.1 rfl ?_
      refine aw_get (npc := 28) dX7_turns_25 rfl kf_X7_90 F.1 rfl ?_
      refine aw_iload_n (npc := 29) rfl dX7_turns_28 rfl ?_
      refine aw_iald (npc := 30) (x := N (22 + 5 * fn)) (j := fn) dX7_turns_29 rfl F.2.2.2.2.1 (am_ix_nI (by omega)) (tl_at (by omega)) ?_
      refine aw_istore_n (npc := 31) (L' := [some (.ref 0), some (.int (nI fn)), some (.int k), some (.int (N (22 + 5 * fn)))]) dX7_turns_30 rfl (by decide) rfl rfl ?_
      refine aw_aload_n (npc := 32) rfl dX7_turns_31 rfl ?_
      refine aw_get (npc := 35) dX7_turns_32 rfl kf_X7_10 O.1 rfl ?_
      refine aw_get (npc := 38) dX7_turns_35 rfl kf_X7_90 F.1 rfl ?_
      refine aw_iload_n (npc := 39) rfl dX7_turns_38 rfl ?_
      refine aw_iload_n (npc := 40) rfl dX7_turns_39 rfl ?_
      refine aw_iast (npc := 41) (j := fn) dX7_turns_40 rfl F.2.2.2.2.1 (am_ix_nI (by omega)) (by rw [tl_len]; omega) rfl ?_
      have F3 := qr_kind (j := fn) (v := k) F (by omega)
      have O4 := ob_out (a := 5) (c := .inl (0, (tl 8 (fun z9 => N (22 + 5 * z9))).set fn k)) (by omega) O
      refine aw_iload_n (npc := 42) rfl dX7_turns_41 rfl ?_
      refine aw_iret rfl dX7_turns_42 ?_
      exact hq _ _ _ (by simp [tuV, tuN, cI, hw1, hw2, ffn]) (by simp [tuV, tuN, cI, hw1, hw2, ffn]) F3 (am_fpU (show ¬ (5 < 1 ∨ 13 ≤ 5) by omega) am_fp0)
    · refine aw_re (S' := [.int 0]) rfl ?_
      refine aw_if_ne (npc := 18) (tgt := 21) dX7_turns_15 rfl (by decide) (fun hc => absurd (by decide) hc) (fun _ => ?_)
      refine aw_ldc (npc := 20) kc_X7_78 dX7_turns_18 rfl ?_
      refine aw_iret rfl dX7_turns_20 ?_
      exact hq _ _ _ (by simp [tuV, tuN, cI, hw1, hw2, ffn]) (by simp [tuV, tuN, cI, hw1, hw2, ffn]) F am_fp0
  · refine aw_re (S' := [.int 0]) rfl ?_
    refine aw_if_eq (npc := 11) (tgt := 18) dX7_turns_8 rfl (by decide) (fun _ => ?_) (fun hc => absurd (by decide) hc)
    refine aw_ldc (npc := 20) kc_X7_78 dX7_turns_18 rfl ?_
    refine aw_iret rfl dX7_turns_20 ?_
    exact hq _ _ _ (by simp [tuV, tuN, cI, hw1]) (by simp [tuV, tuN, cI, hw1]) F am_fp0
set_option maxHeartbeats 4000000 in
set_option maxRecDepth 100000 in
theorem M_turns {X : List Int32} {d rc rs n : Nat} {Q : am_Q} {h : am_H} {o N : Nat → Int32} {a : Nat → Nat → Int32} {fr c : Nat} {f : Int32} {k : Int32} (F : MR o N a h) (hR : RG N fr c) (hq : ∀ v9 N9 h9, v9 = tuV N f k → N9 = tuN N f k → MR o N9 a h9 → am_fp (fun k => k < 69 ∨ 92 ≤ k) h9 h → Q (some (.int v9)) n h9) : AW X mX8_turns (d + 12) rc rs 0 [some (.ref 69), some (.int f), some (.int k)] [] n h Q := by
  have h8r := hR.2.1
  have h14r := hR.2.2.2.1
  refine aw_aload_n (npc := 1) rfl dX8_turns_0 rfl ?_
  refine aw_iload_n (npc := 2) rfl dX8_turns_1 rfl ?_
  refine aw_callV (npc := 5) (N := mX8_isFriend) (b := 69) (mc := 0) (ms := 0) (A := [.int f]) (S := []) (L0 := [some (.ref 69), some (.int f)]) dX8_turns_2 rfl km_X8_isFriend kk_X8_114 F.1 ⟨by decide, rfl⟩ rfl ⟨rfl, by decide⟩ rfl (Nat.le_of_ble_eq_true rfl) (Nat.zero_add _) (Nat.zero_add _) rfl ?_
  refine m_isFriend F (fun hw1 => ?_) (fun hw1 => ?_)
  · obtain ⟨fn, hfn, efn⟩ := wi_idx hR.1 (by have z := hR.2.1; omega) hw1
    subst efn
    have h8fn : fn < 8 := by have z := hR.2.1; omega
    have ffn : fN (nI fn) = fn := fN_nI (by omega)
    refine aw_re (S' := [.int 1]) rfl ?_
    refine aw_if_eq (npc := 8) (tgt := 31) dX8_turns_5 rfl (by decide) (fun hc => absurd hc (by decide)) (fun _ => ?_)
    refine aw_iload_n (npc := 9) rfl dX8_turns_8 rfl ?_
    refine aw_iconst (npc := 10) (v := 0) (by decide) dX8_turns_9 rfl ?_
    refine aw_iconst (npc := 11) (v := 5) (by decide) dX8_turns_10 rfl ?_
    refine aw_callS (npc := 14) (N := mX8_in) (mc := 0) (ms := 0) (A := [.int k, .int 0, .int 5]) (S := []) (L0 := [some (.int k), some (.int 0), some (.int 5)]) dX8_turns_11 rfl km_X8_in kk_X8_83 rfl ⟨rfl, by decide⟩ rfl (Nat.le_of_ble_eq_true rfl) (Nat.zero_add _) (Nat.zero_add _) rfl ?_
    refine c_X8_in (fun hw2 => ?_) (fun hw2 => ?_)
    · refine aw_re (S' := [.int 1]) rfl ?_
      refine aw_if_eq (npc := 17) (tgt := 31) dX8_turns_14 rfl (by decide) (fun hc => absurd hc (by decide)) (fun _ => ?_)
      refine aw_aload_n (npc := 18) rfl dX8_turns_17 rfl ?_
      refine aw_bipush (npc := 20) (v := 22) (by decide) dX8_turns_18 rfl ?_
      refine aw_iconst (npc := 21) (v := 5) (by decide) dX8_turns_20 rfl ?_
      refine aw_iload_n (npc := 22) rfl dX8_turns_21 rfl ?_
      refine aw_imulV (npc := 23) (v := nI (5 * fn)) dX8_turns_22 rfl (pk_mul 5 _) ?_
      refine aw_iaddV (npc := 24) (v := nI (22 + (5 * fn))) dX8_turns_23 rfl (nI_add 22 _) ?_
      refine aw_iload_n (npc := 25) rfl dX8_turns_24 rfl ?_
      refine aw_callV (npc := 28) (N := mX8_becomes) (b := 69) (mc := 0) (ms := 0) (A := [.int (nI (22 + (5 * fn))), .int k]) (S := []) (L0 := [some (.ref 69), some (.int (nI (22 + (5 * fn)))), some (.int k), none]) dX8_turns_25 rfl km_X8_becomes kk_X8_135 F.1 ⟨by decide, rfl⟩ rfl ⟨rfl, by decide⟩ rfl (Nat.le_of_ble_eq_true rfl) (Nat.zero_add _) (Nat.zero_add _) rfl ?_
      refine m_becomes (j := (22 + (5 * fn))) (v := k) F (by omega) (fun hp5 F3 fb4 => ?_)
      refine aw_re (S' := [.int (N (22 + (5 * fn)))]) rfl ?_
      refine aw_goto (npc := 33) dX8_turns_28 (by decide) ?_
      refine aw_iret rfl dX8_turns_33 ?_
      exact hq _ _ _ (by simp [tuV, tuN, cI, hw1, hw2, ffn]) (by simp [tuV, tuN, cI, hw1, hw2, ffn]) F3 (am_fpT (fun k (hk : k < 69 ∨ 92 ≤ k) => fb4 k (by omega)) am_fp0)
    · refine aw_re (S' := [.int 0]) rfl ?_
      refine aw_if_eq (npc := 17) (tgt := 31) dX8_turns_14 rfl (by decide) (fun _ => ?_) (fun hc => absurd (by decide) hc)
      refine aw_ldc (npc := 33) kc_X8_91 dX8_turns_31 rfl ?_
      refine aw_iret rfl dX8_turns_33 ?_
      exact hq _ _ _ (by simp [tuV, tuN, cI, hw1, hw2, ffn]) (by simp [tuV, tuN, cI, hw1, hw2, ffn]) F am_fp0
  · refine aw_re (S' := [.int 0]) rfl ?_
    refine aw_if_eq (npc := 8) (tgt := 31) dX8_turns_5 rfl (by decide) (fun _ => ?_) (fun hc => absurd (by decide) hc)
    refine aw_ldc (npc := 33) kc_X8_91 dX8_turns_31 rfl ?_
    refine aw_iret rfl dX8_turns_33 ?_
    exact hq _ _ _ (by simp [tuV, tuN, cI, hw1]) (by simp [tuV, tuN, cI, hw1]) F am_fp0
noncomputable def seV (N : Nat → Int32) (f w v : Int32) : Int32 := cI (wi f 0 (N 1 - 1)) (cI (w = 1) (cI (wi v 0 1) (N (23 + 5 * fN f)) (-1000000001)) (cI (w = 2) (cI (wi v 0 99) (N (24 + 5 * fN f)) (-1000000001)) (-1000000001))) (-1000000001)
noncomputable def seN (N : Nat → Int32) (f w v : Int32) : Nat → Int32 := cI (wi f 0 (N 1 - 1)) (cI (w = 1) (cI (wi v 0 1) (upd N (23 + 5 * fN f) v) N) (cI (w = 2) (cI (wi v 0 99) (upd N (24 + 5 * fN f) v) N) N)) N
theorem wi_c1_2 {x : Int32} (h : wi x 1 2) : x = 1 ∨ x = 2 := by
  have h1 : ¬ x.toInt < 1 := fun q => h.1 (Int32.lt_iff_toInt_lt.mpr (by simpa using q))
  have h2 : ¬ 2 < x.toInt := fun q => h.2 (Int32.lt_iff_toInt_lt.mpr (by simpa using q))
  rcases (show x.toInt = 1 ∨ x.toInt = 2 by omega) with q | q
  · exact Or.inl (Int32.toInt_inj.mp (by rw [q]; rfl))
  · exact Or.inr (Int32.toInt_inj.mp (by rw [q]; rfl))
theorem nwi_1 {x lo hi k : Int32} (h : ¬ wi x lo hi) (hk : ¬ k < lo ∧ ¬ hi < k) : ¬ x = k := fun e => h (e ▸ hk)
set_option maxHeartbeats 4000000 in
set_option maxRecDepth 100000 in
theorem C_set {X : List Int32} {d rc rs n : Nat} {Q : am_Q} {h : am_H} {N : Nat → Int32} {tx : List Value} {lk mv : Nat → Int32} {ik wc : Int32} {fr c : Nat} {f : Int32} {w : Int32} {v : Int32} (O : OB ik wc h) (F : QR 1 N tx lk mv h) (hR : RG N fr c) (hq : ∀ v9 N9 h9, v9 = seV N f w v → N9 = seN N f w v → QR 1 N9 tx lk mv h9 → am_fp (fun k => k < 1 ∨ 13 ≤ k) h9 h → Q (some (.int v9)) n h9) : AW X mX7_set (d + 12) rc rs 0 [some (.ref 0), some (.int f), some (.int w), some (.int v), none] [] n h Q := by
  have h8r := hR.2.1
  have h14r := hR.2.2.2.1
  refine aw_aload_n (npc := 1) rfl dX7_set_0 rfl ?_
  refine aw_get (npc := 4) dX7_set_1 rfl kf_X7_10 O.1 rfl ?_
  refine aw_iload_n (npc := 5) rfl dX7_set_4 rfl ?_
  refine aw_callV (npc := 8) (N := mX0_isFriend) (b := 1) (mc := 0) (ms := 0) (A := [.int f]) (S := []) (L0 := [some (.ref 1), some (.int f)]) dX7_set_5 rfl km_X0_isFriend kk_X7_87 F.1 ⟨by decide, rfl⟩ rfl ⟨rfl, by decide⟩ rfl (Nat.le_of_ble_eq_true rfl) (Nat.zero_add _) (Nat.zero_add _) rfl ?_
  refine g_isFriend F (fun hw1 => ?_) (fun hw1 => ?_)
  · obtain ⟨fn, hfn, efn⟩ := wi_idx hR.1 (by have z := hR.2.1; omega) hw1
    subst efn
    have h8fn : fn < 8 := by have z := hR.2.1; omega
    have ffn : fN (nI fn) = fn := fN_nI (by omega)
    refine aw_re (S' := [.int 1]) rfl ?_
    refine aw_if_ne (npc := 11) (tgt := 14) dX7_set_8 rfl (by decide) (fun _ => ?_) (fun hc => absurd hc (by decide))
    refine aw_iload_n (npc := 15) rfl dX7_set_14 rfl ?_
    refine aw_iconst (npc := 16) (v := 1) (by decide) dX7_set_15 rfl ?_
    refine aw_icmp_ne (npc := 19) (tgt := 50) dX7_set_16 rfl (by decide) (fun hc2 => ?_) (fun hc2 => ?_)
    · refine aw_iload_n (npc := 51) rfl dX7_set_50 rfl ?_
      refine aw_iconst (npc := 52) (v := 2) (by decide) dX7_set_51 rfl ?_
      refine aw_icmp_ne (npc := 55) (tgt := 89) dX7_set_52 rfl (by decide) (fun hc3 => ?_) (fun hc3 => ?_)
      · refine aw_ldc (npc := 91) kc_X7_78 dX7_set_89 rfl ?_
        refine aw_iret rfl dX7_set_91 ?_
        exact hq _ _ _ (by simp [seV, seN, cI, hw1, hc2, hc3, ffn]) (by simp [seV, seN, cI, hw1, hc2, hc3, ffn]) F am_fp0
      · subst hc3
        refine aw_iload_n (npc := 56) rfl dX7_set_55 rfl ?_
        refine aw_iconst (npc := 57) (v := 0) (by decide) dX7_set_56 rfl ?_
        refine aw_bipush (npc := 59) (v := 99) (by decide) dX7_set_57 rfl ?_
        refine aw_callS (npc := 62) (N := mX7_within) (mc := 0) (ms := 0) (A := [.int v, .int 0, .int 99]) (S := []) (L0 := [some (.int v), some (.int 0), some (.int 99)]) dX7_set_59 rfl km_X7_within kk_X7_74 rfl ⟨rfl, by decide⟩ rfl (Nat.le_of_ble_eq_true rfl) (Nat.zero_add _) (Nat.zero_add _) rfl ?_
        refine c_X7_within (fun hw4 => ?_) (fun hw4 => ?_)
        · refine aw_re (S' := [.int 1]) rfl ?_
          refine aw_if_eq (npc := 65) (tgt := 89) dX7_set_62 rfl (by decide) (fun hc => absurd hc (by decide)) (fun _ => ?_)
          refine aw_aload_n (npc := 66) rfl dX7_set_65 rfl ?_
          refine aw_get (npc := 69) dX7_set_66 rfl kf_X7_10 O.1 rfl ?_
          refine aw_get (npc := 72) dX7_set_69 rfl kf_X7_96 F.1 rfl ?_
          refine aw_iload_n (npc := 73) rfl dX7_set_72 rfl ?_
          refine aw_iald (npc := 74) (x := N (24 + 5 * fn)) (j := fn) dX7_set_73 rfl F.2.2.2.2.2.2.1 (am_ix_nI (by omega)) (tl_at (by omega)) ?_
          refine aw_istore (npc := 76) (L' := [some (.ref 0), some (.int (nI fn)), some (.int 2), some (.int v), some (.int (N (24 + 5 * fn)))]) dX7_set_74 rfl (by decide) rfl rfl ?_
          refine aw_aload_n (npc := 77) rfl dX7_set_76 rfl ?_
          refine aw_get (npc := 80) dX7_set_77 rfl kf_X7_10 O.1 rfl ?_
          refine aw_get (npc := 83) dX7_set_80 rfl kf_X7_96 F.1 rfl ?_
          refine aw_iload_n (npc := 84) rfl dX7_set_83 rfl ?_
          refine aw_iload_n (npc := 85) rfl dX7_set_84 rfl ?_
          refine aw_iast (npc := 86) (j := fn) dX7_set_85 rfl F.2.2.2.2.2.2.1 (am_ix_nI (by omega)) (by rw [tl_len]; omega) rfl ?_
          have F5 := qr_pride (j := fn) (v := v) F (by omega)
          have O6 := ob_out (a := 7) (c := .inl (0, (tl 8 (fun z9 => N (24 + 5 * z9))).set fn v)) (by omega) O
          refine aw_iload (npc := 88) rfl dX7_set_86 rfl ?_
          refine aw_iret rfl dX7_set_88 ?_
          exact hq _ _ _ (by simp [seV, seN, cI, hw1, hc2, hw4, ffn]) (by simp [seV, seN, cI, hw1, hc2, hw4, ffn]) F5 (am_fpU (show ¬ (7 < 1 ∨ 13 ≤ 7) by omega) am_fp0)
        · refine aw_re (S' := [.int 0]) rfl ?_
          refine aw_if_eq (npc := 65) (tgt := 89) dX7_set_62 rfl (by decide) (fun _ => ?_) (fun hc => absurd (by decide) hc)
          refine aw_ldc (npc := 91) kc_X7_78 dX7_set_89 rfl ?_
          refine aw_iret rfl dX7_set_91 ?_
          exact hq _ _ _ (by simp [seV, seN, cI, hw1, hc2, hw4, ffn]) (by simp [seV, seN, cI, hw1, hc2, hw4, ffn]) F am_fp0
    · subst hc2
      refine aw_iload_n (npc := 20) rfl dX7_set_19 rfl ?_
      refine aw_callS (npc := 23) (N := mX7_isSide) (mc := 0) (ms := 0) (A := [.int v]) (S := []) (L0 := [some (.int v)]) dX7_set_20 rfl km_X7_isSide kk_X7_71 rfl ⟨rfl, by decide⟩ rfl (Nat.le_of_ble_eq_true rfl) (Nat.zero_add _) (Nat.zero_add _) rfl ?_
      refine c_X7_isSide (fun hw7 => ?_) (fun hw7 => ?_)
      · refine aw_re (S' := [.int 1]) rfl ?_
        refine aw_if_eq (npc := 26) (tgt := 50) dX7_set_23 rfl (by decide) (fun hc => absurd hc (by decide)) (fun _ => ?_)
        refine aw_aload_n (npc := 27) rfl dX7_set_26 rfl ?_
        refine aw_get (npc := 30) dX7_set_27 rfl kf_X7_10 O.1 rfl ?_
        refine aw_get (npc := 33) dX7_set_30 rfl kf_X7_93 F.1 rfl ?_
        refine aw_iload_n (npc := 34) rfl dX7_set_33 rfl ?_
        refine aw_iald (npc := 35) (x := N (23 + 5 * fn)) (j := fn) dX7_set_34 rfl F.2.2.2.2.2.1 (am_ix_nI (by omega)) (tl_at (by omega)) ?_
        refine aw_istore (npc := 37) (L' := [some (.ref 0), some (.int (nI fn)), some (.int 1), some (.int v), some (.int (N (23 + 5 * fn)))]) dX7_set_35 rfl (by decide) rfl rfl ?_
        refine aw_aload_n (npc := 38) rfl dX7_set_37 rfl ?_
        refine aw_get (npc := 41) dX7_set_38 rfl kf_X7_10 O.1 rfl ?_
        refine aw_get (npc := 44) dX7_set_41 rfl kf_X7_93 F.1 rfl ?_
        refine aw_iload_n (npc := 45) rfl dX7_set_44 rfl ?_
        refine aw_iload_n (npc := 46) rfl dX7_set_45 rfl ?_
        refine aw_iast (npc := 47) (j := fn) dX7_set_46 rfl F.2.2.2.2.2.1 (am_ix_nI (by omega)) (by rw [tl_len]; omega) rfl ?_
        have F8 := qr_side (j := fn) (v := v) F (by omega)
        have O9 := ob_out (a := 6) (c := .inl (0, (tl 8 (fun z9 => N (23 + 5 * z9))).set fn v)) (by omega) O
        refine aw_iload (npc := 49) rfl dX7_set_47 rfl ?_
        refine aw_iret rfl dX7_set_49 ?_
        exact hq _ _ _ (by simp [seV, seN, cI, hw1, hw7, ffn]) (by simp [seV, seN, cI, hw1, hw7, ffn]) F8 (am_fpU (show ¬ (6 < 1 ∨ 13 ≤ 6) by omega) am_fp0)
      · refine aw_re (S' := [.int 0]) rfl ?_
        refine aw_if_eq (npc := 26) (tgt := 50) dX7_set_23 rfl (by decide) (fun _ => ?_) (fun hc => absurd (by decide) hc)
        refine aw_iload_n (npc := 51) rfl dX7_set_50 rfl ?_
        refine aw_iconst (npc := 52) (v := 2) (by decide) dX7_set_51 rfl ?_
        refine aw_icmp_ne (npc := 55) (tgt := 89) dX7_set_52 rfl (by decide) (fun _ => ?_) (fun hc => absurd hc (by decide))
        refine aw_ldc (npc := 91) kc_X7_78 dX7_set_89 rfl ?_
        refine aw_iret rfl dX7_set_91 ?_
        exact hq _ _ _ (by simp [seV, seN, cI, hw1, hw7, ffn]) (by simp [seV, seN, cI, hw1, hw7, ffn]) F am_fp0
  · refine aw_re (S' := [.int 0]) rfl ?_
    refine aw_if_ne (npc := 11) (tgt := 14) dX7_set_8 rfl (by decide) (fun hc => absurd (by decide) hc) (fun _ => ?_)
    refine aw_ldc (npc := 13) kc_X7_78 dX7_set_11 rfl ?_
    refine aw_iret rfl dX7_set_13 ?_
    exact hq _ _ _ (by simp [seV, seN, cI, hw1]) (by simp [seV, seN, cI, hw1]) F am_fp0
set_option maxHeartbeats 4000000 in
set_option maxRecDepth 100000 in
theorem M_set {X : List Int32} {d rc rs n : Nat} {Q : am_Q} {h : am_H} {o N : Nat → Int32} {a : Nat → Nat → Int32} {fr c : Nat} {f : Int32} {w : Int32} {v : Int32} (F : MR o N a h) (hR : RG N fr c) (hq : ∀ v9 N9 h9, v9 = seV N f w v → N9 = seN N f w v → MR o N9 a h9 → am_fp (fun k => k < 69 ∨ 92 ≤ k) h9 h → Q (some (.int v9)) n h9) : AW X mX8_set (d + 12) rc rs 0 [some (.ref 69), some (.int f), some (.int w), some (.int v)] [] n h Q := by
  have h8r := hR.2.1
  have h14r := hR.2.2.2.1
  refine aw_aload_n (npc := 1) rfl dX8_set_0 rfl ?_
  refine aw_iload_n (npc := 2) rfl dX8_set_1 rfl ?_
  refine aw_callV (npc := 5) (N := mX8_isFriend) (b := 69) (mc := 0) (ms := 0) (A := [.int f]) (S := []) (L0 := [some (.ref 69), some (.int f)]) dX8_set_2 rfl km_X8_isFriend kk_X8_114 F.1 ⟨by decide, rfl⟩ rfl ⟨rfl, by decide⟩ rfl (Nat.le_of_ble_eq_true rfl) (Nat.zero_add _) (Nat.zero_add _) rfl ?_
  refine m_isFriend F (fun hw1 => ?_) (fun hw1 => ?_)
  · obtain ⟨fn, hfn, efn⟩ := wi_idx hR.1 (by have z := hR.2.1; omega) hw1
    subst efn
    have h8fn : fn < 8 := by have z := hR.2.1; omega
    have ffn : fN (nI fn) = fn := fN_nI (by omega)
    refine aw_re (S' := [.int 1]) rfl ?_
    refine aw_if_eq (npc := 8) (tgt := 52) dX8_set_5 rfl (by decide) (fun hc => absurd hc (by decide)) (fun _ => ?_)
    refine aw_iload_n (npc := 9) rfl dX8_set_8 rfl ?_
    refine aw_iconst (npc := 10) (v := 1) (by decide) dX8_set_9 rfl ?_
    refine aw_iconst (npc := 11) (v := 2) (by decide) dX8_set_10 rfl ?_
    refine aw_callS (npc := 14) (N := mX8_in) (mc := 0) (ms := 0) (A := [.int w, .int 1, .int 2]) (S := []) (L0 := [some (.int w), some (.int 1), some (.int 2)]) dX8_set_11 rfl km_X8_in kk_X8_83 rfl ⟨rfl, by decide⟩ rfl (Nat.le_of_ble_eq_true rfl) (Nat.zero_add _) (Nat.zero_add _) rfl ?_
    refine c_X8_in (fun hw2 => ?_) (fun hw2 => ?_)
    · rcases wi_c1_2 hw2 with rfl | rfl
      · refine aw_re (S' := [.int 1]) rfl ?_
        refine aw_if_eq (npc := 17) (tgt := 52) dX8_set_14 rfl (by decide) (fun hc => absurd hc (by decide)) (fun _ => ?_)
        refine aw_iload_n (npc := 18) rfl dX8_set_17 rfl ?_
        refine aw_iconst (npc := 19) (v := 0) (by decide) dX8_set_18 rfl ?_
        refine aw_iload_n (npc := 20) rfl dX8_set_19 rfl ?_
        refine aw_iconst (npc := 21) (v := 1) (by decide) dX8_set_20 rfl ?_
        refine aw_icmp_ne (npc := 24) (tgt := 28) dX8_set_21 rfl (by decide) (fun hc => absurd (by decide) hc) (fun _ => ?_)
        refine aw_iconst (npc := 25) (v := 1) (by decide) dX8_set_24 rfl ?_
        refine aw_goto (npc := 30) dX8_set_25 (by decide) ?_
        refine aw_callS (npc := 33) (N := mX8_in) (mc := 0) (ms := 0) (A := [.int v, .int 0, .int 1]) (S := []) (L0 := [some (.int v), some (.int 0), some (.int 1)]) dX8_set_30 rfl km_X8_in kk_X8_83 rfl ⟨rfl, by decide⟩ rfl (Nat.le_of_ble_eq_true rfl) (Nat.zero_add _) (Nat.zero_add _) rfl ?_
        refine c_X8_in (fun hw3 => ?_) (fun hw3 => ?_)
        · refine aw_re (S' := [.int 1]) rfl ?_
          refine aw_if_eq (npc := 36) (tgt := 52) dX8_set_33 rfl (by decide) (fun hc => absurd hc (by decide)) (fun _ => ?_)
          refine aw_aload_n (npc := 37) rfl dX8_set_36 rfl ?_
          refine aw_bipush (npc := 39) (v := 22) (by decide) dX8_set_37 rfl ?_
          refine aw_iconst (npc := 40) (v := 5) (by decide) dX8_set_39 rfl ?_
          refine aw_iload_n (npc := 41) rfl dX8_set_40 rfl ?_
          refine aw_imulV (npc := 42) (v := nI (5 * fn)) dX8_set_41 rfl (pk_mul 5 _) ?_
          refine aw_iaddV (npc := 43) (v := nI (22 + (5 * fn))) dX8_set_42 rfl (nI_add 22 _) ?_
          refine aw_iload_n (npc := 44) rfl dX8_set_43 rfl ?_
          refine aw_iaddV (npc := 45) (v := nI (23 + (5 * fn))) dX8_set_44 rfl ((nI_add _ 1).trans (congrArg nI (by omega))) ?_
          refine aw_iload_n (npc := 46) rfl dX8_set_45 rfl ?_
          refine aw_callV (npc := 49) (N := mX8_becomes) (b := 69) (mc := 0) (ms := 0) (A := [.int (nI (23 + (5 * fn))), .int v]) (S := []) (L0 := [some (.ref 69), some (.int (nI (23 + (5 * fn)))), some (.int v), none]) dX8_set_46 rfl km_X8_becomes kk_X8_135 F.1 ⟨by decide, rfl⟩ rfl ⟨rfl, by decide⟩ rfl (Nat.le_of_ble_eq_true rfl) (Nat.zero_add _) (Nat.zero_add _) rfl ?_
          refine m_becomes (j := (23 + (5 * fn))) (v := v) F (by omega) (fun hp6 F4 fb5 => ?_)
          refine aw_re (S' := [.int (N (23 + (5 * fn)))]) rfl ?_
          refine aw_goto (npc := 54) dX8_set_49 (by decide) ?_
          refine aw_iret rfl dX8_set_54 ?_
          exact hq _ _ _ (by simp [seV, seN, cI, hw1, hw3, ffn]) (by simp [seV, seN, cI, hw1, hw3, ffn]) F4 (am_fpT (fun k (hk : k < 69 ∨ 92 ≤ k) => fb5 k (by omega)) am_fp0)
        · refine aw_re (S' := [.int 0]) rfl ?_
          refine aw_if_eq (npc := 36) (tgt := 52) dX8_set_33 rfl (by decide) (fun _ => ?_) (fun hc => absurd (by decide) hc)
          refine aw_ldc (npc := 54) kc_X8_91 dX8_set_52 rfl ?_
          refine aw_iret rfl dX8_set_54 ?_
          exact hq _ _ _ (by simp [seV, seN, cI, hw1, hw3, ffn]) (by simp [seV, seN, cI, hw1, hw3, ffn]) F am_fp0
      · refine aw_re (S' := [.int 1]) rfl ?_
        refine aw_if_eq (npc := 17) (tgt := 52) dX8_set_14 rfl (by decide) (fun hc => absurd hc (by decide)) (fun _ => ?_)
        refine aw_iload_n (npc := 18) rfl dX8_set_17 rfl ?_
        refine aw_iconst (npc := 19) (v := 0) (by decide) dX8_set_18 rfl ?_
        refine aw_iload_n (npc := 20) rfl dX8_set_19 rfl ?_
        refine aw_iconst (npc := 21) (v := 1) (by decide) dX8_set_20 rfl ?_
        refine aw_icmp_ne (npc := 24) (tgt := 28) dX8_set_21 rfl (by decide) (fun _ => ?_) (fun hc => absurd hc (by decide))
        refine aw_bipush (npc := 30) (v := 99) (by decide) dX8_set_28 rfl ?_
        refine aw_callS (npc := 33) (N := mX8_in) (mc := 0) (ms := 0) (A := [.int v, .int 0, .int 99]) (S := []) (L0 := [some (.int v), some (.int 0), some (.int 99)]) dX8_set_30 rfl km_X8_in kk_X8_83 rfl ⟨rfl, by decide⟩ rfl (Nat.le_of_ble_eq_true rfl) (Nat.zero_add _) (Nat.zero_add _) rfl ?_
        refine c_X8_in (fun hw7 => ?_) (fun hw7 => ?_)
        · refine aw_re (S' := [.int 1]) rfl ?_
          refine aw_if_eq (npc := 36) (tgt := 52) dX8_set_33 rfl (by decide) (fun hc => absurd hc (by decide)) (fun _ => ?_)
          refine aw_aload_n (npc := 37) rfl dX8_set_36 rfl ?_
          refine aw_bipush (npc := 39) (v := 22) (by decide) dX8_set_37 rfl ?_
          refine aw_iconst (npc := 40) (v := 5) (by decide) dX8_set_39 rfl ?_
          refine aw_iload_n (npc := 41) rfl dX8_set_40 rfl ?_
          refine aw_imulV (npc := 42) (v := nI (5 * fn)) dX8_set_41 rfl (pk_mul 5 _) ?_
          refine aw_iaddV (npc := 43) (v := nI (22 + (5 * fn))) dX8_set_42 rfl (nI_add 22 _) ?_
          refine aw_iload_n (npc := 44) rfl dX8_set_43 rfl ?_
          refine aw_iaddV (npc := 45) (v := nI (24 + (5 * fn))) dX8_set_44 rfl ((nI_add _ 2).trans (congrArg nI (by omega))) ?_
          refine aw_iload_n (npc := 46) rfl dX8_set_45 rfl ?_
          refine aw_callV (npc := 49) (N := mX8_becomes) (b := 69) (mc := 0) (ms := 0) (A := [.int (nI (24 + (5 * fn))), .int v]) (S := []) (L0 := [some (.ref 69), some (.int (nI (24 + (5 * fn)))), some (.int v), none]) dX8_set_46 rfl km_X8_becomes kk_X8_135 F.1 ⟨by decide, rfl⟩ rfl ⟨rfl, by decide⟩ rfl (Nat.le_of_ble_eq_true rfl) (Nat.zero_add _) (Nat.zero_add _) rfl ?_
          refine m_becomes (j := (24 + (5 * fn))) (v := v) F (by omega) (fun hp10 F8 fb9 => ?_)
          refine aw_re (S' := [.int (N (24 + (5 * fn)))]) rfl ?_
          refine aw_goto (npc := 54) dX8_set_49 (by decide) ?_
          refine aw_iret rfl dX8_set_54 ?_
          exact hq _ _ _ (by simp [seV, seN, cI, hw1, hw7, ffn]) (by simp [seV, seN, cI, hw1, hw7, ffn]) F8 (am_fpT (fun k (hk : k < 69 ∨ 92 ≤ k) => fb9 k (by omega)) am_fp0)
        · refine aw_re (S' := [.int 0]) rfl ?_
          refine aw_if_eq (npc := 36) (tgt := 52) dX8_set_33 rfl (by decide) (fun _ => ?_) (fun hc => absurd (by decide) hc)
          refine aw_ldc (npc := 54) kc_X8_91 dX8_set_52 rfl ?_
          refine aw_iret rfl dX8_set_54 ?_
          exact hq _ _ _ (by simp [seV, seN, cI, hw1, hw7, ffn]) (by simp [seV, seN, cI, hw1, hw7, ffn]) F am_fp0
    · refine aw_re (S' := [.int 0]) rfl ?_
      refine aw_if_eq (npc := 17) (tgt := 52) dX8_set_14 rfl (by decide) (fun _ => ?_) (fun hc => absurd (by decide) hc)
      refine aw_ldc (npc := 54) kc_X8_91 dX8_set_52 rfl ?_
      refine aw_iret rfl dX8_set_54 ?_
      exact hq _ _ _ (by simp [seV, seN, cI, hw1, hw2, ffn, nwi_1 hw2 (k := 1) ⟨by decide, by decide⟩, nwi_1 hw2 (k := 2) ⟨by decide, by decide⟩]) (by simp [seV, seN, cI, hw1, hw2, ffn, nwi_1 hw2 (k := 1) ⟨by decide, by decide⟩, nwi_1 hw2 (k := 2) ⟨by decide, by decide⟩]) F am_fp0
  · refine aw_re (S' := [.int 0]) rfl ?_
    refine aw_if_eq (npc := 8) (tgt := 52) dX8_set_5 rfl (by decide) (fun _ => ?_) (fun hc => absurd (by decide) hc)
    refine aw_ldc (npc := 54) kc_X8_91 dX8_set_52 rfl ?_
    refine aw_iret rfl dX8_set_54 ?_
    exact hq _ _ _ (by simp [seV, seN, cI, hw1]) (by simp [seV, seN, cI, hw1]) F am_fp0
noncomputable def stV (N : Nat → Int32) (t v : Int32) : Int32 := cI (wi t 0 3 ∧ wi v 0 9) (N (8 + fN t)) (-1000000001)
noncomputable def stN (N : Nat → Int32) (t v : Int32) : Nat → Int32 := cI (wi t 0 3 ∧ wi v 0 9) (upd N (8 + fN t) v) N
set_option maxHeartbeats 4000000 in
set_option maxRecDepth 100000 in
theorem C_stand {X : List Int32} {d rc rs n : Nat} {Q : am_Q} {h : am_H} {N : Nat → Int32} {tx : List Value} {lk mv : Nat → Int32} {ik wc : Int32} {fr c : Nat} {t : Int32} {v : Int32} (O : OB ik wc h) (F : QR 1 N tx lk mv h) (hR : RG N fr c) (hq : ∀ v9 N9 h9, v9 = stV N t v → N9 = stN N t v → QR 1 N9 tx lk mv h9 → am_fp (fun k => k < 1 ∨ 13 ≤ k) h9 h → Q (some (.int v9)) n h9) : AW X mX7_stand (d + 12) rc rs 0 [some (.ref 0), some (.int t), some (.int v), none] [] n h Q := by
  have h8r := hR.2.1
  have h14r := hR.2.2.2.1
  refine aw_iload_n (npc := 1) rfl dX7_stand_0 rfl ?_
  refine aw_callS (npc := 4) (N := mX7_isTerm) (mc := 0) (ms := 0) (A := [.int t]) (S := []) (L0 := [some (.int t)]) dX7_stand_1 rfl km_X7_isTerm kk_X7_124 rfl ⟨rfl, by decide⟩ rfl (Nat.le_of_ble_eq_true rfl) (Nat.zero_add _) (Nat.zero_add _) rfl ?_
  refine c_X7_isTerm (fun hw1 => ?_) (fun hw1 => ?_)
  · obtain ⟨tn, htn, etn⟩ := wi_nI (H := 3) (by decide) (by decide) hw1
    subst etn
    have ftn : fN (nI tn) = tn := fN_nI (by omega)
    refine aw_re (S' := [.int 1]) rfl ?_
    refine aw_if_eq (npc := 7) (tgt := 17) dX7_stand_4 rfl (by decide) (fun hc => absurd hc (by decide)) (fun _ => ?_)
    refine aw_iload_n (npc := 8) rfl dX7_stand_7 rfl ?_
    refine aw_iconst (npc := 9) (v := 0) (by decide) dX7_stand_8 rfl ?_
    refine aw_bipush (npc := 11) (v := 9) (by decide) dX7_stand_9 rfl ?_
    refine aw_callS (npc := 14) (N := mX7_within) (mc := 0) (ms := 0) (A := [.int v, .int 0, .int 9]) (S := []) (L0 := [some (.int v), some (.int 0), some (.int 9)]) dX7_stand_11 rfl km_X7_within kk_X7_74 rfl ⟨rfl, by decide⟩ rfl (Nat.le_of_ble_eq_true rfl) (Nat.zero_add _) (Nat.zero_add _) rfl ?_
    refine c_X7_within (fun hw2 => ?_) (fun hw2 => ?_)
    · refine aw_re (S' := [.int 1]) rfl ?_
      refine aw_if_ne (npc := 17) (tgt := 20) dX7_stand_14 rfl (by decide) (fun _ => ?_) (fun hc => absurd hc (by decide))
      refine aw_aload_n (npc := 21) rfl dX7_stand_20 rfl ?_
      refine aw_get (npc := 24) dX7_stand_21 rfl kf_X7_10 O.1 rfl ?_
      refine aw_get (npc := 27) dX7_stand_24 rfl kf_X7_127 F.1 rfl ?_
      refine aw_iload_n (npc := 28) rfl dX7_stand_27 rfl ?_
      refine aw_iald (npc := 29) (x := N (8 + 1 * tn)) (j := tn) dX7_stand_28 rfl F.2.1 (am_ix_nI (by omega)) (tl_at (by omega)) ?_
      refine aw_istore_n (npc := 30) (L' := [some (.ref 0), some (.int (nI tn)), some (.int v), some (.int (N (8 + 1 * tn)))]) dX7_stand_29 rfl (by decide) rfl rfl ?_
      refine aw_aload_n (npc := 31) rfl dX7_stand_30 rfl ?_
      refine aw_get (npc := 34) dX7_stand_31 rfl kf_X7_10 O.1 rfl ?_
      refine aw_get (npc := 37) dX7_stand_34 rfl kf_X7_127 F.1 rfl ?_
      refine aw_iload_n (npc := 38) rfl dX7_stand_37 rfl ?_
      refine aw_iload_n (npc := 39) rfl dX7_stand_38 rfl ?_
      refine aw_iast (npc := 40) (j := tn) dX7_stand_39 rfl F.2.1 (am_ix_nI (by omega)) (by rw [tl_len]; omega) rfl ?_
      have F3 := qr_stand (j := tn) (v := v) F (by omega)
      have O4 := ob_out (a := 2) (c := .inl (0, (tl 4 (fun z9 => N (8 + 1 * z9))).set tn v)) (by omega) O
      refine aw_iload_n (npc := 41) rfl dX7_stand_40 rfl ?_
      refine aw_iret rfl dX7_stand_41 ?_
      exact hq _ _ _ (by simp [stV, stN, cI, hw1, hw2, ftn]) (by simp [stV, stN, cI, hw1, hw2, ftn]) F3 (am_fpU (show ¬ (2 < 1 ∨ 13 ≤ 2) by omega) am_fp0)
    · refine aw_re (S' := [.int 0]) rfl ?_
      refine aw_if_ne (npc := 17) (tgt := 20) dX7_stand_14 rfl (by decide) (fun hc => absurd (by decide) hc) (fun _ => ?_)
      refine aw_ldc (npc := 19) kc_X7_78 dX7_stand_17 rfl ?_
      refine aw_iret rfl dX7_stand_19 ?_
      exact hq _ _ _ (by simp [stV, stN, cI, hw1, hw2, ftn]) (by simp [stV, stN, cI, hw1, hw2, ftn]) F am_fp0
  · refine aw_re (S' := [.int 0]) rfl ?_
    refine aw_if_eq (npc := 7) (tgt := 17) dX7_stand_4 rfl (by decide) (fun _ => ?_) (fun hc => absurd (by decide) hc)
    refine aw_ldc (npc := 19) kc_X7_78 dX7_stand_17 rfl ?_
    refine aw_iret rfl dX7_stand_19 ?_
    exact hq _ _ _ (by simp [stV, stN, cI, hw1]) (by simp [stV, stN, cI, hw1]) F am_fp0
set_option maxHeartbeats 4000000 in
set_option maxRecDepth 100000 in
theorem M_stand {X : List Int32} {d rc rs n : Nat} {Q : am_Q} {h : am_H} {o N : Nat → Int32} {a : Nat → Nat → Int32} {fr c : Nat} {t : Int32} {v : Int32} (F : MR o N a h) (hR : RG N fr c) (hq : ∀ v9 N9 h9, v9 = stV N t v → N9 = stN N t v → MR o N9 a h9 → am_fp (fun k => k < 69 ∨ 92 ≤ k) h9 h → Q (some (.int v9)) n h9) : AW X mX8_stand (d + 12) rc rs 0 [some (.ref 69), some (.int t), some (.int v)] [] n h Q := by
  have h8r := hR.2.1
  have h14r := hR.2.2.2.1
  refine aw_iload_n (npc := 1) rfl dX8_stand_0 rfl ?_
  refine aw_iconst (npc := 2) (v := 0) (by decide) dX8_stand_1 rfl ?_
  refine aw_iconst (npc := 3) (v := 3) (by decide) dX8_stand_2 rfl ?_
  refine aw_callS (npc := 6) (N := mX8_in) (mc := 0) (ms := 0) (A := [.int t, .int 0, .int 3]) (S := []) (L0 := [some (.int t), some (.int 0), some (.int 3)]) dX8_stand_3 rfl km_X8_in kk_X8_83 rfl ⟨rfl, by decide⟩ rfl (Nat.le_of_ble_eq_true rfl) (Nat.zero_add _) (Nat.zero_add _) rfl ?_
  refine c_X8_in (fun hw1 => ?_) (fun hw1 => ?_)
  · obtain ⟨tn, htn, etn⟩ := wi_nI (H := 3) (by decide) (by decide) hw1
    subst etn
    have ftn : fN (nI tn) = tn := fN_nI (by omega)
    refine aw_re (S' := [.int 1]) rfl ?_
    refine aw_if_eq (npc := 9) (tgt := 31) dX8_stand_6 rfl (by decide) (fun hc => absurd hc (by decide)) (fun _ => ?_)
    refine aw_iload_n (npc := 10) rfl dX8_stand_9 rfl ?_
    refine aw_iconst (npc := 11) (v := 0) (by decide) dX8_stand_10 rfl ?_
    refine aw_bipush (npc := 13) (v := 9) (by decide) dX8_stand_11 rfl ?_
    refine aw_callS (npc := 16) (N := mX8_in) (mc := 0) (ms := 0) (A := [.int v, .int 0, .int 9]) (S := []) (L0 := [some (.int v), some (.int 0), some (.int 9)]) dX8_stand_13 rfl km_X8_in kk_X8_83 rfl ⟨rfl, by decide⟩ rfl (Nat.le_of_ble_eq_true rfl) (Nat.zero_add _) (Nat.zero_add _) rfl ?_
    refine c_X8_in (fun hw2 => ?_) (fun hw2 => ?_)
    · refine aw_re (S' := [.int 1]) rfl ?_
      refine aw_if_eq (npc := 19) (tgt := 31) dX8_stand_16 rfl (by decide) (fun hc => absurd hc (by decide)) (fun _ => ?_)
      refine aw_aload_n (npc := 20) rfl dX8_stand_19 rfl ?_
      refine aw_bipush (npc := 22) (v := 8) (by decide) dX8_stand_20 rfl ?_
      refine aw_iload_n (npc := 23) rfl dX8_stand_22 rfl ?_
      refine aw_iaddV (npc := 24) (v := nI (8 + tn)) dX8_stand_23 rfl (nI_add 8 _) ?_
      refine aw_iload_n (npc := 25) rfl dX8_stand_24 rfl ?_
      refine aw_callV (npc := 28) (N := mX8_becomes) (b := 69) (mc := 0) (ms := 0) (A := [.int (nI (8 + tn)), .int v]) (S := []) (L0 := [some (.ref 69), some (.int (nI (8 + tn))), some (.int v), none]) dX8_stand_25 rfl km_X8_becomes kk_X8_135 F.1 ⟨by decide, rfl⟩ rfl ⟨rfl, by decide⟩ rfl (Nat.le_of_ble_eq_true rfl) (Nat.zero_add _) (Nat.zero_add _) rfl ?_
      refine m_becomes (j := (8 + tn)) (v := v) F (by omega) (fun hp5 F3 fb4 => ?_)
      refine aw_re (S' := [.int (N (8 + tn))]) rfl ?_
      refine aw_goto (npc := 33) dX8_stand_28 (by decide) ?_
      refine aw_iret rfl dX8_stand_33 ?_
      exact hq _ _ _ (by simp [stV, stN, cI, hw1, hw2, ftn]) (by simp [stV, stN, cI, hw1, hw2, ftn]) F3 (am_fpT (fun k (hk : k < 69 ∨ 92 ≤ k) => fb4 k (by omega)) am_fp0)
    · refine aw_re (S' := [.int 0]) rfl ?_
      refine aw_if_eq (npc := 19) (tgt := 31) dX8_stand_16 rfl (by decide) (fun _ => ?_) (fun hc => absurd (by decide) hc)
      refine aw_ldc (npc := 33) kc_X8_91 dX8_stand_31 rfl ?_
      refine aw_iret rfl dX8_stand_33 ?_
      exact hq _ _ _ (by simp [stV, stN, cI, hw1, hw2, ftn]) (by simp [stV, stN, cI, hw1, hw2, ftn]) F am_fp0
  · refine aw_re (S' := [.int 0]) rfl ?_
    refine aw_if_eq (npc := 9) (tgt := 31) dX8_stand_6 rfl (by decide) (fun _ => ?_) (fun hc => absurd (by decide) hc)
    refine aw_ldc (npc := 33) kc_X8_91 dX8_stand_31 rfl ?_
    refine aw_iret rfl dX8_stand_33 ?_
    exact hq _ _ _ (by simp [stV, stN, cI, hw1]) (by simp [stV, stN, cI, hw1]) F am_fp0
noncomputable def caV (N : Nat → Int32) (s t v : Int32) : Int32 := cI (wi s 0 1 ∧ wi t 0 3 ∧ wi v 0 9) (N (12 + (fN s * 4 + fN t))) (-1000000001)
noncomputable def caN (N : Nat → Int32) (s t v : Int32) : Nat → Int32 := cI (wi s 0 1 ∧ wi t 0 3 ∧ wi v 0 9) (upd N (12 + (fN s * 4 + fN t)) v) N
set_option maxHeartbeats 4000000 in
set_option maxRecDepth 100000 in
theorem C_care {X : List Int32} {d rc rs n : Nat} {Q : am_Q} {h : am_H} {N : Nat → Int32} {tx : List Value} {lk mv : Nat → Int32} {ik wc : Int32} {fr c : Nat} {s : Int32} {t : Int32} {v : Int32} (O : OB ik wc h) (F : QR 1 N tx lk mv h) (hR : RG N fr c) (hq : ∀ v9 N9 h9, v9 = caV N s t v → N9 = caN N s t v → QR 1 N9 tx lk mv h9 → am_fp (fun k => k < 1 ∨ 13 ≤ k) h9 h → Q (some (.int v9)) n h9) : AW X mX7_care (d + 12) rc rs 0 [some (.ref 0), some (.int s), some (.int t), some (.int v), none] [] n h Q := by
  have h8r := hR.2.1
  have h14r := hR.2.2.2.1
  refine aw_iload_n (npc := 1) rfl dX7_care_0 rfl ?_
  refine aw_callS (npc := 4) (N := mX7_isSide) (mc := 0) (ms := 0) (A := [.int s]) (S := []) (L0 := [some (.int s)]) dX7_care_1 rfl km_X7_isSide kk_X7_71 rfl ⟨rfl, by decide⟩ rfl (Nat.le_of_ble_eq_true rfl) (Nat.zero_add _) (Nat.zero_add _) rfl ?_
  refine c_X7_isSide (fun hw1 => ?_) (fun hw1 => ?_)
  · obtain ⟨sn, hsn, esn⟩ := wi_nI (H := 1) (by decide) (by decide) hw1
    subst esn
    have fsn : fN (nI sn) = sn := fN_nI (by omega)
    refine aw_re (S' := [.int 1]) rfl ?_
    refine aw_if_eq (npc := 7) (tgt := 24) dX7_care_4 rfl (by decide) (fun hc => absurd hc (by decide)) (fun _ => ?_)
    refine aw_iload_n (npc := 8) rfl dX7_care_7 rfl ?_
    refine aw_callS (npc := 11) (N := mX7_isTerm) (mc := 0) (ms := 0) (A := [.int t]) (S := []) (L0 := [some (.int t)]) dX7_care_8 rfl km_X7_isTerm kk_X7_124 rfl ⟨rfl, by decide⟩ rfl (Nat.le_of_ble_eq_true rfl) (Nat.zero_add _) (Nat.zero_add _) rfl ?_
    refine c_X7_isTerm (fun hw2 => ?_) (fun hw2 => ?_)
    · obtain ⟨tn, htn, etn⟩ := wi_nI (H := 3) (by decide) (by decide) hw2
      subst etn
      have ftn : fN (nI tn) = tn := fN_nI (by omega)
      refine aw_re (S' := [.int 1]) rfl ?_
      refine aw_if_eq (npc := 14) (tgt := 24) dX7_care_11 rfl (by decide) (fun hc => absurd hc (by decide)) (fun _ => ?_)
      refine aw_iload_n (npc := 15) rfl dX7_care_14 rfl ?_
      refine aw_iconst (npc := 16) (v := 0) (by decide) dX7_care_15 rfl ?_
      refine aw_bipush (npc := 18) (v := 9) (by decide) dX7_care_16 rfl ?_
      refine aw_callS (npc := 21) (N := mX7_within) (mc := 0) (ms := 0) (A := [.int v, .int 0, .int 9]) (S := []) (L0 := [some (.int v), some (.int 0), some (.int 9)]) dX7_care_18 rfl km_X7_within kk_X7_74 rfl ⟨rfl, by decide⟩ rfl (Nat.le_of_ble_eq_true rfl) (Nat.zero_add _) (Nat.zero_add _) rfl ?_
      refine c_X7_within (fun hw3 => ?_) (fun hw3 => ?_)
      · refine aw_re (S' := [.int 1]) rfl ?_
        refine aw_if_ne (npc := 24) (tgt := 27) dX7_care_21 rfl (by decide) (fun _ => ?_) (fun hc => absurd hc (by decide))
        refine aw_aload_n (npc := 28) rfl dX7_care_27 rfl ?_
        refine aw_get (npc := 31) dX7_care_28 rfl kf_X7_10 O.1 rfl ?_
        refine aw_get (npc := 34) dX7_care_31 rfl kf_X7_130 F.1 rfl ?_
        refine aw_iload_n (npc := 35) rfl dX7_care_34 rfl ?_
        refine aw_iload_n (npc := 36) rfl dX7_care_35 rfl ?_
        refine aw_callS (npc := 39) (N := mX7_carePlace) (mc := 0) (ms := 0) (A := [.int (nI sn), .int (nI tn)]) (S := [.ref 3]) (L0 := [some (.int (nI sn)), some (.int (nI tn))]) dX7_care_36 rfl km_X7_carePlace kk_X7_133 rfl ⟨rfl, by decide⟩ rfl (Nat.le_of_ble_eq_true rfl) (Nat.zero_add _) (Nat.zero_add _) rfl ?_
        refine aw_iload_n (npc := 1) rfl dX7_carePlace_0 rfl ?_
        refine aw_iconst (npc := 2) (v := 4) (by decide) dX7_carePlace_1 rfl ?_
        refine aw_imulV (npc := 3) (v := nI (sn * 4)) dX7_carePlace_2 rfl (pk_mul _ 4) ?_
        refine aw_iload_n (npc := 4) rfl dX7_carePlace_3 rfl ?_
        refine aw_iaddV (npc := 5) (v := nI ((sn * 4) + tn)) dX7_carePlace_4 rfl (nI_add _ _) ?_
        refine aw_iret rfl dX7_carePlace_5 ?_
        refine aw_re (S' := [.int (nI ((sn * 4) + tn)), .ref 3]) rfl ?_
        refine aw_iald (npc := 40) (x := N (12 + 1 * ((sn * 4) + tn))) (j := ((sn * 4) + tn)) dX7_care_39 rfl F.2.2.1 (am_ix_nI (by omega)) (tl_at (by omega)) ?_
        refine aw_istore (npc := 42) (L' := [some (.ref 0), some (.int (nI sn)), some (.int (nI tn)), some (.int v), some (.int (N (12 + 1 * ((sn * 4) + tn))))]) dX7_care_40 rfl (by decide) rfl rfl ?_
        refine aw_aload_n (npc := 43) rfl dX7_care_42 rfl ?_
        refine aw_get (npc := 46) dX7_care_43 rfl kf_X7_10 O.1 rfl ?_
        refine aw_get (npc := 49) dX7_care_46 rfl kf_X7_130 F.1 rfl ?_
        refine aw_iload_n (npc := 50) rfl dX7_care_49 rfl ?_
        refine aw_iload_n (npc := 51) rfl dX7_care_50 rfl ?_
        refine aw_callS (npc := 54) (N := mX7_carePlace) (mc := 0) (ms := 0) (A := [.int (nI sn), .int (nI tn)]) (S := [.ref 3]) (L0 := [some (.int (nI sn)), some (.int (nI tn))]) dX7_care_51 rfl km_X7_carePlace kk_X7_133 rfl ⟨rfl, by decide⟩ rfl (Nat.le_of_ble_eq_true rfl) (Nat.zero_add _) (Nat.zero_add _) rfl ?_
        refine aw_iload_n (npc := 1) rfl dX7_carePlace_0 rfl ?_
        refine aw_iconst (npc := 2) (v := 4) (by decide) dX7_carePlace_1 rfl ?_
        refine aw_imulV (npc := 3) (v := nI (sn * 4)) dX7_carePlace_2 rfl (pk_mul _ 4) ?_
        refine aw_iload_n (npc := 4) rfl dX7_carePlace_3 rfl ?_
        refine aw_iaddV (npc := 5) (v := nI ((sn * 4) + tn)) dX7_carePlace_4 rfl (nI_add _ _) ?_
        refine aw_iret rfl dX7_carePlace_5 ?_
        refine aw_re (S' := [.int (nI ((sn * 4) + tn)), .ref 3]) rfl ?_
        refine aw_iload_n (npc := 55) rfl dX7_care_54 rfl ?_
        refine aw_iast (npc := 56) (j := ((sn * 4) + tn)) dX7_care_55 rfl F.2.2.1 (am_ix_nI (by omega)) (by rw [tl_len]; omega) rfl ?_
        have F4 := qr_care (j := ((sn * 4) + tn)) (v := v) F (by omega)
        have O5 := ob_out (a := 3) (c := .inl (0, (tl 8 (fun z9 => N (12 + 1 * z9))).set ((sn * 4) + tn) v)) (by omega) O
        refine aw_iload (npc := 58) rfl dX7_care_56 rfl ?_
        refine aw_iret rfl dX7_care_58 ?_
        exact hq _ _ _ (by simp [caV, caN, cI, hw1, hw2, hw3, fsn, ftn, Nat.mul_comm]) (by simp [caV, caN, cI, hw1, hw2, hw3, fsn, ftn, Nat.mul_comm]) F4 (am_fpU (show ¬ (3 < 1 ∨ 13 ≤ 3) by omega) am_fp0)
      · refine aw_re (S' := [.int 0]) rfl ?_
        refine aw_if_ne (npc := 24) (tgt := 27) dX7_care_21 rfl (by decide) (fun hc => absurd (by decide) hc) (fun _ => ?_)
        refine aw_ldc (npc := 26) kc_X7_78 dX7_care_24 rfl ?_
        refine aw_iret rfl dX7_care_26 ?_
        exact hq _ _ _ (by simp [caV, caN, cI, hw1, hw2, hw3, fsn, ftn, Nat.mul_comm]) (by simp [caV, caN, cI, hw1, hw2, hw3, fsn, ftn, Nat.mul_comm]) F am_fp0
    · refine aw_re (S' := [.int 0]) rfl ?_
      refine aw_if_eq (npc := 14) (tgt := 24) dX7_care_11 rfl (by decide) (fun _ => ?_) (fun hc => absurd (by decide) hc)
      refine aw_ldc (npc := 26) kc_X7_78 dX7_care_24 rfl ?_
      refine aw_iret rfl dX7_care_26 ?_
      exact hq _ _ _ (by simp [caV, caN, cI, hw1, hw2, fsn, Nat.mul_comm]) (by simp [caV, caN, cI, hw1, hw2, fsn, Nat.mul_comm]) F am_fp0
  · refine aw_re (S' := [.int 0]) rfl ?_
    refine aw_if_eq (npc := 7) (tgt := 24) dX7_care_4 rfl (by decide) (fun _ => ?_) (fun hc => absurd (by decide) hc)
    refine aw_ldc (npc := 26) kc_X7_78 dX7_care_24 rfl ?_
    refine aw_iret rfl dX7_care_26 ?_
    exact hq _ _ _ (by simp [caV, caN, cI, hw1, Nat.mul_comm]) (by simp [caV, caN, cI, hw1, Nat.mul_comm]) F am_fp0
set_option maxHeartbeats 4000000 in
set_option maxRecDepth 100000 in
theorem M_care {X : List Int32} {d rc rs n : Nat} {Q : am_Q} {h : am_H} {o N : Nat → Int32} {a : Nat → Nat → Int32} {fr c : Nat} {s : Int32} {t : Int32} {v : Int32} (F : MR o N a h) (hR : RG N fr c) (hq : ∀ v9 N9 h9, v9 = caV N s t v → N9 = caN N s t v → MR o N9 a h9 → am_fp (fun k => k < 69 ∨ 92 ≤ k) h9 h → Q (some (.int v9)) n h9) : AW X mX8_care (d + 12) rc rs 0 [some (.ref 69), some (.int s), some (.int t), some (.int v)] [] n h Q := by
  have h8r := hR.2.1
  have h14r := hR.2.2.2.1
  refine aw_iload_n (npc := 1) rfl dX8_care_0 rfl ?_
  refine aw_iconst (npc := 2) (v := 0) (by decide) dX8_care_1 rfl ?_
  refine aw_iconst (npc := 3) (v := 1) (by decide) dX8_care_2 rfl ?_
  refine aw_callS (npc := 6) (N := mX8_in) (mc := 0) (ms := 0) (A := [.int s, .int 0, .int 1]) (S := []) (L0 := [some (.int s), some (.int 0), some (.int 1)]) dX8_care_3 rfl km_X8_in kk_X8_83 rfl ⟨rfl, by decide⟩ rfl (Nat.le_of_ble_eq_true rfl) (Nat.zero_add _) (Nat.zero_add _) rfl ?_
  refine c_X8_in (fun hw1 => ?_) (fun hw1 => ?_)
  · obtain ⟨sn, hsn, esn⟩ := wi_nI (H := 1) (by decide) (by decide) hw1
    subst esn
    have fsn : fN (nI sn) = sn := fN_nI (by omega)
    refine aw_re (S' := [.int 1]) rfl ?_
    refine aw_if_eq (npc := 9) (tgt := 44) dX8_care_6 rfl (by decide) (fun hc => absurd hc (by decide)) (fun _ => ?_)
    refine aw_iload_n (npc := 10) rfl dX8_care_9 rfl ?_
    refine aw_iconst (npc := 11) (v := 0) (by decide) dX8_care_10 rfl ?_
    refine aw_iconst (npc := 12) (v := 3) (by decide) dX8_care_11 rfl ?_
    refine aw_callS (npc := 15) (N := mX8_in) (mc := 0) (ms := 0) (A := [.int t, .int 0, .int 3]) (S := []) (L0 := [some (.int t), some (.int 0), some (.int 3)]) dX8_care_12 rfl km_X8_in kk_X8_83 rfl ⟨rfl, by decide⟩ rfl (Nat.le_of_ble_eq_true rfl) (Nat.zero_add _) (Nat.zero_add _) rfl ?_
    refine c_X8_in (fun hw2 => ?_) (fun hw2 => ?_)
    · obtain ⟨tn, htn, etn⟩ := wi_nI (H := 3) (by decide) (by decide) hw2
      subst etn
      have ftn : fN (nI tn) = tn := fN_nI (by omega)
      refine aw_re (S' := [.int 1]) rfl ?_
      refine aw_if_eq (npc := 18) (tgt := 44) dX8_care_15 rfl (by decide) (fun hc => absurd hc (by decide)) (fun _ => ?_)
      refine aw_iload_n (npc := 19) rfl dX8_care_18 rfl ?_
      refine aw_iconst (npc := 20) (v := 0) (by decide) dX8_care_19 rfl ?_
      refine aw_bipush (npc := 22) (v := 9) (by decide) dX8_care_20 rfl ?_
      refine aw_callS (npc := 25) (N := mX8_in) (mc := 0) (ms := 0) (A := [.int v, .int 0, .int 9]) (S := []) (L0 := [some (.int v), some (.int 0), some (.int 9)]) dX8_care_22 rfl km_X8_in kk_X8_83 rfl ⟨rfl, by decide⟩ rfl (Nat.le_of_ble_eq_true rfl) (Nat.zero_add _) (Nat.zero_add _) rfl ?_
      refine c_X8_in (fun hw3 => ?_) (fun hw3 => ?_)
      · refine aw_re (S' := [.int 1]) rfl ?_
        refine aw_if_eq (npc := 28) (tgt := 44) dX8_care_25 rfl (by decide) (fun hc => absurd hc (by decide)) (fun _ => ?_)
        refine aw_aload_n (npc := 29) rfl dX8_care_28 rfl ?_
        refine aw_bipush (npc := 31) (v := 12) (by decide) dX8_care_29 rfl ?_
        refine aw_iconst (npc := 32) (v := 4) (by decide) dX8_care_31 rfl ?_
        refine aw_iload_n (npc := 33) rfl dX8_care_32 rfl ?_
        refine aw_imulV (npc := 34) (v := nI (4 * sn)) dX8_care_33 rfl (pk_mul 4 _) ?_
        refine aw_iaddV (npc := 35) (v := nI (12 + (4 * sn))) dX8_care_34 rfl (nI_add 12 _) ?_
        refine aw_iload_n (npc := 36) rfl dX8_care_35 rfl ?_
        refine aw_iaddV (npc := 37) (v := nI ((12 + (4 * sn)) + tn)) dX8_care_36 rfl (nI_add _ _) ?_
        refine aw_iload_n (npc := 38) rfl dX8_care_37 rfl ?_
        refine aw_callV (npc := 41) (N := mX8_becomes) (b := 69) (mc := 0) (ms := 0) (A := [.int (nI ((12 + (4 * sn)) + tn)), .int v]) (S := []) (L0 := [some (.ref 69), some (.int (nI ((12 + (4 * sn)) + tn))), some (.int v), none]) dX8_care_38 rfl km_X8_becomes kk_X8_135 F.1 ⟨by decide, rfl⟩ rfl ⟨rfl, by decide⟩ rfl (Nat.le_of_ble_eq_true rfl) (Nat.zero_add _) (Nat.zero_add _) rfl ?_
        refine m_becomes (j := ((12 + (4 * sn)) + tn)) (v := v) F (by omega) (fun hp6 F4 fb5 => ?_)
        refine aw_re (S' := [.int (N ((12 + (4 * sn)) + tn))]) rfl ?_
        refine aw_goto (npc := 46) dX8_care_41 (by decide) ?_
        refine aw_iret rfl dX8_care_46 ?_
        exact hq _ _ _ (by simp [caV, caN, cI, hw1, hw2, hw3, fsn, ftn, Nat.mul_comm, Nat.add_assoc]) (by simp [caV, caN, cI, hw1, hw2, hw3, fsn, ftn, Nat.mul_comm, Nat.add_assoc]) F4 (am_fpT (fun k (hk : k < 69 ∨ 92 ≤ k) => fb5 k (by omega)) am_fp0)
      · refine aw_re (S' := [.int 0]) rfl ?_
        refine aw_if_eq (npc := 28) (tgt := 44) dX8_care_25 rfl (by decide) (fun _ => ?_) (fun hc => absurd (by decide) hc)
        refine aw_ldc (npc := 46) kc_X8_91 dX8_care_44 rfl ?_
        refine aw_iret rfl dX8_care_46 ?_
        exact hq _ _ _ (by simp [caV, caN, cI, hw1, hw2, hw3, fsn, ftn, Nat.mul_comm, Nat.add_assoc]) (by simp [caV, caN, cI, hw1, hw2, hw3, fsn, ftn, Nat.mul_comm, Nat.add_assoc]) F am_fp0
    · refine aw_re (S' := [.int 0]) rfl ?_
      refine aw_if_eq (npc := 18) (tgt := 44) dX8_care_15 rfl (by decide) (fun _ => ?_) (fun hc => absurd (by decide) hc)
      refine aw_ldc (npc := 46) kc_X8_91 dX8_care_44 rfl ?_
      refine aw_iret rfl dX8_care_46 ?_
      exact hq _ _ _ (by simp [caV, caN, cI, hw1, hw2, fsn, Nat.mul_comm, Nat.add_assoc]) (by simp [caV, caN, cI, hw1, hw2, fsn, Nat.mul_comm, Nat.add_assoc]) F am_fp0
  · refine aw_re (S' := [.int 0]) rfl ?_
    refine aw_if_eq (npc := 9) (tgt := 44) dX8_care_6 rfl (by decide) (fun _ => ?_) (fun hc => absurd (by decide) hc)
    refine aw_ldc (npc := 46) kc_X8_91 dX8_care_44 rfl ?_
    refine aw_iret rfl dX8_care_46 ?_
    exact hq _ _ _ (by simp [caV, caN, cI, hw1, Nat.mul_comm, Nat.add_assoc]) (by simp [caV, caN, cI, hw1, Nat.mul_comm, Nat.add_assoc]) F am_fp0
noncomputable def hoV (N : Nat → Int32) (s v : Int32) : Int32 := cI (wi s 0 1 ∧ wi v 0 400) (N (20 + fN s)) (-1000000001)
noncomputable def hoN (N : Nat → Int32) (s v : Int32) : Nat → Int32 := cI (wi s 0 1 ∧ wi v 0 400) (upd N (20 + fN s) v) N
set_option maxHeartbeats 4000000 in
set_option maxRecDepth 100000 in
theorem C_honour {X : List Int32} {d rc rs n : Nat} {Q : am_Q} {h : am_H} {N : Nat → Int32} {tx : List Value} {lk mv : Nat → Int32} {ik wc : Int32} {fr c : Nat} {s : Int32} {v : Int32} (O : OB ik wc h) (F : QR 1 N tx lk mv h) (hR : RG N fr c) (hq : ∀ v9 N9 h9, v9 = hoV N s v → N9 = hoN N s v → QR 1 N9 tx lk mv h9 → am_fp (fun k => k < 1 ∨ 13 ≤ k) h9 h → Q (some (.int v9)) n h9) : AW X mX7_honour (d + 12) rc rs 0 [some (.ref 0), some (.int s), some (.int v), none] [] n h Q := by
  have h8r := hR.2.1
  have h14r := hR.2.2.2.1
  refine aw_iload_n (npc := 1) rfl dX7_honour_0 rfl ?_
  refine aw_callS (npc := 4) (N := mX7_isSide) (mc := 0) (ms := 0) (A := [.int s]) (S := []) (L0 := [some (.int s)]) dX7_honour_1 rfl km_X7_isSide kk_X7_71 rfl ⟨rfl, by decide⟩ rfl (Nat.le_of_ble_eq_true rfl) (Nat.zero_add _) (Nat.zero_add _) rfl ?_
  refine c_X7_isSide (fun hw1 => ?_) (fun hw1 => ?_)
  · obtain ⟨sn, hsn, esn⟩ := wi_nI (H := 1) (by decide) (by decide) hw1
    subst esn
    have fsn : fN (nI sn) = sn := fN_nI (by omega)
    refine aw_re (S' := [.int 1]) rfl ?_
    refine aw_if_eq (npc := 7) (tgt := 18) dX7_honour_4 rfl (by decide) (fun hc => absurd hc (by decide)) (fun _ => ?_)
    refine aw_iload_n (npc := 8) rfl dX7_honour_7 rfl ?_
    refine aw_iconst (npc := 9) (v := 0) (by decide) dX7_honour_8 rfl ?_
    refine aw_sipush (npc := 12) (v := 400) (by decide) dX7_honour_9 rfl ?_
    refine aw_callS (npc := 15) (N := mX7_within) (mc := 0) (ms := 0) (A := [.int v, .int 0, .int 400]) (S := []) (L0 := [some (.int v), some (.int 0), some (.int 400)]) dX7_honour_12 rfl km_X7_within kk_X7_74 rfl ⟨rfl, by decide⟩ rfl (Nat.le_of_ble_eq_true rfl) (Nat.zero_add _) (Nat.zero_add _) rfl ?_
    refine c_X7_within (fun hw2 => ?_) (fun hw2 => ?_)
    · refine aw_re (S' := [.int 1]) rfl ?_
      refine aw_if_ne (npc := 18) (tgt := 21) dX7_honour_15 rfl (by decide) (fun _ => ?_) (fun hc => absurd hc (by decide))
      refine aw_aload_n (npc := 22) rfl dX7_honour_21 rfl ?_
      refine aw_get (npc := 25) dX7_honour_22 rfl kf_X7_10 O.1 rfl ?_
      refine aw_get (npc := 28) dX7_honour_25 rfl kf_X7_136 F.1 rfl ?_
      refine aw_iload_n (npc := 29) rfl dX7_honour_28 rfl ?_
      refine aw_iald (npc := 30) (x := N (20 + 1 * sn)) (j := sn) dX7_honour_29 rfl F.2.2.2.1 (am_ix_nI (by omega)) (tl_at (by omega)) ?_
      refine aw_istore_n (npc := 31) (L' := [some (.ref 0), some (.int (nI sn)), some (.int v), some (.int (N (20 + 1 * sn)))]) dX7_honour_30 rfl (by decide) rfl rfl ?_
      refine aw_aload_n (npc := 32) rfl dX7_honour_31 rfl ?_
      refine aw_get (npc := 35) dX7_honour_32 rfl kf_X7_10 O.1 rfl ?_
      refine aw_get (npc := 38) dX7_honour_35 rfl kf_X7_136 F.1 rfl ?_
      refine aw_iload_n (npc := 39) rfl dX7_honour_38 rfl ?_
      refine aw_iload_n (npc := 40) rfl dX7_honour_39 rfl ?_
      refine aw_iast (npc := 41) (j := sn) dX7_honour_40 rfl F.2.2.2.1 (am_ix_nI (by omega)) (by rw [tl_len]; omega) rfl ?_
      have F3 := qr_honour (j := sn) (v := v) F (by omega)
      have O4 := ob_out (a := 4) (c := .inl (0, (tl 2 (fun z9 => N (20 + 1 * z9))).set sn v)) (by omega) O
      refine aw_iload_n (npc := 42) rfl dX7_honour_41 rfl ?_
      refine aw_iret rfl dX7_honour_42 ?_
      exact hq _ _ _ (by simp [hoV, hoN, cI, hw1, hw2, fsn]) (by simp [hoV, hoN, cI, hw1, hw2, fsn]) F3 (am_fpU (show ¬ (4 < 1 ∨ 13 ≤ 4) by omega) am_fp0)
    · refine aw_re (S' := [.int 0]) rfl ?_
      refine aw_if_ne (npc := 18) (tgt := 21) dX7_honour_15 rfl (by decide) (fun hc => absurd (by decide) hc) (fun _ => ?_)
      refine aw_ldc (npc := 20) kc_X7_78 dX7_honour_18 rfl ?_
      refine aw_iret rfl dX7_honour_20 ?_
      exact hq _ _ _ (by simp [hoV, hoN, cI, hw1, hw2, fsn]) (by simp [hoV, hoN, cI, hw1, hw2, fsn]) F am_fp0
  · refine aw_re (S' := [.int 0]) rfl ?_
    refine aw_if_eq (npc := 7) (tgt := 18) dX7_honour_4 rfl (by decide) (fun _ => ?_) (fun hc => absurd (by decide) hc)
    refine aw_ldc (npc := 20) kc_X7_78 dX7_honour_18 rfl ?_
    refine aw_iret rfl dX7_honour_20 ?_
    exact hq _ _ _ (by simp [hoV, hoN, cI, hw1]) (by simp [hoV, hoN, cI, hw1]) F am_fp0
set_option maxHeartbeats 4000000 in
set_option maxRecDepth 100000 in
theorem M_honour {X : List Int32} {d rc rs n : Nat} {Q : am_Q} {h : am_H} {o N : Nat → Int32} {a : Nat → Nat → Int32} {fr c : Nat} {s : Int32} {v : Int32} (F : MR o N a h) (hR : RG N fr c) (hq : ∀ v9 N9 h9, v9 = hoV N s v → N9 = hoN N s v → MR o N9 a h9 → am_fp (fun k => k < 69 ∨ 92 ≤ k) h9 h → Q (some (.int v9)) n h9) : AW X mX8_honour (d + 12) rc rs 0 [some (.ref 69), some (.int s), some (.int v)] [] n h Q := by
  have h8r := hR.2.1
  have h14r := hR.2.2.2.1
  refine aw_iload_n (npc := 1) rfl dX8_honour_0 rfl ?_
  refine aw_iconst (npc := 2) (v := 0) (by decide) dX8_honour_1 rfl ?_
  refine aw_iconst (npc := 3) (v := 1) (by decide) dX8_honour_2 rfl ?_
  refine aw_callS (npc := 6) (N := mX8_in) (mc := 0) (ms := 0) (A := [.int s, .int 0, .int 1]) (S := []) (L0 := [some (.int s), some (.int 0), some (.int 1)]) dX8_honour_3 rfl km_X8_in kk_X8_83 rfl ⟨rfl, by decide⟩ rfl (Nat.le_of_ble_eq_true rfl) (Nat.zero_add _) (Nat.zero_add _) rfl ?_
  refine c_X8_in (fun hw1 => ?_) (fun hw1 => ?_)
  · obtain ⟨sn, hsn, esn⟩ := wi_nI (H := 1) (by decide) (by decide) hw1
    subst esn
    have fsn : fN (nI sn) = sn := fN_nI (by omega)
    refine aw_re (S' := [.int 1]) rfl ?_
    refine aw_if_eq (npc := 9) (tgt := 32) dX8_honour_6 rfl (by decide) (fun hc => absurd hc (by decide)) (fun _ => ?_)
    refine aw_iload_n (npc := 10) rfl dX8_honour_9 rfl ?_
    refine aw_iconst (npc := 11) (v := 0) (by decide) dX8_honour_10 rfl ?_
    refine aw_sipush (npc := 14) (v := 400) (by decide) dX8_honour_11 rfl ?_
    refine aw_callS (npc := 17) (N := mX8_in) (mc := 0) (ms := 0) (A := [.int v, .int 0, .int 400]) (S := []) (L0 := [some (.int v), some (.int 0), some (.int 400)]) dX8_honour_14 rfl km_X8_in kk_X8_83 rfl ⟨rfl, by decide⟩ rfl (Nat.le_of_ble_eq_true rfl) (Nat.zero_add _) (Nat.zero_add _) rfl ?_
    refine c_X8_in (fun hw2 => ?_) (fun hw2 => ?_)
    · refine aw_re (S' := [.int 1]) rfl ?_
      refine aw_if_eq (npc := 20) (tgt := 32) dX8_honour_17 rfl (by decide) (fun hc => absurd hc (by decide)) (fun _ => ?_)
      refine aw_aload_n (npc := 21) rfl dX8_honour_20 rfl ?_
      refine aw_bipush (npc := 23) (v := 20) (by decide) dX8_honour_21 rfl ?_
      refine aw_iload_n (npc := 24) rfl dX8_honour_23 rfl ?_
      refine aw_iaddV (npc := 25) (v := nI (20 + sn)) dX8_honour_24 rfl (nI_add 20 _) ?_
      refine aw_iload_n (npc := 26) rfl dX8_honour_25 rfl ?_
      refine aw_callV (npc := 29) (N := mX8_becomes) (b := 69) (mc := 0) (ms := 0) (A := [.int (nI (20 + sn)), .int v]) (S := []) (L0 := [some (.ref 69), some (.int (nI (20 + sn))), some (.int v), none]) dX8_honour_26 rfl km_X8_becomes kk_X8_135 F.1 ⟨by decide, rfl⟩ rfl ⟨rfl, by decide⟩ rfl (Nat.le_of_ble_eq_true rfl) (Nat.zero_add _) (Nat.zero_add _) rfl ?_
      refine m_becomes (j := (20 + sn)) (v := v) F (by omega) (fun hp5 F3 fb4 => ?_)
      refine aw_re (S' := [.int (N (20 + sn))]) rfl ?_
      refine aw_goto (npc := 34) dX8_honour_29 (by decide) ?_
      refine aw_iret rfl dX8_honour_34 ?_
      exact hq _ _ _ (by simp [hoV, hoN, cI, hw1, hw2, fsn]) (by simp [hoV, hoN, cI, hw1, hw2, fsn]) F3 (am_fpT (fun k (hk : k < 69 ∨ 92 ≤ k) => fb4 k (by omega)) am_fp0)
    · refine aw_re (S' := [.int 0]) rfl ?_
      refine aw_if_eq (npc := 20) (tgt := 32) dX8_honour_17 rfl (by decide) (fun _ => ?_) (fun hc => absurd (by decide) hc)
      refine aw_ldc (npc := 34) kc_X8_91 dX8_honour_32 rfl ?_
      refine aw_iret rfl dX8_honour_34 ?_
      exact hq _ _ _ (by simp [hoV, hoN, cI, hw1, hw2, fsn]) (by simp [hoV, hoN, cI, hw1, hw2, fsn]) F am_fp0
  · refine aw_re (S' := [.int 0]) rfl ?_
    refine aw_if_eq (npc := 9) (tgt := 32) dX8_honour_6 rfl (by decide) (fun _ => ?_) (fun hc => absurd (by decide) hc)
    refine aw_ldc (npc := 34) kc_X8_91 dX8_honour_32 rfl ?_
    refine aw_iret rfl dX8_honour_34 ?_
    exact hq _ _ _ (by simp [hoV, hoN, cI, hw1]) (by simp [hoV, hoN, cI, hw1]) F am_fp0
noncomputable def ruV (N : Nat → Int32) (w v : Int32) : Int32 := cI (w = 0 ∧ wi v 0 99) (N 3) (cI (w = 1 ∧ wi v 1 99) (N 4) (cI (w = 2 ∧ wi v 0 100) (N 5) (-1000000001)))
noncomputable def ruN (N : Nat → Int32) (w v : Int32) : Nat → Int32 := cI (w = 0 ∧ wi v 0 99) (upd N 3 v) (cI (w = 1 ∧ wi v 1 99) (upd N 4 v) (cI (w = 2 ∧ wi v 0 100) (upd N 5 v) N))
set_option maxHeartbeats 4000000 in
set_option maxRecDepth 100000 in
theorem C_rule {X : List Int32} {d rc rs n : Nat} {Q : am_Q} {h : am_H} {N : Nat → Int32} {tx : List Value} {lk mv : Nat → Int32} {ik wc : Int32} {fr c : Nat} {w : Int32} {v : Int32} (O : OB ik wc h) (F : QR 1 N tx lk mv h) (hR : RG N fr c) (hq : ∀ v9 N9 h9, v9 = ruV N w v → N9 = ruN N w v → QR 1 N9 tx lk mv h9 → am_fp (fun k => k < 1 ∨ 13 ≤ k) h9 h → Q (some (.int v9)) n h9) : AW X mX7_rule (d + 12) rc rs 0 [some (.ref 0), some (.int w), some (.int v), none] [] n h Q := by
  have h8r := hR.2.1
  have h14r := hR.2.2.2.1
  refine aw_iload_n (npc := 1) rfl dX7_rule_0 rfl ?_
  refine aw_if_ne (npc := 4) (tgt := 32) dX7_rule_1 rfl (by decide) (fun hc1 => ?_) (fun hc1 => ?_)
  · refine aw_iload_n (npc := 33) rfl dX7_rule_32 rfl ?_
    refine aw_iconst (npc := 34) (v := 1) (by decide) dX7_rule_33 rfl ?_
    refine aw_icmp_ne (npc := 37) (tgt := 65) dX7_rule_34 rfl (by decide) (fun hc2 => ?_) (fun hc2 => ?_)
    · refine aw_iload_n (npc := 66) rfl dX7_rule_65 rfl ?_
      refine aw_iconst (npc := 67) (v := 2) (by decide) dX7_rule_66 rfl ?_
      refine aw_icmp_ne (npc := 70) (tgt := 98) dX7_rule_67 rfl (by decide) (fun hc3 => ?_) (fun hc3 => ?_)
      · refine aw_ldc (npc := 100) kc_X7_78 dX7_rule_98 rfl ?_
        refine aw_iret rfl dX7_rule_100 ?_
        exact hq _ _ _ (by simp [ruV, ruN, cI, hc1, hc2, hc3]) (by simp [ruV, ruN, cI, hc1, hc2, hc3]) F am_fp0
      · subst hc3
        refine aw_iload_n (npc := 71) rfl dX7_rule_70 rfl ?_
        refine aw_iconst (npc := 72) (v := 0) (by decide) dX7_rule_71 rfl ?_
        refine aw_bipush (npc := 74) (v := 100) (by decide) dX7_rule_72 rfl ?_
        refine aw_callS (npc := 77) (N := mX7_within) (mc := 0) (ms := 0) (A := [.int v, .int 0, .int 100]) (S := []) (L0 := [some (.int v), some (.int 0), some (.int 100)]) dX7_rule_74 rfl km_X7_within kk_X7_74 rfl ⟨rfl, by decide⟩ rfl (Nat.le_of_ble_eq_true rfl) (Nat.zero_add _) (Nat.zero_add _) rfl ?_
        refine c_X7_within (fun hw4 => ?_) (fun hw4 => ?_)
        · refine aw_re (S' := [.int 1]) rfl ?_
          refine aw_if_eq (npc := 80) (tgt := 98) dX7_rule_77 rfl (by decide) (fun hc => absurd hc (by decide)) (fun _ => ?_)
          refine aw_aload_n (npc := 81) rfl dX7_rule_80 rfl ?_
          refine aw_get (npc := 84) dX7_rule_81 rfl kf_X7_10 O.1 rfl ?_
          refine aw_get (npc := 87) dX7_rule_84 rfl kf_X7_145 F.1 rfl ?_
          refine aw_istore_n (npc := 88) (L' := [some (.ref 0), some (.int 2), some (.int v), some (.int (N 5))]) dX7_rule_87 rfl (by decide) rfl rfl ?_
          refine aw_aload_n (npc := 89) rfl dX7_rule_88 rfl ?_
          refine aw_get (npc := 92) dX7_rule_89 rfl kf_X7_10 O.1 rfl ?_
          refine aw_iload_n (npc := 93) rfl dX7_rule_92 rfl ?_
          refine aw_put (npc := 96) dX7_rule_93 rfl kf_X7_145 F.1 (Nat.le_of_ble_eq_true rfl) (am_ok_int _) rfl ?_
          have F5 := qr_loss (v := v) F
          have O6 := ob_out (a := 1) (c := .inr (0, (QO 1 N).set 5 (.int v))) (by omega) O
          refine aw_iload_n (npc := 97) rfl dX7_rule_96 rfl ?_
          refine aw_iret rfl dX7_rule_97 ?_
          exact hq _ _ _ (by simp [ruV, ruN, cI, hc1, hc2, hw4]) (by simp [ruV, ruN, cI, hc1, hc2, hw4]) F5 (am_fpU (show ¬ (1 < 1 ∨ 13 ≤ 1) by omega) am_fp0)
        · refine aw_re (S' := [.int 0]) rfl ?_
          refine aw_if_eq (npc := 80) (tgt := 98) dX7_rule_77 rfl (by decide) (fun _ => ?_) (fun hc => absurd (by decide) hc)
          refine aw_ldc (npc := 100) kc_X7_78 dX7_rule_98 rfl ?_
          refine aw_iret rfl dX7_rule_100 ?_
          exact hq _ _ _ (by simp [ruV, ruN, cI, hc1, hc2, hw4]) (by simp [ruV, ruN, cI, hc1, hc2, hw4]) F am_fp0
    · subst hc2
      refine aw_iload_n (npc := 38) rfl dX7_rule_37 rfl ?_
      refine aw_iconst (npc := 39) (v := 1) (by decide) dX7_rule_38 rfl ?_
      refine aw_bipush (npc := 41) (v := 99) (by decide) dX7_rule_39 rfl ?_
      refine aw_callS (npc := 44) (N := mX7_within) (mc := 0) (ms := 0) (A := [.int v, .int 1, .int 99]) (S := []) (L0 := [some (.int v), some (.int 1), some (.int 99)]) dX7_rule_41 rfl km_X7_within kk_X7_74 rfl ⟨rfl, by decide⟩ rfl (Nat.le_of_ble_eq_true rfl) (Nat.zero_add _) (Nat.zero_add _) rfl ?_
      refine c_X7_within (fun hw7 => ?_) (fun hw7 => ?_)
      · refine aw_re (S' := [.int 1]) rfl ?_
        refine aw_if_eq (npc := 47) (tgt := 65) dX7_rule_44 rfl (by decide) (fun hc => absurd hc (by decide)) (fun _ => ?_)
        refine aw_aload_n (npc := 48) rfl dX7_rule_47 rfl ?_
        refine aw_get (npc := 51) dX7_rule_48 rfl kf_X7_10 O.1 rfl ?_
        refine aw_get (npc := 54) dX7_rule_51 rfl kf_X7_142 F.1 rfl ?_
        refine aw_istore_n (npc := 55) (L' := [some (.ref 0), some (.int 1), some (.int v), some (.int (N 4))]) dX7_rule_54 rfl (by decide) rfl rfl ?_
        refine aw_aload_n (npc := 56) rfl dX7_rule_55 rfl ?_
        refine aw_get (npc := 59) dX7_rule_56 rfl kf_X7_10 O.1 rfl ?_
        refine aw_iload_n (npc := 60) rfl dX7_rule_59 rfl ?_
        refine aw_put (npc := 63) dX7_rule_60 rfl kf_X7_142 F.1 (Nat.le_of_ble_eq_true rfl) (am_ok_int _) rfl ?_
        have F8 := qr_duel (v := v) F
        have O9 := ob_out (a := 1) (c := .inr (0, (QO 1 N).set 4 (.int v))) (by omega) O
        refine aw_iload_n (npc := 64) rfl dX7_rule_63 rfl ?_
        refine aw_iret rfl dX7_rule_64 ?_
        exact hq _ _ _ (by simp [ruV, ruN, cI, hc1, hw7]) (by simp [ruV, ruN, cI, hc1, hw7]) F8 (am_fpU (show ¬ (1 < 1 ∨ 13 ≤ 1) by omega) am_fp0)
      · refine aw_re (S' := [.int 0]) rfl ?_
        refine aw_if_eq (npc := 47) (tgt := 65) dX7_rule_44 rfl (by decide) (fun _ => ?_) (fun hc => absurd (by decide) hc)
        refine aw_iload_n (npc := 66) rfl dX7_rule_65 rfl ?_
        refine aw_iconst (npc := 67) (v := 2) (by decide) dX7_rule_66 rfl ?_
        refine aw_icmp_ne (npc := 70) (tgt := 98) dX7_rule_67 rfl (by decide) (fun _ => ?_) (fun hc => absurd hc (by decide))
        refine aw_ldc (npc := 100) kc_X7_78 dX7_rule_98 rfl ?_
        refine aw_iret rfl dX7_rule_100 ?_
        exact hq _ _ _ (by simp [ruV, ruN, cI, hc1, hw7]) (by simp [ruV, ruN, cI, hc1, hw7]) F am_fp0
  · subst hc1
    refine aw_iload_n (npc := 5) rfl dX7_rule_4 rfl ?_
    refine aw_iconst (npc := 6) (v := 0) (by decide) dX7_rule_5 rfl ?_
    refine aw_bipush (npc := 8) (v := 99) (by decide) dX7_rule_6 rfl ?_
    refine aw_callS (npc := 11) (N := mX7_within) (mc := 0) (ms := 0) (A := [.int v, .int 0, .int 99]) (S := []) (L0 := [some (.int v), some (.int 0), some (.int 99)]) dX7_rule_8 rfl km_X7_within kk_X7_74 rfl ⟨rfl, by decide⟩ rfl (Nat.le_of_ble_eq_true rfl) (Nat.zero_add _) (Nat.zero_add _) rfl ?_
    refine c_X7_within (fun hw10 => ?_) (fun hw10 => ?_)
    · refine aw_re (S' := [.int 1]) rfl ?_
      refine aw_if_eq (npc := 14) (tgt := 32) dX7_rule_11 rfl (by decide) (fun hc => absurd hc (by decide)) (fun _ => ?_)
      refine aw_aload_n (npc := 15) rfl dX7_rule_14 rfl ?_
      refine aw_get (npc := 18) dX7_rule_15 rfl kf_X7_10 O.1 rfl ?_
      refine aw_get (npc := 21) dX7_rule_18 rfl kf_X7_139 F.1 rfl ?_
      refine aw_istore_n (npc := 22) (L' := [some (.ref 0), some (.int 0), some (.int v), some (.int (N 3))]) dX7_rule_21 rfl (by decide) rfl rfl ?_
      refine aw_aload_n (npc := 23) rfl dX7_rule_22 rfl ?_
      refine aw_get (npc := 26) dX7_rule_23 rfl kf_X7_10 O.1 rfl ?_
      refine aw_iload_n (npc := 27) rfl dX7_rule_26 rfl ?_
      refine aw_put (npc := 30) dX7_rule_27 rfl kf_X7_139 F.1 (Nat.le_of_ble_eq_true rfl) (am_ok_int _) rfl ?_
      have F11 := qr_heat (v := v) F
      have O12 := ob_out (a := 1) (c := .inr (0, (QO 1 N).set 3 (.int v))) (by omega) O
      refine aw_iload_n (npc := 31) rfl dX7_rule_30 rfl ?_
      refine aw_iret rfl dX7_rule_31 ?_
      exact hq _ _ _ (by simp [ruV, ruN, cI, hw10]) (by simp [ruV, ruN, cI, hw10]) F11 (am_fpU (show ¬ (1 < 1 ∨ 13 ≤ 1) by omega) am_fp0)
    · refine aw_re (S' := [.int 0]) rfl ?_
      refine aw_if_eq (npc := 14) (tgt := 32) dX7_rule_11 rfl (by decide) (fun _ => ?_) (fun hc => absurd (by decide) hc)
      refine aw_iload_n (npc := 33) rfl dX7_rule_32 rfl ?_
      refine aw_iconst (npc := 34) (v := 1) (by decide) dX7_rule_33 rfl ?_
      refine aw_icmp_ne (npc := 37) (tgt := 65) dX7_rule_34 rfl (by decide) (fun _ => ?_) (fun hc => absurd hc (by decide))
      refine aw_iload_n (npc := 66) rfl dX7_rule_65 rfl ?_
      refine aw_iconst (npc := 67) (v := 2) (by decide) dX7_rule_66 rfl ?_
      refine aw_icmp_ne (npc := 70) (tgt := 98) dX7_rule_67 rfl (by decide) (fun _ => ?_) (fun hc => absurd hc (by decide))
      refine aw_ldc (npc := 100) kc_X7_78 dX7_rule_98 rfl ?_
      refine aw_iret rfl dX7_rule_100 ?_
      exact hq _ _ _ (by simp [ruV, ruN, cI, hw10]) (by simp [ruV, ruN, cI, hw10]) F am_fp0
set_option maxHeartbeats 4000000 in
set_option maxRecDepth 100000 in
theorem M_rule {X : List Int32} {d rc rs n : Nat} {Q : am_Q} {h : am_H} {o N : Nat → Int32} {a : Nat → Nat → Int32} {fr c : Nat} {w : Int32} {v : Int32} (F : MR o N a h) (hR : RG N fr c) (hq : ∀ v9 N9 h9, v9 = ruV N w v → N9 = ruN N w v → MR o N9 a h9 → am_fp (fun k => k < 69 ∨ 92 ≤ k) h9 h → Q (some (.int v9)) n h9) : AW X mX8_rule (d + 12) rc rs 0 [some (.ref 69), some (.int w), some (.int v)] [] n h Q := by
  have h8r := hR.2.1
  have h14r := hR.2.2.2.1
  refine aw_iload_n (npc := 1) rfl dX8_rule_0 rfl ?_
  refine aw_iconst (npc := 2) (v := 0) (by decide) dX8_rule_1 rfl ?_
  refine aw_iconst (npc := 3) (v := 2) (by decide) dX8_rule_2 rfl ?_
  refine aw_callS (npc := 6) (N := mX8_in) (mc := 0) (ms := 0) (A := [.int w, .int 0, .int 2]) (S := []) (L0 := [some (.int w), some (.int 0), some (.int 2)]) dX8_rule_3 rfl km_X8_in kk_X8_83 rfl ⟨rfl, by decide⟩ rfl (Nat.le_of_ble_eq_true rfl) (Nat.zero_add _) (Nat.zero_add _) rfl ?_
  refine c_X8_in (fun hw1 => ?_) (fun hw1 => ?_)
  · rcases wi_c0_2 hw1 with rfl | rfl | rfl
    · refine aw_re (S' := [.int 1]) rfl ?_
      refine aw_if_eq (npc := 9) (tgt := 49) dX8_rule_6 rfl (by decide) (fun hc => absurd hc (by decide)) (fun _ => ?_)
      refine aw_iload_n (npc := 10) rfl dX8_rule_9 rfl ?_
      refine aw_iload_n (npc := 11) rfl dX8_rule_10 rfl ?_
      refine aw_iconst (npc := 12) (v := 1) (by decide) dX8_rule_11 rfl ?_
      refine aw_icmp_ne (npc := 15) (tgt := 19) dX8_rule_12 rfl (by decide) (fun _ => ?_) (fun hc => absurd hc (by decide))
      refine aw_iconst (npc := 20) (v := 0) (by decide) dX8_rule_19 rfl ?_
      refine aw_iload_n (npc := 21) rfl dX8_rule_20 rfl ?_
      refine aw_iconst (npc := 22) (v := 2) (by decide) dX8_rule_21 rfl ?_
      refine aw_icmp_ne (npc := 25) (tgt := 30) dX8_rule_22 rfl (by decide) (fun _ => ?_) (fun hc => absurd hc (by decide))
      refine aw_bipush (npc := 32) (v := 99) (by decide) dX8_rule_30 rfl ?_
      refine aw_callS (npc := 35) (N := mX8_in) (mc := 0) (ms := 0) (A := [.int v, .int 0, .int 99]) (S := []) (L0 := [some (.int v), some (.int 0), some (.int 99)]) dX8_rule_32 rfl km_X8_in kk_X8_83 rfl ⟨rfl, by decide⟩ rfl (Nat.le_of_ble_eq_true rfl) (Nat.zero_add _) (Nat.zero_add _) rfl ?_
      refine c_X8_in (fun hw2 => ?_) (fun hw2 => ?_)
      · refine aw_re (S' := [.int 1]) rfl ?_
        refine aw_if_eq (npc := 38) (tgt := 49) dX8_rule_35 rfl (by decide) (fun hc => absurd hc (by decide)) (fun _ => ?_)
        refine aw_aload_n (npc := 39) rfl dX8_rule_38 rfl ?_
        refine aw_iconst (npc := 40) (v := 3) (by decide) dX8_rule_39 rfl ?_
        refine aw_iload_n (npc := 41) rfl dX8_rule_40 rfl ?_
        refine aw_iaddV (npc := 42) (v := 3) dX8_rule_41 rfl (by decide) ?_
        refine aw_iload_n (npc := 43) rfl dX8_rule_42 rfl ?_
        refine aw_callV (npc := 46) (N := mX8_becomes) (b := 69) (mc := 0) (ms := 0) (A := [.int 3, .int v]) (S := []) (L0 := [some (.ref 69), some (.int 3), some (.int v), none]) dX8_rule_43 rfl km_X8_becomes kk_X8_135 F.1 ⟨by decide, rfl⟩ rfl ⟨rfl, by decide⟩ rfl (Nat.le_of_ble_eq_true rfl) (Nat.zero_add _) (Nat.zero_add _) rfl ?_
        refine m_becomes (j := 3) (v := v) F (by omega) (fun hp5 F3 fb4 => ?_)
        refine aw_re (S' := [.int (N 3)]) rfl ?_
        refine aw_goto (npc := 51) dX8_rule_46 (by decide) ?_
        refine aw_iret rfl dX8_rule_51 ?_
        exact hq _ _ _ (by simp [ruV, ruN, cI, hw2]) (by simp [ruV, ruN, cI, hw2]) F3 (am_fpT (fun k (hk : k < 69 ∨ 92 ≤ k) => fb4 k (by omega)) am_fp0)
      · refine aw_re (S' := [.int 0]) rfl ?_
        refine aw_if_eq (npc := 38) (tgt := 49) dX8_rule_35 rfl (by decide) (fun _ => ?_) (fun hc => absurd (by decide) hc)
        refine aw_ldc (npc := 51) kc_X8_91 dX8_rule_49 rfl ?_
        refine aw_iret rfl dX8_rule_51 ?_
        exact hq _ _ _ (by simp [ruV, ruN, cI, hw2]) (by simp [ruV, ruN, cI, hw2]) F am_fp0
    · refine aw_re (S' := [.int 1]) rfl ?_
      refine aw_if_eq (npc := 9) (tgt := 49) dX8_rule_6 rfl (by decide) (fun hc => absurd hc (by decide)) (fun _ => ?_)
      refine aw_iload_n (npc := 10) rfl dX8_rule_9 rfl ?_
      refine aw_iload_n (npc := 11) rfl dX8_rule_10 rfl ?_
      refine aw_iconst (npc := 12) (v := 1) (by decide) dX8_rule_11 rfl ?_
      refine aw_icmp_ne (npc := 15) (tgt := 19) dX8_rule_12 rfl (by decide) (fun hc => absurd (by decide) hc) (fun _ => ?_)
      refine aw_iconst (npc := 16) (v := 1) (by decide) dX8_rule_15 rfl ?_
      refine aw_goto (npc := 20) dX8_rule_16 (by decide) ?_
      refine aw_iload_n (npc := 21) rfl dX8_rule_20 rfl ?_
      refine aw_iconst (npc := 22) (v := 2) (by decide) dX8_rule_21 rfl ?_
      refine aw_icmp_ne (npc := 25) (tgt := 30) dX8_rule_22 rfl (by decide) (fun _ => ?_) (fun hc => absurd hc (by decide))
      refine aw_bipush (npc := 32) (v := 99) (by decide) dX8_rule_30 rfl ?_
      refine aw_callS (npc := 35) (N := mX8_in) (mc := 0) (ms := 0) (A := [.int v, .int 1, .int 99]) (S := []) (L0 := [some (.int v), some (.int 1), some (.int 99)]) dX8_rule_32 rfl km_X8_in kk_X8_83 rfl ⟨rfl, by decide⟩ rfl (Nat.le_of_ble_eq_true rfl) (Nat.zero_add _) (Nat.zero_add _) rfl ?_
      refine c_X8_in (fun hw6 => ?_) (fun hw6 => ?_)
      · refine aw_re (S' := [.int 1]) rfl ?_
        refine aw_if_eq (npc := 38) (tgt := 49) dX8_rule_35 rfl (by decide) (fun hc => absurd hc (by decide)) (fun _ => ?_)
        refine aw_aload_n (npc := 39) rfl dX8_rule_38 rfl ?_
        refine aw_iconst (npc := 40) (v := 3) (by decide) dX8_rule_39 rfl ?_
        refine aw_iload_n (npc := 41) rfl dX8_rule_40 rfl ?_
        refine aw_iaddV (npc := 42) (v := 4) dX8_rule_41 rfl (by decide) ?_
        refine aw_iload_n (npc := 43) rfl dX8_rule_42 rfl ?_
        refine aw_callV (npc := 46) (N := mX8_becomes) (b := 69) (mc := 0) (ms := 0) (A := [.int 4, .int v]) (S := []) (L0 := [some (.ref 69), some (.int 4), some (.int v), none]) dX8_rule_43 rfl km_X8_becomes kk_X8_135 F.1 ⟨by decide, rfl⟩ rfl ⟨rfl, by decide⟩ rfl (Nat.le_of_ble_eq_true rfl) (Nat.zero_add _) (Nat.zero_add _) rfl ?_
        refine m_becomes (j := 4) (v := v) F (by omega) (fun hp9 F7 fb8 => ?_)
        refine aw_re (S' := [.int (N 4)]) rfl ?_
        refine aw_goto (npc := 51) dX8_rule_46 (by decide) ?_
        refine aw_iret rfl dX8_rule_51 ?_
        exact hq _ _ _ (by simp [ruV, ruN, cI, hw6]) (by simp [ruV, ruN, cI, hw6]) F7 (am_fpT (fun k (hk : k < 69 ∨ 92 ≤ k) => fb8 k (by omega)) am_fp0)
      · refine aw_re (S' := [.int 0]) rfl ?_
        refine aw_if_eq (npc := 38) (tgt := 49) dX8_rule_35 rfl (by decide) (fun _ => ?_) (fun hc => absurd (by decide) hc)
        refine aw_ldc (npc := 51) kc_X8_91 dX8_rule_49 rfl ?_
        refine aw_iret rfl dX8_rule_51 ?_
        exact hq _ _ _ (by simp [ruV, ruN, cI, hw6]) (by simp [ruV, ruN, cI, hw6]) F am_fp0
    · refine aw_re (S' := [.int 1]) rfl ?_
      refine aw_if_eq (npc := 9) (tgt := 49) dX8_rule_6 rfl (by decide) (fun hc => absurd hc (by decide)) (fun _ => ?_)
      refine aw_iload_n (npc := 10) rfl dX8_rule_9 rfl ?_
      refine aw_iload_n (npc := 11) rfl dX8_rule_10 rfl ?_
      refine aw_iconst (npc := 12) (v := 1) (by decide) dX8_rule_11 rfl ?_
      refine aw_icmp_ne (npc := 15) (tgt := 19) dX8_rule_12 rfl (by decide) (fun _ => ?_) (fun hc => absurd hc (by decide))
      refine aw_iconst (npc := 20) (v := 0) (by decide) dX8_rule_19 rfl ?_
      refine aw_iload_n (npc := 21) rfl dX8_rule_20 rfl ?_
      refine aw_iconst (npc := 22) (v := 2) (by decide) dX8_rule_21 rfl ?_
      refine aw_icmp_ne (npc := 25) (tgt := 30) dX8_rule_22 rfl (by decide) (fun hc => absurd (by decide) hc) (fun _ => ?_)
      refine aw_bipush (npc := 27) (v := 100) (by decide) dX8_rule_25 rfl ?_
      refine aw_goto (npc := 32) dX8_rule_27 (by decide) ?_
      refine aw_callS (npc := 35) (N := mX8_in) (mc := 0) (ms := 0) (A := [.int v, .int 0, .int 100]) (S := []) (L0 := [some (.int v), some (.int 0), some (.int 100)]) dX8_rule_32 rfl km_X8_in kk_X8_83 rfl ⟨rfl, by decide⟩ rfl (Nat.le_of_ble_eq_true rfl) (Nat.zero_add _) (Nat.zero_add _) rfl ?_
      refine c_X8_in (fun hw10 => ?_) (fun hw10 => ?_)
      · refine aw_re (S' := [.int 1]) rfl ?_
        refine aw_if_eq (npc := 38) (tgt := 49) dX8_rule_35 rfl (by decide) (fun hc => absurd hc (by decide)) (fun _ => ?_)
        refine aw_aload_n (npc := 39) rfl dX8_rule_38 rfl ?_
        refine aw_iconst (npc := 40) (v := 3) (by decide) dX8_rule_39 rfl ?_
        refine aw_iload_n (npc := 41) rfl dX8_rule_40 rfl ?_
        refine aw_iaddV (npc := 42) (v := 5) dX8_rule_41 rfl (by decide) ?_
        refine aw_iload_n (npc := 43) rfl dX8_rule_42 rfl ?_
        refine aw_callV (npc := 46) (N := mX8_becomes) (b := 69) (mc := 0) (ms := 0) (A := [.int 5, .int v]) (S := []) (L0 := [some (.ref 69), some (.int 5), some (.int v), none]) dX8_rule_43 rfl km_X8_becomes kk_X8_135 F.1 ⟨by decide, rfl⟩ rfl ⟨rfl, by decide⟩ rfl (Nat.le_of_ble_eq_true rfl) (Nat.zero_add _) (Nat.zero_add _) rfl ?_
        refine m_becomes (j := 5) (v := v) F (by omega) (fun hp13 F11 fb12 => ?_)
        refine aw_re (S' := [.int (N 5)]) rfl ?_
        refine aw_goto (npc := 51) dX8_rule_46 (by decide) ?_
        refine aw_iret rfl dX8_rule_51 ?_
        exact hq _ _ _ (by simp [ruV, ruN, cI, hw10]) (by simp [ruV, ruN, cI, hw10]) F11 (am_fpT (fun k (hk : k < 69 ∨ 92 ≤ k) => fb12 k (by omega)) am_fp0)
      · refine aw_re (S' := [.int 0]) rfl ?_
        refine aw_if_eq (npc := 38) (tgt := 49) dX8_rule_35 rfl (by decide) (fun _ => ?_) (fun hc => absurd (by decide) hc)
        refine aw_ldc (npc := 51) kc_X8_91 dX8_rule_49 rfl ?_
        refine aw_iret rfl dX8_rule_51 ?_
        exact hq _ _ _ (by simp [ruV, ruN, cI, hw10]) (by simp [ruV, ruN, cI, hw10]) F am_fp0
  · refine aw_re (S' := [.int 0]) rfl ?_
    refine aw_if_eq (npc := 9) (tgt := 49) dX8_rule_6 rfl (by decide) (fun _ => ?_) (fun hc => absurd (by decide) hc)
    refine aw_ldc (npc := 51) kc_X8_91 dX8_rule_49 rfl ?_
    refine aw_iret rfl dX8_rule_51 ?_
    exact hq _ _ _ (by simp [ruV, ruN, cI, hw1, nwi_1 hw1 (k := 0) ⟨by decide, by decide⟩, nwi_1 hw1 (k := 1) ⟨by decide, by decide⟩, nwi_1 hw1 (k := 2) ⟨by decide, by decide⟩]) (by simp [ruV, ruN, cI, hw1, nwi_1 hw1 (k := 0) ⟨by decide, by decide⟩, nwi_1 hw1 (k := 1) ⟨by decide, by decide⟩, nwi_1 hw1 (k := 2) ⟨by decide, by decide⟩]) F am_fp0
set_option maxHeartbeats 4000000 in
set_option maxRecDepth 100000 in
theorem C_seed {X : List Int32} {d rc rs n : Nat} {Q : am_Q} {h : am_H} {N : Nat → Int32} {tx : List Value} {lk mv : Nat → Int32} {ik wc : Int32} {fr c : Nat} {v : Int32} (O : OB ik wc h) (F : QR 1 N tx lk mv h) (hR : RG N fr c) (hq : ∀ v9 N9 h9, v9 = N 0 → N9 = upd N 0 v → QR 1 N9 tx lk mv h9 → am_fp (fun k => k < 1 ∨ 13 ≤ k) h9 h → Q (some (.int v9)) n h9) : AW X mX7_seed (d + 12) rc rs 0 [some (.ref 0), some (.int v), none] [] n h Q := by
  have h8r := hR.2.1
  have h14r := hR.2.2.2.1
  refine aw_aload_n (npc := 1) rfl dX7_seed_0 rfl ?_
  refine aw_get (npc := 4) dX7_seed_1 rfl kf_X7_10 O.1 rfl ?_
  refine aw_get (npc := 7) dX7_seed_4 rfl kf_X7_157 F.1 rfl ?_
  refine aw_istore_n (npc := 8) (L' := [some (.ref 0), some (.int v), some (.int (N 0))]) dX7_seed_7 rfl (by decide) rfl rfl ?_
  refine aw_aload_n (npc := 9) rfl dX7_seed_8 rfl ?_
  refine aw_get (npc := 12) dX7_seed_9 rfl kf_X7_10 O.1 rfl ?_
  refine aw_iload_n (npc := 13) rfl dX7_seed_12 rfl ?_
  refine aw_put (npc := 16) dX7_seed_13 rfl kf_X7_157 F.1 (Nat.le_of_ble_eq_true rfl) (am_ok_int _) rfl ?_
  have F1 := qr_z (v := v) F
  have O2 := ob_out (a := 1) (c := .inr (0, (QO 1 N).set 8 (.int v))) (by omega) O
  refine aw_iload_n (npc := 17) rfl dX7_seed_16 rfl ?_
  refine aw_iret rfl dX7_seed_17 ?_
  exact hq _ _ _ (by simp [cI]) (by simp [cI]) F1 (am_fpU (show ¬ (1 < 1 ∨ 13 ≤ 1) by omega) am_fp0)
set_option maxHeartbeats 4000000 in
set_option maxRecDepth 100000 in
theorem M_seed {X : List Int32} {d rc rs n : Nat} {Q : am_Q} {h : am_H} {o N : Nat → Int32} {a : Nat → Nat → Int32} {fr c : Nat} {v : Int32} (F : MR o N a h) (hR : RG N fr c) (hq : ∀ v9 N9 h9, v9 = N 0 → N9 = upd N 0 v → MR o N9 a h9 → am_fp (fun k => k < 69 ∨ 92 ≤ k) h9 h → Q (some (.int v9)) n h9) : AW X mX8_seed (d + 12) rc rs 0 [some (.ref 69), some (.int v)] [] n h Q := by
  have h8r := hR.2.1
  have h14r := hR.2.2.2.1
  refine aw_aload_n (npc := 1) rfl dX8_seed_0 rfl ?_
  refine aw_iconst (npc := 2) (v := 0) (by decide) dX8_seed_1 rfl ?_
  refine aw_iload_n (npc := 3) rfl dX8_seed_2 rfl ?_
  refine aw_callV (npc := 6) (N := mX8_becomes) (b := 69) (mc := 0) (ms := 0) (A := [.int 0, .int v]) (S := []) (L0 := [some (.ref 69), some (.int 0), some (.int v), none]) dX8_seed_3 rfl km_X8_becomes kk_X8_135 F.1 ⟨by decide, rfl⟩ rfl ⟨rfl, by decide⟩ rfl (Nat.le_of_ble_eq_true rfl) (Nat.zero_add _) (Nat.zero_add _) rfl ?_
  refine m_becomes (j := 0) (v := v) F (by omega) (fun hp3 F1 fb2 => ?_)
  refine aw_re (S' := [.int (N 0)]) rfl ?_
  refine aw_iret rfl dX8_seed_6 ?_
  exact hq _ _ _ (by simp [cI]) (by simp [cI]) F1 (am_fpT (fun k (hk : k < 69 ∨ 92 ≤ k) => fb2 k (by omega)) am_fp0)
def wort (k p : Int32) : Int32 := if k = 1 then p + 4 else if k = 2 then 99 - p else if k = 3 then 2 * (p + 4) else if k = 4 then 99 - p - 9 else if k = 5 then 7 else p
def orN (v : Int32) : Int32 := if v < 0 then (-1000000005) else v
theorem w90 (p : Int32) : 99 - p - 9 = 90 - p := by
  rw [Int32.sub_sub, Int32.add_comm, ← Int32.sub_sub]; rfl
set_option maxHeartbeats 4000000 in
set_option maxRecDepth 100000 in
theorem c_X7_worthOf {X : List Int32} {d rc rs n : Nat} {Q : am_Q} {h : am_H} {k : Int32} {p : Int32} (hq : Q (some (.int (wort k p))) n h) : AW X mX7_worthOf (d + 0) rc rs 0 [some (.int k), some (.int p)] [] n h Q := by
  refine aw_iload_n (npc := 1) rfl dX7_worthOf_0 rfl ?_
  rcases sw_1_5 k with rfl | rfl | rfl | rfl | rfl | hs1
  · refine aw_tableIn (npc := 36) dX7_worthOf_1 (by decide) (by decide) rfl (by decide) ?_
    refine aw_iload_n (npc := 37) rfl dX7_worthOf_36 rfl ?_
    refine aw_iconst (npc := 38) (v := 4) (by decide) dX7_worthOf_37 rfl ?_
    refine aw_iadd (npc := 39) dX7_worthOf_38 rfl ?_
    refine aw_iret rfl dX7_worthOf_39 ?_
    exact (show wort 1 p = (p + 4) by simp [wort, orN, cI]) ▸ hq
  · refine aw_tableIn (npc := 46) dX7_worthOf_1 (by decide) (by decide) rfl (by decide) ?_
    refine aw_bipush (npc := 48) (v := 99) (by decide) dX7_worthOf_46 rfl ?_
    refine aw_iload_n (npc := 49) rfl dX7_worthOf_48 rfl ?_
    refine aw_isub (npc := 50) dX7_worthOf_49 rfl ?_
    refine aw_iret rfl dX7_worthOf_50 ?_
    exact (show wort 2 p = (99 - p) by simp [wort, orN, cI]) ▸ hq
  · refine aw_tableIn (npc := 40) dX7_worthOf_1 (by decide) (by decide) rfl (by decide) ?_
    refine aw_iconst (npc := 41) (v := 2) (by decide) dX7_worthOf_40 rfl ?_
    refine aw_iload_n (npc := 42) rfl dX7_worthOf_41 rfl ?_
    refine aw_iconst (npc := 43) (v := 4) (by decide) dX7_worthOf_42 rfl ?_
    refine aw_iadd (npc := 44) dX7_worthOf_43 rfl ?_
    refine aw_imul (npc := 45) dX7_worthOf_44 rfl ?_
    refine aw_iret rfl dX7_worthOf_45 ?_
    exact (show wort 3 p = (2 * (p + 4)) by simp [wort, orN, cI]) ▸ hq
  · refine aw_tableIn (npc := 51) dX7_worthOf_1 (by decide) (by decide) rfl (by decide) ?_
    refine aw_bipush (npc := 53) (v := 99) (by decide) dX7_worthOf_51 rfl ?_
    refine aw_iload_n (npc := 54) rfl dX7_worthOf_53 rfl ?_
    refine aw_isub (npc := 55) dX7_worthOf_54 rfl ?_
    refine aw_bipush (npc := 57) (v := 9) (by decide) dX7_worthOf_55 rfl ?_
    refine aw_isub (npc := 58) dX7_worthOf_57 rfl ?_
    refine aw_iret rfl dX7_worthOf_58 ?_
    exact (show wort 4 p = ((99 - p) - 9) by simp [wort, orN, cI]) ▸ hq
  · refine aw_tableIn (npc := 59) dX7_worthOf_1 (by decide) (by decide) rfl (by decide) ?_
    refine aw_bipush (npc := 61) (v := 7) (by decide) dX7_worthOf_59 rfl ?_
    refine aw_iret rfl dX7_worthOf_61 ?_
    exact (show wort 5 p = 7 by simp [wort, orN, cI]) ▸ hq
  · refine aw_tableOut (npc := 62) dX7_worthOf_1 hs1.1 (by decide) ?_
    refine aw_iload_n (npc := 63) rfl dX7_worthOf_62 rfl ?_
    refine aw_iret rfl dX7_worthOf_63 ?_
    exact (show wort k p = p by simp [wort, orN, cI, hs1.2.1, hs1.2.2.1, hs1.2.2.2.1, hs1.2.2.2.2.1, hs1.2.2.2.2.2]) ▸ hq
set_option maxHeartbeats 4000000 in
set_option maxRecDepth 100000 in
theorem c_X7_orNone {X : List Int32} {d rc rs n : Nat} {Q : am_Q} {h : am_H} {v : Int32} (hq : Q (some (.int (orN v))) n h) : AW X mX7_orNone (d + 0) rc rs 0 [some (.int v)] [] n h Q := by
  refine aw_iload_n (npc := 1) rfl dX7_orNone_0 rfl ?_
  refine aw_if_ge (npc := 4) (tgt := 9) dX7_orNone_1 rfl (by decide) (fun hc1 => ?_) (fun hc1 => ?_)
  · refine aw_iload_n (npc := 10) rfl dX7_orNone_9 rfl ?_
    refine aw_iret rfl dX7_orNone_10 ?_
    exact (show orN v = v by simp [orN, Int32.not_lt.mpr hc1]) ▸ hq
  · refine aw_ldc (npc := 6) kc_X7_200 dX7_orNone_4 rfl ?_
    refine aw_goto (npc := 10) dX7_orNone_6 (by decide) ?_
    refine aw_iret rfl dX7_orNone_10 ?_
    exact (show orN v = (-1000000005) by simp [orN, Int32.not_le.mp hc1]) ▸ hq
set_option maxHeartbeats 4000000 in
set_option maxRecDepth 100000 in
theorem c_X8_told0 {X : List Int32} {d rc rs n : Nat} {Q : am_Q} {h : am_H} {v : Int32} (hq : Q (some (.int (orN v))) n h) : AW X mX8_told0 (d + 0) rc rs 0 [some (.int v)] [] n h Q := by
  refine aw_iload_n (npc := 1) rfl dX8_told0_0 rfl ?_
  refine aw_if_ge (npc := 4) (tgt := 9) dX8_told0_1 rfl (by decide) (fun hc1 => ?_) (fun hc1 => ?_)
  · refine aw_iload_n (npc := 10) rfl dX8_told0_9 rfl ?_
    refine aw_iret rfl dX8_told0_10 ?_
    exact (show orN v = v by simp [orN, Int32.not_lt.mpr hc1]) ▸ hq
  · refine aw_ldc (npc := 6) kc_X8_82 dX8_told0_4 rfl ?_
    refine aw_goto (npc := 10) dX8_told0_6 (by decide) ?_
    refine aw_iret rfl dX8_told0_10 ?_
    exact (show orN v = (-1000000005) by simp [orN, Int32.not_le.mp hc1]) ▸ hq
set_option maxHeartbeats 4000000 in
set_option maxRecDepth 100000 in
theorem m_worthOf {X : List Int32} {d rc rs n : Nat} {Q : am_Q} {h : am_H} {o N : Nat → Int32} {a : Nat → Nat → Int32} {f : Nat} (F : MR o N a h) (hf : f < 8) (hk : wi (N (22 + 5 * f)) 0 5) (hq : Q (some (.int (wort (N (22 + 5 * f)) (N (24 + 5 * f))))) n h) : AW X mX8_worthOf (d + 2) rc rs 0 [some (.ref 69), some (.int (nI f)), none] [] n h Q := by
  refine aw_aload_n (npc := 1) rfl dX8_worthOf_0 rfl ?_
  refine aw_iload_n (npc := 2) rfl dX8_worthOf_1 rfl ?_
  refine aw_iconst (npc := 3) (v := 2) (by decide) dX8_worthOf_2 rfl ?_
  refine aw_callV (npc := 6) (N := mX8_of) (b := 69) (mc := 0) (ms := 0) (A := [.int (nI f), .int 2]) (S := []) (L0 := [some (.ref 69), some (.int (nI f)), some (.int 2)]) dX8_worthOf_3 rfl km_X8_of kk_X8_101 F.1 ⟨by decide, rfl⟩ rfl ⟨rfl, by decide⟩ rfl (Nat.le_of_ble_eq_true rfl) (Nat.zero_add _) (Nat.zero_add _) rfl ?_
  refine m_of2 (f := f) F (by omega) ?_
  refine aw_re (S' := [.int (N (24 + 5 * f))]) rfl ?_
  refine aw_istore_n (npc := 7) (L' := [some (.ref 69), some (.int (nI f)), some (.int (N (24 + 5 * f)))]) dX8_worthOf_6 rfl (by decide) rfl rfl ?_
  refine aw_aload_n (npc := 8) rfl dX8_worthOf_7 rfl ?_
  refine aw_iload_n (npc := 9) rfl dX8_worthOf_8 rfl ?_
  refine aw_iconst (npc := 10) (v := 0) (by decide) dX8_worthOf_9 rfl ?_
  refine aw_callV (npc := 13) (N := mX8_of) (b := 69) (mc := 0) (ms := 0) (A := [.int (nI f), .int 0]) (S := []) (L0 := [some (.ref 69), some (.int (nI f)), some (.int 0)]) dX8_worthOf_10 rfl km_X8_of kk_X8_101 F.1 ⟨by decide, rfl⟩ rfl ⟨rfl, by decide⟩ rfl (Nat.le_of_ble_eq_true rfl) (Nat.zero_add _) (Nat.zero_add _) rfl ?_
  refine m_of0 (f := f) F (by omega) ?_
  refine aw_re (S' := [.int (N (22 + 5 * f))]) rfl ?_
  rcases wi_c0_5 hk with ek | ek | ek | ek | ek | ek
  · refine aw_top (y := 0) ek ?_
    refine aw_tableOut (npc := 71) dX8_worthOf_13 (by decide) (by decide) ?_
    refine aw_iload_n (npc := 72) rfl dX8_worthOf_71 rfl ?_
    refine aw_iret rfl dX8_worthOf_72 ?_
    exact (show wort (N (22 + 5 * f)) (N (24 + 5 * f)) = (N (24 + 5 * f)) by rw [ek]; simp [wort, w90]) ▸ hq
  · refine aw_top (y := 1) ek ?_
    refine aw_tableIn (npc := 48) dX8_worthOf_13 (by decide) (by decide) rfl (by decide) ?_
    refine aw_iload_n (npc := 49) rfl dX8_worthOf_48 rfl ?_
    refine aw_iconst (npc := 50) (v := 4) (by decide) dX8_worthOf_49 rfl ?_
    refine aw_iadd (npc := 51) dX8_worthOf_50 rfl ?_
    refine aw_iret rfl dX8_worthOf_51 ?_
    exact (show wort (N (22 + 5 * f)) (N (24 + 5 * f)) = ((N (24 + 5 * f)) + 4) by rw [ek]; simp [wort, w90]) ▸ hq
  · refine aw_top (y := 2) ek ?_
    refine aw_tableIn (npc := 52) dX8_worthOf_13 (by decide) (by decide) rfl (by decide) ?_
    refine aw_bipush (npc := 54) (v := 99) (by decide) dX8_worthOf_52 rfl ?_
    refine aw_iload_n (npc := 55) rfl dX8_worthOf_54 rfl ?_
    refine aw_isub (npc := 56) dX8_worthOf_55 rfl ?_
    refine aw_iret rfl dX8_worthOf_56 ?_
    exact (show wort (N (22 + 5 * f)) (N (24 + 5 * f)) = (99 - (N (24 + 5 * f))) by rw [ek]; simp [wort, w90]) ▸ hq
  · refine aw_top (y := 3) ek ?_
    refine aw_tableIn (npc := 57) dX8_worthOf_13 (by decide) (by decide) rfl (by decide) ?_
    refine aw_iconst (npc := 58) (v := 2) (by decide) dX8_worthOf_57 rfl ?_
    refine aw_iload_n (npc := 59) rfl dX8_worthOf_58 rfl ?_
    refine aw_iconst (npc := 60) (v := 4) (by decide) dX8_worthOf_59 rfl ?_
    refine aw_iadd (npc := 61) dX8_worthOf_60 rfl ?_
    refine aw_imul (npc := 62) dX8_worthOf_61 rfl ?_
    refine aw_iret rfl dX8_worthOf_62 ?_
    exact (show wort (N (22 + 5 * f)) (N (24 + 5 * f)) = (2 * ((N (24 + 5 * f)) + 4)) by rw [ek]; simp [wort, w90]) ▸ hq
  · refine aw_top (y := 4) ek ?_
    refine aw_tableIn (npc := 63) dX8_worthOf_13 (by decide) (by decide) rfl (by decide) ?_
    refine aw_bipush (npc := 65) (v := 90) (by decide) dX8_worthOf_63 rfl ?_
    refine aw_iload_n (npc := 66) rfl dX8_worthOf_65 rfl ?_
    refine aw_isub (npc := 67) dX8_worthOf_66 rfl ?_
    refine aw_iret rfl dX8_worthOf_67 ?_
    exact (show wort (N (22 + 5 * f)) (N (24 + 5 * f)) = (90 - (N (24 + 5 * f))) by rw [ek]; simp [wort, w90]) ▸ hq
  · refine aw_top (y := 5) ek ?_
    refine aw_tableIn (npc := 68) dX8_worthOf_13 (by decide) (by decide) rfl (by decide) ?_
    refine aw_bipush (npc := 70) (v := 7) (by decide) dX8_worthOf_68 rfl ?_
    refine aw_iret rfl dX8_worthOf_70 ?_
    exact (show wort (N (22 + 5 * f)) (N (24 + 5 * f)) = 7 by rw [ek]; simp [wort, w90]) ▸ hq
def coV (N : Nat → Int32) (tn wc w : Int32) : Int32 := if w = 0 then N 1 else if w = 1 then N 2 else if w = 2 then N 3 else if w = 3 then N 4 else if w = 4 then N 5 else if w = 5 then N 7 else if w = 6 then wc else if w = 7 then tn else if w = 8 then N 0 else (-1000000001)
set_option maxHeartbeats 4000000 in
set_option maxRecDepth 100000 in
theorem C_count {X : List Int32} {d rc rs n : Nat} {Q : am_Q} {h : am_H} {N : Nat → Int32} {tx : List Value} {lk mv : Nat → Int32} {ik wc : Int32} {fr c : Nat} {w : Int32} {r tp cd : Nat → Int32} {tn : Int32} (O : OB ik wc h) (F : QR 1 N tx lk mv h) (Rd : RD r tn tp cd h) (hq : Q (some (.int (coV N tn wc w))) n h) : AW X mX7_count (d + 12) rc rs 0 [some (.ref 0), some (.int w)] [] n h Q := by
  refine aw_iload_n (npc := 1) rfl dX7_count_0 rfl ?_
  rcases sw_0_8 w with rfl | rfl | rfl | rfl | rfl | rfl | rfl | rfl | rfl | hs1
  · refine aw_tableIn (npc := 52) dX7_count_1 (by decide) (by decide) rfl (by decide) ?_
    refine aw_aload_n (npc := 53) rfl dX7_count_52 rfl ?_
    refine aw_get (npc := 56) dX7_count_53 rfl kf_X7_10 O.1 rfl ?_
    refine aw_get (npc := 59) dX7_count_56 rfl kf_X7_79 F.1 rfl ?_
    refine aw_iret rfl dX7_count_59 ?_
    exact (show coV N tn wc 0 = (N 1) by simp [coV, cI]) ▸ hq
  · refine aw_tableIn (npc := 60) dX7_count_1 (by decide) (by decide) rfl (by decide) ?_
    refine aw_aload_n (npc := 61) rfl dX7_count_60 rfl ?_
    refine aw_get (npc := 64) dX7_count_61 rfl kf_X7_10 O.1 rfl ?_
    refine aw_get (npc := 67) dX7_count_64 rfl kf_X7_160 F.1 rfl ?_
    refine aw_iret rfl dX7_count_67 ?_
    exact (show coV N tn wc 1 = (N 2) by simp [coV, cI]) ▸ hq
  · refine aw_tableIn (npc := 68) dX7_count_1 (by decide) (by decide) rfl (by decide) ?_
    refine aw_aload_n (npc := 69) rfl dX7_count_68 rfl ?_
    refine aw_get (npc := 72) dX7_count_69 rfl kf_X7_10 O.1 rfl ?_
    refine aw_get (npc := 75) dX7_count_72 rfl kf_X7_139 F.1 rfl ?_
    refine aw_iret rfl dX7_count_75 ?_
    exact (show coV N tn wc 2 = (N 3) by simp [coV, cI]) ▸ hq
  · refine aw_tableIn (npc := 76) dX7_count_1 (by decide) (by decide) rfl (by decide) ?_
    refine aw_aload_n (npc := 77) rfl dX7_count_76 rfl ?_
    refine aw_get (npc := 80) dX7_count_77 rfl kf_X7_10 O.1 rfl ?_
    refine aw_get (npc := 83) dX7_count_80 rfl kf_X7_142 F.1 rfl ?_
    refine aw_iret rfl dX7_count_83 ?_
    exact (show coV N tn wc 3 = (N 4) by simp [coV, cI]) ▸ hq
  · refine aw_tableIn (npc := 84) dX7_count_1 (by decide) (by decide) rfl (by decide) ?_
    refine aw_aload_n (npc := 85) rfl dX7_count_84 rfl ?_
    refine aw_get (npc := 88) dX7_count_85 rfl kf_X7_10 O.1 rfl ?_
    refine aw_get (npc := 91) dX7_count_88 rfl kf_X7_145 F.1 rfl ?_
    refine aw_iret rfl dX7_count_91 ?_
    exact (show coV N tn wc 4 = (N 5) by simp [coV, cI]) ▸ hq
  · refine aw_tableIn (npc := 92) dX7_count_1 (by decide) (by decide) rfl (by decide) ?_
    refine aw_aload_n (npc := 93) rfl dX7_count_92 rfl ?_
    refine aw_get (npc := 96) dX7_count_93 rfl kf_X7_10 O.1 rfl ?_
    refine aw_get (npc := 99) dX7_count_96 rfl kf_X7_246 F.1 rfl ?_
    refine aw_iret rfl dX7_count_99 ?_
    exact (show coV N tn wc 5 = (N 7) by simp [coV, cI]) ▸ hq
  · refine aw_tableIn (npc := 100) dX7_count_1 (by decide) (by decide) rfl (by decide) ?_
    refine aw_aload_n (npc := 101) rfl dX7_count_100 rfl ?_
    refine aw_get (npc := 104) dX7_count_101 rfl kf_X7_61 O.1 rfl ?_
    refine aw_iret rfl dX7_count_104 ?_
    exact (show coV N tn wc 6 = wc by simp [coV, cI]) ▸ hq
  · refine aw_tableIn (npc := 105) dX7_count_1 (by decide) (by decide) rfl (by decide) ?_
    refine aw_aload_n (npc := 106) rfl dX7_count_105 rfl ?_
    refine aw_get (npc := 109) dX7_count_106 rfl kf_X7_44 O.1 rfl ?_
    refine aw_get (npc := 112) dX7_count_109 rfl kf_X7_234 Rd.2.1 rfl ?_
    refine aw_iret rfl dX7_count_112 ?_
    exact (show coV N tn wc 7 = tn by simp [coV, cI]) ▸ hq
  · refine aw_tableIn (npc := 113) dX7_count_1 (by decide) (by decide) rfl (by decide) ?_
    refine aw_aload_n (npc := 114) rfl dX7_count_113 rfl ?_
    refine aw_get (npc := 117) dX7_count_114 rfl kf_X7_10 O.1 rfl ?_
    refine aw_get (npc := 120) dX7_count_117 rfl kf_X7_157 F.1 rfl ?_
    refine aw_iret rfl dX7_count_120 ?_
    exact (show coV N tn wc 8 = (N 0) by simp [coV, cI]) ▸ hq
  · refine aw_tableOut (npc := 121) dX7_count_1 hs1.1 (by decide) ?_
    refine aw_ldc (npc := 123) kc_X7_78 dX7_count_121 rfl ?_
    refine aw_iret rfl dX7_count_123 ?_
    exact (show coV N tn wc w = (-1000000001) by simp [coV, cI, hs1.2.1, hs1.2.2.1, hs1.2.2.2.1, hs1.2.2.2.2.1, hs1.2.2.2.2.2.1, hs1.2.2.2.2.2.2.1, hs1.2.2.2.2.2.2.2.1, hs1.2.2.2.2.2.2.2.2.1, hs1.2.2.2.2.2.2.2.2.2]) ▸ hq
set_option maxHeartbeats 4000000 in
set_option maxRecDepth 100000 in
theorem M_count {X : List Int32} {d rc rs n : Nat} {Q : am_Q} {h : am_H} {o N : Nat → Int32} {a : Nat → Nat → Int32} {fr c : Nat} {w : Int32} (F : MR o N a h) (hq : Q (some (.int (coV N (o 9) (o 35) w))) n h) : AW X mX8_count (d + 12) rc rs 0 [some (.ref 69), some (.int w)] [] n h Q := by
  refine aw_iload_n (npc := 1) rfl dX8_count_0 rfl ?_
  rcases sw_0_8 w with rfl | rfl | rfl | rfl | rfl | rfl | rfl | rfl | rfl | hs1
  · refine aw_tableIn (npc := 52) dX8_count_1 (by decide) (by decide) rfl (by decide) ?_
    refine aw_aload_n (npc := 53) rfl dX8_count_52 rfl ?_
    refine aw_get (npc := 56) dX8_count_53 rfl kf_X8_9 F.1 rfl ?_
    refine aw_iconst (npc := 57) (v := 1) (by decide) dX8_count_56 rfl ?_
    refine aw_iald (npc := 58) (x := N 1) (j := 1) dX8_count_57 rfl F.2.1 ⟨by decide, by decide⟩ (tl_at (by omega)) ?_
    refine aw_iret rfl dX8_count_58 ?_
    exact (show coV N (o 9) (o 35) 0 = (N 1) by simp [coV, cI]) ▸ hq
  · refine aw_tableIn (npc := 59) dX8_count_1 (by decide) (by decide) rfl (by decide) ?_
    refine aw_aload_n (npc := 60) rfl dX8_count_59 rfl ?_
    refine aw_get (npc := 63) dX8_count_60 rfl kf_X8_9 F.1 rfl ?_
    refine aw_iconst (npc := 64) (v := 2) (by decide) dX8_count_63 rfl ?_
    refine aw_iald (npc := 65) (x := N 2) (j := 2) dX8_count_64 rfl F.2.1 ⟨by decide, by decide⟩ (tl_at (by omega)) ?_
    refine aw_iret rfl dX8_count_65 ?_
    exact (show coV N (o 9) (o 35) 1 = (N 2) by simp [coV, cI]) ▸ hq
  · refine aw_tableIn (npc := 66) dX8_count_1 (by decide) (by decide) rfl (by decide) ?_
    refine aw_aload_n (npc := 67) rfl dX8_count_66 rfl ?_
    refine aw_get (npc := 70) dX8_count_67 rfl kf_X8_9 F.1 rfl ?_
    refine aw_iconst (npc := 71) (v := 1) (by decide) dX8_count_70 rfl ?_
    refine aw_iload_n (npc := 72) rfl dX8_count_71 rfl ?_
    refine aw_iaddV (npc := 73) (v := 3) dX8_count_72 rfl (by decide) ?_
    refine aw_iald (npc := 74) (x := N 3) (j := 3) dX8_count_73 rfl F.2.1 ⟨by decide, by decide⟩ (tl_at (by omega)) ?_
    refine aw_iret rfl dX8_count_74 ?_
    exact (show coV N (o 9) (o 35) 2 = (N 3) by simp [coV, cI]) ▸ hq
  · refine aw_tableIn (npc := 66) dX8_count_1 (by decide) (by decide) rfl (by decide) ?_
    refine aw_aload_n (npc := 67) rfl dX8_count_66 rfl ?_
    refine aw_get (npc := 70) dX8_count_67 rfl kf_X8_9 F.1 rfl ?_
    refine aw_iconst (npc := 71) (v := 1) (by decide) dX8_count_70 rfl ?_
    refine aw_iload_n (npc := 72) rfl dX8_count_71 rfl ?_
    refine aw_iaddV (npc := 73) (v := 4) dX8_count_72 rfl (by decide) ?_
    refine aw_iald (npc := 74) (x := N 4) (j := 4) dX8_count_73 rfl F.2.1 ⟨by decide, by decide⟩ (tl_at (by omega)) ?_
    refine aw_iret rfl dX8_count_74 ?_
    exact (show coV N (o 9) (o 35) 3 = (N 4) by simp [coV, cI]) ▸ hq
  · refine aw_tableIn (npc := 66) dX8_count_1 (by decide) (by decide) rfl (by decide) ?_
    refine aw_aload_n (npc := 67) rfl dX8_count_66 rfl ?_
    refine aw_get (npc := 70) dX8_count_67 rfl kf_X8_9 F.1 rfl ?_
    refine aw_iconst (npc := 71) (v := 1) (by decide) dX8_count_70 rfl ?_
    refine aw_iload_n (npc := 72) rfl dX8_count_71 rfl ?_
    refine aw_iaddV (npc := 73) (v := 5) dX8_count_72 rfl (by decide) ?_
    refine aw_iald (npc := 74) (x := N 5) (j := 5) dX8_count_73 rfl F.2.1 ⟨by decide, by decide⟩ (tl_at (by omega)) ?_
    refine aw_iret rfl dX8_count_74 ?_
    exact (show coV N (o 9) (o 35) 4 = (N 5) by simp [coV, cI]) ▸ hq
  · refine aw_tableIn (npc := 75) dX8_count_1 (by decide) (by decide) rfl (by decide) ?_
    refine aw_aload_n (npc := 76) rfl dX8_count_75 rfl ?_
    refine aw_get (npc := 79) dX8_count_76 rfl kf_X8_9 F.1 rfl ?_
    refine aw_bipush (npc := 81) (v := 7) (by decide) dX8_count_79 rfl ?_
    refine aw_iald (npc := 82) (x := N 7) (j := 7) dX8_count_81 rfl F.2.1 ⟨by decide, by decide⟩ (tl_at (by omega)) ?_
    refine aw_iret rfl dX8_count_82 ?_
    exact (show coV N (o 9) (o 35) 5 = (N 7) by simp [coV, cI]) ▸ hq
  · refine aw_tableIn (npc := 83) dX8_count_1 (by decide) (by decide) rfl (by decide) ?_
    refine aw_aload_n (npc := 84) rfl dX8_count_83 rfl ?_
    refine aw_get (npc := 87) dX8_count_84 rfl kf_X8_266 F.1 rfl ?_
    refine aw_iret rfl dX8_count_87 ?_
    exact (show coV N (o 9) (o 35) 6 = (o 35) by simp [coV, cI]) ▸ hq
  · refine aw_tableIn (npc := 88) dX8_count_1 (by decide) (by decide) rfl (by decide) ?_
    refine aw_aload_n (npc := 89) rfl dX8_count_88 rfl ?_
    refine aw_get (npc := 92) dX8_count_89 rfl kf_X8_192 F.1 rfl ?_
    refine aw_iret rfl dX8_count_92 ?_
    exact (show coV N (o 9) (o 35) 7 = (o 9) by simp [coV, cI]) ▸ hq
  · refine aw_tableIn (npc := 93) dX8_count_1 (by decide) (by decide) rfl (by decide) ?_
    refine aw_aload_n (npc := 94) rfl dX8_count_93 rfl ?_
    refine aw_get (npc := 97) dX8_count_94 rfl kf_X8_9 F.1 rfl ?_
    refine aw_iconst (npc := 98) (v := 0) (by decide) dX8_count_97 rfl ?_
    refine aw_iald (npc := 99) (x := N 0) (j := 0) dX8_count_98 rfl F.2.1 ⟨by decide, by decide⟩ (tl_at (by omega)) ?_
    refine aw_iret rfl dX8_count_99 ?_
    exact (show coV N (o 9) (o 35) 8 = (N 0) by simp [coV, cI]) ▸ hq
  · refine aw_tableOut (npc := 100) dX8_count_1 hs1.1 (by decide) ?_
    refine aw_ldc (npc := 102) kc_X8_91 dX8_count_100 rfl ?_
    refine aw_iret rfl dX8_count_102 ?_
    exact (show coV N (o 9) (o 35) w = (-1000000001) by simp [coV, cI, hs1.2.1, hs1.2.2.1, hs1.2.2.2.1, hs1.2.2.2.2.1, hs1.2.2.2.2.2.1, hs1.2.2.2.2.2.2.1, hs1.2.2.2.2.2.2.2.1, hs1.2.2.2.2.2.2.2.2.1, hs1.2.2.2.2.2.2.2.2.2]) ▸ hq
noncomputable def tbV (N : Nat → Int32) (fr : Nat) (w : Int32) : Int32 := if w = 0 then hs0 N else if w = 1 then hs1 N else if w = 2 then cI (peace N) 1 0 else if w = 3 then snum N else if w = 4 then N 6 else if w = 5 then sumM 25 N fr 0 0 else if w = 6 then sumM 26 N fr 0 0 else (-1000000001)
set_option maxHeartbeats 4000000 in
set_option maxRecDepth 100000 in
theorem C_table {X : List Int32} {d rc rs n : Nat} {Q : am_Q} {h : am_H} {N : Nat → Int32} {tx : List Value} {lk mv : Nat → Int32} {ik wc : Int32} {fr c : Nat} {w : Int32} (O : OB ik wc h) (F : QR 1 N tx lk mv h) (hR : RG N fr c) (hq : Q (some (.int (tbV N fr w))) n h) : AW X mX7_table (d + 12) rc rs 0 [some (.ref 0), some (.int w)] [] n h Q := by
  have h8r := hR.2.1
  have h14r := hR.2.2.2.1
  refine aw_iload_n (npc := 1) rfl dX7_table_0 rfl ?_
  rcases sw_0_6 w with rfl | rfl | rfl | rfl | rfl | rfl | rfl | hs1
  · refine aw_tableIn (npc := 44) dX7_table_1 (by decide) (by decide) rfl (by decide) ?_
    refine aw_aload_n (npc := 45) rfl dX7_table_44 rfl ?_
    refine aw_get (npc := 48) dX7_table_45 rfl kf_X7_10 O.1 rfl ?_
    refine aw_iconst (npc := 49) (v := 0) (by decide) dX7_table_48 rfl ?_
    refine aw_callV (npc := 52) (N := mX0_hasOf) (b := 1) (mc := 0) (ms := 0) (A := [.int 0]) (S := []) (L0 := [some (.ref 1), some (.int 0), none, none, none]) dX7_table_49 rfl km_X0_hasOf kk_X7_166 F.1 ⟨by decide, rfl⟩ rfl ⟨rfl, by decide⟩ rfl (Nat.le_of_ble_eq_true rfl) (Nat.zero_add _) (Nat.zero_add _) rfl ?_
    refine g_has0 F ?_
    refine aw_re (S' := [.int (hs0 N)]) rfl ?_
    refine aw_iret rfl dX7_table_52 ?_
    exact (show tbV N fr 0 = (hs0 N) by simp [tbV, cI]) ▸ hq
  · refine aw_tableIn (npc := 53) dX7_table_1 (by decide) (by decide) rfl (by decide) ?_
    refine aw_aload_n (npc := 54) rfl dX7_table_53 rfl ?_
    refine aw_get (npc := 57) dX7_table_54 rfl kf_X7_10 O.1 rfl ?_
    refine aw_iconst (npc := 58) (v := 1) (by decide) dX7_table_57 rfl ?_
    refine aw_callV (npc := 61) (N := mX0_hasOf) (b := 1) (mc := 0) (ms := 0) (A := [.int 1]) (S := []) (L0 := [some (.ref 1), some (.int 1), none, none, none]) dX7_table_58 rfl km_X0_hasOf kk_X7_166 F.1 ⟨by decide, rfl⟩ rfl ⟨rfl, by decide⟩ rfl (Nat.le_of_ble_eq_true rfl) (Nat.zero_add _) (Nat.zero_add _) rfl ?_
    refine g_has1 F ?_
    refine aw_re (S' := [.int (hs1 N)]) rfl ?_
    refine aw_iret rfl dX7_table_61 ?_
    exact (show tbV N fr 1 = (hs1 N) by simp [tbV, cI]) ▸ hq
  · refine aw_tableIn (npc := 62) dX7_table_1 (by decide) (by decide) rfl (by decide) ?_
    refine aw_aload_n (npc := 63) rfl dX7_table_62 rfl ?_
    refine aw_get (npc := 66) dX7_table_63 rfl kf_X7_10 O.1 rfl ?_
    refine aw_callV (npc := 69) (N := mX0_isPeace) (b := 1) (mc := 0) (ms := 0) (A := []) (S := []) (L0 := [some (.ref 1)]) dX7_table_66 rfl km_X0_isPeace kk_X7_169 F.1 ⟨by decide, rfl⟩ rfl ⟨rfl, by decide⟩ rfl (Nat.le_of_ble_eq_true rfl) (Nat.zero_add _) (Nat.zero_add _) rfl ?_
    refine g_peace F (fun hp2 => ?_) (fun hp2 => ?_)
    · refine aw_re (S' := [.int 1]) rfl ?_
      refine aw_if_eq (npc := 72) (tgt := 76) dX7_table_69 rfl (by decide) (fun hc => absurd hc (by decide)) (fun _ => ?_)
      refine aw_iconst (npc := 73) (v := 1) (by decide) dX7_table_72 rfl ?_
      refine aw_goto (npc := 77) dX7_table_73 (by decide) ?_
      refine aw_iret rfl dX7_table_77 ?_
      exact (show tbV N fr 2 = 1 by simp [tbV, cI, hp2]) ▸ hq
    · refine aw_re (S' := [.int 0]) rfl ?_
      refine aw_if_eq (npc := 72) (tgt := 76) dX7_table_69 rfl (by decide) (fun _ => ?_) (fun hc => absurd (by decide) hc)
      refine aw_iconst (npc := 77) (v := 0) (by decide) dX7_table_76 rfl ?_
      refine aw_iret rfl dX7_table_77 ?_
      exact (show tbV N fr 2 = 0 by simp [tbV, cI, hp2]) ▸ hq
  · refine aw_tableIn (npc := 78) dX7_table_1 (by decide) (by decide) rfl (by decide) ?_
    refine aw_aload_n (npc := 79) rfl dX7_table_78 rfl ?_
    refine aw_get (npc := 82) dX7_table_79 rfl kf_X7_10 O.1 rfl ?_
    refine aw_callV (npc := 85) (N := mX0_standsAsNumber) (b := 1) (mc := 0) (ms := 0) (A := []) (S := []) (L0 := [some (.ref 1), none, none]) dX7_table_82 rfl km_X0_standsAsNumber kk_X7_173 F.1 ⟨by decide, rfl⟩ rfl ⟨rfl, by decide⟩ rfl (Nat.le_of_ble_eq_true rfl) (Nat.zero_add _) (Nat.zero_add _) rfl ?_
    refine g_snum F ?_
    refine aw_re (S' := [.int (snum N)]) rfl ?_
    refine aw_iret rfl dX7_table_85 ?_
    exact (show tbV N fr 3 = (snum N) by simp [tbV, cI]) ▸ hq
  · refine aw_tableIn (npc := 86) dX7_table_1 (by decide) (by decide) rfl (by decide) ?_
    refine aw_aload_n (npc := 87) rfl dX7_table_86 rfl ?_
    refine aw_get (npc := 90) dX7_table_87 rfl kf_X7_10 O.1 rfl ?_
    refine aw_get (npc := 93) dX7_table_90 rfl kf_X7_176 F.1 rfl ?_
    refine aw_iret rfl dX7_table_93 ?_
    exact (show tbV N fr 4 = (N 6) by simp [tbV, cI]) ▸ hq
  · refine aw_tableIn (npc := 94) dX7_table_1 (by decide) (by decide) rfl (by decide) ?_
    refine aw_aload_n (npc := 95) rfl dX7_table_94 rfl ?_
    refine aw_get (npc := 98) dX7_table_95 rfl kf_X7_10 O.1 rfl ?_
    refine aw_aload_n (npc := 99) rfl dX7_table_98 rfl ?_
    refine aw_get (npc := 102) dX7_table_99 rfl kf_X7_10 O.1 rfl ?_
    refine aw_get (npc := 105) dX7_table_102 rfl kf_X7_99 F.1 rfl ?_
    refine aw_callV (npc := 108) (N := mX0_sumOverFriends) (b := 1) (mc := 0) (ms := 0) (A := [.ref 8]) (S := []) (L0 := [some (.ref 1), some (.ref 8), none, none]) dX7_table_105 rfl km_X0_sumOverFriends kk_X7_179 F.1 ⟨by decide, rfl⟩ rfl ⟨rfl, by decide⟩ rfl (Nat.le_of_ble_eq_true rfl) (Nat.zero_add _) (Nat.zero_add _) rfl ?_
    refine g_sumS (b := 1) F hR.1 h8r ?_
    refine aw_re (S' := [.int (sumM 25 N fr 0 0)]) rfl ?_
    refine aw_iret rfl dX7_table_108 ?_
    exact (show tbV N fr 5 = (sumM 25 N fr 0 0) by simp [tbV, cI]) ▸ hq
  · refine aw_tableIn (npc := 109) dX7_table_1 (by decide) (by decide) rfl (by decide) ?_
    refine aw_aload_n (npc := 110) rfl dX7_table_109 rfl ?_
    refine aw_get (npc := 113) dX7_table_110 rfl kf_X7_10 O.1 rfl ?_
    refine aw_aload_n (npc := 114) rfl dX7_table_113 rfl ?_
    refine aw_get (npc := 117) dX7_table_114 rfl kf_X7_10 O.1 rfl ?_
    refine aw_get (npc := 120) dX7_table_117 rfl kf_X7_102 F.1 rfl ?_
    refine aw_callV (npc := 123) (N := mX0_sumOverFriends) (b := 1) (mc := 0) (ms := 0) (A := [.ref 9]) (S := []) (L0 := [some (.ref 1), some (.ref 9), none, none]) dX7_table_120 rfl km_X0_sumOverFriends kk_X7_179 F.1 ⟨by decide, rfl⟩ rfl ⟨rfl, by decide⟩ rfl (Nat.le_of_ble_eq_true rfl) (Nat.zero_add _) (Nat.zero_add _) rfl ?_
    refine g_sumY (b := 1) F hR.1 h8r ?_
    refine aw_re (S' := [.int (sumM 26 N fr 0 0)]) rfl ?_
    refine aw_iret rfl dX7_table_123 ?_
    exact (show tbV N fr 6 = (sumM 26 N fr 0 0) by simp [tbV, cI]) ▸ hq
  · refine aw_tableOut (npc := 124) dX7_table_1 hs1.1 (by decide) ?_
    refine aw_ldc (npc := 126) kc_X7_78 dX7_table_124 rfl ?_
    refine aw_iret rfl dX7_table_126 ?_
    exact (show tbV N fr w = (-1000000001) by simp [tbV, cI, hs1.2.1, hs1.2.2.1, hs1.2.2.2.1, hs1.2.2.2.2.1, hs1.2.2.2.2.2.1, hs1.2.2.2.2.2.2.1, hs1.2.2.2.2.2.2.2]) ▸ hq
set_option maxHeartbeats 4000000 in
set_option maxRecDepth 100000 in
theorem M_table {X : List Int32} {d rc rs n : Nat} {Q : am_Q} {h : am_H} {o N : Nat → Int32} {a : Nat → Nat → Int32} {fr c : Nat} {w : Int32} (F : MR o N a h) (hR : RG N fr c) (hq : Q (some (.int (tbV N fr w))) n h) : AW X mX8_table (d + 12) rc rs 0 [some (.ref 69), some (.int w)] [] n h Q := by
  have h8r := hR.2.1
  have h14r := hR.2.2.2.1
  refine aw_iload_n (npc := 1) rfl dX8_table_0 rfl ?_
  rcases sw_0_6 w with rfl | rfl | rfl | rfl | rfl | rfl | rfl | hs1
  · refine aw_tableIn (npc := 44) dX8_table_1 (by decide) (by decide) rfl (by decide) ?_
    refine aw_aload_n (npc := 45) rfl dX8_table_44 rfl ?_
    refine aw_iload_n (npc := 46) rfl dX8_table_45 rfl ?_
    refine aw_callV (npc := 49) (N := mX8_has) (b := 69) (mc := 0) (ms := 0) (A := [.int 0]) (S := []) (L0 := [some (.ref 69), some (.int 0), none, none, none]) dX8_table_46 rfl km_X8_has kk_X8_143 F.1 ⟨by decide, rfl⟩ rfl ⟨rfl, by decide⟩ rfl (Nat.le_of_ble_eq_true rfl) (Nat.zero_add _) (Nat.zero_add _) rfl ?_
    refine m_has0 F ?_
    refine aw_re (S' := [.int (hs0 N)]) rfl ?_
    refine aw_iret rfl dX8_table_49 ?_
    exact (show tbV N fr 0 = (hs0 N) by simp [tbV, cI]) ▸ hq
  · refine aw_tableIn (npc := 44) dX8_table_1 (by decide) (by decide) rfl (by decide) ?_
    refine aw_aload_n (npc := 45) rfl dX8_table_44 rfl ?_
    refine aw_iload_n (npc := 46) rfl dX8_table_45 rfl ?_
    refine aw_callV (npc := 49) (N := mX8_has) (b := 69) (mc := 0) (ms := 0) (A := [.int 1]) (S := []) (L0 := [some (.ref 69), some (.int 1), none, none, none]) dX8_table_46 rfl km_X8_has kk_X8_143 F.1 ⟨by decide, rfl⟩ rfl ⟨rfl, by decide⟩ rfl (Nat.le_of_ble_eq_true rfl) (Nat.zero_add _) (Nat.zero_add _) rfl ?_
    refine m_has1 F ?_
    refine aw_re (S' := [.int (hs1 N)]) rfl ?_
    refine aw_iret rfl dX8_table_49 ?_
    exact (show tbV N fr 1 = (hs1 N) by simp [tbV, cI]) ▸ hq
  · refine aw_tableIn (npc := 50) dX8_table_1 (by decide) (by decide) rfl (by decide) ?_
    refine aw_aload_n (npc := 51) rfl dX8_table_50 rfl ?_
    refine aw_callV (npc := 54) (N := mX8_isPeace) (b := 69) (mc := 0) (ms := 0) (A := []) (S := []) (L0 := [some (.ref 69)]) dX8_table_51 rfl km_X8_isPeace kk_X8_149 F.1 ⟨by decide, rfl⟩ rfl ⟨rfl, by decide⟩ rfl (Nat.le_of_ble_eq_true rfl) (Nat.zero_add _) (Nat.zero_add _) rfl ?_
    refine m_peace F (fun hp2 => ?_) (fun hp2 => ?_)
    · refine aw_re (S' := [.int 1]) rfl ?_
      refine aw_if_eq (npc := 57) (tgt := 61) dX8_table_54 rfl (by decide) (fun hc => absurd hc (by decide)) (fun _ => ?_)
      refine aw_iconst (npc := 58) (v := 1) (by decide) dX8_table_57 rfl ?_
      refine aw_goto (npc := 62) dX8_table_58 (by decide) ?_
      refine aw_iret rfl dX8_table_62 ?_
      exact (show tbV N fr 2 = 1 by simp [tbV, cI, hp2]) ▸ hq
    · refine aw_re (S' := [.int 0]) rfl ?_
      refine aw_if_eq (npc := 57) (tgt := 61) dX8_table_54 rfl (by decide) (fun _ => ?_) (fun hc => absurd (by decide) hc)
      refine aw_iconst (npc := 62) (v := 0) (by decide) dX8_table_61 rfl ?_
      refine aw_iret rfl dX8_table_62 ?_
      exact (show tbV N fr 2 = 0 by simp [tbV, cI, hp2]) ▸ hq
  · refine aw_tableIn (npc := 63) dX8_table_1 (by decide) (by decide) rfl (by decide) ?_
    refine aw_aload_n (npc := 64) rfl dX8_table_63 rfl ?_
    refine aw_callV (npc := 67) (N := mX8_stands) (b := 69) (mc := 0) (ms := 0) (A := []) (S := []) (L0 := [some (.ref 69), none, none]) dX8_table_64 rfl km_X8_stands kk_X8_166 F.1 ⟨by decide, rfl⟩ rfl ⟨rfl, by decide⟩ rfl (Nat.le_of_ble_eq_true rfl) (Nat.zero_add _) (Nat.zero_add _) rfl ?_
    refine m_stands F ?_
    refine aw_re (S' := [.int (snum N)]) rfl ?_
    refine aw_iret rfl dX8_table_67 ?_
    exact (show tbV N fr 3 = (snum N) by simp [tbV, cI]) ▸ hq
  · refine aw_tableIn (npc := 68) dX8_table_1 (by decide) (by decide) rfl (by decide) ?_
    refine aw_aload_n (npc := 69) rfl dX8_table_68 rfl ?_
    refine aw_get (npc := 72) dX8_table_69 rfl kf_X8_9 F.1 rfl ?_
    refine aw_bipush (npc := 74) (v := 6) (by decide) dX8_table_72 rfl ?_
    refine aw_iald (npc := 75) (x := N 6) (j := 6) dX8_table_74 rfl F.2.1 ⟨by decide, by decide⟩ (tl_at (by omega)) ?_
    refine aw_iret rfl dX8_table_75 ?_
    exact (show tbV N fr 4 = (N 6) by simp [tbV, cI]) ▸ hq
  · refine aw_tableIn (npc := 76) dX8_table_1 (by decide) (by decide) rfl (by decide) ?_
    refine aw_aload_n (npc := 77) rfl dX8_table_76 rfl ?_
    refine aw_iconst (npc := 78) (v := 3) (by decide) dX8_table_77 rfl ?_
    refine aw_callV (npc := 81) (N := mX8_sumOf) (b := 69) (mc := 0) (ms := 0) (A := [.int 3]) (S := []) (L0 := [some (.ref 69), some (.int 3), none, none]) dX8_table_78 rfl km_X8_sumOf kk_X8_160 F.1 ⟨by decide, rfl⟩ rfl ⟨rfl, by decide⟩ rfl (Nat.le_of_ble_eq_true rfl) (Nat.zero_add _) (Nat.zero_add _) rfl ?_
    refine m_sumS F hR.1 h8r ?_
    refine aw_re (S' := [.int (sumM 25 N fr 0 0)]) rfl ?_
    refine aw_iret rfl dX8_table_81 ?_
    exact (show tbV N fr 5 = (sumM 25 N fr 0 0) by simp [tbV, cI]) ▸ hq
  · refine aw_tableIn (npc := 82) dX8_table_1 (by decide) (by decide) rfl (by decide) ?_
    refine aw_aload_n (npc := 83) rfl dX8_table_82 rfl ?_
    refine aw_iconst (npc := 84) (v := 4) (by decide) dX8_table_83 rfl ?_
    refine aw_callV (npc := 87) (N := mX8_sumOf) (b := 69) (mc := 0) (ms := 0) (A := [.int 4]) (S := []) (L0 := [some (.ref 69), some (.int 4), none, none]) dX8_table_84 rfl km_X8_sumOf kk_X8_160 F.1 ⟨by decide, rfl⟩ rfl ⟨rfl, by decide⟩ rfl (Nat.le_of_ble_eq_true rfl) (Nat.zero_add _) (Nat.zero_add _) rfl ?_
    refine m_sumY F hR.1 h8r ?_
    refine aw_re (S' := [.int (sumM 26 N fr 0 0)]) rfl ?_
    refine aw_iret rfl dX8_table_87 ?_
    exact (show tbV N fr 6 = (sumM 26 N fr 0 0) by simp [tbV, cI]) ▸ hq
  · refine aw_tableOut (npc := 88) dX8_table_1 hs1.1 (by decide) ?_
    refine aw_ldc (npc := 90) kc_X8_91 dX8_table_88 rfl ?_
    refine aw_iret rfl dX8_table_90 ?_
    exact (show tbV N fr w = (-1000000001) by simp [tbV, cI, hs1.2.1, hs1.2.2.1, hs1.2.2.2.1, hs1.2.2.2.2.1, hs1.2.2.2.2.2.1, hs1.2.2.2.2.2.2.1, hs1.2.2.2.2.2.2.2]) ▸ hq
noncomputable def toV (N : Nat → Int32) (τ f w : Int32) : Int32 := cI (wi f 0 (N 1 - 1)) (if w = 0 then N (22 + 5 * fN f) else if w = 1 then N (23 + 5 * fN f) else if w = 2 then N (24 + 5 * fN f) else if w = 3 then N (25 + 5 * fN f) else if w = 4 then N (26 + 5 * fN f) else if w = 5 then τ else if w = 6 then orN (ty N (fN f)) else if w = 7 then wort (N (22 + 5 * fN f)) (N (24 + 5 * fN f)) else (-1000000001)) (-1000000001)
set_option maxHeartbeats 4000000 in
set_option maxRecDepth 100000 in
theorem C_told {X : List Int32} {d rc rs n : Nat} {Q : am_Q} {h : am_H} {N : Nat → Int32} {tx : List Value} {lk mv : Nat → Int32} {ik wc : Int32} {fr c : Nat} {f : Int32} {w : Int32} {tb : TB} (O : OB ik wc h) (F : QR 1 N tx lk mv h) (G : TT tb h) (hR : RG N fr c) (hv : TXv tb.1 c tx) (hq : ∀ v9 h9, (∃ τ, (wi f 0 (N 1 - 1) → w = 5 → TNr tb tx lk N (fN f) τ) ∧ v9 = toV N τ f w) → QR 1 N tx lk mv h9 → TT tb h9 → am_fp (fun k => k < 92) h9 h → Q (some (.int v9)) n h9) : AW X mX7_told (d + 12) rc rs 0 [some (.ref 0), some (.int f), some (.int w)] [] n h Q := by
  have h8r := hR.2.1
  have h14r := hR.2.2.2.1
  refine aw_aload_n (npc := 1) rfl dX7_told_0 rfl ?_
  refine aw_get (npc := 4) dX7_told_1 rfl kf_X7_10 O.1 rfl ?_
  refine aw_iload_n (npc := 5) rfl dX7_told_4 rfl ?_
  refine aw_callV (npc := 8) (N := mX0_isFriend) (b := 1) (mc := 0) (ms := 0) (A := [.int f]) (S := []) (L0 := [some (.ref 1), some (.int f)]) dX7_told_5 rfl km_X0_isFriend kk_X7_87 F.1 ⟨by decide, rfl⟩ rfl ⟨rfl, by decide⟩ rfl (Nat.le_of_ble_eq_true rfl) (Nat.zero_add _) (Nat.zero_add _) rfl ?_
  refine g_isFriend F (fun hw1 => ?_) (fun hw1 => ?_)
  · obtain ⟨fn, hfn, efn⟩ := wi_idx hR.1 (by have z := hR.2.1; omega) hw1
    subst efn
    have h8fn : fn < 8 := by have z := hR.2.1; omega
    have ffn : fN (nI fn) = fn := fN_nI (by omega)
    refine aw_re (S' := [.int 1]) rfl ?_
    refine aw_if_ne (npc := 11) (tgt := 14) dX7_told_8 rfl (by decide) (fun _ => ?_) (fun hc => absurd hc (by decide))
    refine aw_iload_n (npc := 15) rfl dX7_told_14 rfl ?_
    rcases sw_0_7 w with rfl | rfl | rfl | rfl | rfl | rfl | rfl | rfl | hs2
    · refine aw_tableIn (npc := 60) dX7_told_15 (by decide) (by decide) rfl (by decide) ?_
      refine aw_aload_n (npc := 61) rfl dX7_told_60 rfl ?_
      refine aw_get (npc := 64) dX7_told_61 rfl kf_X7_10 O.1 rfl ?_
      refine aw_get (npc := 67) dX7_told_64 rfl kf_X7_90 F.1 rfl ?_
      refine aw_iload_n (npc := 68) rfl dX7_told_67 rfl ?_
      refine aw_iald (npc := 69) (x := N (22 + 5 * fn)) (j := fn) dX7_told_68 rfl F.2.2.2.2.1 (am_ix_nI (by omega)) (tl_at (by omega)) ?_
      refine aw_iret rfl dX7_told_69 ?_
      exact hq _ _ ⟨0, fun _ z => absurd z (by simp [hw1, ffn]), by simp [toV, cI, hw1, ffn]⟩ F G am_fp0
    · refine aw_tableIn (npc := 70) dX7_told_15 (by decide) (by decide) rfl (by decide) ?_
      refine aw_aload_n (npc := 71) rfl dX7_told_70 rfl ?_
      refine aw_get (npc := 74) dX7_told_71 rfl kf_X7_10 O.1 rfl ?_
      refine aw_get (npc := 77) dX7_told_74 rfl kf_X7_93 F.1 rfl ?_
      refine aw_iload_n (npc := 78) rfl dX7_told_77 rfl ?_
      refine aw_iald (npc := 79) (x := N (23 + 5 * fn)) (j := fn) dX7_told_78 rfl F.2.2.2.2.2.1 (am_ix_nI (by omega)) (tl_at (by omega)) ?_
      refine aw_iret rfl dX7_told_79 ?_
      exact hq _ _ ⟨0, fun _ z => absurd z (by simp [hw1, ffn]), by simp [toV, cI, hw1, ffn]⟩ F G am_fp0
    · refine aw_tableIn (npc := 80) dX7_told_15 (by decide) (by decide) rfl (by decide) ?_
      refine aw_aload_n (npc := 81) rfl dX7_told_80 rfl ?_
      refine aw_get (npc := 84) dX7_told_81 rfl kf_X7_10 O.1 rfl ?_
      refine aw_get (npc := 87) dX7_told_84 rfl kf_X7_96 F.1 rfl ?_
      refine aw_iload_n (npc := 88) rfl dX7_told_87 rfl ?_
      refine aw_iald (npc := 89) (x := N (24 + 5 * fn)) (j := fn) dX7_told_88 rfl F.2.2.2.2.2.2.1 (am_ix_nI (by omega)) (tl_at (by omega)) ?_
      refine aw_iret rfl dX7_told_89 ?_
      exact hq _ _ ⟨0, fun _ z => absurd z (by simp [hw1, ffn]), by simp [toV, cI, hw1, ffn]⟩ F G am_fp0
    · refine aw_tableIn (npc := 90) dX7_told_15 (by decide) (by decide) rfl (by decide) ?_
      refine aw_aload_n (npc := 91) rfl dX7_told_90 rfl ?_
      refine aw_get (npc := 94) dX7_told_91 rfl kf_X7_10 O.1 rfl ?_
      refine aw_get (npc := 97) dX7_told_94 rfl kf_X7_99 F.1 rfl ?_
      refine aw_iload_n (npc := 98) rfl dX7_told_97 rfl ?_
      refine aw_iald (npc := 99) (x := N (25 + 5 * fn)) (j := fn) dX7_told_98 rfl F.2.2.2.2.2.2.2.1 (am_ix_nI (by omega)) (tl_at (by omega)) ?_
      refine aw_iret rfl dX7_told_99 ?_
      exact hq _ _ ⟨0, fun _ z => absurd z (by simp [hw1, ffn]), by simp [toV, cI, hw1, ffn]⟩ F G am_fp0
    · refine aw_tableIn (npc := 100) dX7_told_15 (by decide) (by decide) rfl (by decide) ?_
      refine aw_aload_n (npc := 101) rfl dX7_told_100 rfl ?_
      refine aw_get (npc := 104) dX7_told_101 rfl kf_X7_10 O.1 rfl ?_
      refine aw_get (npc := 107) dX7_told_104 rfl kf_X7_102 F.1 rfl ?_
      refine aw_iload_n (npc := 108) rfl dX7_told_107 rfl ?_
      refine aw_iald (npc := 109) (x := N (26 + 5 * fn)) (j := fn) dX7_told_108 rfl F.2.2.2.2.2.2.2.2.1 (am_ix_nI (by omega)) (tl_at (by omega)) ?_
      refine aw_iret rfl dX7_told_109 ?_
      exact hq _ _ ⟨0, fun _ z => absurd z (by simp [hw1, ffn]), by simp [toV, cI, hw1, ffn]⟩ F G am_fp0
    · refine aw_tableIn (npc := 110) dX7_told_15 (by decide) (by decide) rfl (by decide) ?_
      refine aw_aload_n (npc := 111) rfl dX7_told_110 rfl ?_
      refine aw_get (npc := 114) dX7_told_111 rfl kf_X7_10 O.1 rfl ?_
      refine aw_iload_n (npc := 115) rfl dX7_told_114 rfl ?_
      refine aw_callV (npc := 118) (N := mX0_toneOf) (b := 1) (mc := 0) (ms := 0) (A := [.int (nI fn)]) (S := []) (L0 := [some (.ref 1), some (.int (nI fn)), none, none]) dX7_told_115 rfl km_X0_toneOf kk_X7_105 F.1 ⟨by decide, rfl⟩ rfl ⟨rfl, by decide⟩ rfl (Nat.le_of_ble_eq_true rfl) (Nat.zero_add _) (Nat.zero_add _) rfl ?_
      refine g_tone (f := fn) F G hR.2.2.1 hv (by omega) (hR.2.2.2.2.1 fn (by omega)).1 (by omega) (fun τ3 hp4 ht5 F6 G7 fz8 => ?_)
      have O9 := ob_frame O (fz8 0 (by omega)) (fz8 43 (by omega)) (fz8 44 (by omega))
      refine aw_re (S' := [.int τ3]) rfl ?_
      refine aw_iret rfl dX7_told_118 ?_
      exact hq _ _ ⟨τ3, fun _ _ => ffn.symm ▸ ht5, by simp [toV, cI, hw1, ffn]⟩ F6 G7 (am_fpT (fun k (hk : k < 92) => fz8 k (by omega)) am_fp0)
    · refine aw_tableIn (npc := 119) dX7_told_15 (by decide) (by decide) rfl (by decide) ?_
      refine aw_aload_n (npc := 120) rfl dX7_told_119 rfl ?_
      refine aw_get (npc := 123) dX7_told_120 rfl kf_X7_10 O.1 rfl ?_
      refine aw_iload_n (npc := 124) rfl dX7_told_123 rfl ?_
      refine aw_callV (npc := 127) (N := mX0_termYielded) (b := 1) (mc := 0) (ms := 0) (A := [.int (nI fn)]) (S := []) (L0 := [some (.ref 1), some (.int (nI fn)), none, none, none, none, none, none, none, none, none, none]) dX7_told_124 rfl km_X0_termYielded kk_X7_109 F.1 ⟨by decide, rfl⟩ rfl ⟨rfl, by decide⟩ rfl (Nat.le_of_ble_eq_true rfl) (Nat.zero_add _) (Nat.zero_add _) rfl ?_
      refine g_term (f := fn) F (by omega) (hR.2.2.2.2.1 fn (by omega)).1 (hR.2.2.2.2.1 fn (by omega)).2.1 ?_
      refine aw_re (S' := [.int (ty N fn)]) rfl ?_
      refine aw_callS (npc := 130) (N := mX7_orNone) (mc := 0) (ms := 0) (A := [.int (ty N fn)]) (S := []) (L0 := [some (.int (ty N fn))]) dX7_told_127 rfl km_X7_orNone kk_X7_112 rfl ⟨rfl, by decide⟩ rfl (Nat.le_of_ble_eq_true rfl) (Nat.zero_add _) (Nat.zero_add _) rfl ?_
      refine c_X7_orNone ?_
      refine aw_re (S' := [.int (orN (ty N fn))]) rfl ?_
      refine aw_iret rfl dX7_told_130 ?_
      exact hq _ _ ⟨0, fun _ z => absurd z (by simp [hw1, ffn]), by simp [toV, cI, hw1, ffn]⟩ F G am_fp0
    · refine aw_tableIn (npc := 131) dX7_told_15 (by decide) (by decide) rfl (by decide) ?_
      refine aw_aload_n (npc := 132) rfl dX7_told_131 rfl ?_
      refine aw_get (npc := 135) dX7_told_132 rfl kf_X7_10 O.1 rfl ?_
      refine aw_get (npc := 138) dX7_told_135 rfl kf_X7_90 F.1 rfl ?_
      refine aw_iload_n (npc := 139) rfl dX7_told_138 rfl ?_
      refine aw_iald (npc := 140) (x := N (22 + 5 * fn)) (j := fn) dX7_told_139 rfl F.2.2.2.2.1 (am_ix_nI (by omega)) (tl_at (by omega)) ?_
      refine aw_aload_n (npc := 141) rfl dX7_told_140 rfl ?_
      refine aw_get (npc := 144) dX7_told_141 rfl kf_X7_10 O.1 rfl ?_
      refine aw_get (npc := 147) dX7_told_144 rfl kf_X7_96 F.1 rfl ?_
      refine aw_iload_n (npc := 148) rfl dX7_told_147 rfl ?_
      refine aw_iald (npc := 149) (x := N (24 + 5 * fn)) (j := fn) dX7_told_148 rfl F.2.2.2.2.2.2.1 (am_ix_nI (by omega)) (tl_at (by omega)) ?_
      refine aw_callS (npc := 152) (N := mX7_worthOf) (mc := 0) (ms := 0) (A := [.int (N (22 + 5 * fn)), .int (N (24 + 5 * fn))]) (S := []) (L0 := [some (.int (N (22 + 5 * fn))), some (.int (N (24 + 5 * fn)))]) dX7_told_149 rfl km_X7_worthOf kk_X7_115 rfl ⟨rfl, by decide⟩ rfl (Nat.le_of_ble_eq_true rfl) (Nat.zero_add _) (Nat.zero_add _) rfl ?_
      refine c_X7_worthOf ?_
      refine aw_re (S' := [.int (wort (N (22 + 5 * fn)) (N (24 + 5 * fn)))]) rfl ?_
      refine aw_iret rfl dX7_told_152 ?_
      exact hq _ _ ⟨0, fun _ z => absurd z (by simp [hw1, ffn]), by simp [toV, cI, hw1, ffn]⟩ F G am_fp0
    · refine aw_tableOut (npc := 153) dX7_told_15 hs2.1 (by decide) ?_
      refine aw_ldc (npc := 155) kc_X7_78 dX7_told_153 rfl ?_
      refine aw_iret rfl dX7_told_155 ?_
      exact hq _ _ ⟨0, fun _ z => absurd z (by simp [hw1, ffn, hs2.2.1, hs2.2.2.1, hs2.2.2.2.1, hs2.2.2.2.2.1, hs2.2.2.2.2.2.1, hs2.2.2.2.2.2.2.1, hs2.2.2.2.2.2.2.2.1, hs2.2.2.2.2.2.2.2.2]), by simp [toV, cI, hw1, ffn, hs2.2.1, hs2.2.2.1, hs2.2.2.2.1, hs2.2.2.2.2.1, hs2.2.2.2.2.2.1, hs2.2.2.2.2.2.2.1, hs2.2.2.2.2.2.2.2.1, hs2.2.2.2.2.2.2.2.2]⟩ F G am_fp0
  · refine aw_re (S' := [.int 0]) rfl ?_
    refine aw_if_ne (npc := 11) (tgt := 14) dX7_told_8 rfl (by decide) (fun hc => absurd (by decide) hc) (fun _ => ?_)
    refine aw_ldc (npc := 13) kc_X7_78 dX7_told_11 rfl ?_
    refine aw_iret rfl dX7_told_13 ?_
    exact hq _ _ ⟨0, fun z _ => absurd z hw1, by simp [toV, cI, hw1]⟩ F G am_fp0
theorem wi_c0_7 {x : Int32} (h : wi x 0 7) : x = 0 ∨ x = 1 ∨ x = 2 ∨ x = 3 ∨ x = 4 ∨ x = 5 ∨ x = 6 ∨ x = 7 := by
  have h1 : ¬ x.toInt < 0 := fun q => h.1 (Int32.lt_iff_toInt_lt.mpr (by simpa using q))
  have h2 : ¬ 7 < x.toInt := fun q => h.2 (Int32.lt_iff_toInt_lt.mpr (by simpa using q))
  rcases sw_0_7 x with q | q | q | q | q | q | q | q | q
  · exact Or.inl q
  · exact Or.inr (Or.inl q)
  · exact Or.inr (Or.inr (Or.inl q))
  · exact Or.inr (Or.inr (Or.inr (Or.inl q)))
  · exact Or.inr (Or.inr (Or.inr (Or.inr (Or.inl q))))
  · exact Or.inr (Or.inr (Or.inr (Or.inr (Or.inr (Or.inl q)))))
  · exact Or.inr (Or.inr (Or.inr (Or.inr (Or.inr (Or.inr (Or.inl q))))))
  · exact Or.inr (Or.inr (Or.inr (Or.inr (Or.inr (Or.inr (Or.inr q))))))
  · exact absurd q.1 (by omega)
set_option maxHeartbeats 4000000 in
set_option maxRecDepth 100000 in
theorem M_told {X : List Int32} {d rc rs n : Nat} {Q : am_Q} {h : am_H} {o N : Nat → Int32} {a : Nat → Nat → Int32} {fr c : Nat} {f : Int32} {w : Int32} (F : MR o N a h) (hR : RG N fr c) (hT : TXM N c) (hq : ∀ v9 a9 h9, (∃ τ, (wi f 0 (N 1 - 1) → w = 5 → MTr N c (fN f) τ) ∧ v9 = toV N τ f w) → MR o N a9 h9 → ak a9 a → am_fp (fun k => k < 69 ∨ 92 ≤ k) h9 h → Q (some (.int v9)) n h9) : AW X mX8_told (d + 12) rc rs 0 [some (.ref 69), some (.int f), some (.int w)] [] n h Q := by
  have h8r := hR.2.1
  have h14r := hR.2.2.2.1
  refine aw_aload_n (npc := 1) rfl dX8_told_0 rfl ?_
  refine aw_iload_n (npc := 2) rfl dX8_told_1 rfl ?_
  refine aw_callV (npc := 5) (N := mX8_isFriend) (b := 69) (mc := 0) (ms := 0) (A := [.int f]) (S := []) (L0 := [some (.ref 69), some (.int f)]) dX8_told_2 rfl km_X8_isFriend kk_X8_114 F.1 ⟨by decide, rfl⟩ rfl ⟨rfl, by decide⟩ rfl (Nat.le_of_ble_eq_true rfl) (Nat.zero_add _) (Nat.zero_add _) rfl ?_
  refine m_isFriend F (fun hw1 => ?_) (fun hw1 => ?_)
  · obtain ⟨fn, hfn, efn⟩ := wi_idx hR.1 (by have z := hR.2.1; omega) hw1
    subst efn
    have h8fn : fn < 8 := by have z := hR.2.1; omega
    have ffn : fN (nI fn) = fn := fN_nI (by omega)
    refine aw_re (S' := [.int 1]) rfl ?_
    refine aw_if_eq (npc := 8) (tgt := 18) dX8_told_5 rfl (by decide) (fun hc => absurd hc (by decide)) (fun _ => ?_)
    refine aw_iload_n (npc := 9) rfl dX8_told_8 rfl ?_
    refine aw_iconst (npc := 10) (v := 0) (by decide) dX8_told_9 rfl ?_
    refine aw_bipush (npc := 12) (v := 7) (by decide) dX8_told_10 rfl ?_
    refine aw_callS (npc := 15) (N := mX8_in) (mc := 0) (ms := 0) (A := [.int w, .int 0, .int 7]) (S := []) (L0 := [some (.int w), some (.int 0), some (.int 7)]) dX8_told_12 rfl km_X8_in kk_X8_83 rfl ⟨rfl, by decide⟩ rfl (Nat.le_of_ble_eq_true rfl) (Nat.zero_add _) (Nat.zero_add _) rfl ?_
    refine c_X8_in (fun hw2 => ?_) (fun hw2 => ?_)
    · rcases wi_c0_7 hw2 with rfl | rfl | rfl | rfl | rfl | rfl | rfl | rfl
      · refine aw_re (S' := [.int 1]) rfl ?_
        refine aw_if_ne (npc := 18) (tgt := 21) dX8_told_15 rfl (by decide) (fun _ => ?_) (fun hc => absurd hc (by decide))
        refine aw_iload_n (npc := 22) rfl dX8_told_21 rfl ?_
        refine aw_iconst (npc := 23) (v := 5) (by decide) dX8_told_22 rfl ?_
        refine aw_icmp_ge (npc := 26) (tgt := 35) dX8_told_23 rfl (by decide) (fun hc => absurd hc (by decide)) (fun _ => ?_)
        refine aw_aload_n (npc := 27) rfl dX8_told_26 rfl ?_
        refine aw_iload_n (npc := 28) rfl dX8_told_27 rfl ?_
        refine aw_iload_n (npc := 29) rfl dX8_told_28 rfl ?_
        refine aw_callV (npc := 32) (N := mX8_of) (b := 69) (mc := 0) (ms := 0) (A := [.int (nI fn), .int 0]) (S := []) (L0 := [some (.ref 69), some (.int (nI fn)), some (.int 0)]) dX8_told_29 rfl km_X8_of kk_X8_101 F.1 ⟨by decide, rfl⟩ rfl ⟨rfl, by decide⟩ rfl (Nat.le_of_ble_eq_true rfl) (Nat.zero_add _) (Nat.zero_add _) rfl ?_
        refine m_of0 (f := fn) F (by omega) ?_
        refine aw_re (S' := [.int (N (22 + 5 * fn))]) rfl ?_
        refine aw_goto (npc := 70) dX8_told_32 (by decide) ?_
        refine aw_iret rfl dX8_told_70 ?_
        exact hq _ _ _ ⟨0, fun _ z => absurd z (by simp [hw1, ffn]), by simp [toV, cI, hw1, ffn]⟩ F (fun _ _ _ => rfl) am_fp0
      · refine aw_re (S' := [.int 1]) rfl ?_
        refine aw_if_ne (npc := 18) (tgt := 21) dX8_told_15 rfl (by decide) (fun _ => ?_) (fun hc => absurd hc (by decide))
        refine aw_iload_n (npc := 22) rfl dX8_told_21 rfl ?_
        refine aw_iconst (npc := 23) (v := 5) (by decide) dX8_told_22 rfl ?_
        refine aw_icmp_ge (npc := 26) (tgt := 35) dX8_told_23 rfl (by decide) (fun hc => absurd hc (by decide)) (fun _ => ?_)
        refine aw_aload_n (npc := 27) rfl dX8_told_26 rfl ?_
        refine aw_iload_n (npc := 28) rfl dX8_told_27 rfl ?_
        refine aw_iload_n (npc := 29) rfl dX8_told_28 rfl ?_
        refine aw_callV (npc := 32) (N := mX8_of) (b := 69) (mc := 0) (ms := 0) (A := [.int (nI fn), .int 1]) (S := []) (L0 := [some (.ref 69), some (.int (nI fn)), some (.int 1)]) dX8_told_29 rfl km_X8_of kk_X8_101 F.1 ⟨by decide, rfl⟩ rfl ⟨rfl, by decide⟩ rfl (Nat.le_of_ble_eq_true rfl) (Nat.zero_add _) (Nat.zero_add _) rfl ?_
        refine m_of1 (f := fn) F (by omega) ?_
        refine aw_re (S' := [.int (N (23 + 5 * fn))]) rfl ?_
        refine aw_goto (npc := 70) dX8_told_32 (by decide) ?_
        refine aw_iret rfl dX8_told_70 ?_
        exact hq _ _ _ ⟨0, fun _ z => absurd z (by simp [hw1, ffn]), by simp [toV, cI, hw1, ffn]⟩ F (fun _ _ _ => rfl) am_fp0
      · refine aw_re (S' := [.int 1]) rfl ?_
        refine aw_if_ne (npc := 18) (tgt := 21) dX8_told_15 rfl (by decide) (fun _ => ?_) (fun hc => absurd hc (by decide))
        refine aw_iload_n (npc := 22) rfl dX8_told_21 rfl ?_
        refine aw_iconst (npc := 23) (v := 5) (by decide) dX8_told_22 rfl ?_
        refine aw_icmp_ge (npc := 26) (tgt := 35) dX8_told_23 rfl (by decide) (fun hc => absurd hc (by decide)) (fun _ => ?_)
        refine aw_aload_n (npc := 27) rfl dX8_told_26 rfl ?_
        refine aw_iload_n (npc := 28) rfl dX8_told_27 rfl ?_
        refine aw_iload_n (npc := 29) rfl dX8_told_28 rfl ?_
        refine aw_callV (npc := 32) (N := mX8_of) (b := 69) (mc := 0) (ms := 0) (A := [.int (nI fn), .int 2]) (S := []) (L0 := [some (.ref 69), some (.int (nI fn)), some (.int 2)]) dX8_told_29 rfl km_X8_of kk_X8_101 F.1 ⟨by decide, rfl⟩ rfl ⟨rfl, by decide⟩ rfl (Nat.le_of_ble_eq_true rfl) (Nat.zero_add _) (Nat.zero_add _) rfl ?_
        refine m_of2 (f := fn) F (by omega) ?_
        refine aw_re (S' := [.int (N (24 + 5 * fn))]) rfl ?_
        refine aw_goto (npc := 70) dX8_told_32 (by decide) ?_
        refine aw_iret rfl dX8_told_70 ?_
        exact hq _ _ _ ⟨0, fun _ z => absurd z (by simp [hw1, ffn]), by simp [toV, cI, hw1, ffn]⟩ F (fun _ _ _ => rfl) am_fp0
      · refine aw_re (S' := [.int 1]) rfl ?_
        refine aw_if_ne (npc := 18) (tgt := 21) dX8_told_15 rfl (by decide) (fun _ => ?_) (fun hc => absurd hc (by decide))
        refine aw_iload_n (npc := 22) rfl dX8_told_21 rfl ?_
        refine aw_iconst (npc := 23) (v := 5) (by decide) dX8_told_22 rfl ?_
        refine aw_icmp_ge (npc := 26) (tgt := 35) dX8_told_23 rfl (by decide) (fun hc => absurd hc (by decide)) (fun _ => ?_)
        refine aw_aload_n (npc := 27) rfl dX8_told_26 rfl ?_
        refine aw_iload_n (npc := 28) rfl dX8_told_27 rfl ?_
        refine aw_iload_n (npc := 29) rfl dX8_told_28 rfl ?_
        refine aw_callV (npc := 32) (N := mX8_of) (b := 69) (mc := 0) (ms := 0) (A := [.int (nI fn), .int 3]) (S := []) (L0 := [some (.ref 69), some (.int (nI fn)), some (.int 3)]) dX8_told_29 rfl km_X8_of kk_X8_101 F.1 ⟨by decide, rfl⟩ rfl ⟨rfl, by decide⟩ rfl (Nat.le_of_ble_eq_true rfl) (Nat.zero_add _) (Nat.zero_add _) rfl ?_
        refine m_of3 (f := fn) F (by omega) ?_
        refine aw_re (S' := [.int (N (25 + 5 * fn))]) rfl ?_
        refine aw_goto (npc := 70) dX8_told_32 (by decide) ?_
        refine aw_iret rfl dX8_told_70 ?_
        exact hq _ _ _ ⟨0, fun _ z => absurd z (by simp [hw1, ffn]), by simp [toV, cI, hw1, ffn]⟩ F (fun _ _ _ => rfl) am_fp0
      · refine aw_re (S' := [.int 1]) rfl ?_
        refine aw_if_ne (npc := 18) (tgt := 21) dX8_told_15 rfl (by decide) (fun _ => ?_) (fun hc => absurd hc (by decide))
        refine aw_iload_n (npc := 22) rfl dX8_told_21 rfl ?_
        refine aw_iconst (npc := 23) (v := 5) (by decide) dX8_told_22 rfl ?_
        refine aw_icmp_ge (npc := 26) (tgt := 35) dX8_told_23 rfl (by decide) (fun hc => absurd hc (by decide)) (fun _ => ?_)
        refine aw_aload_n (npc := 27) rfl dX8_told_26 rfl ?_
        refine aw_iload_n (npc := 28) rfl dX8_told_27 rfl ?_
        refine aw_iload_n (npc := 29) rfl dX8_told_28 rfl ?_
        refine aw_callV (npc := 32) (N := mX8_of) (b := 69) (mc := 0) (ms := 0) (A := [.int (nI fn), .int 4]) (S := []) (L0 := [some (.ref 69), some (.int (nI fn)), some (.int 4)]) dX8_told_29 rfl km_X8_of kk_X8_101 F.1 ⟨by decide, rfl⟩ rfl ⟨rfl, by decide⟩ rfl (Nat.le_of_ble_eq_true rfl) (Nat.zero_add _) (Nat.zero_add _) rfl ?_
        refine m_of4 (f := fn) F (by omega) ?_
        refine aw_re (S' := [.int (N (26 + 5 * fn))]) rfl ?_
        refine aw_goto (npc := 70) dX8_told_32 (by decide) ?_
        refine aw_iret rfl dX8_told_70 ?_
        exact hq _ _ _ ⟨0, fun _ z => absurd z (by simp [hw1, ffn]), by simp [toV, cI, hw1, ffn]⟩ F (fun _ _ _ => rfl) am_fp0
      · refine aw_re (S' := [.int 1]) rfl ?_
        refine aw_if_ne (npc := 18) (tgt := 21) dX8_told_15 rfl (by decide) (fun _ => ?_) (fun hc => absurd hc (by decide))
        refine aw_iload_n (npc := 22) rfl dX8_told_21 rfl ?_
        refine aw_iconst (npc := 23) (v := 5) (by decide) dX8_told_22 rfl ?_
        refine aw_icmp_ge (npc := 26) (tgt := 35) dX8_told_23 rfl (by decide) (fun _ => ?_) (fun hc => absurd (by decide) hc)
        refine aw_iload_n (npc := 36) rfl dX8_told_35 rfl ?_
        refine aw_iconst (npc := 37) (v := 5) (by decide) dX8_told_36 rfl ?_
        refine aw_icmp_ne (npc := 40) (tgt := 48) dX8_told_37 rfl (by decide) (fun hc => absurd (by decide) hc) (fun _ => ?_)
        refine aw_aload_n (npc := 41) rfl dX8_told_40 rfl ?_
        refine aw_iload_n (npc := 42) rfl dX8_told_41 rfl ?_
        refine aw_callV (npc := 45) (N := mX8_toneOf) (b := 69) (mc := 0) (ms := 0) (A := [.int (nI fn)]) (S := []) (L0 := [some (.ref 69), some (.int (nI fn)), none, none]) dX8_told_42 rfl km_X8_toneOf kk_X8_118 F.1 ⟨by decide, rfl⟩ rfl ⟨rfl, by decide⟩ rfl (Nat.le_of_ble_eq_true rfl) (Nat.zero_add _) (Nat.zero_add _) rfl ?_
        refine m_tone (c := c) (f := fn) F hT (by omega) (hR.2.2.2.2.1 fn (by omega)).1 (fun τ3 a94 hp5 ht6 F7 ka8 fz9 => ?_)
        refine aw_re (S' := [.int τ3]) rfl ?_
        refine aw_goto (npc := 70) dX8_told_45 (by decide) ?_
        refine aw_iret rfl dX8_told_70 ?_
        exact hq _ _ _ ⟨τ3, fun _ _ => ffn.symm ▸ ht6, by simp [toV, cI, hw1, ffn]⟩ F7 ka8 (am_fpT (fun k (hk : k < 69 ∨ 92 ≤ k) => fz9 k (by omega)) am_fp0)
      · refine aw_re (S' := [.int 1]) rfl ?_
        refine aw_if_ne (npc := 18) (tgt := 21) dX8_told_15 rfl (by decide) (fun _ => ?_) (fun hc => absurd hc (by decide))
        refine aw_iload_n (npc := 22) rfl dX8_told_21 rfl ?_
        refine aw_iconst (npc := 23) (v := 5) (by decide) dX8_told_22 rfl ?_
        refine aw_icmp_ge (npc := 26) (tgt := 35) dX8_told_23 rfl (by decide) (fun _ => ?_) (fun hc => absurd (by decide) hc)
        refine aw_iload_n (npc := 36) rfl dX8_told_35 rfl ?_
        refine aw_iconst (npc := 37) (v := 5) (by decide) dX8_told_36 rfl ?_
        refine aw_icmp_ne (npc := 40) (tgt := 48) dX8_told_37 rfl (by decide) (fun _ => ?_) (fun hc => absurd hc (by decide))
        refine aw_iload_n (npc := 49) rfl dX8_told_48 rfl ?_
        refine aw_bipush (npc := 51) (v := 6) (by decide) dX8_told_49 rfl ?_
        refine aw_icmp_ne (npc := 54) (tgt := 65) dX8_told_51 rfl (by decide) (fun hc => absurd (by decide) hc) (fun _ => ?_)
        refine aw_aload_n (npc := 55) rfl dX8_told_54 rfl ?_
        refine aw_iload_n (npc := 56) rfl dX8_told_55 rfl ?_
        refine aw_callV (npc := 59) (N := mX8_termOf) (b := 69) (mc := 0) (ms := 0) (A := [.int (nI fn)]) (S := []) (L0 := [some (.ref 69), some (.int (nI fn)), none, none, none]) dX8_told_56 rfl km_X8_termOf kk_X8_121 F.1 ⟨by decide, rfl⟩ rfl ⟨rfl, by decide⟩ rfl (Nat.le_of_ble_eq_true rfl) (Nat.zero_add _) (Nat.zero_add _) rfl ?_
        refine m_term (f := fn) F (by omega) (hR.2.2.2.2.1 fn (by omega)).1 (hR.2.2.2.2.1 fn (by omega)).2.1 ?_
        refine aw_re (S' := [.int (bI (mt N fn))]) rfl ?_
        refine aw_top (y := ty N fn) (mt_ty (hR.2.2.2.2.1 fn (by omega)).1 (hR.2.2.2.2.1 fn (by omega)).2.1 hR.2.2.2.2.2.1 hR.2.2.2.2.2.2.1) ?_
        refine aw_callS (npc := 62) (N := mX8_told0) (mc := 0) (ms := 0) (A := [.int (ty N fn)]) (S := []) (L0 := [some (.int (ty N fn))]) dX8_told_59 rfl km_X8_told0 kk_X8_124 rfl ⟨rfl, by decide⟩ rfl (Nat.le_of_ble_eq_true rfl) (Nat.zero_add _) (Nat.zero_add _) rfl ?_
        refine c_X8_told0 ?_
        refine aw_re (S' := [.int (orN (ty N fn))]) rfl ?_
        refine aw_goto (npc := 70) dX8_told_62 (by decide) ?_
        refine aw_iret rfl dX8_told_70 ?_
        exact hq _ _ _ ⟨0, fun _ z => absurd z (by simp [hw1, ffn]), by simp [toV, cI, hw1, ffn]⟩ F (fun _ _ _ => rfl) am_fp0
      · refine aw_re (S' := [.int 1]) rfl ?_
        refine aw_if_ne (npc := 18) (tgt := 21) dX8_told_15 rfl (by decide) (fun _ => ?_) (fun hc => absurd hc (by decide))
        refine aw_iload_n (npc := 22) rfl dX8_told_21 rfl ?_
        refine aw_iconst (npc := 23) (v := 5) (by decide) dX8_told_22 rfl ?_
        refine aw_icmp_ge (npc := 26) (tgt := 35) dX8_told_23 rfl (by decide) (fun _ => ?_) (fun hc => absurd (by decide) hc)
        refine aw_iload_n (npc := 36) rfl dX8_told_35 rfl ?_
        refine aw_iconst (npc := 37) (v := 5) (by decide) dX8_told_36 rfl ?_
        refine aw_icmp_ne (npc := 40) (tgt := 48) dX8_told_37 rfl (by decide) (fun _ => ?_) (fun hc => absurd hc (by decide))
        refine aw_iload_n (npc := 49) rfl dX8_told_48 rfl ?_
        refine aw_bipush (npc := 51) (v := 6) (by decide) dX8_told_49 rfl ?_
        refine aw_icmp_ne (npc := 54) (tgt := 65) dX8_told_51 rfl (by decide) (fun _ => ?_) (fun hc => absurd hc (by decide))
        refine aw_aload_n (npc := 66) rfl dX8_told_65 rfl ?_
        refine aw_iload_n (npc := 67) rfl dX8_told_66 rfl ?_
        refine aw_callV (npc := 70) (N := mX8_worthOf) (b := 69) (mc := 0) (ms := 0) (A := [.int (nI fn)]) (S := []) (L0 := [some (.ref 69), some (.int (nI fn)), none]) dX8_told_67 rfl km_X8_worthOf kk_X8_127 F.1 ⟨by decide, rfl⟩ rfl ⟨rfl, by decide⟩ rfl (Nat.le_of_ble_eq_true rfl) (Nat.zero_add _) (Nat.zero_add _) rfl ?_
        refine m_worthOf (f := fn) F (by omega) (hR.2.2.2.2.1 fn (by omega)).1 ?_
        refine aw_re (S' := [.int (wort (N (22 + 5 * fn)) (N (24 + 5 * fn)))]) rfl ?_
        refine aw_iret rfl dX8_told_70 ?_
        exact hq _ _ _ ⟨0, fun _ z => absurd z (by simp [hw1, ffn]), by simp [toV, cI, hw1, ffn]⟩ F (fun _ _ _ => rfl) am_fp0
    · refine aw_re (S' := [.int 0]) rfl ?_
      refine aw_if_ne (npc := 18) (tgt := 21) dX8_told_15 rfl (by decide) (fun hc => absurd (by decide) hc) (fun _ => ?_)
      refine aw_ldc (npc := 20) kc_X8_91 dX8_told_18 rfl ?_
      refine aw_iret rfl dX8_told_20 ?_
      exact hq _ _ _ ⟨0, fun _ z => absurd z (by simp [hw1, hw2, ffn, nwi_1 hw2 (k := 0) ⟨by decide, by decide⟩, nwi_1 hw2 (k := 1) ⟨by decide, by decide⟩, nwi_1 hw2 (k := 2) ⟨by decide, by decide⟩, nwi_1 hw2 (k := 3) ⟨by decide, by decide⟩, nwi_1 hw2 (k := 4) ⟨by decide, by decide⟩, nwi_1 hw2 (k := 5) ⟨by decide, by decide⟩, nwi_1 hw2 (k := 6) ⟨by decide, by decide⟩, nwi_1 hw2 (k := 7) ⟨by decide, by decide⟩]), by simp [toV, cI, hw1, hw2, ffn, nwi_1 hw2 (k := 0) ⟨by decide, by decide⟩, nwi_1 hw2 (k := 1) ⟨by decide, by decide⟩, nwi_1 hw2 (k := 2) ⟨by decide, by decide⟩, nwi_1 hw2 (k := 3) ⟨by decide, by decide⟩, nwi_1 hw2 (k := 4) ⟨by decide, by decide⟩, nwi_1 hw2 (k := 5) ⟨by decide, by decide⟩, nwi_1 hw2 (k := 6) ⟨by decide, by decide⟩, nwi_1 hw2 (k := 7) ⟨by decide, by decide⟩]⟩ F (fun _ _ _ => rfl) am_fp0
  · refine aw_re (S' := [.int 0]) rfl ?_
    refine aw_if_eq (npc := 8) (tgt := 18) dX8_told_5 rfl (by decide) (fun _ => ?_) (fun hc => absurd (by decide) hc)
    refine aw_ldc (npc := 20) kc_X8_91 dX8_told_18 rfl ?_
    refine aw_iret rfl dX8_told_20 ?_
    exact hq _ _ _ ⟨0, fun z _ => absurd z hw1, by simp [toV, cI, hw1]⟩ F (fun _ _ _ => rfl) am_fp0
noncomputable def whC (lk : Nat → Int32) (k : Int32) : Int32 := cI (wi k 0 2) (orN (lk (fN k))) (-1000000001)
noncomputable def whM (N : Nat → Int32) (c : Nat) (k : Int32) : Int32 := cI (wi k 0 2) (orN (bI (cntM k N c))) (-1000000001)
set_option maxHeartbeats 4000000 in
set_option maxRecDepth 100000 in
theorem C_why {X : List Int32} {d rc rs n : Nat} {Q : am_Q} {h : am_H} {N : Nat → Int32} {tx : List Value} {lk mv : Nat → Int32} {ik wc : Int32} {fr c : Nat} {k : Int32} (O : OB ik wc h) (F : QR 1 N tx lk mv h) (hq : Q (some (.int (whC lk k))) n h) : AW X mX7_why (d + 12) rc rs 0 [some (.ref 0), some (.int k)] [] n h Q := by
  refine aw_iload_n (npc := 1) rfl dX7_why_0 rfl ?_
  refine aw_iconst (npc := 2) (v := 0) (by decide) dX7_why_1 rfl ?_
  refine aw_iconst (npc := 3) (v := 2) (by decide) dX7_why_2 rfl ?_
  refine aw_callS (npc := 6) (N := mX7_within) (mc := 0) (ms := 0) (A := [.int k, .int 0, .int 2]) (S := []) (L0 := [some (.int k), some (.int 0), some (.int 2)]) dX7_why_3 rfl km_X7_within kk_X7_74 rfl ⟨rfl, by decide⟩ rfl (Nat.le_of_ble_eq_true rfl) (Nat.zero_add _) (Nat.zero_add _) rfl ?_
  refine c_X7_within (fun hw1 => ?_) (fun hw1 => ?_)
  · obtain ⟨kn, hkn, ekn⟩ := wi_nI (H := 2) (by decide) (by decide) hw1
    subst ekn
    have fkn : fN (nI kn) = kn := fN_nI (by omega)
    refine aw_re (S' := [.int 1]) rfl ?_
    refine aw_if_ne (npc := 9) (tgt := 12) dX7_why_6 rfl (by decide) (fun _ => ?_) (fun hc => absurd hc (by decide))
    refine aw_aload_n (npc := 13) rfl dX7_why_12 rfl ?_
    refine aw_get (npc := 16) dX7_why_13 rfl kf_X7_10 O.1 rfl ?_
    refine aw_get (npc := 19) dX7_why_16 rfl kf_X7_267 F.1 rfl ?_
    refine aw_iload_n (npc := 20) rfl dX7_why_19 rfl ?_
    refine aw_iald (npc := 21) (x := lk kn) (j := kn) dX7_why_20 rfl F.2.2.2.2.2.2.2.2.2.2.1 (am_ix_nI (by omega)) (tl_at (by omega)) ?_
    refine aw_callS (npc := 24) (N := mX7_orNone) (mc := 0) (ms := 0) (A := [.int (lk kn)]) (S := []) (L0 := [some (.int (lk kn))]) dX7_why_21 rfl km_X7_orNone kk_X7_112 rfl ⟨rfl, by decide⟩ rfl (Nat.le_of_ble_eq_true rfl) (Nat.zero_add _) (Nat.zero_add _) rfl ?_
    refine c_X7_orNone ?_
    refine aw_re (S' := [.int (orN (lk kn))]) rfl ?_
    refine aw_iret rfl dX7_why_24 ?_
    exact (show whC lk (nI kn) = (orN (lk kn)) by simp [whC, cI, hw1, fkn]) ▸ hq
  · refine aw_re (S' := [.int 0]) rfl ?_
    refine aw_if_ne (npc := 9) (tgt := 12) dX7_why_6 rfl (by decide) (fun hc => absurd (by decide) hc) (fun _ => ?_)
    refine aw_ldc (npc := 11) kc_X7_78 dX7_why_9 rfl ?_
    refine aw_iret rfl dX7_why_11 ?_
    exact (show whC lk k = (-1000000001) by simp [whC, cI, hw1]) ▸ hq
set_option maxHeartbeats 4000000 in
set_option maxRecDepth 100000 in
theorem M_why {X : List Int32} {d rc rs n : Nat} {Q : am_Q} {h : am_H} {o N : Nat → Int32} {a : Nat → Nat → Int32} {fr c : Nat} {k : Int32} (F : MR o N a h) (hR : RG N fr c) (hq : Q (some (.int (whM N c k))) n h) : AW X mX8_why (d + 12) rc rs 0 [some (.ref 69), some (.int k), none] [] n h Q := by
  have h8r := hR.2.1
  have h14r := hR.2.2.2.1
  refine aw_iload_n (npc := 1) rfl dX8_why_0 rfl ?_
  refine aw_iconst (npc := 2) (v := 0) (by decide) dX8_why_1 rfl ?_
  refine aw_iconst (npc := 3) (v := 2) (by decide) dX8_why_2 rfl ?_
  refine aw_callS (npc := 6) (N := mX8_in) (mc := 0) (ms := 0) (A := [.int k, .int 0, .int 2]) (S := []) (L0 := [some (.int k), some (.int 0), some (.int 2)]) dX8_why_3 rfl km_X8_in kk_X8_83 rfl ⟨rfl, by decide⟩ rfl (Nat.le_of_ble_eq_true rfl) (Nat.zero_add _) (Nat.zero_add _) rfl ?_
  refine c_X8_in (fun hw1 => ?_) (fun hw1 => ?_)
  · refine aw_re (S' := [.int 1]) rfl ?_
    refine aw_if_ne (npc := 9) (tgt := 12) dX8_why_6 rfl (by decide) (fun _ => ?_) (fun hc => absurd hc (by decide))
    refine aw_aload_n (npc := 13) rfl dX8_why_12 rfl ?_
    refine aw_iload_n (npc := 14) rfl dX8_why_13 rfl ?_
    refine aw_callV (npc := 17) (N := mX8_counts) (b := 69) (mc := 0) (ms := 0) (A := [.int k]) (S := []) (L0 := [some (.ref 69), some (.int k), none]) dX8_why_14 rfl km_X8_counts kk_X8_97 F.1 ⟨by decide, rfl⟩ rfl ⟨rfl, by decide⟩ rfl (Nat.le_of_ble_eq_true rfl) (Nat.zero_add _) (Nat.zero_add _) rfl ?_
    refine m_counts (key := k) (c := c) F hR.2.2.1 h14r ?_
    refine aw_re (S' := [.int (bI (cntM k N c))]) rfl ?_
    refine aw_istore_n (npc := 18) (L' := [some (.ref 69), some (.int k), some (.int (bI (cntM k N c)))]) dX8_why_17 rfl (by decide) rfl rfl ?_
    refine aw_iload_n (npc := 19) rfl dX8_why_18 rfl ?_
    refine aw_if_ge (npc := 22) (tgt := 27) dX8_why_19 rfl (by decide) (fun hc2 => ?_) (fun hc2 => ?_)
    · refine aw_iload_n (npc := 28) rfl dX8_why_27 rfl ?_
      refine aw_iret rfl dX8_why_28 ?_
      exact (show whM N c k = (bI (cntM k N c)) by simp [whM, orN, cI, hw1, Int32.not_lt.mpr hc2]) ▸ hq
    · refine aw_ldc (npc := 24) kc_X8_82 dX8_why_22 rfl ?_
      refine aw_goto (npc := 28) dX8_why_24 (by decide) ?_
      refine aw_iret rfl dX8_why_28 ?_
      exact (show whM N c k = (-1000000005) by simp [whM, orN, cI, hw1, Int32.not_le.mp hc2]) ▸ hq
  · refine aw_re (S' := [.int 0]) rfl ?_
    refine aw_if_ne (npc := 9) (tgt := 12) dX8_why_6 rfl (by decide) (fun hc => absurd (by decide) hc) (fun _ => ?_)
    refine aw_ldc (npc := 11) kc_X8_91 dX8_why_9 rfl ?_
    refine aw_iret rfl dX8_why_11 ?_
    exact (show whM N c k = (-1000000001) by simp [whM, orN, cI, hw1]) ▸ hq
noncomputable def ttM (N : Nat → Int32) (t w : Int32) : Int32 := cI (wi t 0 (N 7 - 1) ∧ wi w 0 1) (cI (w = 0) (N (62 + 2 * fN t) / 1000) (N (63 + 2 * fN t))) (-1000000001)
set_option maxHeartbeats 4000000 in
set_option maxRecDepth 100000 in
theorem C_textTold {X : List Int32} {d rc rs n : Nat} {Q : am_Q} {h : am_H} {N : Nat → Int32} {tx : List Value} {lk mv : Nat → Int32} {ik wc : Int32} {fr c : Nat} {t : Int32} {w : Int32} {tb : TB} (O : OB ik wc h) (F : QR 1 N tx lk mv h) (G : TT tb h) (hR : RG N fr c) (hv : TXv tb.1 c tx) (hq : ∀ v9, ((¬ (wi t 0 (N 7 - 1) ∧ wi w 0 1) ∧ v9 = (-1000000001)) ∨ (∃ j a, wi t 0 (N 7 - 1) ∧ wi w 0 1 ∧ t = nI j ∧ j < c ∧ a < tb.1 ∧ tx[j]? = some (.ref (92 + 3 * a)) ∧ v9 = cI (w = 0) (tb.2.1 a) (tb.2.2.1 a))) → Q (some (.int v9)) n h) : AW X mX7_textTold (d + 12) rc rs 0 [some (.ref 0), some (.int t), some (.int w), none] [] n h Q := by
  have h8r := hR.2.1
  have h14r := hR.2.2.2.1
  refine aw_iload_n (npc := 1) rfl dX7_textTold_0 rfl ?_
  refine aw_iconst (npc := 2) (v := 0) (by decide) dX7_textTold_1 rfl ?_
  refine aw_aload_n (npc := 3) rfl dX7_textTold_2 rfl ?_
  refine aw_get (npc := 6) dX7_textTold_3 rfl kf_X7_10 O.1 rfl ?_
  refine aw_get (npc := 9) dX7_textTold_6 rfl kf_X7_246 F.1 rfl ?_
  refine aw_iconst (npc := 10) (v := 1) (by decide) dX7_textTold_9 rfl ?_
  refine aw_isub (npc := 11) dX7_textTold_10 rfl ?_
  refine aw_callS (npc := 14) (N := mX7_within) (mc := 0) (ms := 0) (A := [.int t, .int 0, .int ((N 7) - 1)]) (S := []) (L0 := [some (.int t), some (.int 0), some (.int ((N 7) - 1))]) dX7_textTold_11 rfl km_X7_within kk_X7_74 rfl ⟨rfl, by decide⟩ rfl (Nat.le_of_ble_eq_true rfl) (Nat.zero_add _) (Nat.zero_add _) rfl ?_
  refine c_X7_within (fun hw1 => ?_) (fun hw1 => ?_)
  · obtain ⟨tn, htn, etn⟩ := wi_idx hR.2.2.1 (by omega) hw1
    subst etn
    have ftn : fN (nI tn) = tn := fN_nI (by omega)
    refine aw_re (S' := [.int 1]) rfl ?_
    refine aw_if_eq (npc := 17) (tgt := 26) dX7_textTold_14 rfl (by decide) (fun hc => absurd hc (by decide)) (fun _ => ?_)
    refine aw_iload_n (npc := 18) rfl dX7_textTold_17 rfl ?_
    refine aw_iconst (npc := 19) (v := 0) (by decide) dX7_textTold_18 rfl ?_
    refine aw_iconst (npc := 20) (v := 1) (by decide) dX7_textTold_19 rfl ?_
    refine aw_callS (npc := 23) (N := mX7_within) (mc := 0) (ms := 0) (A := [.int w, .int 0, .int 1]) (S := []) (L0 := [some (.int w), some (.int 0), some (.int 1)]) dX7_textTold_20 rfl km_X7_within kk_X7_74 rfl ⟨rfl, by decide⟩ rfl (Nat.le_of_ble_eq_true rfl) (Nat.zero_add _) (Nat.zero_add _) rfl ?_
    refine c_X7_within (fun hw2 => ?_) (fun hw2 => ?_)
    · refine aw_re (S' := [.int 1]) rfl ?_
      refine aw_if_ne (npc := 26) (tgt := 29) dX7_textTold_23 rfl (by decide) (fun _ => ?_) (fun hc => absurd hc (by decide))
      refine aw_aload_n (npc := 30) rfl dX7_textTold_29 rfl ?_
      refine aw_get (npc := 33) dX7_textTold_30 rfl kf_X7_10 O.1 rfl ?_
      refine aw_get (npc := 36) dX7_textTold_33 rfl kf_X7_257 F.1 rfl ?_
      refine aw_iload_n (npc := 37) rfl dX7_textTold_36 rfl ?_
      obtain ⟨a, ha, hta⟩ := hv.2.2.2 tn htn
      refine aw_aald (npc := 38) (j := tn) dX7_textTold_37 rfl (by decide) F.2.2.2.2.2.2.2.2.2.1 (am_ix_nI (by omega)) hta ?_
      refine aw_astore_n (npc := 39) (L' := [some (.ref 0), some (.int (nI tn)), some (.int w), some (.ref (92 + 3 * a))]) dX7_textTold_38 rfl (by decide) rfl rfl ?_
      refine aw_aload_n (npc := 40) rfl dX7_textTold_39 rfl ?_
      refine aw_ifnonnull (npc := 46) dX7_textTold_40 (by decide) ?_
      refine aw_iload_n (npc := 47) rfl dX7_textTold_46 rfl ?_
      refine aw_if_ne (npc := 50) (tgt := 57) dX7_textTold_47 rfl (by decide) (fun hc3 => ?_) (fun hc3 => ?_)
      · refine aw_aload_n (npc := 58) rfl dX7_textTold_57 rfl ?_
        refine aw_get (npc := 61) dX7_textTold_58 rfl kf_X7_264 (G a ha).1 rfl ?_
        refine aw_iret rfl dX7_textTold_61 ?_
        exact hq _ (Or.inr ⟨tn, a, hw1, by first | exact hw2 | (unfold wi; decide), rfl, htn, ha, hta, by simp [cI, hw1, hw2, hc3, ftn]⟩)
      · refine aw_aload_n (npc := 51) rfl dX7_textTold_50 rfl ?_
        refine aw_get (npc := 54) dX7_textTold_51 rfl kf_X7_261 (G a ha).1 rfl ?_
        refine aw_goto (npc := 61) dX7_textTold_54 (by decide) ?_
        refine aw_iret rfl dX7_textTold_61 ?_
        exact hq _ (Or.inr ⟨tn, a, hw1, by first | exact hw2 | (unfold wi; decide), rfl, htn, ha, hta, by simp [cI, hw1, hw2, hc3, ftn]⟩)
    · refine aw_re (S' := [.int 0]) rfl ?_
      refine aw_if_ne (npc := 26) (tgt := 29) dX7_textTold_23 rfl (by decide) (fun hc => absurd (by decide) hc) (fun _ => ?_)
      refine aw_ldc (npc := 28) kc_X7_78 dX7_textTold_26 rfl ?_
      refine aw_iret rfl dX7_textTold_28 ?_
      exact hq _ (Or.inl ⟨by simp [hw1, hw2, ftn], rfl⟩)
  · refine aw_re (S' := [.int 0]) rfl ?_
    refine aw_if_eq (npc := 17) (tgt := 26) dX7_textTold_14 rfl (by decide) (fun _ => ?_) (fun hc => absurd (by decide) hc)
    refine aw_ldc (npc := 28) kc_X7_78 dX7_textTold_26 rfl ?_
    refine aw_iret rfl dX7_textTold_28 ?_
    exact hq _ (Or.inl ⟨by simp [hw1], rfl⟩)
set_option maxHeartbeats 4000000 in
set_option maxRecDepth 100000 in
theorem M_textTold {X : List Int32} {d rc rs n : Nat} {Q : am_Q} {h : am_H} {o N : Nat → Int32} {a : Nat → Nat → Int32} {fr c : Nat} {t : Int32} {w : Int32} (F : MR o N a h) (hR : RG N fr c) (hq : Q (some (.int (ttM N t w))) n h) : AW X mX8_textTold (d + 12) rc rs 0 [some (.ref 69), some (.int t), some (.int w)] [] n h Q := by
  have h8r := hR.2.1
  have h14r := hR.2.2.2.1
  refine aw_iload_n (npc := 1) rfl dX8_textTold_0 rfl ?_
  refine aw_iconst (npc := 2) (v := 0) (by decide) dX8_textTold_1 rfl ?_
  refine aw_aload_n (npc := 3) rfl dX8_textTold_2 rfl ?_
  refine aw_get (npc := 6) dX8_textTold_3 rfl kf_X8_9 F.1 rfl ?_
  refine aw_bipush (npc := 8) (v := 7) (by decide) dX8_textTold_6 rfl ?_
  refine aw_iald (npc := 9) (x := N 7) (j := 7) dX8_textTold_8 rfl F.2.1 ⟨by decide, by decide⟩ (tl_at (by omega)) ?_
  refine aw_iconst (npc := 10) (v := 1) (by decide) dX8_textTold_9 rfl ?_
  refine aw_isub (npc := 11) dX8_textTold_10 rfl ?_
  refine aw_callS (npc := 14) (N := mX8_in) (mc := 0) (ms := 0) (A := [.int t, .int 0, .int ((N 7) - 1)]) (S := []) (L0 := [some (.int t), some (.int 0), some (.int ((N 7) - 1))]) dX8_textTold_11 rfl km_X8_in kk_X8_83 rfl ⟨rfl, by decide⟩ rfl (Nat.le_of_ble_eq_true rfl) (Nat.zero_add _) (Nat.zero_add _) rfl ?_
  refine c_X8_in (fun hw1 => ?_) (fun hw1 => ?_)
  · obtain ⟨tn, htn, etn⟩ := wi_idx hR.2.2.1 (by omega) hw1
    subst etn
    have ftn : fN (nI tn) = tn := fN_nI (by omega)
    refine aw_re (S' := [.int 1]) rfl ?_
    refine aw_if_eq (npc := 17) (tgt := 26) dX8_textTold_14 rfl (by decide) (fun hc => absurd hc (by decide)) (fun _ => ?_)
    refine aw_iload_n (npc := 18) rfl dX8_textTold_17 rfl ?_
    refine aw_iconst (npc := 19) (v := 0) (by decide) dX8_textTold_18 rfl ?_
    refine aw_iconst (npc := 20) (v := 1) (by decide) dX8_textTold_19 rfl ?_
    refine aw_callS (npc := 23) (N := mX8_in) (mc := 0) (ms := 0) (A := [.int w, .int 0, .int 1]) (S := []) (L0 := [some (.int w), some (.int 0), some (.int 1)]) dX8_textTold_20 rfl km_X8_in kk_X8_83 rfl ⟨rfl, by decide⟩ rfl (Nat.le_of_ble_eq_true rfl) (Nat.zero_add _) (Nat.zero_add _) rfl ?_
    refine c_X8_in (fun hw2 => ?_) (fun hw2 => ?_)
    · refine aw_re (S' := [.int 1]) rfl ?_
      refine aw_if_ne (npc := 26) (tgt := 29) dX8_textTold_23 rfl (by decide) (fun _ => ?_) (fun hc => absurd hc (by decide))
      refine aw_iload_n (npc := 30) rfl dX8_textTold_29 rfl ?_
      refine aw_if_ne (npc := 33) (tgt := 51) dX8_textTold_30 rfl (by decide) (fun hc3 => ?_) (fun hc3 => ?_)
      · refine aw_aload_n (npc := 52) rfl dX8_textTold_51 rfl ?_
        refine aw_get (npc := 55) dX8_textTold_52 rfl kf_X8_9 F.1 rfl ?_
        refine aw_bipush (npc := 57) (v := 62) (by decide) dX8_textTold_55 rfl ?_
        refine aw_iconst (npc := 58) (v := 2) (by decide) dX8_textTold_57 rfl ?_
        refine aw_iload_n (npc := 59) rfl dX8_textTold_58 rfl ?_
        refine aw_imulV (npc := 60) (v := nI (2 * tn)) dX8_textTold_59 rfl (pk_mul 2 _) ?_
        refine aw_iaddV (npc := 61) (v := nI (62 + (2 * tn))) dX8_textTold_60 rfl (nI_add 62 _) ?_
        refine aw_iconst (npc := 62) (v := 1) (by decide) dX8_textTold_61 rfl ?_
        refine aw_iaddV (npc := 63) (v := nI (63 + (2 * tn))) dX8_textTold_62 rfl ((nI_add _ 1).trans (congrArg nI (by omega))) ?_
        refine aw_iald (npc := 64) (x := N (63 + (2 * tn))) (j := (63 + (2 * tn))) dX8_textTold_63 rfl F.2.1 (am_ix_nI (by omega)) (tl_at (by omega)) ?_
        refine aw_iret rfl dX8_textTold_64 ?_
        exact (show ttM N (nI tn) w = (N (63 + (2 * tn))) by simp [ttM, cI, hw1, hw2, hc3, ftn, Nat.add_right_comm]) ▸ hq
      · subst hc3
        refine aw_aload_n (npc := 34) rfl dX8_textTold_33 rfl ?_
        refine aw_get (npc := 37) dX8_textTold_34 rfl kf_X8_9 F.1 rfl ?_
        refine aw_bipush (npc := 39) (v := 62) (by decide) dX8_textTold_37 rfl ?_
        refine aw_iconst (npc := 40) (v := 2) (by decide) dX8_textTold_39 rfl ?_
        refine aw_iload_n (npc := 41) rfl dX8_textTold_40 rfl ?_
        refine aw_imulV (npc := 42) (v := nI (2 * tn)) dX8_textTold_41 rfl (pk_mul 2 _) ?_
        refine aw_iaddV (npc := 43) (v := nI (62 + (2 * tn))) dX8_textTold_42 rfl (nI_add 62 _) ?_
        refine aw_iald (npc := 44) (x := N (62 + (2 * tn))) (j := (62 + (2 * tn))) dX8_textTold_43 rfl F.2.1 (am_ix_nI (by omega)) (tl_at (by omega)) ?_
        refine aw_sipush (npc := 47) (v := 1000) (by decide) dX8_textTold_44 rfl ?_
        refine aw_idiv (npc := 48) (by decide) dX8_textTold_47 rfl ?_
        refine aw_goto (npc := 64) dX8_textTold_48 (by decide) ?_
        refine aw_iret rfl dX8_textTold_64 ?_
        exact (show ttM N (nI tn) 0 = ((N (62 + (2 * tn))) / 1000) by simp [ttM, cI, hw1, hw2, ftn, Nat.add_right_comm]) ▸ hq
    · refine aw_re (S' := [.int 0]) rfl ?_
      refine aw_if_ne (npc := 26) (tgt := 29) dX8_textTold_23 rfl (by decide) (fun hc => absurd (by decide) hc) (fun _ => ?_)
      refine aw_ldc (npc := 28) kc_X8_91 dX8_textTold_26 rfl ?_
      refine aw_iret rfl dX8_textTold_28 ?_
      exact (show ttM N (nI tn) w = (-1000000001) by simp [ttM, cI, hw1, hw2, ftn, Nat.add_right_comm]) ▸ hq
  · refine aw_re (S' := [.int 0]) rfl ?_
    refine aw_if_eq (npc := 17) (tgt := 26) dX8_textTold_14 rfl (by decide) (fun _ => ?_) (fun hc => absurd (by decide) hc)
    refine aw_ldc (npc := 28) kc_X8_91 dX8_textTold_26 rfl ?_
    refine aw_iret rfl dX8_textTold_28 ?_
    exact (show ttM N t w = (-1000000001) by simp [ttM, cI, hw1, Nat.add_right_comm]) ▸ hq
noncomputable def teV (q : Nat) : Int32 := cI (q < 60) (nI (q + 1)) (-1000000003)
set_option maxHeartbeats 4000000 in
set_option maxRecDepth 100000 in
theorem C_tell {X : List Int32} {d rc rs n : Nat} {Q : am_Q} {h : am_H} {N : Nat → Int32} {tx : List Value} {lk mv : Nat → Int32} {ik wc : Int32} {fr c : Nat} {v : Int32} {wt : Nat → Int32} {q : Nat} (O : OB ik wc h) (Wt : WT wt h) (hq9 : wc = nI q) (hq60 : q ≤ 60) (k1 : q = 60 → Q (some (.int (-1000000003))) n h) (k0 : q < 60 → ∀ h9, OB ik (nI (q + 1)) h9 → WT (upd wt q v) h9 → am_fp (fun k => k ≠ 0 ∧ k ≠ 45) h9 h → Q (some (.int (nI (q + 1)))) n h9) : AW X mX7_tell (d + 12) rc rs 0 [some (.ref 0), some (.int v)] [] n h Q := by
  refine aw_aload_n (npc := 1) rfl dX7_tell_0 rfl ?_
  refine aw_get (npc := 4) dX7_tell_1 rfl kf_X7_61 O.1 rfl ?_
  refine aw_top (y := nI q) (hq9) ?_
  refine aw_bipush (npc := 6) (v := 60) (by decide) dX7_tell_4 rfl ?_
  refine aw_icmp_lt (npc := 9) (tgt := 12) dX7_tell_6 rfl (by decide) (fun hc1 => ?_) (fun hc1 => ?_)
  · have hc1N := (nI_ltI (a := q) (b := 60) (by omega) (by omega)).mp hc1
    refine aw_aload_n (npc := 13) rfl dX7_tell_12 rfl ?_
    refine aw_get (npc := 16) dX7_tell_13 rfl kf_X7_57 O.1 rfl ?_
    refine aw_aload_n (npc := 17) rfl dX7_tell_16 rfl ?_
    refine aw_get (npc := 20) dX7_tell_17 rfl kf_X7_61 O.1 rfl ?_
    refine aw_top (y := nI q) (hq9) ?_
    refine aw_iload_n (npc := 21) rfl dX7_tell_20 rfl ?_
    refine aw_iast (npc := 22) (j := q) dX7_tell_21 rfl Wt (am_ix_nI (by omega)) (by rw [tl_len]; omega) rfl ?_
    have Wt2 := wt_set (j := q) (v := v) Wt
    have O3 := ob_out (a := 45) (c := .inl (0, (tl 60 wt).set q v)) (by omega) O
    refine aw_aload_n (npc := 23) rfl dX7_tell_22 rfl ?_
    refine aw_dup (npc := 24) rfl dX7_tell_23 rfl ?_
    refine aw_get (npc := 27) dX7_tell_24 rfl kf_X7_61 O3.1 rfl ?_
    refine aw_top (y := nI q) (hq9) ?_
    refine aw_iconst (npc := 28) (v := 1) (by decide) dX7_tell_27 rfl ?_
    refine aw_iaddV (npc := 29) (v := nI (q + 1)) dX7_tell_28 rfl (nI_add _ 1) ?_
    refine aw_put (npc := 32) dX7_tell_29 rfl kf_X7_61 O3.1 (Nat.le_of_ble_eq_true rfl) (am_ok_int _) rfl ?_
    have O4 := ob_p10 (v := nI (q + 1)) O3
    have Wt5 := wt_out (a := 0) (c := .inr (7, ([.ref 1, .ref 13, .ref 25, .int ik, .ref 37, .ref 39, .ref 40, .ref 43, .ref 44, .ref 45, .int wc] : List Value).set 10 (.int (nI (q + 1))))) (by omega) Wt2
    refine aw_aload_n (npc := 33) rfl dX7_tell_32 rfl ?_
    refine aw_get (npc := 36) dX7_tell_33 rfl kf_X7_61 O4.1 rfl ?_
    refine aw_iret rfl dX7_tell_36 ?_
    exact k0 (by omega) _ O4 Wt5 (am_fpU (show ¬ (0 ≠ 0 ∧ 0 ≠ 45) by omega) (am_fpU (show ¬ (45 ≠ 0 ∧ 45 ≠ 45) by omega) am_fp0))
  · have hc1N : ¬ q < 60 := fun z => hc1 ((nI_ltI (a := q) (b := 60) (by omega) (by omega)).mpr z)
    refine aw_ldc (npc := 11) kc_X7_82 dX7_tell_9 rfl ?_
    refine aw_iret rfl dX7_tell_11 ?_
    exact k1 (by omega)
set_option maxHeartbeats 4000000 in
set_option maxRecDepth 100000 in
theorem M_tell {X : List Int32} {d rc rs n : Nat} {Q : am_Q} {h : am_H} {o N : Nat → Int32} {a : Nat → Nat → Int32} {fr c : Nat} {v : Int32} {q : Nat} (F : MR o N a h) (hq9 : o 35 = nI q) (hq60 : q ≤ 60) (k1 : q = 60 → Q (some (.int (-1000000003))) n h) (k0 : q < 60 → ∀ h9, MR (upd o 35 (nI (q + 1))) N (aup a 91 q v) h9 → am_fp (fun k => k < 69 ∨ 92 ≤ k) h9 h → Q (some (.int (nI (q + 1)))) n h9) : AW X mX8_tell (d + 12) rc rs 0 [some (.ref 69), some (.int v)] [] n h Q := by
  refine aw_aload_n (npc := 1) rfl dX8_tell_0 rfl ?_
  refine aw_get (npc := 4) dX8_tell_1 rfl kf_X8_266 F.1 rfl ?_
  refine aw_top (y := nI q) (hq9) ?_
  refine aw_bipush (npc := 6) (v := 60) (by decide) dX8_tell_4 rfl ?_
  refine aw_icmp_ne (npc := 9) (tgt := 12) dX8_tell_6 rfl (by decide) (fun hc1 => ?_) (fun hc1 => ?_)
  · have hc1N : ¬ q = 60 := fun z => hc1 ((nI_eq (a := q) (b := 60) (by omega) (by omega)).mpr z)
    refine aw_aload_n (npc := 13) rfl dX8_tell_12 rfl ?_
    refine aw_get (npc := 16) dX8_tell_13 rfl kf_X8_79 F.1 rfl ?_
    refine aw_aload_n (npc := 17) rfl dX8_tell_16 rfl ?_
    refine aw_get (npc := 20) dX8_tell_17 rfl kf_X8_266 F.1 rfl ?_
    refine aw_top (y := nI q) (hq9) ?_
    refine aw_iload_n (npc := 21) rfl dX8_tell_20 rfl ?_
    refine aw_iast (npc := 22) (j := q) dX8_tell_21 rfl F.2.2.2.2.2.2.2.2.2.2.2.2.2.2.2.2.2.2.2.2.2.2 (am_ix_nI (by omega)) (by rw [tl_len]; omega) rfl ?_
    have F2 := mr_91 (j := q) (v := v) F
    refine aw_aload_n (npc := 23) rfl dX8_tell_22 rfl ?_
    refine aw_dup (npc := 24) rfl dX8_tell_23 rfl ?_
    refine aw_get (npc := 27) dX8_tell_24 rfl kf_X8_266 F2.1 rfl ?_
    refine aw_top (y := nI q) (hq9) ?_
    refine aw_iconst (npc := 28) (v := 1) (by decide) dX8_tell_27 rfl ?_
    refine aw_iaddV (npc := 29) (v := nI (q + 1)) dX8_tell_28 rfl (nI_add _ 1) ?_
    refine aw_put (npc := 32) dX8_tell_29 rfl kf_X8_266 F2.1 (Nat.le_of_ble_eq_true rfl) (am_ok_int _) rfl ?_
    have F3 := mr_o35 (v := nI (q + 1)) F2
    refine aw_aload_n (npc := 33) rfl dX8_tell_32 rfl ?_
    refine aw_get (npc := 36) dX8_tell_33 rfl kf_X8_266 F3.1 rfl ?_
    refine aw_top (y := nI (q + 1)) (pk_us) ?_
    refine aw_iret rfl dX8_tell_36 ?_
    exact k0 (by omega) _ F3 (am_fpU (show ¬ (69 < 69 ∨ 92 ≤ 69) by omega) (am_fpU (show ¬ (91 < 69 ∨ 92 ≤ 91) by omega) am_fp0))
  · have hc1N := (nI_eq (a := q) (b := 60) (by omega) (by omega)).mp hc1
    refine aw_ldc (npc := 11) kc_X8_92 dX8_tell_9 rfl ?_
    refine aw_iret rfl dX8_tell_11 ?_
    exact k1 (by omega)
set_option maxHeartbeats 4000000 in
set_option maxRecDepth 100000 in
theorem C_trim {X : List Int32} {d rc rs n : Nat} {Q : am_Q} {h : am_H} {N : Nat → Int32} {tx : List Value} {lk mv : Nat → Int32} {ik wc : Int32} {fr c : Nat} {v : Int32} {r tp cd : Nat → Int32} {tn : Int32} (O : OB ik wc h) (Rd : RD r tn tp cd h) (k1 : ¬ wi v 0 tn → Q (some (.int (-1000000001))) n h) (k0 : wi v 0 tn → ∀ h9, RD r v tp cd h9 → am_fp (fun k => k ≠ 40) h9 h → Q (some (.int v)) n h9) : AW X mX7_trim (d + 12) rc rs 0 [some (.ref 0), some (.int v)] [] n h Q := by
  refine aw_iload_n (npc := 1) rfl dX7_trim_0 rfl ?_
  refine aw_iconst (npc := 2) (v := 0) (by decide) dX7_trim_1 rfl ?_
  refine aw_aload_n (npc := 3) rfl dX7_trim_2 rfl ?_
  refine aw_get (npc := 6) dX7_trim_3 rfl kf_X7_44 O.1 rfl ?_
  refine aw_get (npc := 9) dX7_trim_6 rfl kf_X7_234 Rd.2.1 rfl ?_
  refine aw_callS (npc := 12) (N := mX7_within) (mc := 0) (ms := 0) (A := [.int v, .int 0, .int tn]) (S := []) (L0 := [some (.int v), some (.int 0), some (.int tn)]) dX7_trim_9 rfl km_X7_within kk_X7_74 rfl ⟨rfl, by decide⟩ rfl (Nat.le_of_ble_eq_true rfl) (Nat.zero_add _) (Nat.zero_add _) rfl ?_
  refine c_X7_within (fun hw1 => ?_) (fun hw1 => ?_)
  · refine aw_re (S' := [.int 1]) rfl ?_
    refine aw_if_ne (npc := 15) (tgt := 18) dX7_trim_12 rfl (by decide) (fun _ => ?_) (fun hc => absurd hc (by decide))
    refine aw_aload_n (npc := 19) rfl dX7_trim_18 rfl ?_
    refine aw_get (npc := 22) dX7_trim_19 rfl kf_X7_44 O.1 rfl ?_
    refine aw_iload_n (npc := 23) rfl dX7_trim_22 rfl ?_
    refine aw_put (npc := 26) dX7_trim_23 rfl kf_X7_234 Rd.2.1 (Nat.le_of_ble_eq_true rfl) (am_ok_int _) rfl ?_
    have Rd2 := rd_len (v := v) Rd
    have O3 := ob_out (a := 40) (c := .inr (4, ([.ref 41, .int tn] : List Value).set 1 (.int v))) (by omega) O
    refine aw_iload_n (npc := 27) rfl dX7_trim_26 rfl ?_
    refine aw_iret rfl dX7_trim_27 ?_
    exact k0 hw1 _ Rd2 (am_fpU (show ¬ (40 ≠ 40) by omega) am_fp0)
  · refine aw_re (S' := [.int 0]) rfl ?_
    refine aw_if_ne (npc := 15) (tgt := 18) dX7_trim_12 rfl (by decide) (fun hc => absurd (by decide) hc) (fun _ => ?_)
    refine aw_ldc (npc := 17) kc_X7_78 dX7_trim_15 rfl ?_
    refine aw_iret rfl dX7_trim_17 ?_
    exact k1 hw1
set_option maxHeartbeats 4000000 in
set_option maxRecDepth 100000 in
theorem M_trim {X : List Int32} {d rc rs n : Nat} {Q : am_Q} {h : am_H} {o N : Nat → Int32} {a : Nat → Nat → Int32} {fr c : Nat} {v : Int32} (F : MR o N a h) (k1 : ¬ wi v 0 (o 9) → Q (some (.int (-1000000001))) n h) (k0 : wi v 0 (o 9) → ∀ h9, MR (upd o 9 v) N a h9 → am_fp (fun k => k < 69 ∨ 92 ≤ k) h9 h → Q (some (.int v)) n h9) : AW X mX8_trim (d + 12) rc rs 0 [some (.ref 69), some (.int v)] [] n h Q := by
  refine aw_iload_n (npc := 1) rfl dX8_trim_0 rfl ?_
  refine aw_iconst (npc := 2) (v := 0) (by decide) dX8_trim_1 rfl ?_
  refine aw_aload_n (npc := 3) rfl dX8_trim_2 rfl ?_
  refine aw_get (npc := 6) dX8_trim_3 rfl kf_X8_192 F.1 rfl ?_
  refine aw_callS (npc := 9) (N := mX8_in) (mc := 0) (ms := 0) (A := [.int v, .int 0, .int (o 9)]) (S := []) (L0 := [some (.int v), some (.int 0), some (.int (o 9))]) dX8_trim_6 rfl km_X8_in kk_X8_83 rfl ⟨rfl, by decide⟩ rfl (Nat.le_of_ble_eq_true rfl) (Nat.zero_add _) (Nat.zero_add _) rfl ?_
  refine c_X8_in (fun hw1 => ?_) (fun hw1 => ?_)
  · refine aw_re (S' := [.int 1]) rfl ?_
    refine aw_if_ne (npc := 12) (tgt := 15) dX8_trim_9 rfl (by decide) (fun _ => ?_) (fun hc => absurd hc (by decide))
    refine aw_aload_n (npc := 16) rfl dX8_trim_15 rfl ?_
    refine aw_iload_n (npc := 17) rfl dX8_trim_16 rfl ?_
    refine aw_put (npc := 20) dX8_trim_17 rfl kf_X8_192 F.1 (Nat.le_of_ble_eq_true rfl) (am_ok_int _) rfl ?_
    have F2 := mr_o9 (v := v) F
    refine aw_iload_n (npc := 21) rfl dX8_trim_20 rfl ?_
    refine aw_iret rfl dX8_trim_21 ?_
    exact k0 hw1 _ F2 (am_fpU (show ¬ (69 < 69 ∨ 92 ≤ 69) by omega) am_fp0)
  · refine aw_re (S' := [.int 0]) rfl ?_
    refine aw_if_ne (npc := 12) (tgt := 15) dX8_trim_9 rfl (by decide) (fun hc => absurd (by decide) hc) (fun _ => ?_)
    refine aw_ldc (npc := 14) kc_X8_91 dX8_trim_12 rfl ?_
    refine aw_iret rfl dX8_trim_14 ?_
    exact k1 hw1
set_option maxHeartbeats 4000000 in
set_option maxRecDepth 100000 in
theorem g_fillL {X : List Int32} {d rc rs n : Nat} {Q : am_Q} {h : am_H} {a0 m : Nat} {v : Int32} (hm : m < 1000) : ∀ (q i : Nat), i + q = m → ∀ (f : Nat → Int32), (∀ j, j < i → f j = v) → Q none n (am_up h a0 (.inl (0, tl m (fun _ => v)))) → AW X mJ7_fill_53178 d rc rs 5 [some (.ref a0), some (.int v), some (.int (nI i)), some (.int (nI m))] [] n (am_up h a0 (.inl (0, tl m f))) Q := by
  intro q
  induction q with
  | zero =>
    intro i hi f hf hq
    obtain rfl : i = m := by omega
    refine aw_iload_n (npc := 6) rfl dJ7_fill_53178_5 rfl ?_
    refine aw_iload_n (npc := 7) rfl dJ7_fill_53178_6 rfl ?_
    refine aw_icmp_ge (npc := 10) (tgt := 20) dJ7_fill_53178_7 rfl (by decide) (fun _ => ?_) (fun hc => absurd (nI_le (a := i) (b := i) (by omega) (by omega)) hc)
    refine aw_vret rfl dJ7_fill_53178_20 ?_
    exact (congrArg (fun l : List Int32 => am_up h a0 (.inl (0, l))) (tl_congr (fun j hj => hf j hj))) ▸ hq
  | succ q ih =>
    intro i hi f hf hq
    refine aw_iload_n (npc := 6) rfl dJ7_fill_53178_5 rfl ?_
    refine aw_iload_n (npc := 7) rfl dJ7_fill_53178_6 rfl ?_
    refine aw_icmp_ge (npc := 10) (tgt := 20) dJ7_fill_53178_7 rfl (by decide) (fun hc => absurd hc (nI_ge (a := i) (b := m) (by omega) (by omega))) (fun _ => ?_)
    refine aw_aload_n (npc := 11) rfl dJ7_fill_53178_10 rfl ?_
    refine aw_iload_n (npc := 12) rfl dJ7_fill_53178_11 rfl ?_
    refine aw_iload_n (npc := 13) rfl dJ7_fill_53178_12 rfl ?_
    refine aw_iast (npc := 14) (j := i) dJ7_fill_53178_13 rfl am_eq (am_ix_nI (by omega)) (by rw [tl_len]; omega) (show _ = am_up h a0 (.inl (0, tl m (upd f i v))) from am_uu.trans (congrArg (fun l : List Int32 => am_up h a0 (.inl (0, l))) tl_set)) ?_
    refine aw_iinc (npc := 17) (v := nI (i + 1)) (L' := [some (.ref a0), some (.int v), some (.int (nI (i + 1))), some (.int (nI m))]) dJ7_fill_53178_14 rfl rfl (nI_1 _) (by decide) rfl rfl ?_
    refine aw_goto (npc := 5) dJ7_fill_53178_17 (by decide) ?_
    refine ih (i + 1) (by omega) _ (fun j hj => ?_) hq
    by_cases z : j = i
    · subst z; exact pk_us
    · exact (pk_un z).trans (hf j (by omega))
set_option maxHeartbeats 4000000 in
set_option maxRecDepth 100000 in
theorem g_fill {X : List Int32} {d rc rs n : Nat} {Q : am_Q} {h : am_H} {a0 m : Nat} {v : Int32} {f : Nat → Int32} (hm : m < 1000) (t0 : h a0 = some (.inl (0, tl m f))) (hq : Q none n (am_up h a0 (.inl (0, tl m (fun _ => v))))) : AW X mJ7_fill_53178 d rc rs 0 [some (.ref a0), some (.int v), none, none] [] n h Q := by
  refine aw_hp (h' := am_up h a0 (.inl (0, tl m f))) (am_us t0).symm ?_
  refine aw_iconst (npc := 1) (v := 0) (by decide) dJ7_fill_53178_0 rfl ?_
  refine aw_istore_n (npc := 2) (L' := [some (.ref a0), some (.int v), some (.int 0), none]) dJ7_fill_53178_1 rfl (by decide) rfl rfl ?_
  refine aw_aload_n (npc := 3) rfl dJ7_fill_53178_2 rfl ?_
  refine aw_alen (npc := 4) (v := nI m) dJ7_fill_53178_3 rfl am_eq (by rw [tl_len]; rfl) ?_
  refine aw_istore_n (npc := 5) (L' := [some (.ref a0), some (.int v), some (.int 0), some (.int (nI m))]) dJ7_fill_53178_4 rfl (by decide) rfl rfl ?_
  refine aw_locs (L' := [some (.ref a0), some (.int v), some (.int (nI 0)), some (.int (nI m))]) rfl ?_
  exact g_fillL hm m 0 (by omega) f (fun j hj => by omega) hq
def clr (f : Nat → Int32) (s k : Nat) : Nat → Int32 := fun i => if 24 * s ≤ i ∧ i < 24 * s + k then 0 else f i
theorem clr_0 {f : Nat → Int32} {s : Nat} : clr f s 0 = f := funext (fun i => if_neg (by omega))
theorem clr_s {f : Nat → Int32} {s k : Nat} : upd (clr f s k) (24 * s + k) 0 = clr f s (k + 1) := funext (fun i => by
  by_cases e : i = 24 * s + k
  · subst e; rw [pk_us]; exact (if_pos (by omega)).symm
  · rw [pk_un e]
    unfold clr
    by_cases q : 24 * s ≤ i ∧ i < 24 * s + k
    · rw [if_pos q, if_pos (by omega)]
    · rw [if_neg q, if_neg (by omega)])
def RI (sr sz : Nat → Int32) : Prop := ∀ s, s < 4 → wi (sr s) (-1) 1 ∧ ∃ z, z ≤ 24 ∧ sz s = nI z
theorem wi_cm1_1 {x : Int32} (h : wi x (-1) 1) : x = -1 ∨ x = 0 ∨ x = 1 := by
  have h1 : ¬ x.toInt < -1 := fun q => h.1 (Int32.lt_iff_toInt_lt.mpr (by simpa using q))
  have h2 : ¬ 1 < x.toInt := fun q => h.2 (Int32.lt_iff_toInt_lt.mpr (by simpa using q))
  rcases (show x.toInt = -1 ∨ x.toInt = 0 ∨ x.toInt = 1 by omega) with q | q | q
  · exact Or.inl (Int32.toInt_inj.mp (by rw [q]; rfl))
  · exact Or.inr (Or.inl (Int32.toInt_inj.mp (by rw [q]; rfl)))
  · exact Or.inr (Or.inr (Int32.toInt_inj.mp (by rw [q]; rfl)))
noncomputable def shV (s t n : Int32) : Int32 := cI (wi s 0 3 ∧ wi t (-1) 1) (cI (t = -1) 0 (cI (24 < n) (-1000000001) (cI (n < 0) (-1000000014) n))) (-1000000001)
noncomputable def shK (s t n : Int32) : Prop := wi s 0 3 ∧ wi t (-1) 1 ∧ (t = -1 ∨ (¬ 24 < n ∧ ¬ n < 0))
noncomputable def shR (s t n : Int32) (sr : Nat → Int32) : Nat → Int32 := cI (shK s t n) (upd sr (fN s) t) sr
noncomputable def shZ (s t n : Int32) (sz : Nat → Int32) : Nat → Int32 := cI (shK s t n) (upd sz (fN s) (cI (t = -1) 0 n)) sz
noncomputable def shC (s t n : Int32) (cl : Nat → Int32) : Nat → Int32 := cI (shK s t n) (clr cl (fN s) 24) cl
set_option maxHeartbeats 4000000 in
set_option maxRecDepth 100000 in
theorem C_sheet {X : List Int32} {d rc rs n : Nat} {Q : am_Q} {h : am_H} {N : Nat → Int32} {tx : List Value} {lk mv : Nat → Int32} {ik wc : Int32} {fr c : Nat} {s : Int32} {t : Int32} {m : Int32} {sr sz cl : Nat → Int32} (O : OB ik wc h) (Rw : RW sr sz cl h) (hq : ∀ v9 r9 z9 c9 h9, v9 = shV s t m → r9 = shR s t m sr → z9 = shZ s t m sz → c9 = shC s t m cl → RW r9 z9 c9 h9 → am_fp (fun k => k < 46 ∨ 54 ≤ k) h9 h → Q (some (.int v9)) n h9) : AW X mX7_sheet (d + 12) rc rs 0 [some (.ref 0), some (.int s), some (.int t), some (.int m)] [] n h Q := by
  refine aw_iload_n (npc := 1) rfl dX7_sheet_0 rfl ?_
  refine aw_callS (npc := 4) (N := mX7_isSheet) (mc := 0) (ms := 0) (A := [.int s]) (S := []) (L0 := [some (.int s)]) dX7_sheet_1 rfl km_X7_isSheet kk_X7_204 rfl ⟨rfl, by decide⟩ rfl (Nat.le_of_ble_eq_true rfl) (Nat.zero_add _) (Nat.zero_add _) rfl ?_
  refine c_X7_isSheet (fun hw1 => ?_) (fun hw1 => ?_)
  · obtain ⟨sn, hsn, esn⟩ := wi_nI (H := 3) (by decide) (by decide) hw1
    subst esn
    have fsn : fN (nI sn) = sn := fN_nI (by omega)
    refine aw_re (S' := [.int 1]) rfl ?_
    refine aw_if_eq (npc := 7) (tgt := 16) dX7_sheet_4 rfl (by decide) (fun hc => absurd hc (by decide)) (fun _ => ?_)
    refine aw_iload_n (npc := 8) rfl dX7_sheet_7 rfl ?_
    refine aw_iconst (npc := 9) (v := -1) (by decide) dX7_sheet_8 rfl ?_
    refine aw_iconst (npc := 10) (v := 1) (by decide) dX7_sheet_9 rfl ?_
    refine aw_callS (npc := 13) (N := mX7_within) (mc := 0) (ms := 0) (A := [.int t, .int (-1), .int 1]) (S := []) (L0 := [some (.int t), some (.int (-1)), some (.int 1)]) dX7_sheet_10 rfl km_X7_within kk_X7_74 rfl ⟨rfl, by decide⟩ rfl (Nat.le_of_ble_eq_true rfl) (Nat.zero_add _) (Nat.zero_add _) rfl ?_
    refine c_X7_within (fun hw2 => ?_) (fun hw2 => ?_)
    · refine aw_re (S' := [.int 1]) rfl ?_
      refine aw_if_ne (npc := 16) (tgt := 19) dX7_sheet_13 rfl (by decide) (fun _ => ?_) (fun hc => absurd hc (by decide))
      refine aw_iload_n (npc := 20) rfl dX7_sheet_19 rfl ?_
      refine aw_iconst (npc := 21) (v := -1) (by decide) dX7_sheet_20 rfl ?_
      refine aw_icmp_ne (npc := 24) (tgt := 37) dX7_sheet_21 rfl (by decide) (fun hc3 => ?_) (fun hc3 => ?_)
      · refine aw_iload_n (npc := 38) rfl dX7_sheet_37 rfl ?_
        refine aw_bipush (npc := 40) (v := 24) (by decide) dX7_sheet_38 rfl ?_
        refine aw_icmp_le (npc := 43) (tgt := 46) dX7_sheet_40 rfl (by decide) (fun hc4 => ?_) (fun hc4 => ?_)
        · refine aw_iload_n (npc := 47) rfl dX7_sheet_46 rfl ?_
          refine aw_if_ge (npc := 50) (tgt := 54) dX7_sheet_47 rfl (by decide) (fun hc5 => ?_) (fun hc5 => ?_)
          · refine aw_aload_n (npc := 55) rfl dX7_sheet_54 rfl ?_
            refine aw_get (npc := 58) dX7_sheet_55 rfl kf_X7_47 O.1 rfl ?_
            refine aw_iload_n (npc := 59) rfl dX7_sheet_58 rfl ?_
            refine aw_aald (npc := 60) (j := sn) dX7_sheet_59 rfl (by decide) O.2.1 (am_ix_nI (by omega)) (sh_at (by omega)) ?_
            refine aw_iload_n (npc := 61) rfl dX7_sheet_60 rfl ?_
            refine aw_iload_n (npc := 62) rfl dX7_sheet_61 rfl ?_
            refine aw_callV (npc := 65) (N := mX2_renew) (b := 46 + 2 * sn) (mc := 0) (ms := 0) (A := [.int t, .int m]) (S := []) (L0 := [some (.ref (46 + 2 * sn)), some (.int t), some (.int m)]) dX7_sheet_62 rfl km_X2_renew kk_X7_270 (Rw sn (by omega)).1 ⟨by decide, rfl⟩ rfl ⟨rfl, by decide⟩ rfl (Nat.le_of_ble_eq_true rfl) (Nat.zero_add _) (Nat.zero_add _) rfl ?_
            refine aw_aload_n (npc := 1) rfl dX2_renew_0 rfl ?_
            refine aw_iload_n (npc := 2) rfl dX2_renew_1 rfl ?_
            refine aw_put (npc := 5) dX2_renew_2 rfl kf_X2_9 (Rw sn (by omega)).1 (Nat.le_of_ble_eq_true rfl) (am_ok_int _) rfl ?_
            have Rw6 := rw_sort (s := sn) (v := t) Rw
            have O7 := ob_out (a := 46 + 2 * sn) (c := .inr (2, (rwO sr sz sn).set 0 (.int t))) (by omega) O
            refine aw_aload_n (npc := 6) rfl dX2_renew_5 rfl ?_
            refine aw_iload_n (npc := 7) rfl dX2_renew_6 rfl ?_
            refine aw_put (npc := 10) dX2_renew_7 rfl kf_X2_15 (Rw6 sn (by omega)).1 (Nat.le_of_ble_eq_true rfl) (am_ok_int _) rfl ?_
            have Rw8 := rw_size (s := sn) (v := m) Rw6
            have O9 := ob_out (a := 46 + 2 * sn) (c := .inr (2, (rwO (upd sr sn t) sz sn).set 1 (.int m))) (by omega) O7
            refine aw_aload_n (npc := 11) rfl dX2_renew_10 rfl ?_
            refine aw_get (npc := 14) dX2_renew_11 rfl kf_X2_18 (Rw8 sn (by omega)).1 rfl ?_
            refine aw_iconst (npc := 15) (v := 0) (by decide) dX2_renew_14 rfl ?_
            refine aw_callS (npc := 18) (N := mJ7_fill_53178) (mc := 0) (ms := 0) (A := [.ref (47 + 2 * sn), .int 0]) (S := []) (L0 := [some (.ref (47 + 2 * sn)), some (.int 0), none, none]) dX2_renew_15 rfl km_J7_fill_53178 kk_X2_22 rfl ⟨rfl, by decide⟩ rfl (Nat.le_of_ble_eq_true rfl) (Nat.zero_add _) (Nat.zero_add _) rfl ?_
            refine g_fill (by omega) (Rw8 sn (by omega)).2 ?_
            have Rw10 := rw_arr (cl' := clr cl sn 24) (s := sn) (l := tl 24 (fun _ => 0)) Rw8 (tl_congr (fun i hi => (if_pos (by omega)).symm)) (fun t i ht hi e => if_neg (by omega))
            have O11 := ob_out (a := 47 + 2 * sn) (c := .inl (0, tl 24 (fun _ => 0))) (by omega) O9
            refine aw_vret rfl dX2_renew_18 ?_
            refine aw_iload_n (npc := 66) rfl dX7_sheet_65 rfl ?_
            refine aw_iret rfl dX7_sheet_66 ?_
            exact hq _ _ _ _ _ (by simp [shV, shR, shZ, shC, shK, cI, hw1, hw2, hc3, hc4, hc5, fsn, Int32.not_lt.mpr hc4, Int32.not_lt.mpr hc5]) (by simp [shV, shR, shZ, shC, shK, cI, hw1, hw2, hc3, hc4, hc5, fsn, Int32.not_lt.mpr hc4, Int32.not_lt.mpr hc5]) (by simp [shV, shR, shZ, shC, shK, cI, hw1, hw2, hc3, hc4, hc5, fsn, Int32.not_lt.mpr hc4, Int32.not_lt.mpr hc5]) (by simp [shV, shR, shZ, shC, shK, cI, hw1, hw2, hc3, hc4, hc5, fsn, Int32.not_lt.mpr hc4, Int32.not_lt.mpr hc5]) Rw10 (am_fpU (show ¬ ((47 + 2 * sn) < 46 ∨ 54 ≤ (47 + 2 * sn)) by omega) (am_fpU (show ¬ ((46 + 2 * sn) < 46 ∨ 54 ≤ (46 + 2 * sn)) by omega) (am_fpU (show ¬ ((46 + 2 * sn) < 46 ∨ 54 ≤ (46 + 2 * sn)) by omega) am_fp0)))
          · refine aw_ldcw (npc := 53) kc_X7_274 dX7_sheet_50 rfl ?_
            refine aw_iret rfl dX7_sheet_53 ?_
            exact hq _ _ _ _ _ (by simp [shV, shR, shZ, shC, shK, cI, hw1, hw2, hc3, hc4, hc5, fsn, Int32.not_lt.mpr hc4, Int32.not_le.mp hc5]) (by simp [shV, shR, shZ, shC, shK, cI, hw1, hw2, hc3, hc4, hc5, fsn, Int32.not_lt.mpr hc4, Int32.not_le.mp hc5]) (by simp [shV, shR, shZ, shC, shK, cI, hw1, hw2, hc3, hc4, hc5, fsn, Int32.not_lt.mpr hc4, Int32.not_le.mp hc5]) (by simp [shV, shR, shZ, shC, shK, cI, hw1, hw2, hc3, hc4, hc5, fsn, Int32.not_lt.mpr hc4, Int32.not_le.mp hc5]) Rw am_fp0
        · refine aw_ldc (npc := 45) kc_X7_78 dX7_sheet_43 rfl ?_
          refine aw_iret rfl dX7_sheet_45 ?_
          exact hq _ _ _ _ _ (by simp [shV, shR, shZ, shC, shK, cI, hw1, hw2, hc3, hc4, fsn, Int32.not_le.mp hc4]) (by simp [shV, shR, shZ, shC, shK, cI, hw1, hw2, hc3, hc4, fsn, Int32.not_le.mp hc4]) (by simp [shV, shR, shZ, shC, shK, cI, hw1, hw2, hc3, hc4, fsn, Int32.not_le.mp hc4]) (by simp [shV, shR, shZ, shC, shK, cI, hw1, hw2, hc3, hc4, fsn, Int32.not_le.mp hc4]) Rw am_fp0
      · subst hc3
        refine aw_aload_n (npc := 25) rfl dX7_sheet_24 rfl ?_
        refine aw_get (npc := 28) dX7_sheet_25 rfl kf_X7_47 O.1 rfl ?_
        refine aw_iload_n (npc := 29) rfl dX7_sheet_28 rfl ?_
        refine aw_aald (npc := 30) (j := sn) dX7_sheet_29 rfl (by decide) O.2.1 (am_ix_nI (by omega)) (sh_at (by omega)) ?_
        refine aw_iconst (npc := 31) (v := -1) (by decide) dX7_sheet_30 rfl ?_
        refine aw_iconst (npc := 32) (v := 0) (by decide) dX7_sheet_31 rfl ?_
        refine aw_callV (npc := 35) (N := mX2_renew) (b := 46 + 2 * sn) (mc := 0) (ms := 0) (A := [.int (-1), .int 0]) (S := []) (L0 := [some (.ref (46 + 2 * sn)), some (.int (-1)), some (.int 0)]) dX7_sheet_32 rfl km_X2_renew kk_X7_270 (Rw sn (by omega)).1 ⟨by decide, rfl⟩ rfl ⟨rfl, by decide⟩ rfl (Nat.le_of_ble_eq_true rfl) (Nat.zero_add _) (Nat.zero_add _) rfl ?_
        refine aw_aload_n (npc := 1) rfl dX2_renew_0 rfl ?_
        refine aw_iload_n (npc := 2) rfl dX2_renew_1 rfl ?_
        refine aw_put (npc := 5) dX2_renew_2 rfl kf_X2_9 (Rw sn (by omega)).1 (Nat.le_of_ble_eq_true rfl) (am_ok_int _) rfl ?_
        have Rw12 := rw_sort (s := sn) (v := (-1)) Rw
        have O13 := ob_out (a := 46 + 2 * sn) (c := .inr (2, (rwO sr sz sn).set 0 (.int (-1)))) (by omega) O
        refine aw_aload_n (npc := 6) rfl dX2_renew_5 rfl ?_
        refine aw_iload_n (npc := 7) rfl dX2_renew_6 rfl ?_
        refine aw_put (npc := 10) dX2_renew_7 rfl kf_X2_15 (Rw12 sn (by omega)).1 (Nat.le_of_ble_eq_true rfl) (am_ok_int _) rfl ?_
        have Rw14 := rw_size (s := sn) (v := 0) Rw12
        have O15 := ob_out (a := 46 + 2 * sn) (c := .inr (2, (rwO (upd sr sn (-1)) sz sn).set 1 (.int 0))) (by omega) O13
        refine aw_aload_n (npc := 11) rfl dX2_renew_10 rfl ?_
        refine aw_get (npc := 14) dX2_renew_11 rfl kf_X2_18 (Rw14 sn (by omega)).1 rfl ?_
        refine aw_iconst (npc := 15) (v := 0) (by decide) dX2_renew_14 rfl ?_
        refine aw_callS (npc := 18) (N := mJ7_fill_53178) (mc := 0) (ms := 0) (A := [.ref (47 + 2 * sn), .int 0]) (S := []) (L0 := [some (.ref (47 + 2 * sn)), some (.int 0), none, none]) dX2_renew_15 rfl km_J7_fill_53178 kk_X2_22 rfl ⟨rfl, by decide⟩ rfl (Nat.le_of_ble_eq_true rfl) (Nat.zero_add _) (Nat.zero_add _) rfl ?_
        refine g_fill (by omega) (Rw14 sn (by omega)).2 ?_
        have Rw16 := rw_arr (cl' := clr cl sn 24) (s := sn) (l := tl 24 (fun _ => 0)) Rw14 (tl_congr (fun i hi => (if_pos (by omega)).symm)) (fun t i ht hi e => if_neg (by omega))
        have O17 := ob_out (a := 47 + 2 * sn) (c := .inl (0, tl 24 (fun _ => 0))) (by omega) O15
        refine aw_vret rfl dX2_renew_18 ?_
        refine aw_iconst (npc := 36) (v := 0) (by decide) dX7_sheet_35 rfl ?_
        refine aw_iret rfl dX7_sheet_36 ?_
        exact hq _ _ _ _ _ (by simp [shV, shR, shZ, shC, shK, cI, hw1, hw2, fsn]) (by simp [shV, shR, shZ, shC, shK, cI, hw1, hw2, fsn]) (by simp [shV, shR, shZ, shC, shK, cI, hw1, hw2, fsn]) (by simp [shV, shR, shZ, shC, shK, cI, hw1, hw2, fsn]) Rw16 (am_fpU (show ¬ ((47 + 2 * sn) < 46 ∨ 54 ≤ (47 + 2 * sn)) by omega) (am_fpU (show ¬ ((46 + 2 * sn) < 46 ∨ 54 ≤ (46 + 2 * sn)) by omega) (am_fpU (show ¬ ((46 + 2 * sn) < 46 ∨ 54 ≤ (46 + 2 * sn)) by omega) am_fp0)))
    · refine aw_re (S' := [.int 0]) rfl ?_
      refine aw_if_ne (npc := 16) (tgt := 19) dX7_sheet_13 rfl (by decide) (fun hc => absurd (by decide) hc) (fun _ => ?_)
      refine aw_ldc (npc := 18) kc_X7_78 dX7_sheet_16 rfl ?_
      refine aw_iret rfl dX7_sheet_18 ?_
      exact hq _ _ _ _ _ (by simp [shV, shR, shZ, shC, shK, cI, hw1, hw2, fsn]) (by simp [shV, shR, shZ, shC, shK, cI, hw1, hw2, fsn]) (by simp [shV, shR, shZ, shC, shK, cI, hw1, hw2, fsn]) (by simp [shV, shR, shZ, shC, shK, cI, hw1, hw2, fsn]) Rw am_fp0
  · refine aw_re (S' := [.int 0]) rfl ?_
    refine aw_if_eq (npc := 7) (tgt := 16) dX7_sheet_4 rfl (by decide) (fun _ => ?_) (fun hc => absurd (by decide) hc)
    refine aw_ldc (npc := 18) kc_X7_78 dX7_sheet_16 rfl ?_
    refine aw_iret rfl dX7_sheet_18 ?_
    exact hq _ _ _ _ _ (by simp [shV, shR, shZ, shC, shK, cI, hw1]) (by simp [shV, shR, shZ, shC, shK, cI, hw1]) (by simp [shV, shR, shZ, shC, shK, cI, hw1]) (by simp [shV, shR, shZ, shC, shK, cI, hw1]) Rw am_fp0
set_option maxHeartbeats 4000000 in
set_option maxRecDepth 100000 in
theorem m_sheetL {X : List Int32} {d rc rs n : Nat} {Q : am_Q} {o N cl : Nat → Int32} {s : Nat} {t m : Int32} (hs : s < 4) : ∀ (q k : Nat), k + q = 24 → ∀ (a : Nat → Nat → Int32) (h : am_H), MR o N a h → a 85 = clr cl s k → (∀ a9 h9, MR o N a9 h9 → a9 85 = clr cl s 24 → (∀ c, c ≠ 85 → a9 c = a c) → am_fp (fun k => k < 69 ∨ 92 ≤ k) h9 h → AW X mX8_sheet d rc rs 92 [some (.ref 69), some (.int (nI s)), some (.int t), some (.int m), some (.int (nI 24))] [] n h9 Q) → AW X mX8_sheet d rc rs 66 [some (.ref 69), some (.int (nI s)), some (.int t), some (.int m), some (.int (nI k))] [] n h Q := by
  intro q
  induction q with
  | zero =>
    intro k hk a h F hk9 hq
    obtain rfl : k = 24 := by omega
    refine aw_iload (npc := 68) rfl dX8_sheet_66 rfl ?_
    refine aw_bipush (npc := 70) (v := 24) (by decide) dX8_sheet_68 rfl ?_
    exact aw_icmp_ge (npc := 73) (tgt := 92) dX8_sheet_70 rfl (by decide) (fun _ => hq _ _ F hk9 (fun _ _ => rfl) am_fp0) (fun hc => absurd (nI_le (a := 24) (b := 24) (Nat.le_refl _) (by decide)) hc)
  | succ q ih =>
    intro k hk a h F hk9 hq
    refine aw_iload (npc := 68) rfl dX8_sheet_66 rfl ?_
    refine aw_bipush (npc := 70) (v := 24) (by decide) dX8_sheet_68 rfl ?_
    refine aw_icmp_ge (npc := 73) (tgt := 92) dX8_sheet_70 rfl (by decide) (fun hc => absurd hc (nI_ge (a := k) (b := 24) (by omega) (by omega))) (fun _ => ?_)
    refine aw_aload_n (npc := 74) rfl dX8_sheet_73 rfl ?_
    refine aw_get (npc := 77) dX8_sheet_74 rfl kf_X8_61 F.1 rfl ?_
    refine aw_bipush (npc := 79) (v := 24) (by decide) dX8_sheet_77 rfl ?_
    refine aw_iload_n (npc := 80) rfl dX8_sheet_79 rfl ?_
    refine aw_imulV (npc := 81) (v := nI (24 * s)) dX8_sheet_80 rfl (pk_mul 24 _) ?_
    refine aw_iload (npc := 83) rfl dX8_sheet_81 rfl ?_
    refine aw_iaddV (npc := 84) (v := nI ((24 * s) + k)) dX8_sheet_83 rfl (nI_add _ _) ?_
    refine aw_iconst (npc := 85) (v := 0) (by decide) dX8_sheet_84 rfl ?_
    refine aw_iast (npc := 86) (j := ((24 * s) + k)) dX8_sheet_85 rfl F.2.2.2.2.2.2.2.2.2.2.2.2.2.2.2.2.1 (am_ix_nI (by omega)) (by rw [tl_len]; omega) rfl ?_
    have F2 := mr_85 (j := ((24 * s) + k)) (v := 0) F
    refine aw_iinc (npc := 89) (v := nI (k + 1)) (L' := [some (.ref 69), some (.int (nI s)), some (.int t), some (.int m), some (.int (nI (k + 1)))]) dX8_sheet_86 rfl rfl (nI_1 _) (by decide) rfl rfl ?_
    refine aw_goto (npc := 66) dX8_sheet_89 (by decide) ?_
    refine ih (k + 1) (by omega) _ _ F2 ?_ (fun a9 h9 M9 e9 c9 f9 => hq a9 h9 M9 e9 (fun c hc => (c9 c hc).trans (aup_n hc)) (am_fpT f9 (am_fpU (show ¬ (85 < 69 ∨ 92 ≤ 85) by omega) am_fp0)))
    rw [aup_s, hk9]
    exact clr_s
set_option maxHeartbeats 4000000 in
set_option maxRecDepth 100000 in
theorem M_sheet {X : List Int32} {d rc rs n : Nat} {Q : am_Q} {h : am_H} {o N : Nat → Int32} {a : Nat → Nat → Int32} {fr c : Nat} {s : Int32} {t : Int32} {m : Int32} (F : MR o N a h) (hq : ∀ v9 a9 h9, v9 = shV s t m → a9 83 = shR s t m (a 83) → a9 84 = shZ s t m (a 84) → a9 85 = shC s t m (a 85) → (∀ c, c ≠ 83 → c ≠ 84 → c ≠ 85 → a9 c = a c) → MR o N a9 h9 → am_fp (fun k => k < 69 ∨ 92 ≤ k) h9 h → Q (some (.int v9)) n h9) : AW X mX8_sheet (d + 12) rc rs 0 [some (.ref 69), some (.int s), some (.int t), some (.int m), none] [] n h Q := by
  refine aw_iload_n (npc := 1) rfl dX8_sheet_0 rfl ?_
  refine aw_callS (npc := 4) (N := mX8_isSheet) (mc := 0) (ms := 0) (A := [.int s]) (S := []) (L0 := [some (.int s)]) dX8_sheet_1 rfl km_X8_isSheet kk_X8_184 rfl ⟨rfl, by decide⟩ rfl (Nat.le_of_ble_eq_true rfl) (Nat.zero_add _) (Nat.zero_add _) rfl ?_
  refine c_X8_isSheet (fun hw1 => ?_) (fun hw1 => ?_)
  · obtain ⟨sn, hsn, esn⟩ := wi_nI (H := 3) (by decide) (by decide) hw1
    subst esn
    have fsn : fN (nI sn) = sn := fN_nI (by omega)
    refine aw_re (S' := [.int 1]) rfl ?_
    refine aw_if_eq (npc := 7) (tgt := 26) dX8_sheet_4 rfl (by decide) (fun hc => absurd hc (by decide)) (fun _ => ?_)
    refine aw_iload_n (npc := 8) rfl dX8_sheet_7 rfl ?_
    refine aw_iconst (npc := 9) (v := -1) (by decide) dX8_sheet_8 rfl ?_
    refine aw_iconst (npc := 10) (v := 1) (by decide) dX8_sheet_9 rfl ?_
    refine aw_callS (npc := 13) (N := mX8_in) (mc := 0) (ms := 0) (A := [.int t, .int (-1), .int 1]) (S := []) (L0 := [some (.int t), some (.int (-1)), some (.int 1)]) dX8_sheet_10 rfl km_X8_in kk_X8_83 rfl ⟨rfl, by decide⟩ rfl (Nat.le_of_ble_eq_true rfl) (Nat.zero_add _) (Nat.zero_add _) rfl ?_
    refine c_X8_in (fun hw2 => ?_) (fun hw2 => ?_)
    · rcases wi_cm1_1 hw2 with rfl | rfl | rfl
      · refine aw_re (S' := [.int 1]) rfl ?_
        refine aw_if_eq (npc := 16) (tgt := 26) dX8_sheet_13 rfl (by decide) (fun hc => absurd hc (by decide)) (fun _ => ?_)
        refine aw_iload_n (npc := 17) rfl dX8_sheet_16 rfl ?_
        refine aw_if_lt (npc := 20) (tgt := 29) dX8_sheet_17 rfl (by decide) (fun _ => ?_) (fun hc => absurd (by decide) hc)
        refine aw_iload_n (npc := 30) rfl dX8_sheet_29 rfl ?_
        refine aw_if_lt (npc := 33) (tgt := 41) dX8_sheet_30 rfl (by decide) (fun _ => ?_) (fun hc => absurd (by decide) hc)
        refine aw_aload_n (npc := 42) rfl dX8_sheet_41 rfl ?_
        refine aw_get (npc := 45) dX8_sheet_42 rfl kf_X8_55 F.1 rfl ?_
        refine aw_iload_n (npc := 46) rfl dX8_sheet_45 rfl ?_
        refine aw_iload_n (npc := 47) rfl dX8_sheet_46 rfl ?_
        refine aw_iast (npc := 48) (j := sn) dX8_sheet_47 rfl F.2.2.2.2.2.2.2.2.2.2.2.2.2.2.1 (am_ix_nI (by omega)) (by rw [tl_len]; omega) rfl ?_
        have F3 := mr_83 (j := sn) (v := (-1)) F
        refine aw_aload_n (npc := 49) rfl dX8_sheet_48 rfl ?_
        refine aw_get (npc := 52) dX8_sheet_49 rfl kf_X8_58 F3.1 rfl ?_
        refine aw_iload_n (npc := 53) rfl dX8_sheet_52 rfl ?_
        refine aw_iload_n (npc := 54) rfl dX8_sheet_53 rfl ?_
        refine aw_if_ge (npc := 57) (tgt := 61) dX8_sheet_54 rfl (by decide) (fun hc => absurd hc (by decide)) (fun _ => ?_)
        refine aw_iconst (npc := 58) (v := 0) (by decide) dX8_sheet_57 rfl ?_
        refine aw_goto (npc := 62) dX8_sheet_58 (by decide) ?_
        refine aw_iast (npc := 63) (j := sn) dX8_sheet_62 rfl F3.2.2.2.2.2.2.2.2.2.2.2.2.2.2.2.1 (am_ix_nI (by omega)) (by rw [tl_len]; omega) rfl ?_
        have F4 := mr_84 (j := sn) (v := 0) F3
        refine aw_iconst (npc := 64) (v := 0) (by decide) dX8_sheet_63 rfl ?_
        refine aw_istore (npc := 66) (L' := [some (.ref 69), some (.int (nI sn)), some (.int (-1)), some (.int m), some (.int 0)]) dX8_sheet_64 rfl (by decide) rfl rfl ?_
        refine aw_locs (L' := [some (.ref 69), some (.int (nI sn)), some (.int (-1)), some (.int m), some (.int (nI 0))]) rfl ?_
        refine m_sheetL (s := sn) (cl := a 85) (by omega) 24 0 (by omega) _ _ F4 clr_0.symm (fun a9 h9 M9 e9 c9 f9 => ?_)
        have e83 : a9 83 = upd (a 83) sn (-1) := c9 83 (by decide)
        have e84 : a9 84 = upd (a 84) sn 0 := c9 84 (by decide)
        have e8 : ∀ c, c ≠ 83 → c ≠ 84 → c ≠ 85 → a9 c = a c := fun c h1 h2 h3 => (c9 c h3).trans ((aup_n h2).trans (aup_n h1))
        refine aw_aload_n (npc := 93) rfl dX8_sheet_92 rfl ?_
        refine aw_get (npc := 96) dX8_sheet_93 rfl kf_X8_58 M9.1 rfl ?_
        refine aw_iload_n (npc := 97) rfl dX8_sheet_96 rfl ?_
        refine aw_iald (npc := 98) (x := (a9 84) sn) (j := sn) dX8_sheet_97 rfl M9.2.2.2.2.2.2.2.2.2.2.2.2.2.2.2.1 (am_ix_nI (by omega)) (tl_at (by omega)) ?_
        refine aw_iret rfl dX8_sheet_98 ?_
        exact hq _ _ _ (by simp [shV, shR, shZ, shC, shK, cI, hw1, hw2, fsn, e83, e84, e9, pk_us]) (by simp [shV, shR, shZ, shC, shK, cI, hw1, hw2, fsn, e83, e84, e9, pk_us]) (by simp [shV, shR, shZ, shC, shK, cI, hw1, hw2, fsn, e83, e84, e9, pk_us]) (by simp [shV, shR, shZ, shC, shK, cI, hw1, hw2, fsn, e83, e84, e9, pk_us]) e8 M9 (am_fpT f9 (am_fpU (show ¬ (84 < 69 ∨ 92 ≤ 84) by omega) (am_fpU (show ¬ (83 < 69 ∨ 92 ≤ 83) by omega) am_fp0)))
      · refine aw_re (S' := [.int 1]) rfl ?_
        refine aw_if_eq (npc := 16) (tgt := 26) dX8_sheet_13 rfl (by decide) (fun hc => absurd hc (by decide)) (fun _ => ?_)
        refine aw_iload_n (npc := 17) rfl dX8_sheet_16 rfl ?_
        refine aw_if_lt (npc := 20) (tgt := 29) dX8_sheet_17 rfl (by decide) (fun hc => absurd hc (by decide)) (fun _ => ?_)
        refine aw_iload_n (npc := 21) rfl dX8_sheet_20 rfl ?_
        refine aw_bipush (npc := 23) (v := 24) (by decide) dX8_sheet_21 rfl ?_
        refine aw_icmp_le (npc := 26) (tgt := 29) dX8_sheet_23 rfl (by decide) (fun hc5 => ?_) (fun hc5 => ?_)
        · refine aw_iload_n (npc := 30) rfl dX8_sheet_29 rfl ?_
          refine aw_if_lt (npc := 33) (tgt := 41) dX8_sheet_30 rfl (by decide) (fun hc => absurd hc (by decide)) (fun _ => ?_)
          refine aw_iload_n (npc := 34) rfl dX8_sheet_33 rfl ?_
          refine aw_if_ge (npc := 37) (tgt := 41) dX8_sheet_34 rfl (by decide) (fun hc6 => ?_) (fun hc6 => ?_)
          · refine aw_aload_n (npc := 42) rfl dX8_sheet_41 rfl ?_
            refine aw_get (npc := 45) dX8_sheet_42 rfl kf_X8_55 F.1 rfl ?_
            refine aw_iload_n (npc := 46) rfl dX8_sheet_45 rfl ?_
            refine aw_iload_n (npc := 47) rfl dX8_sheet_46 rfl ?_
            refine aw_iast (npc := 48) (j := sn) dX8_sheet_47 rfl F.2.2.2.2.2.2.2.2.2.2.2.2.2.2.1 (am_ix_nI (by omega)) (by rw [tl_len]; omega) rfl ?_
            have F7 := mr_83 (j := sn) (v := 0) F
            refine aw_aload_n (npc := 49) rfl dX8_sheet_48 rfl ?_
            refine aw_get (npc := 52) dX8_sheet_49 rfl kf_X8_58 F7.1 rfl ?_
            refine aw_iload_n (npc := 53) rfl dX8_sheet_52 rfl ?_
            refine aw_iload_n (npc := 54) rfl dX8_sheet_53 rfl ?_
            refine aw_if_ge (npc := 57) (tgt := 61) dX8_sheet_54 rfl (by decide) (fun _ => ?_) (fun hc => absurd (by decide) hc)
            refine aw_iload_n (npc := 62) rfl dX8_sheet_61 rfl ?_
            refine aw_iast (npc := 63) (j := sn) dX8_sheet_62 rfl F7.2.2.2.2.2.2.2.2.2.2.2.2.2.2.2.1 (am_ix_nI (by omega)) (by rw [tl_len]; omega) rfl ?_
            have F8 := mr_84 (j := sn) (v := m) F7
            refine aw_iconst (npc := 64) (v := 0) (by decide) dX8_sheet_63 rfl ?_
            refine aw_istore (npc := 66) (L' := [some (.ref 69), some (.int (nI sn)), some (.int 0), some (.int m), some (.int 0)]) dX8_sheet_64 rfl (by decide) rfl rfl ?_
            refine aw_locs (L' := [some (.ref 69), some (.int (nI sn)), some (.int 0), some (.int m), some (.int (nI 0))]) rfl ?_
            refine m_sheetL (s := sn) (cl := a 85) (by omega) 24 0 (by omega) _ _ F8 clr_0.symm (fun a9 h9 M9 e9 c9 f9 => ?_)
            have e83 : a9 83 = upd (a 83) sn 0 := c9 83 (by decide)
            have e84 : a9 84 = upd (a 84) sn m := c9 84 (by decide)
            have e8 : ∀ c, c ≠ 83 → c ≠ 84 → c ≠ 85 → a9 c = a c := fun c h1 h2 h3 => (c9 c h3).trans ((aup_n h2).trans (aup_n h1))
            refine aw_aload_n (npc := 93) rfl dX8_sheet_92 rfl ?_
            refine aw_get (npc := 96) dX8_sheet_93 rfl kf_X8_58 M9.1 rfl ?_
            refine aw_iload_n (npc := 97) rfl dX8_sheet_96 rfl ?_
            refine aw_iald (npc := 98) (x := (a9 84) sn) (j := sn) dX8_sheet_97 rfl M9.2.2.2.2.2.2.2.2.2.2.2.2.2.2.2.1 (am_ix_nI (by omega)) (tl_at (by omega)) ?_
            refine aw_iret rfl dX8_sheet_98 ?_
            exact hq _ _ _ (by simp [shV, shR, shZ, shC, shK, cI, hw1, hw2, hc5, hc6, fsn, Int32.not_lt.mpr hc5, Int32.not_lt.mpr hc6, e83, e84, e9, pk_us]) (by simp [shV, shR, shZ, shC, shK, cI, hw1, hw2, hc5, hc6, fsn, Int32.not_lt.mpr hc5, Int32.not_lt.mpr hc6, e83, e84, e9, pk_us]) (by simp [shV, shR, shZ, shC, shK, cI, hw1, hw2, hc5, hc6, fsn, Int32.not_lt.mpr hc5, Int32.not_lt.mpr hc6, e83, e84, e9, pk_us]) (by simp [shV, shR, shZ, shC, shK, cI, hw1, hw2, hc5, hc6, fsn, Int32.not_lt.mpr hc5, Int32.not_lt.mpr hc6, e83, e84, e9, pk_us]) e8 M9 (am_fpT f9 (am_fpU (show ¬ (84 < 69 ∨ 92 ≤ 84) by omega) (am_fpU (show ¬ (83 < 69 ∨ 92 ≤ 83) by omega) am_fp0)))
          · refine aw_ldcw (npc := 40) kc_X8_258 dX8_sheet_37 rfl ?_
            refine aw_iret rfl dX8_sheet_40 ?_
            exact hq _ _ _ (by simp [shV, shR, shZ, shC, shK, cI, hw1, hw2, hc5, hc6, fsn, Int32.not_lt.mpr hc5, Int32.not_le.mp hc6]) (by simp [shV, shR, shZ, shC, shK, cI, hw1, hw2, hc5, hc6, fsn, Int32.not_lt.mpr hc5, Int32.not_le.mp hc6]) (by simp [shV, shR, shZ, shC, shK, cI, hw1, hw2, hc5, hc6, fsn, Int32.not_lt.mpr hc5, Int32.not_le.mp hc6]) (by simp [shV, shR, shZ, shC, shK, cI, hw1, hw2, hc5, hc6, fsn, Int32.not_lt.mpr hc5, Int32.not_le.mp hc6]) (fun _ _ _ _ => rfl) F am_fp0
        · refine aw_ldc (npc := 28) kc_X8_91 dX8_sheet_26 rfl ?_
          refine aw_iret rfl dX8_sheet_28 ?_
          exact hq _ _ _ (by simp [shV, shR, shZ, shC, shK, cI, hw1, hw2, hc5, fsn, Int32.not_le.mp hc5]) (by simp [shV, shR, shZ, shC, shK, cI, hw1, hw2, hc5, fsn, Int32.not_le.mp hc5]) (by simp [shV, shR, shZ, shC, shK, cI, hw1, hw2, hc5, fsn, Int32.not_le.mp hc5]) (by simp [shV, shR, shZ, shC, shK, cI, hw1, hw2, hc5, fsn, Int32.not_le.mp hc5]) (fun _ _ _ _ => rfl) F am_fp0
      · refine aw_re (S' := [.int 1]) rfl ?_
        refine aw_if_eq (npc := 16) (tgt := 26) dX8_sheet_13 rfl (by decide) (fun hc => absurd hc (by decide)) (fun _ => ?_)
        refine aw_iload_n (npc := 17) rfl dX8_sheet_16 rfl ?_
        refine aw_if_lt (npc := 20) (tgt := 29) dX8_sheet_17 rfl (by decide) (fun hc => absurd hc (by decide)) (fun _ => ?_)
        refine aw_iload_n (npc := 21) rfl dX8_sheet_20 rfl ?_
        refine aw_bipush (npc := 23) (v := 24) (by decide) dX8_sheet_21 rfl ?_
        refine aw_icmp_le (npc := 26) (tgt := 29) dX8_sheet_23 rfl (by decide) (fun hc9 => ?_) (fun hc9 => ?_)
        · refine aw_iload_n (npc := 30) rfl dX8_sheet_29 rfl ?_
          refine aw_if_lt (npc := 33) (tgt := 41) dX8_sheet_30 rfl (by decide) (fun hc => absurd hc (by decide)) (fun _ => ?_)
          refine aw_iload_n (npc := 34) rfl dX8_sheet_33 rfl ?_
          refine aw_if_ge (npc := 37) (tgt := 41) dX8_sheet_34 rfl (by decide) (fun hc10 => ?_) (fun hc10 => ?_)
          · refine aw_aload_n (npc := 42) rfl dX8_sheet_41 rfl ?_
            refine aw_get (npc := 45) dX8_sheet_42 rfl kf_X8_55 F.1 rfl ?_
            refine aw_iload_n (npc := 46) rfl dX8_sheet_45 rfl ?_
            refine aw_iload_n (npc := 47) rfl dX8_sheet_46 rfl ?_
            refine aw_iast (npc := 48) (j := sn) dX8_sheet_47 rfl F.2.2.2.2.2.2.2.2.2.2.2.2.2.2.1 (am_ix_nI (by omega)) (by rw [tl_len]; omega) rfl ?_
            have F11 := mr_83 (j := sn) (v := 1) F
            refine aw_aload_n (npc := 49) rfl dX8_sheet_48 rfl ?_
            refine aw_get (npc := 52) dX8_sheet_49 rfl kf_X8_58 F11.1 rfl ?_
            refine aw_iload_n (npc := 53) rfl dX8_sheet_52 rfl ?_
            refine aw_iload_n (npc := 54) rfl dX8_sheet_53 rfl ?_
            refine aw_if_ge (npc := 57) (tgt := 61) dX8_sheet_54 rfl (by decide) (fun _ => ?_) (fun hc => absurd (by decide) hc)
            refine aw_iload_n (npc := 62) rfl dX8_sheet_61 rfl ?_
            refine aw_iast (npc := 63) (j := sn) dX8_sheet_62 rfl F11.2.2.2.2.2.2.2.2.2.2.2.2.2.2.2.1 (am_ix_nI (by omega)) (by rw [tl_len]; omega) rfl ?_
            have F12 := mr_84 (j := sn) (v := m) F11
            refine aw_iconst (npc := 64) (v := 0) (by decide) dX8_sheet_63 rfl ?_
            refine aw_istore (npc := 66) (L' := [some (.ref 69), some (.int (nI sn)), some (.int 1), some (.int m), some (.int 0)]) dX8_sheet_64 rfl (by decide) rfl rfl ?_
            refine aw_locs (L' := [some (.ref 69), some (.int (nI sn)), some (.int 1), some (.int m), some (.int (nI 0))]) rfl ?_
            refine m_sheetL (s := sn) (cl := a 85) (by omega) 24 0 (by omega) _ _ F12 clr_0.symm (fun a9 h9 M9 e9 c9 f9 => ?_)
            have e83 : a9 83 = upd (a 83) sn 1 := c9 83 (by decide)
            have e84 : a9 84 = upd (a 84) sn m := c9 84 (by decide)
            have e8 : ∀ c, c ≠ 83 → c ≠ 84 → c ≠ 85 → a9 c = a c := fun c h1 h2 h3 => (c9 c h3).trans ((aup_n h2).trans (aup_n h1))
            refine aw_aload_n (npc := 93) rfl dX8_sheet_92 rfl ?_
            refine aw_get (npc := 96) dX8_sheet_93 rfl kf_X8_58 M9.1 rfl ?_
            refine aw_iload_n (npc := 97) rfl dX8_sheet_96 rfl ?_
            refine aw_iald (npc := 98) (x := (a9 84) sn) (j := sn) dX8_sheet_97 rfl M9.2.2.2.2.2.2.2.2.2.2.2.2.2.2.2.1 (am_ix_nI (by omega)) (tl_at (by omega)) ?_
            refine aw_iret rfl dX8_sheet_98 ?_
            exact hq _ _ _ (by simp [shV, shR, shZ, shC, shK, cI, hw1, hw2, hc9, hc10, fsn, Int32.not_lt.mpr hc9, Int32.not_lt.mpr hc10, e83, e84, e9, pk_us]) (by simp [shV, shR, shZ, shC, shK, cI, hw1, hw2, hc9, hc10, fsn, Int32.not_lt.mpr hc9, Int32.not_lt.mpr hc10, e83, e84, e9, pk_us]) (by simp [shV, shR, shZ, shC, shK, cI, hw1, hw2, hc9, hc10, fsn, Int32.not_lt.mpr hc9, Int32.not_lt.mpr hc10, e83, e84, e9, pk_us]) (by simp [shV, shR, shZ, shC, shK, cI, hw1, hw2, hc9, hc10, fsn, Int32.not_lt.mpr hc9, Int32.not_lt.mpr hc10, e83, e84, e9, pk_us]) e8 M9 (am_fpT f9 (am_fpU (show ¬ (84 < 69 ∨ 92 ≤ 84) by omega) (am_fpU (show ¬ (83 < 69 ∨ 92 ≤ 83) by omega) am_fp0)))
          · refine aw_ldcw (npc := 40) kc_X8_258 dX8_sheet_37 rfl ?_
            refine aw_iret rfl dX8_sheet_40 ?_
            exact hq _ _ _ (by simp [shV, shR, shZ, shC, shK, cI, hw1, hw2, hc9, hc10, fsn, Int32.not_lt.mpr hc9, Int32.not_le.mp hc10]) (by simp [shV, shR, shZ, shC, shK, cI, hw1, hw2, hc9, hc10, fsn, Int32.not_lt.mpr hc9, Int32.not_le.mp hc10]) (by simp [shV, shR, shZ, shC, shK, cI, hw1, hw2, hc9, hc10, fsn, Int32.not_lt.mpr hc9, Int32.not_le.mp hc10]) (by simp [shV, shR, shZ, shC, shK, cI, hw1, hw2, hc9, hc10, fsn, Int32.not_lt.mpr hc9, Int32.not_le.mp hc10]) (fun _ _ _ _ => rfl) F am_fp0
        · refine aw_ldc (npc := 28) kc_X8_91 dX8_sheet_26 rfl ?_
          refine aw_iret rfl dX8_sheet_28 ?_
          exact hq _ _ _ (by simp [shV, shR, shZ, shC, shK, cI, hw1, hw2, hc9, fsn, Int32.not_le.mp hc9]) (by simp [shV, shR, shZ, shC, shK, cI, hw1, hw2, hc9, fsn, Int32.not_le.mp hc9]) (by simp [shV, shR, shZ, shC, shK, cI, hw1, hw2, hc9, fsn, Int32.not_le.mp hc9]) (by simp [shV, shR, shZ, shC, shK, cI, hw1, hw2, hc9, fsn, Int32.not_le.mp hc9]) (fun _ _ _ _ => rfl) F am_fp0
    · refine aw_re (S' := [.int 0]) rfl ?_
      refine aw_if_eq (npc := 16) (tgt := 26) dX8_sheet_13 rfl (by decide) (fun _ => ?_) (fun hc => absurd (by decide) hc)
      refine aw_ldc (npc := 28) kc_X8_91 dX8_sheet_26 rfl ?_
      refine aw_iret rfl dX8_sheet_28 ?_
      exact hq _ _ _ (by simp [shV, shR, shZ, shC, shK, cI, hw1, hw2, fsn, nwi_1 hw2 (k := -1) ⟨by decide, by decide⟩, nwi_1 hw2 (k := 0) ⟨by decide, by decide⟩, nwi_1 hw2 (k := 1) ⟨by decide, by decide⟩]) (by simp [shV, shR, shZ, shC, shK, cI, hw1, hw2, fsn, nwi_1 hw2 (k := -1) ⟨by decide, by decide⟩, nwi_1 hw2 (k := 0) ⟨by decide, by decide⟩, nwi_1 hw2 (k := 1) ⟨by decide, by decide⟩]) (by simp [shV, shR, shZ, shC, shK, cI, hw1, hw2, fsn, nwi_1 hw2 (k := -1) ⟨by decide, by decide⟩, nwi_1 hw2 (k := 0) ⟨by decide, by decide⟩, nwi_1 hw2 (k := 1) ⟨by decide, by decide⟩]) (by simp [shV, shR, shZ, shC, shK, cI, hw1, hw2, fsn, nwi_1 hw2 (k := -1) ⟨by decide, by decide⟩, nwi_1 hw2 (k := 0) ⟨by decide, by decide⟩, nwi_1 hw2 (k := 1) ⟨by decide, by decide⟩]) (fun _ _ _ _ => rfl) F am_fp0
  · refine aw_re (S' := [.int 0]) rfl ?_
    refine aw_if_eq (npc := 7) (tgt := 26) dX8_sheet_4 rfl (by decide) (fun _ => ?_) (fun hc => absurd (by decide) hc)
    refine aw_ldc (npc := 28) kc_X8_91 dX8_sheet_26 rfl ?_
    refine aw_iret rfl dX8_sheet_28 ?_
    exact hq _ _ _ (by simp [shV, shR, shZ, shC, shK, cI, hw1]) (by simp [shV, shR, shZ, shC, shK, cI, hw1]) (by simp [shV, shR, shZ, shC, shK, cI, hw1]) (by simp [shV, shR, shZ, shC, shK, cI, hw1]) (fun _ _ _ _ => rfl) F am_fp0
